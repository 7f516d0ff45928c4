section
-- ===== PART A: goes FIRST, ahead of the names: the tables' words, and 'selects' of the private methods out of them =====
/-- a private method of a class that the tables say can be made, by its rows of tables_1 -/
def lw_okq (q : MethodName × Nat) : Prop := (q.1.cls ≠ "java/lang/invoke/MethodHandle" ∧ q.1.cls ≠ "java/lang/invoke/VarHandle") ∧ Cond.instantiable q.1.cls q.2 ∈ tables_1 ∧ Cond.privateMethod q.1 ∈ tables_1 ∧ Cond.instanceMethod q.1 ∈ tables_1
theorem lw_p0 : lw_okq (⟨"java/lang/Throwable", "fillInStackTrace", "(I)Ljava/lang/Throwable;"⟩, 6) := ⟨⟨by decide +kernel, by decide +kernel⟩, List.mem_of_getElem? (i := 238) (by decide +kernel), List.mem_of_getElem? (i := 236) (by decide +kernel), List.mem_of_getElem? (i := 237) (by decide +kernel)⟩
theorem lw_p1 : lw_okq (⟨"ShadowHeap", "refuseGoingOutside", "()V"⟩, 3) := ⟨⟨by decide +kernel, by decide +kernel⟩, List.mem_of_getElem? (i := 14) (by decide +kernel), List.mem_of_getElem? (i := 313) (by decide +kernel), List.mem_of_getElem? (i := 314) (by decide +kernel)⟩
theorem lw_p2 : lw_okq (⟨"ShadowHeap$Run", "addressOf", "(I)I"⟩, 10) := ⟨⟨by decide +kernel, by decide +kernel⟩, List.mem_of_getElem? (i := 124) (by decide +kernel), List.mem_of_getElem? (i := 379) (by decide +kernel), List.mem_of_getElem? (i := 380) (by decide +kernel)⟩
theorem lw_p3 : lw_okq (⟨"ShadowHeap$Run", "aOf", "(I)I"⟩, 10) := ⟨⟨by decide +kernel, by decide +kernel⟩, List.mem_of_getElem? (i := 124) (by decide +kernel), List.mem_of_getElem? (i := 383) (by decide +kernel), List.mem_of_getElem? (i := 384) (by decide +kernel)⟩
theorem lw_p4 : lw_okq (⟨"ShadowHeap$Run", "checkBytes", "(II)V"⟩, 10) := ⟨⟨by decide +kernel, by decide +kernel⟩, List.mem_of_getElem? (i := 124) (by decide +kernel), List.mem_of_getElem? (i := 391) (by decide +kernel), List.mem_of_getElem? (i := 392) (by decide +kernel)⟩
theorem lw_p5 : lw_okq (⟨"ShadowHeap$Run", "endWithReport", "(II)V"⟩, 10) := ⟨⟨by decide +kernel, by decide +kernel⟩, List.mem_of_getElem? (i := 124) (by decide +kernel), List.mem_of_getElem? (i := 402) (by decide +kernel), List.mem_of_getElem? (i := 403) (by decide +kernel)⟩
theorem lw_p6 : lw_okq (⟨"ShadowHeap$Run", "checkFree", "(I)V"⟩, 10) := ⟨⟨by decide +kernel, by decide +kernel⟩, List.mem_of_getElem? (i := 124) (by decide +kernel), List.mem_of_getElem? (i := 406) (by decide +kernel), List.mem_of_getElem? (i := 407) (by decide +kernel)⟩
theorem lw_p7 : lw_okq (⟨"ShadowHeap$Run", "goesOn", "(II)Z"⟩, 10) := ⟨⟨by decide +kernel, by decide +kernel⟩, List.mem_of_getElem? (i := 124) (by decide +kernel), List.mem_of_getElem? (i := 414) (by decide +kernel), List.mem_of_getElem? (i := 415) (by decide +kernel)⟩
theorem lw_p8 : lw_okq (⟨"ShadowHeap$Run", "bOf", "(I)I"⟩, 10) := ⟨⟨by decide +kernel, by decide +kernel⟩, List.mem_of_getElem? (i := 124) (by decide +kernel), List.mem_of_getElem? (i := 418) (by decide +kernel), List.mem_of_getElem? (i := 419) (by decide +kernel)⟩
theorem lw_p9 : lw_okq (⟨"ShadowHeap$Run", "useHeap", "(II)V"⟩, 10) := ⟨⟨by decide +kernel, by decide +kernel⟩, List.mem_of_getElem? (i := 124) (by decide +kernel), List.mem_of_getElem? (i := 423) (by decide +kernel), List.mem_of_getElem? (i := 424) (by decide +kernel)⟩
theorem lw_p10 : lw_okq (⟨"ShadowHeap$Memory", "lowestGap", "(I)I"⟩, 8) := ⟨⟨by decide +kernel, by decide +kernel⟩, List.mem_of_getElem? (i := 84) (by decide +kernel), List.mem_of_getElem? (i := 431) (by decide +kernel), List.mem_of_getElem? (i := 432) (by decide +kernel)⟩
theorem lw_p11 : lw_okq (⟨"ShadowHeap$Memory", "releaseOldest", "()V"⟩, 8) := ⟨⟨by decide +kernel, by decide +kernel⟩, List.mem_of_getElem? (i := 84) (by decide +kernel), List.mem_of_getElem? (i := 435) (by decide +kernel), List.mem_of_getElem? (i := 436) (by decide +kernel)⟩
theorem lw_p12 : lw_okq (⟨"ShadowHeap$Memory", "paint", "(III)V"⟩, 8) := ⟨⟨by decide +kernel, by decide +kernel⟩, List.mem_of_getElem? (i := 84) (by decide +kernel), List.mem_of_getElem? (i := 439) (by decide +kernel), List.mem_of_getElem? (i := 440) (by decide +kernel)⟩
theorem lw_p13 : lw_okq (⟨"ShadowHeap$Memory", "placeBlock", "(III)V"⟩, 8) := ⟨⟨by decide +kernel, by decide +kernel⟩, List.mem_of_getElem? (i := 84) (by decide +kernel), List.mem_of_getElem? (i := 443) (by decide +kernel), List.mem_of_getElem? (i := 444) (by decide +kernel)⟩
theorem lw_p14 : lw_okq (⟨"ShadowHeap$Run", "freeOrCrash", "(I)V"⟩, 10) := ⟨⟨by decide +kernel, by decide +kernel⟩, List.mem_of_getElem? (i := 124) (by decide +kernel), List.mem_of_getElem? (i := 447) (by decide +kernel), List.mem_of_getElem? (i := 448) (by decide +kernel)⟩
theorem lw_p15 : lw_okq (⟨"ShadowHeap$Run", "touchOrCrash", "(II)V"⟩, 10) := ⟨⟨by decide +kernel, by decide +kernel⟩, List.mem_of_getElem? (i := 124) (by decide +kernel), List.mem_of_getElem? (i := 455) (by decide +kernel), List.mem_of_getElem? (i := 456) (by decide +kernel)⟩
def lw_privs_1 : List (MethodName × Nat) := [(⟨"java/lang/Throwable", "fillInStackTrace", "(I)Ljava/lang/Throwable;"⟩, 6), (⟨"ShadowHeap", "refuseGoingOutside", "()V"⟩, 3), (⟨"ShadowHeap$Run", "addressOf", "(I)I"⟩, 10), (⟨"ShadowHeap$Run", "aOf", "(I)I"⟩, 10), (⟨"ShadowHeap$Run", "checkBytes", "(II)V"⟩, 10), (⟨"ShadowHeap$Run", "endWithReport", "(II)V"⟩, 10), (⟨"ShadowHeap$Run", "checkFree", "(I)V"⟩, 10), (⟨"ShadowHeap$Run", "goesOn", "(II)Z"⟩, 10), (⟨"ShadowHeap$Run", "bOf", "(I)I"⟩, 10), (⟨"ShadowHeap$Run", "useHeap", "(II)V"⟩, 10), (⟨"ShadowHeap$Memory", "lowestGap", "(I)I"⟩, 8), (⟨"ShadowHeap$Memory", "releaseOldest", "()V"⟩, 8), (⟨"ShadowHeap$Memory", "paint", "(III)V"⟩, 8), (⟨"ShadowHeap$Memory", "placeBlock", "(III)V"⟩, 8), (⟨"ShadowHeap$Run", "freeOrCrash", "(I)V"⟩, 10), (⟨"ShadowHeap$Run", "touchOrCrash", "(II)V"⟩, 10)]
theorem lw_r1 : ∀ q ∈ lw_privs_1, lw_okq q := List.forall_mem_cons.mpr ⟨lw_p0, List.forall_mem_cons.mpr ⟨lw_p1, List.forall_mem_cons.mpr ⟨lw_p2, List.forall_mem_cons.mpr ⟨lw_p3, List.forall_mem_cons.mpr ⟨lw_p4, List.forall_mem_cons.mpr ⟨lw_p5, List.forall_mem_cons.mpr ⟨lw_p6, List.forall_mem_cons.mpr ⟨lw_p7, List.forall_mem_cons.mpr ⟨lw_p8, List.forall_mem_cons.mpr ⟨lw_p9, List.forall_mem_cons.mpr ⟨lw_p10, List.forall_mem_cons.mpr ⟨lw_p11, List.forall_mem_cons.mpr ⟨lw_p12, List.forall_mem_cons.mpr ⟨lw_p13, List.forall_mem_cons.mpr ⟨lw_p14, List.forall_mem_cons.mpr ⟨lw_p15, fun _ h => absurd h List.not_mem_nil⟩⟩⟩⟩⟩⟩⟩⟩⟩⟩⟩⟩⟩⟩⟩⟩
theorem lw_p16 : lw_okq (⟨"ShadowHeap$Run", "print", "(I)V"⟩, 10) := ⟨⟨by decide +kernel, by decide +kernel⟩, List.mem_of_getElem? (i := 124) (by decide +kernel), List.mem_of_getElem? (i := 468) (by decide +kernel), List.mem_of_getElem? (i := 469) (by decide +kernel)⟩
theorem lw_p17 : lw_okq (⟨"ShadowHeap$Run", "computed", "(II)I"⟩, 10) := ⟨⟨by decide +kernel, by decide +kernel⟩, List.mem_of_getElem? (i := 124) (by decide +kernel), List.mem_of_getElem? (i := 472) (by decide +kernel), List.mem_of_getElem? (i := 473) (by decide +kernel)⟩
theorem lw_p18 : lw_okq (⟨"ShadowHeap$Run", "goOnAt", "(I)V"⟩, 10) := ⟨⟨by decide +kernel, by decide +kernel⟩, List.mem_of_getElem? (i := 124) (by decide +kernel), List.mem_of_getElem? (i := 476) (by decide +kernel), List.mem_of_getElem? (i := 477) (by decide +kernel)⟩
theorem lw_p19 : lw_okq (⟨"ShadowHeapModel", "empty", "()V"⟩, 23) := ⟨⟨by decide +kernel, by decide +kernel⟩, List.mem_of_getElem? (i := 528) (by decide +kernel), List.mem_of_getElem? (i := 534) (by decide +kernel), List.mem_of_getElem? (i := 535) (by decide +kernel)⟩
theorem lw_p20 : lw_okq (⟨"ShadowHeapModel", "refuse", "(I)I"⟩, 23) := ⟨⟨by decide +kernel, by decide +kernel⟩, List.mem_of_getElem? (i := 528) (by decide +kernel), List.mem_of_getElem? (i := 619) (by decide +kernel), List.mem_of_getElem? (i := 620) (by decide +kernel)⟩
theorem lw_p21 : lw_okq (⟨"ShadowHeapModel", "isSound", "()Z"⟩, 23) := ⟨⟨by decide +kernel, by decide +kernel⟩, List.mem_of_getElem? (i := 528) (by decide +kernel), List.mem_of_getElem? (i := 631) (by decide +kernel), List.mem_of_getElem? (i := 632) (by decide +kernel)⟩
theorem lw_p22 : lw_okq (⟨"ShadowHeapModel", "place", "(I)I"⟩, 23) := ⟨⟨by decide +kernel, by decide +kernel⟩, List.mem_of_getElem? (i := 528) (by decide +kernel), List.mem_of_getElem? (i := 635) (by decide +kernel), List.mem_of_getElem? (i := 636) (by decide +kernel)⟩
theorem lw_p23 : lw_okq (⟨"ShadowHeapModel", "isChecked", "(I)Z"⟩, 23) := ⟨⟨by decide +kernel, by decide +kernel⟩, List.mem_of_getElem? (i := 528) (by decide +kernel), List.mem_of_getElem? (i := 639) (by decide +kernel), List.mem_of_getElem? (i := 640) (by decide +kernel)⟩
theorem lw_p24 : lw_okq (⟨"ShadowHeapModel", "instructionAt", "(I)I"⟩, 23) := ⟨⟨by decide +kernel, by decide +kernel⟩, List.mem_of_getElem? (i := 528) (by decide +kernel), List.mem_of_getElem? (i := 647) (by decide +kernel), List.mem_of_getElem? (i := 648) (by decide +kernel)⟩
theorem lw_p25 : lw_okq (⟨"ShadowHeapModel", "isCheck", "(I)Z"⟩, 23) := ⟨⟨by decide +kernel, by decide +kernel⟩, List.mem_of_getElem? (i := 528) (by decide +kernel), List.mem_of_getElem? (i := 651) (by decide +kernel), List.mem_of_getElem? (i := 652) (by decide +kernel)⟩
theorem lw_p26 : lw_okq (⟨"ShadowHeapModel", "one", "()V"⟩, 23) := ⟨⟨by decide +kernel, by decide +kernel⟩, List.mem_of_getElem? (i := 528) (by decide +kernel), List.mem_of_getElem? (i := 663) (by decide +kernel), List.mem_of_getElem? (i := 664) (by decide +kernel)⟩
theorem lw_p27 : lw_okq (⟨"ShadowHeapModel", "check", "(I)V"⟩, 23) := ⟨⟨by decide +kernel, by decide +kernel⟩, List.mem_of_getElem? (i := 528) (by decide +kernel), List.mem_of_getElem? (i := 667) (by decide +kernel), List.mem_of_getElem? (i := 668) (by decide +kernel)⟩
theorem lw_p28 : lw_okq (⟨"ShadowHeapModel", "isBlock", "(I)Z"⟩, 23) := ⟨⟨by decide +kernel, by decide +kernel⟩, List.mem_of_getElem? (i := 528) (by decide +kernel), List.mem_of_getElem? (i := 671) (by decide +kernel), List.mem_of_getElem? (i := 672) (by decide +kernel)⟩
theorem lw_p29 : lw_okq (⟨"ShadowHeapModel", "tell", "(III)V"⟩, 23) := ⟨⟨by decide +kernel, by decide +kernel⟩, List.mem_of_getElem? (i := 528) (by decide +kernel), List.mem_of_getElem? (i := 675) (by decide +kernel), List.mem_of_getElem? (i := 676) (by decide +kernel)⟩
theorem lw_p30 : lw_okq (⟨"ShadowHeapModel", "wrongByte", "(I)I"⟩, 23) := ⟨⟨by decide +kernel, by decide +kernel⟩, List.mem_of_getElem? (i := 528) (by decide +kernel), List.mem_of_getElem? (i := 679) (by decide +kernel), List.mem_of_getElem? (i := 680) (by decide +kernel)⟩
theorem lw_p31 : lw_okq (⟨"ShadowHeapModel", "perform", "(I)I"⟩, 23) := ⟨⟨by decide +kernel, by decide +kernel⟩, List.mem_of_getElem? (i := 528) (by decide +kernel), List.mem_of_getElem? (i := 686) (by decide +kernel), List.mem_of_getElem? (i := 687) (by decide +kernel)⟩
def lw_privs_2 : List (MethodName × Nat) := [(⟨"ShadowHeap$Run", "print", "(I)V"⟩, 10), (⟨"ShadowHeap$Run", "computed", "(II)I"⟩, 10), (⟨"ShadowHeap$Run", "goOnAt", "(I)V"⟩, 10), (⟨"ShadowHeapModel", "empty", "()V"⟩, 23), (⟨"ShadowHeapModel", "refuse", "(I)I"⟩, 23), (⟨"ShadowHeapModel", "isSound", "()Z"⟩, 23), (⟨"ShadowHeapModel", "place", "(I)I"⟩, 23), (⟨"ShadowHeapModel", "isChecked", "(I)Z"⟩, 23), (⟨"ShadowHeapModel", "instructionAt", "(I)I"⟩, 23), (⟨"ShadowHeapModel", "isCheck", "(I)Z"⟩, 23), (⟨"ShadowHeapModel", "one", "()V"⟩, 23), (⟨"ShadowHeapModel", "check", "(I)V"⟩, 23), (⟨"ShadowHeapModel", "isBlock", "(I)Z"⟩, 23), (⟨"ShadowHeapModel", "tell", "(III)V"⟩, 23), (⟨"ShadowHeapModel", "wrongByte", "(I)I"⟩, 23), (⟨"ShadowHeapModel", "perform", "(I)I"⟩, 23)]
theorem lw_r2 : ∀ q ∈ lw_privs_2, lw_okq q := List.forall_mem_cons.mpr ⟨lw_p16, List.forall_mem_cons.mpr ⟨lw_p17, List.forall_mem_cons.mpr ⟨lw_p18, List.forall_mem_cons.mpr ⟨lw_p19, List.forall_mem_cons.mpr ⟨lw_p20, List.forall_mem_cons.mpr ⟨lw_p21, List.forall_mem_cons.mpr ⟨lw_p22, List.forall_mem_cons.mpr ⟨lw_p23, List.forall_mem_cons.mpr ⟨lw_p24, List.forall_mem_cons.mpr ⟨lw_p25, List.forall_mem_cons.mpr ⟨lw_p26, List.forall_mem_cons.mpr ⟨lw_p27, List.forall_mem_cons.mpr ⟨lw_p28, List.forall_mem_cons.mpr ⟨lw_p29, List.forall_mem_cons.mpr ⟨lw_p30, List.forall_mem_cons.mpr ⟨lw_p31, fun _ h => absurd h List.not_mem_nil⟩⟩⟩⟩⟩⟩⟩⟩⟩⟩⟩⟩⟩⟩⟩⟩
theorem lw_p32 : lw_okq (⟨"ShadowHeapModel", "allocate", "(I)I"⟩, 23) := ⟨⟨by decide +kernel, by decide +kernel⟩, List.mem_of_getElem? (i := 528) (by decide +kernel), List.mem_of_getElem? (i := 690) (by decide +kernel), List.mem_of_getElem? (i := 691) (by decide +kernel)⟩
theorem lw_p33 : lw_okq (⟨"ShadowHeapModel", "gap", "(I)I"⟩, 23) := ⟨⟨by decide +kernel, by decide +kernel⟩, List.mem_of_getElem? (i := 528) (by decide +kernel), List.mem_of_getElem? (i := 694) (by decide +kernel), List.mem_of_getElem? (i := 695) (by decide +kernel)⟩
theorem lw_p34 : lw_okq (⟨"ShadowHeapModel", "release", "()V"⟩, 23) := ⟨⟨by decide +kernel, by decide +kernel⟩, List.mem_of_getElem? (i := 528) (by decide +kernel), List.mem_of_getElem? (i := 698) (by decide +kernel), List.mem_of_getElem? (i := 699) (by decide +kernel)⟩
theorem lw_p35 : lw_okq (⟨"ShadowHeapModel", "free", "(I)V"⟩, 23) := ⟨⟨by decide +kernel, by decide +kernel⟩, List.mem_of_getElem? (i := 528) (by decide +kernel), List.mem_of_getElem? (i := 702) (by decide +kernel), List.mem_of_getElem? (i := 703) (by decide +kernel)⟩
theorem lw_p36 : lw_okq (⟨"ShadowHeapModel", "quarantined", "()I"⟩, 23) := ⟨⟨by decide +kernel, by decide +kernel⟩, List.mem_of_getElem? (i := 528) (by decide +kernel), List.mem_of_getElem? (i := 706) (by decide +kernel), List.mem_of_getElem? (i := 707) (by decide +kernel)⟩
theorem lw_p37 : lw_okq (⟨"ShadowHeapModel", "touch", "(I)V"⟩, 23) := ⟨⟨by decide +kernel, by decide +kernel⟩, List.mem_of_getElem? (i := 528) (by decide +kernel), List.mem_of_getElem? (i := 710) (by decide +kernel), List.mem_of_getElem? (i := 711) (by decide +kernel)⟩
theorem lw_p38 : lw_okq (⟨"ShadowHeapModel", "load", "(I)I"⟩, 23) := ⟨⟨by decide +kernel, by decide +kernel⟩, List.mem_of_getElem? (i := 528) (by decide +kernel), List.mem_of_getElem? (i := 714) (by decide +kernel), List.mem_of_getElem? (i := 715) (by decide +kernel)⟩
theorem lw_p39 : lw_okq (⟨"ShadowHeapModel", "blocks", "(Z)I"⟩, 23) := ⟨⟨by decide +kernel, by decide +kernel⟩, List.mem_of_getElem? (i := 528) (by decide +kernel), List.mem_of_getElem? (i := 722) (by decide +kernel), List.mem_of_getElem? (i := 723) (by decide +kernel)⟩
def lw_privs_3 : List (MethodName × Nat) := [(⟨"ShadowHeapModel", "allocate", "(I)I"⟩, 23), (⟨"ShadowHeapModel", "gap", "(I)I"⟩, 23), (⟨"ShadowHeapModel", "release", "()V"⟩, 23), (⟨"ShadowHeapModel", "free", "(I)V"⟩, 23), (⟨"ShadowHeapModel", "quarantined", "()I"⟩, 23), (⟨"ShadowHeapModel", "touch", "(I)V"⟩, 23), (⟨"ShadowHeapModel", "load", "(I)I"⟩, 23), (⟨"ShadowHeapModel", "blocks", "(Z)I"⟩, 23)]
theorem lw_r3 : ∀ q ∈ lw_privs_3, lw_okq q := List.forall_mem_cons.mpr ⟨lw_p32, List.forall_mem_cons.mpr ⟨lw_p33, List.forall_mem_cons.mpr ⟨lw_p34, List.forall_mem_cons.mpr ⟨lw_p35, List.forall_mem_cons.mpr ⟨lw_p36, List.forall_mem_cons.mpr ⟨lw_p37, List.forall_mem_cons.mpr ⟨lw_p38, List.forall_mem_cons.mpr ⟨lw_p39, fun _ h => absurd h List.not_mem_nil⟩⟩⟩⟩⟩⟩⟩⟩
def lw_privs : List (MethodName × Nat) := lw_privs_1 ++ (lw_privs_2 ++ (lw_privs_3))
def lw_tbl : List Cond := k2_sels lw_privs ++ tables_1
theorem lw_privs_ok : ∀ q ∈ lw_privs, lw_okq q := by
  show ∀ q ∈ lw_privs_1 ++ (lw_privs_2 ++ (lw_privs_3)), lw_okq q
  exact List.forall_mem_append.mpr ⟨lw_r1, List.forall_mem_append.mpr ⟨lw_r2, lw_r3⟩⟩
/-! ===== BEGIN words of one list among another's, by their places ===== -/
theorem goodIn_r {big : List Cond} (ws : List Cond) (ps : List Nat) (hp : ws = ps.filterMap (fun i => big[i]?)) (h : ws.all goodWord = true) : GoodIn big ws := by
  intro w hw
  have h1 := List.all_eq_true.mp h w hw
  rw [hp] at hw
  obtain ⟨i, -, hi⟩ := List.mem_filterMap.mp hw
  have hm : w ∈ big := by first | exact List.mem_of_getElem? hi | exact List.getElem?_mem hi
  exact ⟨hm, good_of_word h1⟩
theorem goodIn_app {big a b : List Cond} (ha : GoodIn big a) (hb : GoodIn big b) : GoodIn big (a ++ b) := fun w h => (List.mem_append.mp h).elim (ha w) (hb w)
theorem goodIn_ca {big a b : List Cond} {c : Cond} (ha : GoodIn big (c :: a)) (hb : GoodIn big b) : GoodIn big (c :: (a ++ b)) := fun w h => (List.mem_cons.mp h).elim (fun e => ha w (List.mem_cons.mpr (Or.inl e))) (fun h => (List.mem_append.mp h).elim (fun h => ha w (List.mem_cons.mpr (Or.inr h))) (hb w))
theorem goodIn_sub {big ws : List Cond} (hm : ∀ w ∈ ws, w ∈ big) (h : ws.all goodWord = true) : GoodIn big ws := fun w hw => ⟨hm w hw, good_of_word (List.all_eq_true.mp h w hw)⟩
/-! ===== END ===== -/

/-! ===== BEGIN exceptions that leave a method, and their catching by the caller (launches without stack traces) ===== -/
section VXA
/-! The laws vx_back, vx_callV, vx_callS, vx_callSW, vx_throw0, vx_throwS follow proofs of the library, with one case more: JvmDerived/Free/Laws.lean (Back.of_free), Shelf42/LK1.lean (callV, callS), Shelf/KitTraced.lean (throwNew0V, throwNewS). -/
/-- where a method has thrown q: the class by its name, the cell, what was written, the world -/
def vx_T (XC : String → State → State → Prop) (st : State) (q : Addr) (t : State) (mc ms : Nat) (free : Addr → Prop) : Prop :=
  ∃ (E : String) (ce : Cell) (L : List Loc), XC E st t ∧ t.heap[q]? = some ce ∧ ce.vm = .none ∧ st.vm.findClass E = some ce.cls ∧ st.WarmedH t.vm ∧ st.sameButNew ({ t with vm := st.vm } : State) L mc ms ∧ ∀ z ∈ L, free z.base
def vx_Q (Qc : Array Value → State → Outcome → State → Prop) (XC : String → State → State → Prop) (mc ms : Nat) (free : Addr → Prop) : Array Value → State → Outcome → State → Prop := fun a st o t =>
  (Qc a st o t ∧ ∃ L, FrameEnd st o t L mc ms ∧ ∀ q ∈ L, free q.base) ∨ ∃ q, o = .threw q ∧ vx_T XC st q t mc ms free
/-- a callee that returns or throws -/
def vx_Met (l : Launch) (y : MethodName) (ws : List Cond) (rm : Room) (Pc : Array Value → State → Prop) (Qc : Array Value → State → Outcome → State → Prop) (XC : String → State → State → Prop) (mc ms : Nat) (free : Addr → Prop) : Prop :=
  MetFree l y (headSpec ws rm) Pc (fun _ _ _ _ _ => True) (vx_Q Qc XC mc ms free)
def vx_Post (XC : String → State → State → Prop) (mc ms : Nat) (free : Addr → Prop) : Pt → Array Value → Addr → Pt → Prop := fun A a q B =>
  ∃ (g : JFrame) (mk : MethodId) (t : State) (L : List Loc) (E : String) (ce : Cell), B.U.heap = t.heap ∧ B.U.vm = t.vm ∧ XC E (A.U.calling g mk a) t ∧ t.heap[q]? = some ce ∧ ce.vm = .none ∧ A.U.vm.findClass E = some ce.cls ∧ B.locs = A.locs ++ L ∧ (∀ z ∈ L, free z.base) ∧ B.cells = A.cells + mc ∧ B.slots = A.slots + ms
def vx_Back (l : Launch) (R : Room) (p : Program) (e : Env) (below : List Frame) (s : State) (sargs : Array Value) (y : MethodName) (len W9 : Nat)
    (Pre : Pt → Array Value → Prop) (Post : Pt → Array Value → Option Value → Pt → Prop) (PostX : Pt → Array Value → Addr → Pt → Prop) : Prop :=
  ∀ (m : MethodId) (meth : Method) (c : Code) (A : Pt) (g : JFrame) (ig : Instr) (mk : MethodId) (a : Array Value),
    Stand p l e R s m sargs below meth c A.U A.locs A.cells A.slots → g.method = m → g.locals.size = c.maxLocals → decode c.code g.pc = .ok (ig, len) →
    2 * g.monitorRoom + (g.stack.map fun v => v.category).sum ≤ W9 → A.U.methodNamed? y = some mk → Pre A a →
    (∃ (v : Option Value) (B : Pt), Stand p l e R s m sargs below meth c B.U B.locs B.cells B.slots ∧ Post A a v B ∧
      Steps p.tables e below (doInvoke e (A.U.setTop g) [] mk a).1 (B.U.setTop { g with pc := g.pc + len, stack := v.toList ++ g.stack })) ∨
    (∃ (q : Addr) (B : Pt), Stand p l e R s m sargs below meth c B.U B.locs B.cells B.slots ∧ PostX A a q B ∧
      Steps p.tables e below (doInvoke e (A.U.setTop g) [] mk a).1 ((B.U.setTop g).pushFrame (.throwing q)))
section Payer
variable {l : Launch} {R : Room} {p : Program} {e : Env} {below : List Frame} {s : State} {sargs : Array Value} {y : MethodName} {len W9 : Nat}
theorem vx_back {ws : List Cond} {rm : Room} {Pc : Array Value → State → Prop} {Qc : Array Value → State → Outcome → State → Prop} {XC : String → State → State → Prop} {mc ms : Nat} {free : Addr → Prop} {bytes : ByteArray} {maxL : Nat} {ret : Option FieldType}
    (hM : vx_Met l y ws rm Pc Qc XC mc ms free) (hblind : FrameBlind Pc) (hrc : rm.cells = mc) (hrs : rm.slots = ms)
    (hframes : rm.frames + 1 ≤ R.frames) (hlocals : W9 + (maxL + 11) + rm.locals ≤ R.locals)
    (hws : ∀ w ∈ ws, ∀ a' U, s.WarmedH U.vm → w.before a' U = true) (hcode : Cond.code y bytes maxL ret ∈ ws) (hinit : ∀ a' U, s.WarmedH U.vm → (Cond.initialized y.cls).before a' U = true) :
    vx_Back l R p e below s sargs y len W9 (PreOf R mc ms Pc) (PostOf Qc mc ms free) (vx_Post XC mc ms free) := by
  intro m meth c A g ig mk a X hg hsize hdg hW hn hp
  have h1 : (headSpec ws rm).pre.before a A.U = true := atoms_intro fun w hw => hws w hw _ _ X.warmed
  have h2 : (Cond.code y bytes maxL ret).before a A.U = true := hws _ hcode _ _ X.warmed
  have h3 : (Cond.initialized y.cls).before a A.U = true := hinit _ _ X.warmed
  have h4 : A.cells + (headSpec ws rm).room.cells ≤ R.cells := by rw [show (headSpec ws rm).room.cells = mc from hrc]; exact hp.1
  have h5 : A.slots + (headSpec ws rm).room.slots ≤ R.slots := by rw [show (headSpec ws rm).room.slots = ms from hrs]; exact hp.2.1
  have hPc : Pc a (A.U.calling g mk a) := hblind _ _ _ _ hp.2.2
  obtain ⟨U, Ls, c0, s0⟩ := A
  dsimp only [Pt.U, Pt.locs, Pt.cells, Pt.slots] at h1 h2 h3 h4 h5 X hn hPc ⊢
  obtain ⟨methY, cY, hmY, hcY, -, hlY, -, -, -, -⟩ := Cond.code_spec hn h2
  obtain ⟨kY, hkY, -⟩ := className_of_methodNamed hn
  have hinitY : kY.init = .initialized := Cond.initialized_spec (findClass_of_methodNamed hn) hkY h3
  have h : At U g.method c below := by rw [hg]; exact X.here
  have hlocals9 : W9 + (maxL + 11) + (headSpec ws rm).room.locals ≤ R.locals := hlocals
  have happ : (headSpec ws rm).appliesLoose y e.platform (U.calling g mk a) = true :=
    Spec.appliesLoose_calling (g := g) h hdg hn hkY hinitY
      (X.room_calling (g := g) (R' := (headSpec ws rm).room) hsize hmY hcY hframes (by rw [hlY]; omega) h4 h5) h1
  obtain ⟨mid, hmid⟩ := h.above
  have hfr : (U.setTop g).frames = (.java g :: mid) ++ below := by rw [State.frames_setTop' g h.top, hmid]; rfl
  obtain ⟨o, s₂, hsteps, -, hend, hq⟩ := Steps.callFree hM p X.admits X.cas X.clock (acts := []) hfr happ hPc trivial
  have hq' : vx_Q Qc XC mc ms free a (U.calling g mk a) o s₂ := hq
  rw [State.frames_setTop' g h.top] at hend
  obtain ⟨g₀, hg0⟩ := Option.isSome_iff_exists.mp h.top
  obtain ⟨r, hr⟩ := State.topJava?_eq_some.mp hg0
  have hr' : (({ U with heap := s₂.heap, slotsUsed := s₂.slotsUsed } : State).setVm s₂.vm).frames = .java g₀ :: r := hr
  rcases hq' with ⟨hqc, L, hfe, hL⟩ | ⟨q, rfl, E, ce, L, hx, hce, hcv, hcl, hW₂, hsm, hL⟩
  · obtain ⟨⟨v, rfl⟩, hW₂, e2, q2, q3, q4, q5, q6⟩ := id hfe
    have e3 : s₂ = ({ (U.calling g mk a).setFrames s₂.frames with heap := s₂.heap, slotsUsed := s₂.slotsUsed } : State).setVm s₂.vm := by
      have : s₂ = ({ s₂ with vm := (U.calling g mk a).vm } : State).setVm s₂.vm := rfl
      rw [e2] at this
      exact this
    obtain ⟨c₂, i₂, len₂, hc₂, hd₂, hf₂⟩ := hend
    have hW' : U.WarmedH s₂.vm := hW₂
    have hcc : c₂ = c := by
      have h1 : s₂.code? g.method = U.code? g.method := by
        rw [State.code?_eq, State.code?_eq, hW'.alike.method?]
      exact Option.some.inj (hc₂.symm.trans (h1.trans h.code))
    subst hcc
    have hlen : len₂ = len := by rw [hdg] at hd₂; cases hd₂; rfl
    subst hlen
    have hs₂ : s₂ = (({ U with heap := s₂.heap, slotsUsed := s₂.slotsUsed } : State).setVm s₂.vm).setTop { g with pc := g.pc + len₂, stack := v.toList ++ g.stack } := by
      refine e3.trans ?_
      rw [hf₂, State.calling_eq h.top, State.setFrames_setFrames, State.setTop_of_frames _ hr', hr]
      rfl
    have hsame : U.sameButNew ({ U with heap := s₂.heap, slotsUsed := s₂.slotsUsed } : State) L mc ms := by
      refine ⟨?_, q2, q3, q4, q5, q6⟩
      obtain ⟨t, ht, -⟩ := State.frames_cons hr
      show ({ U with heap := s₂.heap, slotsUsed := s₂.slotsUsed } : State) = { U.setFrames U.frames with heap := s₂.heap, slotsUsed := s₂.slotsUsed }
      rw [State.setFrames_self ht]
    subst hg
    refine Or.inl ⟨v, ⟨(({ U with heap := s₂.heap, slotsUsed := s₂.slotsUsed } : State).setVm s₂.vm), Ls ++ L, c0 + mc, s0 + ms⟩,
      ⟨X.admits, X.cas, X.clock, X.frames, X.room, X.hears, X.method, X.code, (X.here.setHeapUsed s₂.heap s₂.slotsUsed).setVm hW'.alike, X.tail, State.WarmedH.trans X.warmed hW', X.limits, X.bytes, X.same.trans (hsame.setVm s.vm)⟩,
      ⟨g, mk, s₂, L, rfl, rfl, hqc, rfl, hL, rfl, rfl⟩, ?_⟩
    show Steps p.tables e below _ ((({ U with heap := s₂.heap, slotsUsed := s₂.slotsUsed } : State).setVm s₂.vm).setTop { g with pc := g.pc + len₂, stack := v.toList ++ g.stack })
    rw [← hs₂]
    exact hsteps
  · obtain ⟨e2, q2, q3, q4, q5, q6⟩ := id hsm
    have e3 : s₂ = ({ (U.calling g mk a).setFrames s₂.frames with heap := s₂.heap, slotsUsed := s₂.slotsUsed } : State).setVm s₂.vm := by
      have : s₂ = ({ s₂ with vm := (U.calling g mk a).vm } : State).setVm s₂.vm := rfl
      rw [e2] at this
      exact this
    have hf₂ : s₂.frames = .throwing q :: .java g :: U.frames.tail := hend
    have hW' : U.WarmedH s₂.vm := hW₂
    have hs₂ : s₂ = ((({ U with heap := s₂.heap, slotsUsed := s₂.slotsUsed } : State).setVm s₂.vm).setTop g).pushFrame (.throwing q) := by
      refine e3.trans ?_
      rw [hf₂, State.calling_eq h.top, State.setFrames_setFrames, State.pushFrame, State.frames_setTop _ hr', State.setTop_of_frames _ hr', State.setFrames_setFrames, hr]
      rfl
    have hsame : U.sameButNew ({ U with heap := s₂.heap, slotsUsed := s₂.slotsUsed } : State) L mc ms := by
      refine ⟨?_, q2, q3, q4, q5, q6⟩
      obtain ⟨t, ht, -⟩ := State.frames_cons hr
      show ({ U with heap := s₂.heap, slotsUsed := s₂.slotsUsed } : State) = { U.setFrames U.frames with heap := s₂.heap, slotsUsed := s₂.slotsUsed }
      rw [State.setFrames_self ht]
    subst hg
    refine Or.inr ⟨q, ⟨(({ U with heap := s₂.heap, slotsUsed := s₂.slotsUsed } : State).setVm s₂.vm), Ls ++ L, c0 + mc, s0 + ms⟩,
      ⟨X.admits, X.cas, X.clock, X.frames, X.room, X.hears, X.method, X.code, (X.here.setHeapUsed s₂.heap s₂.slotsUsed).setVm hW'.alike, X.tail, State.WarmedH.trans X.warmed hW', X.limits, X.bytes, X.same.trans (hsame.setVm s.vm)⟩,
      ⟨g, mk, s₂, L, E, ce, rfl, rfl, hx, hce, hcv, hcl, rfl, hL, rfl, rfl⟩, ?_⟩
    show Steps p.tables e below _ (((({ U with heap := s₂.heap, slotsUsed := s₂.slotsUsed } : State).setVm s₂.vm).setTop g).pushFrame (.throwing q))
    rw [← hs₂]
    exact hsteps
end Payer
section Calls
variable {p : Program} {l : Launch} {e : Env} {R : Room} {s : State} {m : MethodId} {args : Array Value} {below : List Frame} {meth : Method} {c : Code} {T : State} {locs : List Loc} {cells slots : Nat}
theorem vx_callV (X : Stand p l e R s m args below meth c T locs cells slots) (hexec : p.tables.exec = Jvm.exec) {own C : String} {index : Nat} {y : MethodName} {bytes : ByteArray} {maxL : Nat} {ret : Option FieldType}
    (hown : s.vm.findClass own = some m.cls) (hlink : (Cond.methodLink own index y).before args s = true) (hinst : (Cond.instanceMethod y).before args s = true) (hsel : (Cond.selects C y y).before args s = true)
    (hcode : (Cond.code y bytes maxL ret).before args s = true) (hy : y.cls ≠ "java/lang/invoke/MethodHandle" ∧ y.cls ≠ "java/lang/invoke/VarHandle")
    {W9 : Nat} {Pre : Pt → Array Value → Prop} {Post : Pt → Array Value → Option Value → Pt → Prop} {PostX : Pt → Array Value → Addr → Pt → Prop} (hK : vx_Back l R p e below s args y 3 W9 Pre Post PostX)
    {b : Addr} {cellB : Cell} (hcell : T.heap[b]? = some cellB) (hobj : cellB.vm.isStatics = false) (hcls : s.vm.findClass C = some cellB.cls)
    {g : JFrame} (hg : g.method = m) (hsize : g.locals.size = c.maxLocals) {argsL rest : List Value} (hlen : ∀ sig, parseMethodDescriptor y.desc = some sig → argsL.length = sig.parameters.length)
    (hstack : g.stack = argsL.reverse ++ .ref b :: rest) (hW : 2 * g.monitorRoom + (rest.map fun v => v.category).sum ≤ W9) (hdg : decode c.code g.pc = .ok (.invokevirtual index, 3))
    (hpre : ∀ vm₁, s.WarmedH vm₁ → Pre ⟨T.setVm vm₁, locs, cells, slots⟩ (Value.ref b :: argsL).toArray) :
    (∃ (v : Option Value) (vm₁ : Vm) (B : Pt), s.WarmedH vm₁ ∧ Stand p l e R s m args below meth c B.U B.locs B.cells B.slots ∧ Post ⟨T.setVm vm₁, locs, cells, slots⟩ (Value.ref b :: argsL).toArray v B ∧
      ∀ target, Steps p.tables e below (B.U.setTop { g with pc := g.pc + 3, stack := v.toList ++ rest }) target → Steps p.tables e below (T.setTop g) target) ∨
    (∃ (q : Addr) (vm₁ : Vm) (B : Pt), s.WarmedH vm₁ ∧ Stand p l e R s m args below meth c B.U B.locs B.cells B.slots ∧ PostX ⟨T.setVm vm₁, locs, cells, slots⟩ (Value.ref b :: argsL).toArray q B ∧
      Steps p.tables e below (T.setTop g) ((B.U.setTop { g with stack := rest }).pushFrame (.throwing q))) := by
  obtain ⟨mk, methM, hnamed, hmethM, hstM, habM⟩ := Cond.instanceMethod_spec hinst
  obtain ⟨methM', cM, hmethM', -, -, -, -, -, -, hsigM⟩ := Cond.code_spec hnamed hcode
  cases hmethM.symm.trans hmethM'
  obtain ⟨c2, r2, m2, q1, q2, q3, q4, kP, hkP, hkPi⟩ := Cond.selects_spec hsel
  cases hcls.symm.trans q1
  cases (State.methodFound?_of_named hnamed hy).symm.trans q2
  cases hnamed.symm.trans q3
  have hselP : selectMethod e.platform s.vm cellB.cls mk = .method mk := by rw [Launch.admits_selectMethod X.admits]; exact q4
  obtain ⟨vm₁, X₁, hstep₁⟩ := X.invokevirtual hexec hown hlink hnamed hmethM hstM hkP hkPi hy (a := b) (cell := cellB) hcell
    (fun z h => by rw [h] at hobj; cases hobj) hselP hmethM habM hkP hkPi (g := g) hg (argsL := argsL) (rest := rest) (hlen _ hsigM) hstack hdg
  rcases hK m meth c ⟨T.setVm vm₁, locs, cells, slots⟩ { g with stack := rest } (.invokevirtual index) mk (Value.ref b :: argsL).toArray X₁ hg hsize hdg hW (X₁.named hnamed) (hpre vm₁ X₁.warmed) with ⟨v, B, X', hpost, hsteps⟩ | ⟨q, B, X', hpost, hsteps⟩
  · exact Or.inl ⟨v, vm₁, B, X₁.warmed, X', hpost, fun target h => hstep₁ _ fun acts => by rw [doInvoke_state]; exact hsteps.trans h⟩
  · exact Or.inr ⟨q, vm₁, B, X₁.warmed, X', hpost, hstep₁ _ fun acts => by rw [doInvoke_state]; exact hsteps⟩
theorem vx_callS (X : Stand p l e R s m args below meth c T locs cells slots) (hexec : p.tables.exec = Jvm.exec) {own : String} {index : Nat} {y : MethodName} {bytes : ByteArray} {maxL : Nat} {ret : Option FieldType}
    (hown : s.vm.findClass own = some m.cls) (hlink : (Cond.methodLink own index y).before args s = true) (hstat : (Cond.static y).before args s = true) (hinit : (Cond.initialized y.cls).before args s = true)
    (hcode : (Cond.code y bytes maxL ret).before args s = true) (hy : y.cls ≠ "java/lang/invoke/MethodHandle" ∧ y.cls ≠ "java/lang/invoke/VarHandle")
    {W9 : Nat} {Pre : Pt → Array Value → Prop} {Post : Pt → Array Value → Option Value → Pt → Prop} {PostX : Pt → Array Value → Addr → Pt → Prop} (hK : vx_Back l R p e below s args y 3 W9 Pre Post PostX)
    {g : JFrame} (hg : g.method = m) (hsize : g.locals.size = c.maxLocals) {argsL rest : List Value} (hlen : ∀ sig, parseMethodDescriptor y.desc = some sig → argsL.length = sig.parameters.length)
    (hstack : g.stack = argsL.reverse ++ rest) (hW : 2 * g.monitorRoom + (rest.map fun v => v.category).sum ≤ W9) (hdg : decode c.code g.pc = .ok (.invokestatic index, 3))
    (hpre : ∀ vm₁, s.WarmedH vm₁ → Pre ⟨T.setVm vm₁, locs, cells, slots⟩ argsL.toArray) :
    (∃ (v : Option Value) (vm₁ : Vm) (B : Pt), s.WarmedH vm₁ ∧ Stand p l e R s m args below meth c B.U B.locs B.cells B.slots ∧ Post ⟨T.setVm vm₁, locs, cells, slots⟩ argsL.toArray v B ∧
      ∀ target, Steps p.tables e below (B.U.setTop { g with pc := g.pc + 3, stack := v.toList ++ rest }) target → Steps p.tables e below (T.setTop g) target) ∨
    (∃ (q : Addr) (vm₁ : Vm) (B : Pt), s.WarmedH vm₁ ∧ Stand p l e R s m args below meth c B.U B.locs B.cells B.slots ∧ PostX ⟨T.setVm vm₁, locs, cells, slots⟩ argsL.toArray q B ∧
      Steps p.tables e below (T.setTop g) ((B.U.setTop { g with stack := rest }).pushFrame (.throwing q))) := by
  obtain ⟨mk, hnamed⟩ := Cond.code_named hcode
  obtain ⟨methM, cM, hmethM, -, -, -, -, -, -, hsigM⟩ := Cond.code_spec hnamed hcode
  have hstatic : methM.isStatic = true := Cond.static_spec hnamed hmethM hstat
  obtain ⟨kP, hkP, -⟩ := className_of_methodNamed hnamed
  have hinitP : kP.init = .initialized := Cond.initialized_spec (findClass_of_methodNamed hnamed) hkP hinit
  obtain ⟨vm₁, X₁, hstep₁⟩ := X.invokestatic hexec hown hlink hnamed hmethM hstatic hkP hinitP hy (g := g) hg (argsL := argsL) (rest := rest) (hlen _ hsigM) hstack hdg
  rcases hK m meth c ⟨T.setVm vm₁, locs, cells, slots⟩ { g with stack := rest } (.invokestatic index) mk argsL.toArray X₁ hg hsize hdg hW (X₁.named hnamed) (hpre vm₁ X₁.warmed) with ⟨v, B, X', hpost, hsteps⟩ | ⟨q, B, X', hpost, hsteps⟩
  · exact Or.inl ⟨v, vm₁, B, X₁.warmed, X', hpost, fun target h => hstep₁ _ fun acts => by rw [doInvoke_state]; exact hsteps.trans h⟩
  · exact Or.inr ⟨q, vm₁, B, X₁.warmed, X', hpost, hstep₁ _ fun acts => by rw [doInvoke_state]; exact hsteps⟩
end Calls
theorem vx_cls {s : State} {T : State} {vm₁ : Vm} {E : String} {k : ClassId} (hW : s.WarmedH vm₁) (h : (T.setVm vm₁).vm.findClass E = some k) : s.vm.findClass E = some k := by
  have h1 : vm₁.findClass E = some k := h
  rw [hW.alike.findClass] at h1
  exact h1
/-- the method's frame g, with q thrown over it -/
def vx_W (p : Program) (l : Launch) (e : Env) (R : Room) (s : State) (m : MethodId) (args : Array Value) (below : List Frame) (meth : Method) (c : Code) (H : Heap) (locs : List Loc) (cells slots : Nat) (Q : State → Prop) (g : JFrame) (q : Addr) : Prop :=
  ∀ T : State, T.heap = H → Stand p l e R s m args below meth c T locs cells slots → ∃ t, Steps p.tables e below ((T.setTop g).pushFrame (.throwing q)) t ∧ Q t
def vx_Run (p : Program) (l : Launch) (e : Env) (R : Room) (s : State) (m : MethodId) (args : Array Value) (below : List Frame) (meth : Method) (c : Code) (H : Heap) (locs : List Loc) (cells slots mc ms : Nat) (g : JFrame) (rest : List Value) (Qa : State → Outcome → State → Prop) (XC : String → State → State → Prop) (free : Addr → Prop) : Prop :=
  ∀ T : State, T.heap = H → Stand p l e R s m args below meth c T locs cells slots →
    (∃ (v : Option Value) (st₀ t T' : State) (L : List Loc), st₀.heap = H ∧ Stand p l e R s m args below meth c T' (locs ++ L) (cells + mc) (slots + ms) ∧ (∀ q ∈ L, free q.base) ∧ T'.heap = t.heap ∧ T'.vm = t.vm ∧ Qa st₀ (.returned v) t ∧
      Goes p e below T g T' { g with pc := g.pc + 3, stack := v.toList ++ rest }) ∨
    (∃ (q : Addr) (st₀ t T' : State) (L : List Loc) (E : String) (ce : Cell), st₀.heap = H ∧ Stand p l e R s m args below meth c T' (locs ++ L) (cells + mc) (slots + ms) ∧ (∀ z ∈ L, free z.base) ∧ T'.heap = t.heap ∧ T'.vm = t.vm ∧ XC E st₀ t ∧ t.heap[q]? = some ce ∧ ce.vm = .none ∧ s.vm.findClass E = some ce.cls ∧
      Steps p.tables e below (T.setTop g) ((T'.setTop { g with stack := rest }).pushFrame (.throwing q)))
def vx_X {S : Type} (px : S → Prop) (B : String → S → State → Prop) (A : Nat → Prop) : String → State → State → Prop := fun E st t => ∃ u : S, px u ∧ B E u t ∧ va_F A st t
section Runs
variable {p : Program} {l : Launch} {e : Env} {R : Room} {s : State} {m : MethodId} {args : Array Value} {below : List Frame} {meth : Method} {c : Code} {H : Heap} {locs : List Loc} {cells slots : Nat}
variable {y : MethodName} {bytes cc : ByteArray} {maxL nL mc ms n index : Nat} {ret : Option FieldType} {ws : List Cond} {rm : Room} {Pc : Array Value → State → Prop} {Qc : Array Value → State → Outcome → State → Prop} {XC : String → State → State → Prop} {free : Addr → Prop} {Ts : List Cond} {own C : String} {b : Addr} {As rest : List Value} {g : JFrame}
theorem vx_callBack (cb : CallB R s args own index y bytes maxL ret ws rm mc ms n) (hM : vx_Met l y ws rm Pc Qc XC mc ms free) (hbl : FrameBlind Pc) : vx_Back l R p e below s args y 3 8 (PreOf R mc ms Pc) (PostOf Qc mc ms free) (vx_Post XC mc ms free) := by
  obtain ⟨hrc, hrs, hfr, hlo, hws, hcw, -, hini, -⟩ := cb
  exact vx_back (bytes := bytes) (maxL := maxL) (ret := ret) hM hbl hrc hrs hfr hlo hws hcw (fun a' U hW => word_at hW (Or.inl (by first | rfl | simp [Cond.onTables, Cond.keeps, Cond.steady])) hini)
theorem vx_runV (S : CallFix p m c cc nL s args Ts own) (hM : vx_Met l y ws rm Pc Qc XC mc ms free) (cw : CallW R s args own C index y bytes maxL ret ws rm mc ms n) (hp : PreV s H C b Pc As)
    (hg : g.method = m) (hn : As.length = n) (hsize : g.locals.size = nL) (hstack : g.stack = As.reverse ++ .ref b :: rest) (hW : 2 * g.monitorRoom + (rest.map fun v => v.category).sum ≤ 8) (hdg : decode cc g.pc = .ok (.invokevirtual index, 3)) (hf : cells + mc ≤ R.cells ∧ slots + ms ≤ R.slots) :
    vx_Run p l e R s m args below meth c H locs cells slots mc ms g rest (Qc (Value.ref b :: As).toArray) XC free := by
  have hK : vx_Back l R p e below s args y 3 8 (PreOf R mc ms Pc) (PostOf Qc mc ms free) (vx_Post XC mc ms free) := vx_callBack cw.1 hM hp.1
  obtain ⟨⟨-, -, -, -, -, -, hcode, -, hy, hlen, hl⟩, hin, hse⟩ := cw
  obtain ⟨hx, hb, hml, ho, -⟩ := S
  obtain ⟨-, ⟨cellB, hcB, hoB, hclB⟩, hPc⟩ := hp
  intro T hT X
  rcases vx_callV X hx (C := C) (bytes := bytes) (maxL := maxL) (ret := ret) ho hl hin hse hcode hy hK (by rw [hT]; exact hcB) hoB hclB hg (hsize.trans hml.symm) (argsL := As) (rest := rest) (fun sig h => hn.trans (hlen sig h)) hstack hW (by rw [hb]; exact hdg)
    (fun vm₁ hW₁ => ⟨hf.1, hf.2, hPc (T.setVm vm₁) hT hW₁⟩) with ⟨v, vm₁, ⟨U', l2, c2, s2⟩, hW₁, X', ⟨g', mk, t, L, e1, e2, hq, h1, hL, h2, h3⟩, st⟩ | ⟨q, vm₁, ⟨U', l2, c2, s2⟩, hW₁, X', ⟨g', mk, t, L, E, ce, e1, e2, hq, hce, hcv, hcl, h1, hL, h2, h3⟩, st⟩
  · dsimp only [Pt.U, Pt.locs, Pt.cells, Pt.slots] at X' e1 e2 h1 h2 h3 st
    subst h1; subst h2; subst h3
    exact Or.inl ⟨v, (T.setVm vm₁).calling g' mk (Value.ref b :: As).toArray, t, U', L, hT, X', hL, e1, e2, hq, st⟩
  · dsimp only [Pt.U, Pt.locs, Pt.cells, Pt.slots] at X' e1 e2 h1 h2 h3 st hcl
    subst h1; subst h2; subst h3
    exact Or.inr ⟨q, (T.setVm vm₁).calling g' mk (Value.ref b :: As).toArray, t, U', L, E, ce, hT, X', hL, e1, e2, hq, hce, hcv, vx_cls hW₁ hcl, st⟩
theorem vx_runS (S : CallFix p m c cc nL s args Ts own) (hM : vx_Met l y ws rm Pc Qc XC mc ms free) (cw : CallB R s args own index y bytes maxL ret ws rm mc ms n ∧ (Cond.static y).before args s = true) (hp : PreS s H Pc As)
    (hg : g.method = m) (hn : As.length = n) (hsize : g.locals.size = nL) (hstack : g.stack = As.reverse ++ rest) (hW : 2 * g.monitorRoom + (rest.map fun v => v.category).sum ≤ 8) (hdg : decode cc g.pc = .ok (.invokestatic index, 3)) (hf : cells + mc ≤ R.cells ∧ slots + ms ≤ R.slots) :
    vx_Run p l e R s m args below meth c H locs cells slots mc ms g rest (Qc As.toArray) XC free := by
  have hK : vx_Back l R p e below s args y 3 8 (PreOf R mc ms Pc) (PostOf Qc mc ms free) (vx_Post XC mc ms free) := vx_callBack cw.1 hM hp.1
  obtain ⟨⟨-, -, -, -, -, -, hcode, hini, hy, hlen, hl⟩, hstt⟩ := cw
  obtain ⟨hx, hb, hml, ho, -⟩ := S
  intro T hT X
  rcases vx_callS X hx (bytes := bytes) (maxL := maxL) (ret := ret) ho hl hstt hini hcode hy hK hg (hsize.trans hml.symm) (argsL := As) (rest := rest) (fun sig h => hn.trans (hlen sig h)) hstack hW (by rw [hb]; exact hdg)
    (fun vm₁ hW₁ => ⟨hf.1, hf.2, hp.2 (T.setVm vm₁) hT hW₁⟩) with ⟨v, vm₁, ⟨U', l2, c2, s2⟩, hW₁, X', ⟨g', mk, t, L, e1, e2, hq, h1, hL, h2, h3⟩, st⟩ | ⟨q, vm₁, ⟨U', l2, c2, s2⟩, hW₁, X', ⟨g', mk, t, L, E, ce, e1, e2, hq, hce, hcv, hcl, h1, hL, h2, h3⟩, st⟩
  · dsimp only [Pt.U, Pt.locs, Pt.cells, Pt.slots] at X' e1 e2 h1 h2 h3 st
    subst h1; subst h2; subst h3
    exact Or.inl ⟨v, (T.setVm vm₁).calling g' mk As.toArray, t, U', L, hT, X', hL, e1, e2, hq, st⟩
  · dsimp only [Pt.U, Pt.locs, Pt.cells, Pt.slots] at X' e1 e2 h1 h2 h3 st hcl
    subst h1; subst h2; subst h3
    exact Or.inr ⟨q, (T.setVm vm₁).calling g' mk As.toArray, t, U', L, E, ce, hT, X', hL, e1, e2, hq, hce, hcv, vx_cls hW₁ hcl, st⟩
end Runs
section Rows
variable {p : Program} {l : Launch} {e : Env} {R : Room} {s : State} {m : MethodId} {args : Array Value} {below : List Frame} {meth : Method} {c : Code} {H : Heap} {locs : List Loc} {cells slots : Nat} {Q : State → Prop}
variable {mc ms : Nat} {free : Addr → Prop} {A0 A1 : Nat → Prop} {H0 : Heap} {a : Array Value} {pc : Nat} {ls : Array Slot} {st0 rest : List Value}
theorem vx_keep {st₀ t T' : State} {L : List Loc} (h0 : st₀.heap = H) (e1 : T'.heap = t.heap) (hS : va_S A0 H0 H locs) (hA : ∀ q, q < H.size → A1 q → A0 q) (hf : ∀ q, free q → A0 q) (hL : ∀ q ∈ L, free q.base) (hF : va_F A1 st₀ t) :
    H.size ≤ T'.heap.size ∧ (∀ q : Nat, q < H.size → ¬ A1 q → T'.heap[q]? = H[q]?) ∧ va_S A0 H0 T'.heap (locs ++ L) := by
  obtain ⟨hz, hk⟩ := hF
  rw [h0] at hz hk
  exact ⟨by rw [e1]; exact hz, fun q h1 h2 => by rw [e1]; exact hk q h1 h2,
    ⟨Nat.le_trans hS.1 (by rw [e1]; exact hz), fun q h1 h2 => by rw [e1, hk q (Nat.lt_of_lt_of_le h1 hS.1) (fun z => h2 (hA q (Nat.lt_of_lt_of_le h1 hS.1) z))]; exact hS.2.1 q h1 h2, fun q hq => by
      rcases List.mem_append.mp hq with h | h
      · exact hS.2.2 q h
      · exact hf _ (hL q h)⟩⟩
theorem vx_calli {S SX : Type} {post : Int32 → S → Prop} {px : SX → Prop} {B : S → State → Prop} {BX : String → SX → State → Prop} {AX : Nat → Prop} (hr : vx_Run p l e R s m args below meth c H locs cells slots mc ms (F0 m pc ls st0) rest (va_Qi post B A1 a) (vx_X px BX AX) free) (hS : va_S A0 H0 H locs) (hA : ∀ q, q < H.size → A1 q → A0 q) (hf : ∀ q, free q → A0 q) (hAX : ∀ q, q < H.size → AX q → A0 q)
    (kx : ∀ (E : String) (ce : Cell) (q9 : Addr) (u : SX) (t : State) (H1 : Heap) (locs1 : List Loc), t.heap = H1 → s.vm.Alike t.vm → px u → BX E u t → H.size ≤ H1.size → (∀ q : Nat, q < H.size → ¬ AX q → H1[q]? = H[q]?) → va_S A0 H0 H1 locs1 → H1[q9]? = some ce → ce.vm = .none → s.vm.findClass E = some ce.cls → vx_W p l e R s m args below meth c H1 locs1 (cells + mc) (slots + ms) Q (F0 m pc ls rest) q9)
    (kk : ∀ (r : Int32) (u : S) (t : State) (H1 : Heap) (locs1 : List Loc), t.heap = H1 → s.vm.Alike t.vm → post r u → B u t → H.size ≤ H1.size → (∀ q : Nat, q < H.size → ¬ A1 q → H1[q]? = H[q]?) → va_S A0 H0 H1 locs1 → W p l e R s m args below meth c H1 locs1 (cells + mc) (slots + ms) Q (F0 m (pc + 3) ls (.int r :: rest))) : W p l e R s m args below meth c H locs cells slots Q (F0 m pc ls st0) := by
  intro T hT X
  rcases hr T hT X with ⟨v, st₀, t, T', L, h0, X', hL, e1, e2, ⟨⟨r, u, hv, hp, hb⟩, hF⟩, st⟩ | ⟨q, st₀, t, T', L, E, ce, h0, X', hL, e1, e2, ⟨u, hp, hb, hF⟩, hce, hcv, hcl, st⟩
  · cases hv
    obtain ⟨k1, k2, k3⟩ := vx_keep h0 e1 hS hA hf hL hF
    obtain ⟨t2, a1, b1⟩ := kk r u t T'.heap (locs ++ L) e1.symm (by rw [← e2]; exact X'.warmed.alike) hp hb k1 k2 k3 T' rfl X'
    exact ⟨t2, st t2 a1, b1⟩
  · obtain ⟨k1, k2, k3⟩ := vx_keep h0 e1 hS hAX hf hL hF
    obtain ⟨t2, a1, b1⟩ := kx E ce q u t T'.heap (locs ++ L) e1.symm (by rw [← e2]; exact X'.warmed.alike) hp hb k1 k2 k3 (by rw [e1]; exact hce) hcv hcl T' rfl X'
    exact ⟨t2, st.trans a1, b1⟩
theorem vx_calll {S SX : Type} {post : Int64 → S → Prop} {px : SX → Prop} {B : S → State → Prop} {BX : String → SX → State → Prop} {AX : Nat → Prop} (hr : vx_Run p l e R s m args below meth c H locs cells slots mc ms (F0 m pc ls st0) rest (va_Ql post B A1 a) (vx_X px BX AX) free) (hS : va_S A0 H0 H locs) (hA : ∀ q, q < H.size → A1 q → A0 q) (hf : ∀ q, free q → A0 q) (hAX : ∀ q, q < H.size → AX q → A0 q)
    (kx : ∀ (E : String) (ce : Cell) (q9 : Addr) (u : SX) (t : State) (H1 : Heap) (locs1 : List Loc), t.heap = H1 → s.vm.Alike t.vm → px u → BX E u t → H.size ≤ H1.size → (∀ q : Nat, q < H.size → ¬ AX q → H1[q]? = H[q]?) → va_S A0 H0 H1 locs1 → H1[q9]? = some ce → ce.vm = .none → s.vm.findClass E = some ce.cls → vx_W p l e R s m args below meth c H1 locs1 (cells + mc) (slots + ms) Q (F0 m pc ls rest) q9)
    (kk : ∀ (r : Int64) (u : S) (t : State) (H1 : Heap) (locs1 : List Loc), t.heap = H1 → s.vm.Alike t.vm → post r u → B u t → H.size ≤ H1.size → (∀ q : Nat, q < H.size → ¬ A1 q → H1[q]? = H[q]?) → va_S A0 H0 H1 locs1 → W p l e R s m args below meth c H1 locs1 (cells + mc) (slots + ms) Q (F0 m (pc + 3) ls (.long r :: rest))) : W p l e R s m args below meth c H locs cells slots Q (F0 m pc ls st0) := by
  intro T hT X
  rcases hr T hT X with ⟨v, st₀, t, T', L, h0, X', hL, e1, e2, ⟨⟨r, u, hv, hp, hb⟩, hF⟩, st⟩ | ⟨q, st₀, t, T', L, E, ce, h0, X', hL, e1, e2, ⟨u, hp, hb, hF⟩, hce, hcv, hcl, st⟩
  · cases hv
    obtain ⟨k1, k2, k3⟩ := vx_keep h0 e1 hS hA hf hL hF
    obtain ⟨t2, a1, b1⟩ := kk r u t T'.heap (locs ++ L) e1.symm (by rw [← e2]; exact X'.warmed.alike) hp hb k1 k2 k3 T' rfl X'
    exact ⟨t2, st t2 a1, b1⟩
  · obtain ⟨k1, k2, k3⟩ := vx_keep h0 e1 hS hAX hf hL hF
    obtain ⟨t2, a1, b1⟩ := kx E ce q u t T'.heap (locs ++ L) e1.symm (by rw [← e2]; exact X'.warmed.alike) hp hb k1 k2 k3 (by rw [e1]; exact hce) hcv hcl T' rfl X'
    exact ⟨t2, st.trans a1, b1⟩
theorem vx_callf {S SX : Type} {post : UInt32 → S → Prop} {px : SX → Prop} {B : S → State → Prop} {BX : String → SX → State → Prop} {AX : Nat → Prop} (hr : vx_Run p l e R s m args below meth c H locs cells slots mc ms (F0 m pc ls st0) rest (va_Qf post B A1 a) (vx_X px BX AX) free) (hS : va_S A0 H0 H locs) (hA : ∀ q, q < H.size → A1 q → A0 q) (hf : ∀ q, free q → A0 q) (hAX : ∀ q, q < H.size → AX q → A0 q)
    (kx : ∀ (E : String) (ce : Cell) (q9 : Addr) (u : SX) (t : State) (H1 : Heap) (locs1 : List Loc), t.heap = H1 → s.vm.Alike t.vm → px u → BX E u t → H.size ≤ H1.size → (∀ q : Nat, q < H.size → ¬ AX q → H1[q]? = H[q]?) → va_S A0 H0 H1 locs1 → H1[q9]? = some ce → ce.vm = .none → s.vm.findClass E = some ce.cls → vx_W p l e R s m args below meth c H1 locs1 (cells + mc) (slots + ms) Q (F0 m pc ls rest) q9)
    (kk : ∀ (r : UInt32) (u : S) (t : State) (H1 : Heap) (locs1 : List Loc), t.heap = H1 → s.vm.Alike t.vm → post r u → B u t → H.size ≤ H1.size → (∀ q : Nat, q < H.size → ¬ A1 q → H1[q]? = H[q]?) → va_S A0 H0 H1 locs1 → W p l e R s m args below meth c H1 locs1 (cells + mc) (slots + ms) Q (F0 m (pc + 3) ls (.float r :: rest))) : W p l e R s m args below meth c H locs cells slots Q (F0 m pc ls st0) := by
  intro T hT X
  rcases hr T hT X with ⟨v, st₀, t, T', L, h0, X', hL, e1, e2, ⟨⟨r, u, hv, hp, hb⟩, hF⟩, st⟩ | ⟨q, st₀, t, T', L, E, ce, h0, X', hL, e1, e2, ⟨u, hp, hb, hF⟩, hce, hcv, hcl, st⟩
  · cases hv
    obtain ⟨k1, k2, k3⟩ := vx_keep h0 e1 hS hA hf hL hF
    obtain ⟨t2, a1, b1⟩ := kk r u t T'.heap (locs ++ L) e1.symm (by rw [← e2]; exact X'.warmed.alike) hp hb k1 k2 k3 T' rfl X'
    exact ⟨t2, st t2 a1, b1⟩
  · obtain ⟨k1, k2, k3⟩ := vx_keep h0 e1 hS hAX hf hL hF
    obtain ⟨t2, a1, b1⟩ := kx E ce q u t T'.heap (locs ++ L) e1.symm (by rw [← e2]; exact X'.warmed.alike) hp hb k1 k2 k3 (by rw [e1]; exact hce) hcv hcl T' rfl X'
    exact ⟨t2, st.trans a1, b1⟩
theorem vx_calld {S SX : Type} {post : UInt64 → S → Prop} {px : SX → Prop} {B : S → State → Prop} {BX : String → SX → State → Prop} {AX : Nat → Prop} (hr : vx_Run p l e R s m args below meth c H locs cells slots mc ms (F0 m pc ls st0) rest (va_Qd post B A1 a) (vx_X px BX AX) free) (hS : va_S A0 H0 H locs) (hA : ∀ q, q < H.size → A1 q → A0 q) (hf : ∀ q, free q → A0 q) (hAX : ∀ q, q < H.size → AX q → A0 q)
    (kx : ∀ (E : String) (ce : Cell) (q9 : Addr) (u : SX) (t : State) (H1 : Heap) (locs1 : List Loc), t.heap = H1 → s.vm.Alike t.vm → px u → BX E u t → H.size ≤ H1.size → (∀ q : Nat, q < H.size → ¬ AX q → H1[q]? = H[q]?) → va_S A0 H0 H1 locs1 → H1[q9]? = some ce → ce.vm = .none → s.vm.findClass E = some ce.cls → vx_W p l e R s m args below meth c H1 locs1 (cells + mc) (slots + ms) Q (F0 m pc ls rest) q9)
    (kk : ∀ (r : UInt64) (u : S) (t : State) (H1 : Heap) (locs1 : List Loc), t.heap = H1 → s.vm.Alike t.vm → post r u → B u t → H.size ≤ H1.size → (∀ q : Nat, q < H.size → ¬ A1 q → H1[q]? = H[q]?) → va_S A0 H0 H1 locs1 → W p l e R s m args below meth c H1 locs1 (cells + mc) (slots + ms) Q (F0 m (pc + 3) ls (.double r :: rest))) : W p l e R s m args below meth c H locs cells slots Q (F0 m pc ls st0) := by
  intro T hT X
  rcases hr T hT X with ⟨v, st₀, t, T', L, h0, X', hL, e1, e2, ⟨⟨r, u, hv, hp, hb⟩, hF⟩, st⟩ | ⟨q, st₀, t, T', L, E, ce, h0, X', hL, e1, e2, ⟨u, hp, hb, hF⟩, hce, hcv, hcl, st⟩
  · cases hv
    obtain ⟨k1, k2, k3⟩ := vx_keep h0 e1 hS hA hf hL hF
    obtain ⟨t2, a1, b1⟩ := kk r u t T'.heap (locs ++ L) e1.symm (by rw [← e2]; exact X'.warmed.alike) hp hb k1 k2 k3 T' rfl X'
    exact ⟨t2, st t2 a1, b1⟩
  · obtain ⟨k1, k2, k3⟩ := vx_keep h0 e1 hS hAX hf hL hF
    obtain ⟨t2, a1, b1⟩ := kx E ce q u t T'.heap (locs ++ L) e1.symm (by rw [← e2]; exact X'.warmed.alike) hp hb k1 k2 k3 (by rw [e1]; exact hce) hcv hcl T' rfl X'
    exact ⟨t2, st.trans a1, b1⟩
theorem vx_callv {S SX : Type} {post : S → Prop} {px : SX → Prop} {B : S → State → Prop} {BX : String → SX → State → Prop} {AX : Nat → Prop} (hr : vx_Run p l e R s m args below meth c H locs cells slots mc ms (F0 m pc ls st0) rest (va_Qv post B A1 a) (vx_X px BX AX) free) (hS : va_S A0 H0 H locs) (hA : ∀ q, q < H.size → A1 q → A0 q) (hf : ∀ q, free q → A0 q) (hAX : ∀ q, q < H.size → AX q → A0 q)
    (kx : ∀ (E : String) (ce : Cell) (q9 : Addr) (u : SX) (t : State) (H1 : Heap) (locs1 : List Loc), t.heap = H1 → s.vm.Alike t.vm → px u → BX E u t → H.size ≤ H1.size → (∀ q : Nat, q < H.size → ¬ AX q → H1[q]? = H[q]?) → va_S A0 H0 H1 locs1 → H1[q9]? = some ce → ce.vm = .none → s.vm.findClass E = some ce.cls → vx_W p l e R s m args below meth c H1 locs1 (cells + mc) (slots + ms) Q (F0 m pc ls rest) q9)
    (kk : ∀ (u : S) (t : State) (H1 : Heap) (locs1 : List Loc), t.heap = H1 → s.vm.Alike t.vm → post u → B u t → H.size ≤ H1.size → (∀ q : Nat, q < H.size → ¬ A1 q → H1[q]? = H[q]?) → va_S A0 H0 H1 locs1 → W p l e R s m args below meth c H1 locs1 (cells + mc) (slots + ms) Q (F0 m (pc + 3) ls (rest))) : W p l e R s m args below meth c H locs cells slots Q (F0 m pc ls st0) := by
  intro T hT X
  rcases hr T hT X with ⟨v, st₀, t, T', L, h0, X', hL, e1, e2, ⟨⟨u, hv, hp, hb⟩, hF⟩, st⟩ | ⟨q, st₀, t, T', L, E, ce, h0, X', hL, e1, e2, ⟨u, hp, hb, hF⟩, hce, hcv, hcl, st⟩
  · cases hv
    obtain ⟨k1, k2, k3⟩ := vx_keep h0 e1 hS hA hf hL hF
    obtain ⟨t2, a1, b1⟩ := kk u t T'.heap (locs ++ L) e1.symm (by rw [← e2]; exact X'.warmed.alike) hp hb k1 k2 k3 T' rfl X'
    exact ⟨t2, st t2 a1, b1⟩
  · obtain ⟨k1, k2, k3⟩ := vx_keep h0 e1 hS hAX hf hL hF
    obtain ⟨t2, a1, b1⟩ := kx E ce q u t T'.heap (locs ++ L) e1.symm (by rw [← e2]; exact X'.warmed.alike) hp hb k1 k2 k3 (by rw [e1]; exact hce) hcv hcl T' rfl X'
    exact ⟨t2, st.trans a1, b1⟩
/-- caught by the row x of this method's table; the rows ahead don't take it -/
theorem vx_catch {own name : String} {E : String} {ce : Cell} {q : Addr} (hown : s.vm.findClass own = some m.cls) (pre : List ExceptionTableEntry) (x : ExceptionTableEntry) (suf : List ExceptionTableEntry) (hsplit : c.exceptionTable.toList = pre ++ x :: suf)
    (hpass : ∀ z ∈ pre, covers z pc = false ∨ (z.catchType ≠ 0 ∧ ∃ nm : String, (Cond.classLink own z.catchType nm).before args s = true ∧ va_Nc E nm s)) (hx : covers x pc = true) (h0 : x.catchType ≠ 0)
    (hlink : (Cond.classLink own x.catchType name).before args s = true) (hcast : (Cond.castable E name).before args s = true) (hcell : H[q]? = some ce) (hv : ce.vm = .none) (hcl : s.vm.findClass E = some ce.cls)
    (kk : W p l e R s m args below meth c H locs cells slots Q (F0 m x.handlerPc ls [.ref q])) : vx_W p l e R s m args below meth c H locs cells slots Q (F0 m pc ls rest) q := by
  intro T hT X
  have hpl : e.platform.magicAccessors = ({} : Platform).magicAccessors := by rw [X.admits.platform]
  obtain ⟨c3, c4, hc3, hc4, hasg⟩ := Cond.castable_spec hcast
  cases Option.some.inj (hc3.symm.trans hcl)
  obtain ⟨c5, hc5, hcl5⟩ := Cond.classLink_spec hown hlink e.platform hpl
  cases Option.some.inj (hc4.symm.trans hc5)
  obtain ⟨vm', X', st⟩ := X.thenCaughtThrough q (g := F0 m pc ls rest) rfl (Steps.refl _) (by rw [hT]; exact hcell) (by rw [hv]; rfl) (by obtain ⟨k9, h9, -⟩ := Vm.findClass_spec hcl; exact ⟨k9, h9⟩) pre x suf hsplit
    (fun z hz => by
      rcases hpass z hz with h | ⟨hz0, nm, hl1, hn1⟩
      · exact Or.inl h
      · obtain ⟨c6, hc6, hcl6⟩ := Cond.classLink_spec hown hl1 e.platform hpl
        obtain ⟨a8, b8, h1, h2, h3⟩ := hn1
        cases Option.some.inj (h1.symm.trans hcl)
        cases Option.some.inj (h2.symm.trans hc6)
        exact Or.inr ⟨hz0, _, hcl6, h3⟩) hx (Or.inr ⟨h0, c4, hcl5, hasg⟩)
  obtain ⟨t, a1, b1⟩ := kk (T.setVm vm') hT X'
  exact ⟨t, st.trans a1, b1⟩
end Rows
section Ends
variable {p : Program} {l : Launch} {e : Env} {R : Room} {s : State} {m : MethodId} {args : Array Value} {below : List Frame} {meth : Method} {c : Code} {H : Heap} {locs : List Loc} {cells slots : Nat} {Q : State → Prop}
variable {mc ms : Nat} {free : Addr → Prop} {A0 A1 : Nat → Prop} {H0 : Heap} {a : Array Value} {ls : Array Slot} {st0 rest : List Value}
variable {Qc : Array Value → State → Outcome → State → Prop} {XC : String → State → State → Prop}
/-- what a body that may throw owes at its end -/
def vx_MQ (below : List Frame) (Qc : Array Value → State → Outcome → State → Prop) (XC : String → State → State → Prop) (a : Array Value) (s : State) (mc ms : Nat) (free : Addr → Prop) : State → Prop := fun t =>
  ∃ o, t.status = .running ∧ Ended t below o ∧ vx_Q Qc XC mc ms free a s o t
theorem vx_ret {g : JFrame} {mc ms : Nat} (k : W p l e R s m args below meth c H locs cells slots (MQ below Qc args s mc ms free) g) : W p l e R s m args below meth c H locs cells slots (vx_MQ below Qc XC args s mc ms free) g := by
  intro T hT X
  obtain ⟨t, a1, o, b1, b2, b3, b4⟩ := k T hT X
  exact ⟨t, a1, o, b1, b2, Or.inl ⟨b3, b4⟩⟩
/-- not caught here: it goes on to the caller -/
theorem vx_widen {g : JFrame} {q : Addr} {k n : Nat} (h1 : cells ≤ k) (h2 : slots ≤ n) (kk : vx_W p l e R s m args below meth c H locs k n Q g q) : vx_W p l e R s m args below meth c H locs cells slots Q g q := fun T hT X => kk T hT (stand_widen X h1 h2)
theorem vx_out {pc : Nat} {E : String} {ce : Cell} {q : Addr} {mc ms : Nat} (hout : ∀ x ∈ c.exceptionTable.toList, covers x pc = false) (hlocks : meth.locks = false) (hcell : H[q]? = some ce) (hv : ce.vm = .none) (hcl : s.vm.findClass E = some ce.cls)
    (hx : ∀ t : State, t.heap = H → s.vm.Alike t.vm → XC E s t) (hf : ∀ z ∈ locs, free z.base) (hc : cells ≤ mc) (hs : slots ≤ ms) :
    vx_W p l e R s m args below meth c H locs cells slots (vx_MQ below Qc XC args s mc ms free) (F0 m pc ls rest) q := by
  intro T hT X
  obtain ⟨st1, hrun, hend, hW, hsm⟩ := X.leaveThrown q (g := F0 m pc ls rest) rfl rfl rfl hout hlocks
  have hcell9 : (T.setFrames (.throwing q :: below)).heap[q]? = some ce := by
    show T.heap[q]? = some ce
    rw [hT]; exact hcell
  exact ⟨_, st1, .threw q, hrun, hend, Or.inr ⟨q, rfl, E, ce, locs, hx _ hT hW.alike, hcell9, hv, hcl, hW, hsm.mono hc hs, hf⟩⟩
theorem vx_frame {U : State} {k n : Nat} (h : s.sameButNew ({ U with vm := s.vm } : State) locs k n) : s.heap.size ≤ U.heap.size ∧ ∀ q : Nat, q < s.heap.size → (∀ z ∈ locs, z.base ≠ q) → U.heap[q]? = s.heap[q]? := by
  obtain ⟨-, h2, -, -, -, h6⟩ := h
  refine ⟨h2, fun q hq hz => ?_⟩
  obtain ⟨c9, e1, e2, e3, e4⟩ := h6 q _ (Array.getElem?_eq_getElem hq)
  have hs : c9.slots = (s.heap[q]).slots := Array.ext_getElem? fun i => e4 i fun hm => hz _ hm rfl
  have h9 : c9 = s.heap[q] := by
    rw [hs] at e2
    exact e2
  have e5 : U.heap[q]? = some c9 := e1
  rw [e5, h9, Array.getElem?_eq_getElem hq]
/-- the words of a throw but the four that speak of the heap -/
def vx_no (w : Cond) : Bool := decide (w ≠ .isRef (.static Bundle.tN "UNASSIGNED_STACK" Bundle.steD)) && decide (w ≠ .isRef (.static Bundle.tN "SUPPRESSED_SENTINEL" Bundle.listD)) && decide (w ≠ .laysStatic Bundle.tN "UNASSIGNED_STACK" Bundle.steD) && decide (w ≠ .laysStatic Bundle.tN "SUPPRESSED_SENTINEL" Bundle.listD)
def vx_at0 (own : String) (ic : Nat) (X : String) (names : List String) : List Cond := (Bundle.ownAtoms0 own ic X names).filter vx_no
def vx_atS (own : String) (ic : Nat) (X : String) (names : List String) : List Cond := (Bundle.ownAtoms own ic X names).filter vx_no
/-- a word that the tables alone decide, or a good one -/
def vx_ot (w : Cond) : Bool := w.onTables || goodWord w
theorem vx_ot_at {args a' : Array Value} {s U : State} {w : Cond} (hW : s.WarmedH U.vm) (hvm : s.vm = U.vm) (hg : vx_ot w = true) (h : w.before args s = true) : w.before a' U = true := by
  simp only [vx_ot, Bool.or_eq_true] at hg
  rcases hg with hg | hg
  · exact va_tabs hg hvm h
  · exact word_at hW (good_of_word hg) h
/-- a list's words: the good ones out of the method's own list, the others by premises of their own -/
theorem vx_hat {args : Array Value} {s : State} {L B : List Cond} (h1 : ∀ w ∈ L.filter goodWord, w.before args s = true) (h2 : ∀ w ∈ L.filter (fun w => !goodWord w), w ∈ B) (h3 : ∀ w ∈ B, w.before args s = true) : ∀ w ∈ L, w.before args s = true := by
  intro w hw
  by_cases g : goodWord w = true
  · exact h1 w (List.mem_filter.mpr ⟨hw, g⟩)
  · refine h3 w (h2 w (List.mem_filter.mpr ⟨hw, ?_⟩))
    show (!goodWord w) = true
    cases hgw : goodWord w
    · rfl
    · exact absurd hgw g
theorem vx_c {args : Array Value} {s : State} {w : Cond} {B : List Cond} (h : w.before args s = true) (t : ∀ w ∈ B, w.before args s = true) : ∀ w' ∈ w :: B, w'.before args s = true := fun w' h' => (List.mem_cons.mp h').elim (fun e => by rw [e]; exact h) (t w')
theorem vx_n {args : Array Value} {s : State} : ∀ w ∈ ([] : List Cond), w.before args s = true := fun _ h => nomatch h
theorem vx_own {args : Array Value} {s : State} {L : List Cond} (h1 : ∀ w ∈ L.filter vx_no, w.before args s = true)
    (hU : (Cond.isRef (.static Bundle.tN "UNASSIGNED_STACK" Bundle.steD)).before args s = true) (hN : (Cond.isRef (.static Bundle.tN "SUPPRESSED_SENTINEL" Bundle.listD)).before args s = true)
    (lU : (Cond.laysStatic Bundle.tN "UNASSIGNED_STACK" Bundle.steD).before args s = true) (lN : (Cond.laysStatic Bundle.tN "SUPPRESSED_SENTINEL" Bundle.listD).before args s = true) : ∀ w ∈ L, w.before args s = true := by
  intro w hw
  by_cases e1 : w = .isRef (.static Bundle.tN "UNASSIGNED_STACK" Bundle.steD)
  · rw [e1]; exact hU
  · by_cases e2 : w = .isRef (.static Bundle.tN "SUPPRESSED_SENTINEL" Bundle.listD)
    · rw [e2]; exact hN
    · by_cases e3 : w = .laysStatic Bundle.tN "UNASSIGNED_STACK" Bundle.steD
      · rw [e3]; exact lU
      · by_cases e4 : w = .laysStatic Bundle.tN "SUPPRESSED_SENTINEL" Bundle.listD
        · rw [e4]; exact lN
        · exact h1 w (List.mem_filter.mpr ⟨hw, by unfold vx_no; rw [decide_eq_true e1, decide_eq_true e2, decide_eq_true e3, decide_eq_true e4]; rfl⟩)
/-- where a static field lies, its class's statics cell in H -/
def vx_L (C n d : String) (A : Nat → Prop) (U : State) (H : Heap) : Prop := ∃ (c : ClassId) (k : Class) (i : Nat) (f : Field) (a : Nat) (cell : Cell), U.vm.findClass C = some c ∧ U.fieldFound? C n d = some (c, k, i, f) ∧ f.isStatic = true ∧ k.statics = some a ∧ H[a]? = some cell ∧ cell.vm.isStatics = true ∧ cell.cls = c ∧ f.slot < cell.slots.size ∧ k.staticTypes[f.slot]? = some f.type ∧ ¬ A a
theorem vx_L.moved {C n d : String} {A : Nat → Prop} {u U : State} {H : Heap} (hvm : u.vm.Alike U.vm) (h : vx_L C n d A u H) : vx_L C n d A U H := by
  obtain ⟨c, k, i, f, a, cell, h1, h2, h3, h4, h5, h6, h7, h8, h9, h10⟩ := h
  obtain ⟨k', hi', he⟩ := State.fieldFound?_setVm hvm h2
  exact ⟨c, k', i, f, a, cell, by rw [hvm.findClass]; exact h1, hi', h3, by rw [he]; exact h4, h5, h6, h7, h8, by rw [he]; exact h9, h10⟩
theorem vx_L.kept {C n d : String} {A : Nat → Prop} {U : State} {H H1 : Heap} (h : vx_L C n d A U H) (hq : ∀ a : Nat, a < H.size → ¬ A a → H1[a]? = H[a]?) : vx_L C n d A U H1 := by
  obtain ⟨c, k, i, f, a, cell, h1, h2, h3, h4, h5, h6, h7, h8, h9, h10⟩ := h
  exact ⟨c, k, i, f, a, cell, h1, h2, h3, h4, by rw [hq a (Array.getElem?_eq_some_iff.mp h5).1 h10]; exact h5, h6, h7, h8, h9, h10⟩
theorem vx_L.narrow {C n d : String} {A B : Nat → Prop} {U : State} {H : Heap} (h : vx_L C n d A U H) (hAB : ∀ q, B q → A q) : vx_L C n d B U H := by
  obtain ⟨c, k, i, f, a, cell, h1, h2, h3, h4, h5, h6, h7, h8, h9, h10⟩ := h
  exact ⟨c, k, i, f, a, cell, h1, h2, h3, h4, h5, h6, h7, h8, h9, fun z => h10 (hAB _ z)⟩
theorem vx_L.word {C n d : String} {A : Nat → Prop} {s : State} {args : Array Value} (h : vx_L C n d A s s.heap) : (Cond.laysStatic C n d).before args s = true := by
  obtain ⟨c, k, i, f, a, cell, h1, h2, h3, h4, h5, h6, h7, h8, h9, -⟩ := h
  show (Cond.laysStatic C n d).holds args s none s [] = true
  exact Cond.laysStatic_of h1 h2 h3 h4 h5 h6 h7 h8 h9
/-- .. and what it holds: null or some reference -/
def vx_Zq (C n d : String) (A : Nat → Prop) (U : State) (H : Heap) : Prop := va_Zq C n d A U H ∧ vx_L C n d A U H
theorem vx_Zq.moved {C n d : String} {A : Nat → Prop} {u U : State} {H : Heap} (hvm : u.vm.Alike U.vm) (h : vx_Zq C n d A u H) : vx_Zq C n d A U H := ⟨va_Zq.moved hvm h.1, vx_L.moved hvm h.2⟩
theorem vx_Zq.kept {C n d : String} {A : Nat → Prop} {U : State} {H H1 : Heap} (h : vx_Zq C n d A U H) (hq : ∀ a : Nat, a < H.size → ¬ A a → H1[a]? = H[a]?) : vx_Zq C n d A U H1 := ⟨va_Zq.kept h.1 hq, vx_L.kept h.2 hq⟩
theorem vx_Zq.narrow {C n d : String} {A B : Nat → Prop} {U : State} {H : Heap} (h : vx_Zq C n d A U H) (hAB : ∀ q, B q → A q) : vx_Zq C n d B U H := ⟨va_Zq.narrow h.1 hAB, vx_L.narrow h.2 hAB⟩
theorem vx_Zqof {args : Array Value} {s : State} {C n d : String} {A : Nat → Prop} (hl : (Cond.laysStatic C n d).before args s = true) (hini : (Cond.initialized C).before args s = true) (h : (Cond.isRef (.static C n d)).before args s = true) (hA : ∀ a : Nat, a < s.heap.size → ¬ A a) : vx_Zq C n d A s s.heap := by
  refine ⟨va_Zqof hl hini h hA, ?_⟩
  obtain ⟨c, k, i, f, a, cell, h1, h2, h3, h4, h5, h6, h7, h8, h9⟩ := Cond.laysStatic_spec hl
  exact ⟨c, k, i, f, a, cell, h1, h2, h3, h4, h5, h6, h7, h8, h9, hA a (Array.getElem?_eq_some_iff.mp h5).1⟩
theorem vx_isRef {C n d : String} {v : Value} {A : Nat → Prop} {s : State} {args : Array Value} (h : va_Z C n d v A s s.heap) (hv : v.isRef = true) : (Cond.isRef (.static C n d)).before args s = true := by
  obtain ⟨cf, kf, fi, f, a, cell, h1, h2, h3, h4, h5, h6, h7, -⟩ := h
  have he : (Term.static C n d).eval args s none [] s = some v := by
    simp [Term.eval, State.fieldNamed?, h1, h2, h4, h5, h6, h7]
  simp only [Cond.before, Cond.holds, Cond.value, he]
  cases v <;> simp_all [Value.isRef]
theorem vx_isRefq {C n d : String} {A : Nat → Prop} {s : State} {args : Array Value} (h : va_Zq C n d A s s.heap) : (Cond.isRef (.static C n d)).before args s = true := by
  rcases h with h | ⟨t, h⟩
  · exact vx_isRef h rfl
  · exact vx_isRef h rfl
/-- the same frame, seen from here: as if the method were called anew in this heap -/
theorem vx_rebase {T : State} (X : Stand p l e R s m args below meth c T locs cells slots) {R' : Room} (hf : R'.frames ≤ R.frames) (hl : R'.locals ≤ R.locals) (hc : cells + R'.cells ≤ R.cells) (hs : slots + R'.slots ≤ R.slots) :
    Stand p l e R' ((T.setVm s.vm).setFrames (.invoking m args :: below)) m args below meth c T [] 0 0 := by
  have htop : (T.setVm s.vm).topJava?.isSome := X.here.top
  have hF : ((T.setVm s.vm).setFrames (.invoking m args :: below)).frames = .invoking m args :: below := State.frames_setFrames _ (State.cur_lt_of_top htop)
  obtain ⟨g₀, hg0⟩ := Option.isSome_iff_exists.mp htop
  obtain ⟨r, hr⟩ := State.topJava?_eq_some.mp hg0
  have hl9 : e.platform.stackLimits (T.setVm s.vm).me = e.platform.stackLimits s.me := X.limits
  have hb9 : (T.setVm s.vm).me.stackBytes = s.me.stackBytes := X.bytes
  refine ⟨X.admits, X.cas, X.clock, hF, ?_, X.hears, X.method, X.code, X.here, X.tail, X.warmed, ?_, ?_, ?_⟩
  · have h := X.room
    have hU : ((T.setVm s.vm).setFrames (.invoking m args :: below)).localsInUse = s.localsInUse := by
      rw [State.localsInUse_invoking hF (meth := meth) (c := c) X.method X.code, State.localsInUse_invoking X.frames X.method X.code]
    simp only [State.hasRoom, Bool.and_eq_true, decide_eq_true_eq] at h ⊢
    obtain ⟨⟨⟨⟨h1, h2, h3, h4, h5, h6⟩, h7⟩, h8⟩, h9⟩ := h
    rw [X.frames, List.length_cons] at h2 h3
    have q1 := X.heapSize
    have q2 := X.used
    simp only [hF, hU, List.length_cons, State.stackLimits_setFrames, State.stackBytes_setFrames, hl9, hb9]
    refine ⟨⟨⟨⟨by omega, by omega, by omega, by omega, by omega, h6⟩, ?_⟩, ?_⟩, X.book⟩
    · show T.heap.size + R'.cells ≤ e.platform.maxCells
      omega
    · show T.slotsUsed + R'.slots ≤ e.platform.maxSlots
      omega
  · rw [State.stackLimits_setFrames]; rfl
  · rw [State.stackBytes_setFrames]; rfl
  · refine ⟨?_, Nat.le_refl _, Nat.le_refl _, ?_, ?_, fun a c9 h9 => ⟨c9, h9, rfl, rfl, fun _ _ => rfl⟩⟩
    · obtain ⟨t, ht, -⟩ := State.frames_cons hr
      show T.setVm s.vm = { ((T.setVm s.vm).setFrames (.invoking m args :: below)).setFrames (T.setVm s.vm).frames with heap := T.heap, slotsUsed := T.slotsUsed }
      rw [State.setFrames_setFrames, State.setFrames_self ht]
      rfl
    · show T.slotsUsed = T.slotsUsed + ((T.heap.toList.drop T.heap.size).map (·.slots.size)).sum
      rw [List.drop_eq_nil_of_le (Nat.le_of_eq Array.length_toList)]
      rfl
    · show ((T.heap.toList.drop T.heap.size).map (·.slots.size)).sum ≤ 0
      rw [List.drop_eq_nil_of_le (Nat.le_of_eq Array.length_toList)]
      exact Nat.le_refl _
/-- 'throw new E()': new; dup; invokespecial; athrow -/
theorem vx_throw0 {cc : ByteArray} {pc : Nat} (hexec : p.tables.exec = Jvm.exec) (hb : c.code = cc) (hl : l.stackTraces = false) {own cls : String} {names : List String} {ik ic mc ms : Nat} {A : Nat → Prop}
    (hown : s.vm.findClass own = some m.cls) (hcls : Bundle.fit cls = true) (hnames : ∀ n ∈ names, Bundle.fit n = true)
    (hk : (Cond.classLink own ik cls).before args s = true) (hini : (Cond.initialized cls).before args s = true) (hat : ∀ w ∈ vx_at0 own ic cls names, w.before args s = true)
    (hgood : ∀ w ∈ Cond.classLink own ik cls :: Cond.initialized cls :: vx_at0 own ic cls names, vx_ot w = true)
    (hU : vx_Zq Bundle.tN "UNASSIGNED_STACK" Bundle.steD A s s.heap) (hN : vx_Zq Bundle.tN "SUPPRESSED_SENTINEL" Bundle.listD A s s.heap) (hS : va_S A s.heap H locs) (hsize : ls.size = c.maxLocals)
    (d0 : decode cc pc = .ok (.new ik, 3)) (d3 : decode cc (pc + 3) = .ok (.dup, 1)) (d4 : decode cc (pc + 4) = .ok (.invokespecial ic, 3)) (d7 : decode cc (pc + 7) = .ok (.athrow, 1))
    (hout : ∀ x ∈ c.exceptionTable.toList, covers x (pc + 7) = false)
    (hRframes : names.length + 3 < R.frames) (hRlocals : (rest.map fun v => v.category).sum + (13 * (names.length + 1) + 42) ≤ R.locals) (hRcells : cells + 1 ≤ R.cells) (hRslots : slots + 6 ≤ R.slots) (hlocks : meth.locks = false)
    (hx : ∀ t : State, s.vm.Alike t.vm → H.size ≤ t.heap.size → (∀ q : Nat, q < H.size → t.heap[q]? = H[q]?) → XC cls s t)
    (hf : ∀ z ∈ locs, free z.base) (hc : cells + 1 ≤ mc) (hs : slots + 6 ≤ ms) :
    W p l e R s m args below meth c H locs cells slots (vx_MQ below Qc XC args s mc ms free) (F0 m pc ls rest) := by
  intro T hT X
  have htr : e.platform.stackTraces = false := (show e.platform.stackTraces = l.stackTraces by rw [X.admits.platform]).trans hl
  have Y := vx_rebase X (R' := { frames := R.frames, locals := R.locals, cells := 1, slots := 6 }) (Nat.le_refl _) (Nat.le_refl _) hRcells hRslots
  obtain ⟨s', hA⟩ : ∃ z, z = (T.setVm s.vm).setFrames (.invoking m args :: below) := ⟨_, rfl⟩
  rw [← hA] at Y
  have hvm : s'.vm = s.vm := by rw [hA]; rfl
  have hhp : s'.heap = H := by rw [hA]; exact hT
  have hW0 : s.WarmedH s'.vm := by rw [hvm]; exact State.WarmedH.refl s
  have hat' : ∀ w ∈ vx_at0 own ic cls names, w.before args s' = true := fun w hw => vx_ot_at hW0 hvm.symm (hgood w (List.mem_cons_of_mem _ (List.mem_cons_of_mem _ hw))) (hat w hw)
  have hk' : (Cond.classLink own ik cls).before args s' = true := vx_ot_at hW0 hvm.symm (hgood _ List.mem_cons_self) hk
  have hini' : (Cond.initialized cls).before args s' = true := vx_ot_at hW0 hvm.symm (hgood _ (List.mem_cons_of_mem _ List.mem_cons_self)) hini
  have hU' : vx_Zq Bundle.tN "UNASSIGNED_STACK" Bundle.steD A s' s'.heap := by rw [hhp]; exact vx_Zq.moved hW0.alike (hU.kept hS.2.1)
  have hN' : vx_Zq Bundle.tN "SUPPRESSED_SENTINEL" Bundle.listD A s' s'.heap := by rw [hhp]; exact vx_Zq.moved hW0.alike (hN.kept hS.2.1)
  have h : ∀ w ∈ Bundle.ownAtoms0 own ic cls names, w.before args s' = true := vx_own hat' (vx_isRefq hU'.1) (vx_isRefq hN'.1) hU'.2.word hN'.2.word
  have hown' : s'.vm.findClass own = some m.cls := by rw [hvm]; exact hown
  have hins : (Cond.instantiable cls 6).before args s' = true := h _ (by simp [Bundle.ownAtoms0])
  obtain ⟨vm₁, cX, kX, hfX, hkX, -, -, X₁, st1⟩ := Y.newCold hexec (own := own) (C := cls) (index := ik) (n := 6) hown' hk' hins hini'
    (g := F0 m pc ls rest) rfl (by rw [hb]; exact d0) (Nat.le_refl _) (Nat.le_refl _)
  generalize hT1 : (T.setVm vm₁).pushCell { cls := cX, slots := kX.instanceTypes.map defaultValue, vm := .none } = T1 at X₁ st1
  have hcat : (Value.ref T.heap.size).category = 1 := rfl
  have hcellA : T1.heap[T.heap.size]? = some (freshCell cX kX) := by rw [← hT1]; exact State.heap_pushCell_size _ _
  have d3' : decode c.code (pc + 3) = .ok (.dup, 1) := by rw [hb]; exact d3
  obtain ⟨U, hsteps, hrun, hend, hW, hsame, ce, hce, hO⟩ := X₁.ctorThrow0 hexec htr (own := own) (cls := cls) (names := names) (ic := ic) hown' hcls hnames h (fun x hx => nomatch hx) hfX hkX hcellA (by rw [hhp, hT]; exact Nat.le_refl _)
    (g := { method := m, pc := pc + 4, locals := ls, stack := .ref T.heap.size :: .ref T.heap.size :: rest, locked := none }) rfl hsize rfl rfl (rest := rest) rfl
    (by rw [hb]; exact d4) (by rw [hb]; exact d7) hout hRframes (by simp only [List.map_cons, List.sum_cons, hcat]; omega) hlocks
  obtain ⟨f1, f2⟩ := vx_frame hsame
  rw [hhp] at f1 f2
  have hWs : s.WarmedH U.vm := State.WarmedH.trans hW0 hW
  have hcl : s.vm.findClass cls = some ce.cls := by
    have h9 := hO.cls
    rw [hvm] at h9
    exact h9
  have hall : s.sameButNew ({ U with vm := s.vm } : State) locs mc ms := by
    subst hA
    obtain ⟨e1, e2⟩ := hsame
    rw [State.setFrames_setFrames] at e1
    have h2 : (T.setVm s.vm).sameButNew ({ U with vm := s.vm } : State) [] (0 + 1) (0 + 6) := ⟨e1, e2⟩
    have h3 := X.same.trans h2
    rw [List.append_nil] at h3
    exact h3.mono hc hs
  refine ⟨U, ?_, .threw T.heap.size, hrun, hend, Or.inr ⟨T.heap.size, rfl, cls, ce, locs, hx U hWs.alike f1 (fun q hq => f2 q hq (fun z hz => nomatch hz)), hce, hO.vm, hcl, hWs, hall, hf⟩⟩
  refine st1 _ ?_
  show Steps p.tables e below (T1.setTop { method := m, pc := pc + 3, locals := ls, stack := .ref T.heap.size :: rest, locked := none }) _
  jvm_step X₁.here [X₁.here.top, hexec, d3', Value.category]
  exact hsteps
/-- 'throw new E("text")': new; dup; ldc; invokespecial; athrow -/
theorem vx_throwS {cc : ByteArray} {pc : Nat} (hexec : p.tables.exec = Jvm.exec) (hb : c.code = cc) (hl : l.stackTraces = false) {own cls text : String} {names : List String} {ik is ic mc ms sa : Nat} {A : Nat → Prop}
    (hown : s.vm.findClass own = some m.cls) (hcls : Bundle.fit cls = true) (hnames : ∀ n ∈ names, Bundle.fit n = true)
    (hk : (Cond.classLink own ik cls).before args s = true) (hini : (Cond.initialized cls).before args s = true) (hstr : vk_R own is text sa s) (hat : ∀ w ∈ vx_atS own ic cls names, w.before args s = true)
    (hgood : ∀ w ∈ Cond.classLink own ik cls :: Cond.initialized cls :: vx_atS own ic cls names, vx_ot w = true)
    (hU : vx_Zq Bundle.tN "UNASSIGNED_STACK" Bundle.steD A s s.heap) (hN : vx_Zq Bundle.tN "SUPPRESSED_SENTINEL" Bundle.listD A s s.heap) (hS : va_S A s.heap H locs) (hsize : ls.size = c.maxLocals)
    (d0 : decode cc pc = .ok (.new ik, 3)) (d3 : decode cc (pc + 3) = .ok (.dup, 1)) (d4 : decode cc (pc + 4) = .ok (.ldc is, 2)) (d6 : decode cc (pc + 6) = .ok (.invokespecial ic, 3)) (d9 : decode cc (pc + 9) = .ok (.athrow, 1))
    (hout : ∀ x ∈ c.exceptionTable.toList, covers x (pc + 9) = false)
    (hRframes : names.length + 3 < R.frames) (hRlocals : (rest.map fun v => v.category).sum + (13 * (names.length + 1) + 43) ≤ R.locals) (hRcells : cells + 1 ≤ R.cells) (hRslots : slots + 6 ≤ R.slots) (hlocks : meth.locks = false)
    (hx : ∀ t : State, s.vm.Alike t.vm → H.size ≤ t.heap.size → (∀ q : Nat, q < H.size → t.heap[q]? = H[q]?) → XC cls s t)
    (hf : ∀ z ∈ locs, free z.base) (hc : cells + 1 ≤ mc) (hs : slots + 6 ≤ ms) :
    W p l e R s m args below meth c H locs cells slots (vx_MQ below Qc XC args s mc ms free) (F0 m pc ls rest) := by
  intro T hT X
  have htr : e.platform.stackTraces = false := (show e.platform.stackTraces = l.stackTraces by rw [X.admits.platform]).trans hl
  have Y := vx_rebase X (R' := { frames := R.frames, locals := R.locals, cells := 1, slots := 6 }) (Nat.le_refl _) (Nat.le_refl _) hRcells hRslots
  obtain ⟨s', hA⟩ : ∃ z, z = (T.setVm s.vm).setFrames (.invoking m args :: below) := ⟨_, rfl⟩
  rw [← hA] at Y
  have hvm : s'.vm = s.vm := by rw [hA]; rfl
  have hhp : s'.heap = H := by rw [hA]; exact hT
  have hW0 : s.WarmedH s'.vm := by rw [hvm]; exact State.WarmedH.refl s
  have hat' : ∀ w ∈ vx_atS own ic cls names, w.before args s' = true := fun w hw => vx_ot_at hW0 hvm.symm (hgood w (List.mem_cons_of_mem _ (List.mem_cons_of_mem _ hw))) (hat w hw)
  have hk' : (Cond.classLink own ik cls).before args s' = true := vx_ot_at hW0 hvm.symm (hgood _ List.mem_cons_self) hk
  have hini' : (Cond.initialized cls).before args s' = true := vx_ot_at hW0 hvm.symm (hgood _ (List.mem_cons_of_mem _ List.mem_cons_self)) hini
  have hU' : vx_Zq Bundle.tN "UNASSIGNED_STACK" Bundle.steD A s' s'.heap := by rw [hhp]; exact vx_Zq.moved hW0.alike (hU.kept hS.2.1)
  have hN' : vx_Zq Bundle.tN "SUPPRESSED_SENTINEL" Bundle.listD A s' s'.heap := by rw [hhp]; exact vx_Zq.moved hW0.alike (hN.kept hS.2.1)
  have h : ∀ w ∈ Bundle.ownAtoms own ic cls names, w.before args s' = true := vx_own hat' (vx_isRefq hU'.1) (vx_isRefq hN'.1) hU'.2.word hN'.2.word
  have hown' : s'.vm.findClass own = some m.cls := by rw [hvm]; exact hown
  have hins : (Cond.instantiable cls 6).before args s' = true := h _ (by simp [Bundle.ownAtoms])
  obtain ⟨vm₁, cX, kX, hfX, hkX, -, -, X₁, st1⟩ := Y.newCold hexec (own := own) (C := cls) (index := ik) (n := 6) hown' hk' hins hini'
    (g := F0 m pc ls rest) rfl (by rw [hb]; exact d0) (Nat.le_refl _) (Nat.le_refl _)
  generalize hT1 : (T.setVm vm₁).pushCell { cls := cX, slots := kX.instanceTypes.map defaultValue, vm := .none } = T1 at X₁ st1
  have hcat : (Value.ref T.heap.size).category = 1 := rfl
  have hcellA : T1.heap[T.heap.size]? = some (freshCell cX kX) := by rw [← hT1]; exact State.heap_pushCell_size _ _
  have d3' : decode c.code (pc + 3) = .ok (.dup, 1) := by rw [hb]; exact d3
  have d4' : decode c.code (pc + 4) = .ok (.ldc is, 2) := by rw [hb]; exact d4
  have hstr' : vk_R own is text sa s' := vk_R.warm hW0 hstr
  obtain ⟨U, hsteps, hrun, hend, hW, hsame, ce, hce, hO⟩ := X₁.ctorThrowS hexec htr (own := own) (cls := cls) (names := names) (ic := ic) hown' hcls hnames h (fun x hx => nomatch hx) hfX hkX hcellA (by rw [hhp, hT]; exact Nat.le_refl _) (msg := .ref sa) rfl
    (g := { method := m, pc := pc + 6, locals := ls, stack := .ref sa :: .ref T.heap.size :: .ref T.heap.size :: rest, locked := none }) rfl hsize rfl rfl (rest := rest) rfl
    (by rw [hb]; exact d6) (by rw [hb]; exact d9) hout hRframes (by simp only [List.map_cons, List.sum_cons, hcat]; omega) hlocks
  obtain ⟨f1, f2⟩ := vx_frame hsame
  rw [hhp] at f1 f2
  have hWs : s.WarmedH U.vm := State.WarmedH.trans hW0 hW
  have hcl : s.vm.findClass cls = some ce.cls := by
    have h9 := hO.cls
    rw [hvm] at h9
    exact h9
  have hall : s.sameButNew ({ U with vm := s.vm } : State) locs mc ms := by
    subst hA
    obtain ⟨e1, e2⟩ := hsame
    rw [State.setFrames_setFrames] at e1
    have h2 : (T.setVm s.vm).sameButNew ({ U with vm := s.vm } : State) [] (0 + 1) (0 + 6) := ⟨e1, e2⟩
    have h3 := X.same.trans h2
    rw [List.append_nil] at h3
    exact h3.mono hc hs
  refine ⟨U, ?_, .threw T.heap.size, hrun, hend, Or.inr ⟨T.heap.size, rfl, cls, ce, locs, hx U hWs.alike f1 (fun q hq => f2 q hq (fun z hz => nomatch hz)), hce, hO.vm, hcl, hWs, hall, hf⟩⟩
  refine st1 _ ?_
  show Steps p.tables e below (T1.setTop { method := m, pc := pc + 3, locals := ls, stack := .ref T.heap.size :: rest, locked := none }) _
  jvm_step X₁.here [X₁.here.top, hexec, d3', Value.category]
  exact X₁.ldcString hexec (own := own) (text := text) (index := is) (a := sa) hown' hstr'.1 hstr'.2
    (g := { method := m, pc := pc + 4, locals := ls, stack := .ref T.heap.size :: .ref T.heap.size :: rest, locked := none }) rfl d4' _ hsteps
/-- 'throw new E("text")', the text by a wide index -/
theorem vx_throwSW {cc : ByteArray} {pc : Nat} (hexec : p.tables.exec = Jvm.exec) (hb : c.code = cc) (hl : l.stackTraces = false) {own cls text : String} {names : List String} {ik is ic mc ms sa : Nat} {A : Nat → Prop}
    (hown : s.vm.findClass own = some m.cls) (hcls : Bundle.fit cls = true) (hnames : ∀ n ∈ names, Bundle.fit n = true)
    (hk : (Cond.classLink own ik cls).before args s = true) (hini : (Cond.initialized cls).before args s = true) (hstr : vk_R own is text sa s) (hat : ∀ w ∈ vx_atS own ic cls names, w.before args s = true)
    (hgood : ∀ w ∈ Cond.classLink own ik cls :: Cond.initialized cls :: vx_atS own ic cls names, vx_ot w = true)
    (hU : vx_Zq Bundle.tN "UNASSIGNED_STACK" Bundle.steD A s s.heap) (hN : vx_Zq Bundle.tN "SUPPRESSED_SENTINEL" Bundle.listD A s s.heap) (hS : va_S A s.heap H locs) (hsize : ls.size = c.maxLocals)
    (d0 : decode cc pc = .ok (.new ik, 3)) (d3 : decode cc (pc + 3) = .ok (.dup, 1)) (d4 : decode cc (pc + 4) = .ok (.ldc_w is, 3)) (d7 : decode cc (pc + 7) = .ok (.invokespecial ic, 3)) (d10 : decode cc (pc + 10) = .ok (.athrow, 1))
    (hout : ∀ x ∈ c.exceptionTable.toList, covers x (pc + 10) = false)
    (hRframes : names.length + 3 < R.frames) (hRlocals : (rest.map fun v => v.category).sum + (13 * (names.length + 1) + 43) ≤ R.locals) (hRcells : cells + 1 ≤ R.cells) (hRslots : slots + 6 ≤ R.slots) (hlocks : meth.locks = false)
    (hx : ∀ t : State, s.vm.Alike t.vm → H.size ≤ t.heap.size → (∀ q : Nat, q < H.size → t.heap[q]? = H[q]?) → XC cls s t)
    (hf : ∀ z ∈ locs, free z.base) (hc : cells + 1 ≤ mc) (hs : slots + 6 ≤ ms) :
    W p l e R s m args below meth c H locs cells slots (vx_MQ below Qc XC args s mc ms free) (F0 m pc ls rest) := by
  intro T hT X
  have htr : e.platform.stackTraces = false := (show e.platform.stackTraces = l.stackTraces by rw [X.admits.platform]).trans hl
  have Y := vx_rebase X (R' := { frames := R.frames, locals := R.locals, cells := 1, slots := 6 }) (Nat.le_refl _) (Nat.le_refl _) hRcells hRslots
  obtain ⟨s', hA⟩ : ∃ z, z = (T.setVm s.vm).setFrames (.invoking m args :: below) := ⟨_, rfl⟩
  rw [← hA] at Y
  have hvm : s'.vm = s.vm := by rw [hA]; rfl
  have hhp : s'.heap = H := by rw [hA]; exact hT
  have hW0 : s.WarmedH s'.vm := by rw [hvm]; exact State.WarmedH.refl s
  have hat' : ∀ w ∈ vx_atS own ic cls names, w.before args s' = true := fun w hw => vx_ot_at hW0 hvm.symm (hgood w (List.mem_cons_of_mem _ (List.mem_cons_of_mem _ hw))) (hat w hw)
  have hk' : (Cond.classLink own ik cls).before args s' = true := vx_ot_at hW0 hvm.symm (hgood _ List.mem_cons_self) hk
  have hini' : (Cond.initialized cls).before args s' = true := vx_ot_at hW0 hvm.symm (hgood _ (List.mem_cons_of_mem _ List.mem_cons_self)) hini
  have hU' : vx_Zq Bundle.tN "UNASSIGNED_STACK" Bundle.steD A s' s'.heap := by rw [hhp]; exact vx_Zq.moved hW0.alike (hU.kept hS.2.1)
  have hN' : vx_Zq Bundle.tN "SUPPRESSED_SENTINEL" Bundle.listD A s' s'.heap := by rw [hhp]; exact vx_Zq.moved hW0.alike (hN.kept hS.2.1)
  have h : ∀ w ∈ Bundle.ownAtoms own ic cls names, w.before args s' = true := vx_own hat' (vx_isRefq hU'.1) (vx_isRefq hN'.1) hU'.2.word hN'.2.word
  have hown' : s'.vm.findClass own = some m.cls := by rw [hvm]; exact hown
  have hins : (Cond.instantiable cls 6).before args s' = true := h _ (by simp [Bundle.ownAtoms])
  obtain ⟨vm₁, cX, kX, hfX, hkX, -, -, X₁, st1⟩ := Y.newCold hexec (own := own) (C := cls) (index := ik) (n := 6) hown' hk' hins hini'
    (g := F0 m pc ls rest) rfl (by rw [hb]; exact d0) (Nat.le_refl _) (Nat.le_refl _)
  generalize hT1 : (T.setVm vm₁).pushCell { cls := cX, slots := kX.instanceTypes.map defaultValue, vm := .none } = T1 at X₁ st1
  have hcat : (Value.ref T.heap.size).category = 1 := rfl
  have hcellA : T1.heap[T.heap.size]? = some (freshCell cX kX) := by rw [← hT1]; exact State.heap_pushCell_size _ _
  have d3' : decode c.code (pc + 3) = .ok (.dup, 1) := by rw [hb]; exact d3
  have d4' : decode c.code (pc + 4) = .ok (.ldc_w is, 3) := by rw [hb]; exact d4
  have hstr' : vk_R own is text sa s' := vk_R.warm hW0 hstr
  obtain ⟨U, hsteps, hrun, hend, hW, hsame, ce, hce, hO⟩ := X₁.ctorThrowS hexec htr (own := own) (cls := cls) (names := names) (ic := ic) hown' hcls hnames h (fun x hx => nomatch hx) hfX hkX hcellA (by rw [hhp, hT]; exact Nat.le_refl _) (msg := .ref sa) rfl
    (g := { method := m, pc := pc + 7, locals := ls, stack := .ref sa :: .ref T.heap.size :: .ref T.heap.size :: rest, locked := none }) rfl hsize rfl rfl (rest := rest) rfl
    (by rw [hb]; exact d7) (by rw [hb]; exact d10) hout hRframes (by simp only [List.map_cons, List.sum_cons, hcat]; omega) hlocks
  obtain ⟨f1, f2⟩ := vx_frame hsame
  rw [hhp] at f1 f2
  have hWs : s.WarmedH U.vm := State.WarmedH.trans hW0 hW
  have hcl : s.vm.findClass cls = some ce.cls := by
    have h9 := hO.cls
    rw [hvm] at h9
    exact h9
  have hall : s.sameButNew ({ U with vm := s.vm } : State) locs mc ms := by
    subst hA
    obtain ⟨e1, e2⟩ := hsame
    rw [State.setFrames_setFrames] at e1
    have h2 : (T.setVm s.vm).sameButNew ({ U with vm := s.vm } : State) [] (0 + 1) (0 + 6) := ⟨e1, e2⟩
    have h3 := X.same.trans h2
    rw [List.append_nil] at h3
    exact h3.mono hc hs
  refine ⟨U, ?_, .threw T.heap.size, hrun, hend, Or.inr ⟨T.heap.size, rfl, cls, ce, locs, hx U hWs.alike f1 (fun q hq => f2 q hq (fun z hz => nomatch hz)), hce, hO.vm, hcl, hWs, hall, hf⟩⟩
  refine st1 _ ?_
  show Steps p.tables e below (T1.setTop { method := m, pc := pc + 3, locals := ls, stack := .ref T.heap.size :: rest, locked := none }) _
  jvm_step X₁.here [X₁.here.top, hexec, d3', Value.category]
  exact X₁.ldcStringW hexec (own := own) (text := text) (index := is) (a := sa) hown' hstr'.1 hstr'.2
    (g := { method := m, pc := pc + 4, locals := ls, stack := .ref T.heap.size :: .ref T.heap.size :: rest, locked := none }) rfl d4' _ hsteps
end Ends
section Bodies
variable {l : Launch}
theorem vx_ofW {y : MethodName} {ws ws' : List Cond} {rm : Room} {Pc : Array Value → State → Prop} {Qc : Array Value → State → Outcome → State → Prop} {XC : String → State → State → Prop} {mc ms : Nat} {free : Addr → Prop} {cc : ByteArray} {maxL : Nat} {ret : Option FieldType}
    (hy : plainName y.cls = true) (hw : ws = Cond.code y cc maxL ret :: ws')
    (body : ∀ p e s m args below meth c s₁, BodyLoose p l y (headSpec ws rm) cc maxL ret e s m args below meth c s₁ → c.maxLocals = maxL → (∀ x ∈ c.exceptionTable.toList, False) → Pc args s →
      W p l e (headSpec ws rm).room s m args below meth c s.heap [] 0 0 (vx_MQ below Qc XC args s mc ms free) (entryFrame m args maxL)) : vx_Met l y ws rm Pc Qc XC mc ms free := by
  refine MetFree.of_bodyS (code := cc) (maxLocals := maxL) (ret := ret) hy ?_ ?_
  · intro args s m h hn
    obtain ⟨meth, c, h1, h2, h3, h4, h5, h6, -, -⟩ := Cond.code_spec hn (atoms_spec (ws := ws) h _ (by rw [hw]; exact List.mem_cons_self))
    exact ⟨meth, c, h1, h2, h3, h4, h5, h6⟩
  · intro p e s m args below meth c s₁ B hml hP _
    have hh0 : s₁.heap = s.heap := by rw [B.state]; rfl
    have ht : ∀ x ∈ c.exceptionTable.toList, False := by
      obtain ⟨meth9, c9, h1, h2, -, -, -, -, h7, -⟩ := Cond.code_spec B.named (atoms_spec (ws := ws) B.pre _ (by rw [hw]; exact List.mem_cons_self))
      cases Option.some.inj (h1.symm.trans B.method)
      cases Option.some.inj (h2.symm.trans (Stand.of_body B).code)
      intro x hx
      rw [Array.isEmpty_iff.mp h7] at hx
      cases hx
    obtain ⟨t, a1, o, b1, b2, b3⟩ := body p e s m args below meth c s₁ B hml ht hP s₁ hh0 (Stand.of_body B)
    exact ⟨t, o, a1, b1, b2, b3⟩
/-- the table of a body with handlers -/
theorem vx_table {p : Program} {x y : MethodName} {S : Spec} {cc bytes : ByteArray} {maxL maxL' : Nat} {ret ret' : Option FieldType} {e : Env} {s s₁ : State} {m : MethodId} {args : Array Value} {below : List Frame} {meth : Method} {c : Code} {hh : List (Nat × Nat × Nat × Nat)}
    (B : BodyLoose p l y S cc maxL ret e s m args below meth c s₁) (h : (Cond.codeWith y bytes maxL' ret' hh).before args s = true) : c.exceptionTable.toList = tableOf hh := by
  obtain ⟨m9, meth9, c9, hn9, h1, h2, -, -, h6, -⟩ := Cond.codeWith_spec h
  cases Option.some.inj (hn9.symm.trans B.named)
  cases Option.some.inj (h1.symm.trans B.method)
  cases Option.some.inj (h2.symm.trans (Stand.of_body B).code)
  rw [← h6, table_eq]
end Bodies
end VXA
/-! ===== END ===== -/
/-! ===== BEGIN a static call of a method with an exception table ===== -/
section VXS
variable {p : Program} {l : Launch} {e : Env} {R : Room} {s : State} {m : MethodId} {args : Array Value} {below : List Frame} {meth : Method} {c : Code} {T : State} {H : Heap} {locs : List Loc} {cells slots : Nat}
abbrev vx_CSW (R : Room) (s : State) (args : Array Value) (own : String) (index : Nat) (y : MethodName) (bytes : ByteArray) (maxL : Nat) (ret : Option FieldType) (hh : List (Nat × Nat × Nat × Nat)) (ws : List Cond) (rm : Room) (mc ms n : Nat) : Prop :=
  (rm.cells = mc ∧ rm.slots = ms ∧ rm.frames + 1 ≤ R.frames ∧ 8 + (maxL + 11) + rm.locals ≤ R.locals ∧ (∀ w ∈ ws, ∀ (a' : Array Value) (U : State), s.WarmedH U.vm → w.before a' U = true) ∧ Cond.codeWith y bytes maxL ret hh ∈ ws) ∧
  (Cond.codeWith y bytes maxL ret hh).before args s = true ∧ (Cond.initialized y.cls).before args s = true ∧ (y.cls ≠ "java/lang/invoke/MethodHandle" ∧ y.cls ≠ "java/lang/invoke/VarHandle") ∧
  (∀ sig, parseMethodDescriptor y.desc = some sig → n = sig.parameters.length) ∧ (Cond.methodLink own index y).before args s = true ∧ (Cond.static y).before args s = true
theorem vx_cwSW {own : String} {index maxL mc ms : Nat} {y : MethodName} {bytes : ByteArray} {ret : Option FieldType} {hh : List (Nat × Nat × Nat × Nat)} {Ts ws ws' : List Cond} {rm : Room} (n : Nat) (ht : ∀ w ∈ Ts, w.before args s = true) (hT : GoodIn Ts (va_wsS own index y ws)) (hw : ws = Cond.codeWith y bytes maxL ret hh :: ws') (hrc : rm.cells = mc) (hrs : rm.slots = ms)
    (hd : y.cls ≠ "java/lang/invoke/MethodHandle" ∧ y.cls ≠ "java/lang/invoke/VarHandle" ∧ (parseMethodDescriptor y.desc).map (fun d => d.parameters.length) = some n) (hR : rm.frames + 1 ≤ R.frames ∧ 8 + (maxL + 11) + rm.locals ≤ R.locals) :
    vx_CSW R s args own index y bytes maxL ret hh ws rm mc ms n := by
  have ok : ∀ w ∈ va_wsS own index y ws, w.before args s = true := fun w h => ht w (hT w h).1
  have hG : GoodIn Ts ws := fun w h => hT w (by unfold va_wsS; exact List.mem_append_right _ h)
  have hc : Cond.codeWith y bytes maxL ret hh ∈ ws := by rw [hw]; exact List.mem_cons_self
  refine ⟨⟨hrc, hrs, hR.1, hR.2, pay_in ht hG, hc⟩, ht _ (hG _ hc).1, ok _ (by simp [va_wsS]), ⟨hd.1, hd.2.1⟩, fun sig h => ?_, ok _ (by simp [va_wsS]), ok _ (by simp [va_wsS])⟩
  have h2 := hd.2.2
  rw [h] at h2
  exact (Option.some.inj h2).symm
theorem vx_callSW (X : Stand p l e R s m args below meth c T locs cells slots) (hexec : p.tables.exec = Jvm.exec) {own : String} {index : Nat} {y : MethodName} {bytes : ByteArray} {maxL : Nat} {ret : Option FieldType} {hh : List (Nat × Nat × Nat × Nat)}
    (hown : s.vm.findClass own = some m.cls) (hlink : (Cond.methodLink own index y).before args s = true) (hstat : (Cond.static y).before args s = true) (hinit : (Cond.initialized y.cls).before args s = true)
    (hcode : (Cond.codeWith y bytes maxL ret hh).before args s = true) (hy : y.cls ≠ "java/lang/invoke/MethodHandle" ∧ y.cls ≠ "java/lang/invoke/VarHandle")
    {W9 : Nat} {Pre : Pt → Array Value → Prop} {Post : Pt → Array Value → Option Value → Pt → Prop} (hK : Back l R p e below s args y 3 W9 Pre Post)
    {g : JFrame} (hg : g.method = m) (hsize : g.locals.size = c.maxLocals) {argsL rest : List Value} (hlen : ∀ sig, parseMethodDescriptor y.desc = some sig → argsL.length = sig.parameters.length)
    (hstack : g.stack = argsL.reverse ++ rest) (hW : 2 * g.monitorRoom + (rest.map fun v => v.category).sum ≤ W9) (hdg : decode c.code g.pc = .ok (.invokestatic index, 3))
    (hpre : ∀ vm₁, s.WarmedH vm₁ → Pre ⟨T.setVm vm₁, locs, cells, slots⟩ argsL.toArray) :
    ∃ (v : Option Value) (vm₁ : Vm) (B : Pt), s.WarmedH vm₁ ∧ Stand p l e R s m args below meth c B.U B.locs B.cells B.slots ∧ Post ⟨T.setVm vm₁, locs, cells, slots⟩ argsL.toArray v B ∧
      ∀ target, Steps p.tables e below (B.U.setTop { g with pc := g.pc + 3, stack := v.toList ++ rest }) target → Steps p.tables e below (T.setTop g) target := by
  obtain ⟨mk, methM, cM, hnamed, hmethM, -, -, -, -, -, -, hsigM⟩ := Cond.codeWith_spec hcode
  have hstatic : methM.isStatic = true := Cond.static_spec hnamed hmethM hstat
  obtain ⟨kP, hkP, -⟩ := className_of_methodNamed hnamed
  have hinitP : kP.init = .initialized := Cond.initialized_spec (findClass_of_methodNamed hnamed) hkP hinit
  obtain ⟨vm₁, X₁, hstep₁⟩ := X.invokestatic hexec hown hlink hnamed hmethM hstatic hkP hinitP hy (g := g) hg (argsL := argsL) (rest := rest) (hlen _ hsigM) hstack hdg
  obtain ⟨v, B, X', hpost, hsteps⟩ := hK m meth c ⟨T.setVm vm₁, locs, cells, slots⟩ { g with stack := rest } (.invokestatic index) mk argsL.toArray X₁ hg hsize hdg hW (X₁.named hnamed) (hpre vm₁ X₁.warmed)
  exact ⟨v, vm₁, B, X₁.warmed, X', hpost, fun target h => hstep₁ _ fun acts => by rw [doInvoke_state]; exact hsteps.trans h⟩
theorem vx_runSW {y : MethodName} {bytes cc : ByteArray} {maxL nL mc ms n index : Nat} {ret : Option FieldType} {hh : List (Nat × Nat × Nat × Nat)} {ws : List Cond} {rm : Room} {Pc : Array Value → State → Prop} {Qc : Array Value → State → Outcome → State → Prop} {free : Addr → Prop} {Ts : List Cond} {own : String} {As rest : List Value} {g : JFrame}
    (S : CallFix p m c cc nL s args Ts own) (hM : Met l y ws rm Pc Qc mc ms free) (cw : vx_CSW R s args own index y bytes maxL ret hh ws rm mc ms n) (hp : PreS s H Pc As)
    (hg : g.method = m) (hn : As.length = n) (hsize : g.locals.size = nL) (hstack : g.stack = As.reverse ++ rest) (hW : 2 * g.monitorRoom + (rest.map fun v => v.category).sum ≤ 8) (hdg : decode cc g.pc = .ok (.invokestatic index, 3)) (hf : cells + mc ≤ R.cells ∧ slots + ms ≤ R.slots) :
    va_Run p l e R s m args below meth c H locs cells slots mc ms g rest (Qc As.toArray) (free) := by
  obtain ⟨⟨hrc, hrs, hfr, hlo, hws, hcw⟩, hcode, hini, hy, hlen, hl, hstt⟩ := cw
  have hK : Back l R p e below s args y 3 8 (PreOf R mc ms Pc) (PostOf Qc mc ms free) := va_backW (hh := hh) (bytes := bytes) (maxL := maxL) (ret := ret) hM hp.1 hrc hrs hfr hlo hws hcw (fun a' U hW => word_at hW (Or.inl (by first | rfl | simp [Cond.onTables, Cond.keeps, Cond.steady])) hini)
  obtain ⟨hx, hb, hml, ho, -⟩ := S
  intro T hT X
  obtain ⟨v, vm₁, ⟨U', l2, c2, s2⟩, hW₁, X', ⟨g', mk, t, L, e1, e2, hq, h1, hL, h2, h3⟩, st⟩ := vx_callSW X hx (hh := hh) (bytes := bytes) (maxL := maxL) (ret := ret) ho hl hstt hini hcode hy hK hg (hsize.trans hml.symm) (argsL := As) (rest := rest) (fun sig h => hn.trans (hlen sig h)) hstack hW (by rw [hb]; exact hdg)
    (fun vm₁ hW₁ => ⟨hf.1, hf.2, hp.2 (T.setVm vm₁) hT hW₁⟩)
  dsimp only [Pt.U, Pt.locs, Pt.cells, Pt.slots] at X' e1 e2 h1 h2 h3 st
  subst h1; subst h2; subst h3
  exact ⟨v, (T.setVm vm₁).calling g' mk As.toArray, t, U', L, hT, X', hL, e1, e2, hq, st⟩
/-- not caught here, past rows that name other classes: it goes on to the caller -/
theorem vx_outP {p : Program} {l : Launch} {e : Env} {R : Room} {s : State} {m : MethodId} {args : Array Value} {below : List Frame} {meth : Method} {c : Code} {H : Heap} {locs : List Loc} {cells slots : Nat} {free : Addr → Prop} {ls : Array Slot} {rest : List Value} {Qc : Array Value → State → Outcome → State → Prop} {XC : String → State → State → Prop}
    {pc : Nat} {own E : String} {ce : Cell} {q : Addr} {mc ms : Nat} (hown : s.vm.findClass own = some m.cls) (hlocks : meth.locks = false)
    (hpass : ∀ z ∈ c.exceptionTable.toList, covers z pc = false ∨ (z.catchType ≠ 0 ∧ ∃ nm : String, (Cond.classLink own z.catchType nm).before args s = true ∧ va_Nc E nm s)) (hcell : H[q]? = some ce) (hv : ce.vm = .none) (hcl : s.vm.findClass E = some ce.cls)
    (hx : ∀ t : State, t.heap = H → s.vm.Alike t.vm → XC E s t) (hf : ∀ z ∈ locs, free z.base) (hc : cells ≤ mc) (hs : slots ≤ ms) :
    vx_W p l e R s m args below meth c H locs cells slots (vx_MQ below Qc XC args s mc ms free) (F0 m pc ls rest) q := by
  intro T hT X
  have hpl : e.platform.magicAccessors = ({} : Platform).magicAccessors := by rw [X.admits.platform]
  obtain ⟨vm', hW', X', st⟩ := X.outThrough hlocks q (g := F0 m pc ls rest) rfl rfl rfl (cell := ce) (by rw [hT]; exact hcell) (by rw [hv]; rfl)
    (by obtain ⟨k9, h9, -⟩ := Vm.findClass_spec hcl; exact ⟨k9, h9⟩) (fun z hz => by
      rcases hpass z hz with h | ⟨hz0, nm, hl1, hn1⟩
      · exact Or.inl h
      · obtain ⟨c6, hc6, hcl6⟩ := Cond.classLink_spec hown hl1 e.platform hpl
        obtain ⟨a8, b8, h1, h2, h3⟩ := hn1
        cases Option.some.inj (h1.symm.trans hcl)
        cases Option.some.inj (h2.symm.trans hc6)
        exact Or.inr ⟨hz0, _, hcl6, h3⟩)
  obtain ⟨g₀, hfr⟩ := X'.frames_eq
  have hcell9 : ((T.setVm vm').setFrames (.throwing q :: below)).heap[q]? = some ce := by
    show T.heap[q]? = some ce
    rw [hT]; exact hcell
  have hend : Ended ((T.setVm vm').setFrames (.throwing q :: below)) below (.threw q) := State.frames_setFrames _ (State.cur_lt_of_frames hfr)
  refine ⟨(T.setVm vm').setFrames (.throwing q :: below), ?_, .threw q, X'.here.running, hend, Or.inr ⟨q, rfl, E, ce, locs, hx _ hT (X'.ends _).1.alike, hcell9, hv, hcl, (X'.ends _).1, (X'.ends _).2.mono hc hs, hf⟩⟩
  rw [X.pushThrowing_eq]
  exact st
/-- a thing of a world lies in the heap -/
theorem vx_lt {D : va_G} {cl : List vw_C} {ws : va_W} {H1 : Heap} (h : va_P D cl ws H1) {k : Nat} {q : Nat × va_E} (hk : ws[k]? = some q) : q.1 < H1.size := (h k q hk).lt
end VXS
/-! ===== END ===== -/
/-! ===== BEGIN methods with a table of their own: called by a name, returning or throwing ===== -/
section VXH
/-! vx_backW, vx_callVX, vx_callSX, vx_callVW, vx_runVW, vx_runVX, vx_runSX, vx_ofWH follow the same proofs as their sisters above (Free/Laws.lean, Shelf42/LK1.lean); vx_outP calls Shelf42/NT130.lean (outThrough). -/
section
variable {l : Launch} {R : Room} {p : Program} {e : Env} {below : List Frame} {s : State} {sargs : Array Value} {y : MethodName} {len W9 : Nat}
theorem vx_backW {ws : List Cond} {rm : Room} {Pc : Array Value → State → Prop} {Qc : Array Value → State → Outcome → State → Prop} {XC : String → State → State → Prop} {mc ms : Nat} {free : Addr → Prop} {bytes : ByteArray} {maxL : Nat} {ret : Option FieldType} {hh : List (Nat × Nat × Nat × Nat)}
    (hM : vx_Met l y ws rm Pc Qc XC mc ms free) (hblind : FrameBlind Pc) (hrc : rm.cells = mc) (hrs : rm.slots = ms)
    (hframes : rm.frames + 1 ≤ R.frames) (hlocals : W9 + (maxL + 11) + rm.locals ≤ R.locals)
    (hws : ∀ w ∈ ws, ∀ a' U, s.WarmedH U.vm → w.before a' U = true) (hcode : Cond.codeWith y bytes maxL ret hh ∈ ws) (hinit : ∀ a' U, s.WarmedH U.vm → (Cond.initialized y.cls).before a' U = true) :
    vx_Back l R p e below s sargs y len W9 (PreOf R mc ms Pc) (PostOf Qc mc ms free) (vx_Post XC mc ms free) := by
  intro m meth c A g ig mk a X hg hsize hdg hW hn hp
  have h1 : (headSpec ws rm).pre.before a A.U = true := atoms_intro fun w hw => hws w hw _ _ X.warmed
  have h2 : (Cond.codeWith y bytes maxL ret hh).before a A.U = true := hws _ hcode _ _ X.warmed
  have h3 : (Cond.initialized y.cls).before a A.U = true := hinit _ _ X.warmed
  have h4 : A.cells + (headSpec ws rm).room.cells ≤ R.cells := by rw [show (headSpec ws rm).room.cells = mc from hrc]; exact hp.1
  have h5 : A.slots + (headSpec ws rm).room.slots ≤ R.slots := by rw [show (headSpec ws rm).room.slots = ms from hrs]; exact hp.2.1
  have hPc : Pc a (A.U.calling g mk a) := hblind _ _ _ _ hp.2.2
  obtain ⟨U, Ls, c0, s0⟩ := A
  dsimp only [Pt.U, Pt.locs, Pt.cells, Pt.slots] at h1 h2 h3 h4 h5 X hn hPc ⊢
  obtain ⟨m9, methY, cY, hn9, hmY, hcY, -, hlY, -⟩ := Cond.codeWith_spec h2
  cases Option.some.inj (hn9.symm.trans hn)
  obtain ⟨kY, hkY, -⟩ := className_of_methodNamed hn
  have hinitY : kY.init = .initialized := Cond.initialized_spec (findClass_of_methodNamed hn) hkY h3
  have h : At U g.method c below := by rw [hg]; exact X.here
  have hlocals9 : W9 + (maxL + 11) + (headSpec ws rm).room.locals ≤ R.locals := hlocals
  have happ : (headSpec ws rm).appliesLoose y e.platform (U.calling g mk a) = true :=
    Spec.appliesLoose_calling (g := g) h hdg hn hkY hinitY
      (X.room_calling (g := g) (R' := (headSpec ws rm).room) hsize hmY hcY hframes (by rw [hlY]; omega) h4 h5) h1
  obtain ⟨mid, hmid⟩ := h.above
  have hfr : (U.setTop g).frames = (.java g :: mid) ++ below := by rw [State.frames_setTop' g h.top, hmid]; rfl
  obtain ⟨o, s₂, hsteps, -, hend, hq⟩ := Steps.callFree hM p X.admits X.cas X.clock (acts := []) hfr happ hPc trivial
  have hq' : vx_Q Qc XC mc ms free a (U.calling g mk a) o s₂ := hq
  rw [State.frames_setTop' g h.top] at hend
  obtain ⟨g₀, hg0⟩ := Option.isSome_iff_exists.mp h.top
  obtain ⟨r, hr⟩ := State.topJava?_eq_some.mp hg0
  have hr' : (({ U with heap := s₂.heap, slotsUsed := s₂.slotsUsed } : State).setVm s₂.vm).frames = .java g₀ :: r := hr
  rcases hq' with ⟨hqc, L, hfe, hL⟩ | ⟨q, rfl, E, ce, L, hx, hce, hcv, hcl, hW₂, hsm, hL⟩
  · obtain ⟨⟨v, rfl⟩, hW₂, e2, q2, q3, q4, q5, q6⟩ := id hfe
    have e3 : s₂ = ({ (U.calling g mk a).setFrames s₂.frames with heap := s₂.heap, slotsUsed := s₂.slotsUsed } : State).setVm s₂.vm := by
      have : s₂ = ({ s₂ with vm := (U.calling g mk a).vm } : State).setVm s₂.vm := rfl
      rw [e2] at this
      exact this
    obtain ⟨c₂, i₂, len₂, hc₂, hd₂, hf₂⟩ := hend
    have hW' : U.WarmedH s₂.vm := hW₂
    have hcc : c₂ = c := by
      have h1 : s₂.code? g.method = U.code? g.method := by
        rw [State.code?_eq, State.code?_eq, hW'.alike.method?]
      exact Option.some.inj (hc₂.symm.trans (h1.trans h.code))
    subst hcc
    have hlen : len₂ = len := by rw [hdg] at hd₂; cases hd₂; rfl
    subst hlen
    have hs₂ : s₂ = (({ U with heap := s₂.heap, slotsUsed := s₂.slotsUsed } : State).setVm s₂.vm).setTop { g with pc := g.pc + len₂, stack := v.toList ++ g.stack } := by
      refine e3.trans ?_
      rw [hf₂, State.calling_eq h.top, State.setFrames_setFrames, State.setTop_of_frames _ hr', hr]
      rfl
    have hsame : U.sameButNew ({ U with heap := s₂.heap, slotsUsed := s₂.slotsUsed } : State) L mc ms := by
      refine ⟨?_, q2, q3, q4, q5, q6⟩
      obtain ⟨t, ht, -⟩ := State.frames_cons hr
      show ({ U with heap := s₂.heap, slotsUsed := s₂.slotsUsed } : State) = { U.setFrames U.frames with heap := s₂.heap, slotsUsed := s₂.slotsUsed }
      rw [State.setFrames_self ht]
    subst hg
    refine Or.inl ⟨v, ⟨(({ U with heap := s₂.heap, slotsUsed := s₂.slotsUsed } : State).setVm s₂.vm), Ls ++ L, c0 + mc, s0 + ms⟩,
      ⟨X.admits, X.cas, X.clock, X.frames, X.room, X.hears, X.method, X.code, (X.here.setHeapUsed s₂.heap s₂.slotsUsed).setVm hW'.alike, X.tail, State.WarmedH.trans X.warmed hW', X.limits, X.bytes, X.same.trans (hsame.setVm s.vm)⟩,
      ⟨g, mk, s₂, L, rfl, rfl, hqc, rfl, hL, rfl, rfl⟩, ?_⟩
    show Steps p.tables e below _ ((({ U with heap := s₂.heap, slotsUsed := s₂.slotsUsed } : State).setVm s₂.vm).setTop { g with pc := g.pc + len₂, stack := v.toList ++ g.stack })
    rw [← hs₂]
    exact hsteps
  · obtain ⟨e2, q2, q3, q4, q5, q6⟩ := id hsm
    have e3 : s₂ = ({ (U.calling g mk a).setFrames s₂.frames with heap := s₂.heap, slotsUsed := s₂.slotsUsed } : State).setVm s₂.vm := by
      have : s₂ = ({ s₂ with vm := (U.calling g mk a).vm } : State).setVm s₂.vm := rfl
      rw [e2] at this
      exact this
    have hf₂ : s₂.frames = .throwing q :: .java g :: U.frames.tail := hend
    have hW' : U.WarmedH s₂.vm := hW₂
    have hs₂ : s₂ = ((({ U with heap := s₂.heap, slotsUsed := s₂.slotsUsed } : State).setVm s₂.vm).setTop g).pushFrame (.throwing q) := by
      refine e3.trans ?_
      rw [hf₂, State.calling_eq h.top, State.setFrames_setFrames, State.pushFrame, State.frames_setTop _ hr', State.setTop_of_frames _ hr', State.setFrames_setFrames, hr]
      rfl
    have hsame : U.sameButNew ({ U with heap := s₂.heap, slotsUsed := s₂.slotsUsed } : State) L mc ms := by
      refine ⟨?_, q2, q3, q4, q5, q6⟩
      obtain ⟨t, ht, -⟩ := State.frames_cons hr
      show ({ U with heap := s₂.heap, slotsUsed := s₂.slotsUsed } : State) = { U.setFrames U.frames with heap := s₂.heap, slotsUsed := s₂.slotsUsed }
      rw [State.setFrames_self ht]
    subst hg
    refine Or.inr ⟨q, ⟨(({ U with heap := s₂.heap, slotsUsed := s₂.slotsUsed } : State).setVm s₂.vm), Ls ++ L, c0 + mc, s0 + ms⟩,
      ⟨X.admits, X.cas, X.clock, X.frames, X.room, X.hears, X.method, X.code, (X.here.setHeapUsed s₂.heap s₂.slotsUsed).setVm hW'.alike, X.tail, State.WarmedH.trans X.warmed hW', X.limits, X.bytes, X.same.trans (hsame.setVm s.vm)⟩,
      ⟨g, mk, s₂, L, E, ce, rfl, rfl, hx, hce, hcv, hcl, rfl, hL, rfl, rfl⟩, ?_⟩
    show Steps p.tables e below _ (((({ U with heap := s₂.heap, slotsUsed := s₂.slotsUsed } : State).setVm s₂.vm).setTop g).pushFrame (.throwing q))
    rw [← hs₂]
    exact hsteps
end
variable {p : Program} {l : Launch} {e : Env} {R : Room} {s : State} {m : MethodId} {args : Array Value} {below : List Frame} {meth : Method} {c : Code} {T : State} {H : Heap} {locs : List Loc} {cells slots : Nat}
theorem vx_callVX (X : Stand p l e R s m args below meth c T locs cells slots) (hexec : p.tables.exec = Jvm.exec) {own C : String} {index : Nat} {y : MethodName} {bytes : ByteArray} {maxL : Nat} {ret : Option FieldType} {hh : List (Nat × Nat × Nat × Nat)}
    (hown : s.vm.findClass own = some m.cls) (hlink : (Cond.methodLink own index y).before args s = true) (hinst : (Cond.instanceMethod y).before args s = true) (hsel : (Cond.selects C y y).before args s = true)
    (hcode : (Cond.codeWith y bytes maxL ret hh).before args s = true) (hy : y.cls ≠ "java/lang/invoke/MethodHandle" ∧ y.cls ≠ "java/lang/invoke/VarHandle")
    {W9 : Nat} {Pre : Pt → Array Value → Prop} {Post : Pt → Array Value → Option Value → Pt → Prop} {PostX : Pt → Array Value → Addr → Pt → Prop} (hK : vx_Back l R p e below s args y 3 W9 Pre Post PostX)
    {b : Addr} {cellB : Cell} (hcell : T.heap[b]? = some cellB) (hobj : cellB.vm.isStatics = false) (hcls : s.vm.findClass C = some cellB.cls)
    {g : JFrame} (hg : g.method = m) (hsize : g.locals.size = c.maxLocals) {argsL rest : List Value} (hlen : ∀ sig, parseMethodDescriptor y.desc = some sig → argsL.length = sig.parameters.length)
    (hstack : g.stack = argsL.reverse ++ .ref b :: rest) (hW : 2 * g.monitorRoom + (rest.map fun v => v.category).sum ≤ W9) (hdg : decode c.code g.pc = .ok (.invokevirtual index, 3))
    (hpre : ∀ vm₁, s.WarmedH vm₁ → Pre ⟨T.setVm vm₁, locs, cells, slots⟩ (Value.ref b :: argsL).toArray) :
    (∃ (v : Option Value) (vm₁ : Vm) (B : Pt), s.WarmedH vm₁ ∧ Stand p l e R s m args below meth c B.U B.locs B.cells B.slots ∧ Post ⟨T.setVm vm₁, locs, cells, slots⟩ (Value.ref b :: argsL).toArray v B ∧
      ∀ target, Steps p.tables e below (B.U.setTop { g with pc := g.pc + 3, stack := v.toList ++ rest }) target → Steps p.tables e below (T.setTop g) target) ∨
    (∃ (q : Addr) (vm₁ : Vm) (B : Pt), s.WarmedH vm₁ ∧ Stand p l e R s m args below meth c B.U B.locs B.cells B.slots ∧ PostX ⟨T.setVm vm₁, locs, cells, slots⟩ (Value.ref b :: argsL).toArray q B ∧
      Steps p.tables e below (T.setTop g) ((B.U.setTop { g with stack := rest }).pushFrame (.throwing q))) := by
  obtain ⟨mk, methM, hnamed, hmethM, hstM, habM⟩ := Cond.instanceMethod_spec hinst
  obtain ⟨m8, methM', cM, hn8, hmethM', -, -, -, -, -, -, hsigM⟩ := Cond.codeWith_spec hcode
  cases Option.some.inj (hn8.symm.trans hnamed)
  cases hmethM.symm.trans hmethM'
  obtain ⟨c2, r2, m2, q1, q2, q3, q4, kP, hkP, hkPi⟩ := Cond.selects_spec hsel
  cases hcls.symm.trans q1
  cases (State.methodFound?_of_named hnamed hy).symm.trans q2
  cases hnamed.symm.trans q3
  have hselP : selectMethod e.platform s.vm cellB.cls mk = .method mk := by rw [Launch.admits_selectMethod X.admits]; exact q4
  obtain ⟨vm₁, X₁, hstep₁⟩ := X.invokevirtual hexec hown hlink hnamed hmethM hstM hkP hkPi hy (a := b) (cell := cellB) hcell
    (fun z h => by rw [h] at hobj; cases hobj) hselP hmethM habM hkP hkPi (g := g) hg (argsL := argsL) (rest := rest) (hlen _ hsigM) hstack hdg
  rcases hK m meth c ⟨T.setVm vm₁, locs, cells, slots⟩ { g with stack := rest } (.invokevirtual index) mk (Value.ref b :: argsL).toArray X₁ hg hsize hdg hW (X₁.named hnamed) (hpre vm₁ X₁.warmed) with ⟨v, B, X', hpost, hsteps⟩ | ⟨q, B, X', hpost, hsteps⟩
  · exact Or.inl ⟨v, vm₁, B, X₁.warmed, X', hpost, fun target h => hstep₁ _ fun acts => by rw [doInvoke_state]; exact hsteps.trans h⟩
  · exact Or.inr ⟨q, vm₁, B, X₁.warmed, X', hpost, hstep₁ _ fun acts => by rw [doInvoke_state]; exact hsteps⟩
theorem vx_callSX (X : Stand p l e R s m args below meth c T locs cells slots) (hexec : p.tables.exec = Jvm.exec) {own : String} {index : Nat} {y : MethodName} {bytes : ByteArray} {maxL : Nat} {ret : Option FieldType} {hh : List (Nat × Nat × Nat × Nat)}
    (hown : s.vm.findClass own = some m.cls) (hlink : (Cond.methodLink own index y).before args s = true) (hstat : (Cond.static y).before args s = true) (hinit : (Cond.initialized y.cls).before args s = true)
    (hcode : (Cond.codeWith y bytes maxL ret hh).before args s = true) (hy : y.cls ≠ "java/lang/invoke/MethodHandle" ∧ y.cls ≠ "java/lang/invoke/VarHandle")
    {W9 : Nat} {Pre : Pt → Array Value → Prop} {Post : Pt → Array Value → Option Value → Pt → Prop} {PostX : Pt → Array Value → Addr → Pt → Prop} (hK : vx_Back l R p e below s args y 3 W9 Pre Post PostX)
    {g : JFrame} (hg : g.method = m) (hsize : g.locals.size = c.maxLocals) {argsL rest : List Value} (hlen : ∀ sig, parseMethodDescriptor y.desc = some sig → argsL.length = sig.parameters.length)
    (hstack : g.stack = argsL.reverse ++ rest) (hW : 2 * g.monitorRoom + (rest.map fun v => v.category).sum ≤ W9) (hdg : decode c.code g.pc = .ok (.invokestatic index, 3))
    (hpre : ∀ vm₁, s.WarmedH vm₁ → Pre ⟨T.setVm vm₁, locs, cells, slots⟩ argsL.toArray) :
    (∃ (v : Option Value) (vm₁ : Vm) (B : Pt), s.WarmedH vm₁ ∧ Stand p l e R s m args below meth c B.U B.locs B.cells B.slots ∧ Post ⟨T.setVm vm₁, locs, cells, slots⟩ argsL.toArray v B ∧
      ∀ target, Steps p.tables e below (B.U.setTop { g with pc := g.pc + 3, stack := v.toList ++ rest }) target → Steps p.tables e below (T.setTop g) target) ∨
    (∃ (q : Addr) (vm₁ : Vm) (B : Pt), s.WarmedH vm₁ ∧ Stand p l e R s m args below meth c B.U B.locs B.cells B.slots ∧ PostX ⟨T.setVm vm₁, locs, cells, slots⟩ argsL.toArray q B ∧
      Steps p.tables e below (T.setTop g) ((B.U.setTop { g with stack := rest }).pushFrame (.throwing q))) := by
  obtain ⟨mk, methM, cM, hnamed, hmethM, -, -, -, -, -, -, hsigM⟩ := Cond.codeWith_spec hcode
  have hstatic : methM.isStatic = true := Cond.static_spec hnamed hmethM hstat
  obtain ⟨kP, hkP, -⟩ := className_of_methodNamed hnamed
  have hinitP : kP.init = .initialized := Cond.initialized_spec (findClass_of_methodNamed hnamed) hkP hinit
  obtain ⟨vm₁, X₁, hstep₁⟩ := X.invokestatic hexec hown hlink hnamed hmethM hstatic hkP hinitP hy (g := g) hg (argsL := argsL) (rest := rest) (hlen _ hsigM) hstack hdg
  rcases hK m meth c ⟨T.setVm vm₁, locs, cells, slots⟩ { g with stack := rest } (.invokestatic index) mk argsL.toArray X₁ hg hsize hdg hW (X₁.named hnamed) (hpre vm₁ X₁.warmed) with ⟨v, B, X', hpost, hsteps⟩ | ⟨q, B, X', hpost, hsteps⟩
  · exact Or.inl ⟨v, vm₁, B, X₁.warmed, X', hpost, fun target h => hstep₁ _ fun acts => by rw [doInvoke_state]; exact hsteps.trans h⟩
  · exact Or.inr ⟨q, vm₁, B, X₁.warmed, X', hpost, hstep₁ _ fun acts => by rw [doInvoke_state]; exact hsteps⟩
theorem vx_callVW (X : Stand p l e R s m args below meth c T locs cells slots) (hexec : p.tables.exec = Jvm.exec) {own C : String} {index : Nat} {y : MethodName} {bytes : ByteArray} {maxL : Nat} {ret : Option FieldType} {hh : List (Nat × Nat × Nat × Nat)}
    (hown : s.vm.findClass own = some m.cls) (hlink : (Cond.methodLink own index y).before args s = true) (hinst : (Cond.instanceMethod y).before args s = true) (hsel : (Cond.selects C y y).before args s = true)
    (hcode : (Cond.codeWith y bytes maxL ret hh).before args s = true) (hy : y.cls ≠ "java/lang/invoke/MethodHandle" ∧ y.cls ≠ "java/lang/invoke/VarHandle")
    {W9 : Nat} {Pre : Pt → Array Value → Prop} {Post : Pt → Array Value → Option Value → Pt → Prop} (hK : Back l R p e below s args y 3 W9 Pre Post)
    {b : Addr} {cellB : Cell} (hcell : T.heap[b]? = some cellB) (hobj : cellB.vm.isStatics = false) (hcls : s.vm.findClass C = some cellB.cls)
    {g : JFrame} (hg : g.method = m) (hsize : g.locals.size = c.maxLocals) {argsL rest : List Value} (hlen : ∀ sig, parseMethodDescriptor y.desc = some sig → argsL.length = sig.parameters.length)
    (hstack : g.stack = argsL.reverse ++ .ref b :: rest) (hW : 2 * g.monitorRoom + (rest.map fun v => v.category).sum ≤ W9) (hdg : decode c.code g.pc = .ok (.invokevirtual index, 3))
    (hpre : ∀ vm₁, s.WarmedH vm₁ → Pre ⟨T.setVm vm₁, locs, cells, slots⟩ (Value.ref b :: argsL).toArray) :
    ∃ (v : Option Value) (vm₁ : Vm) (B : Pt), s.WarmedH vm₁ ∧ Stand p l e R s m args below meth c B.U B.locs B.cells B.slots ∧ Post ⟨T.setVm vm₁, locs, cells, slots⟩ (Value.ref b :: argsL).toArray v B ∧
      ∀ target, Steps p.tables e below (B.U.setTop { g with pc := g.pc + 3, stack := v.toList ++ rest }) target → Steps p.tables e below (T.setTop g) target := by
  obtain ⟨mk, methM, hnamed, hmethM, hstM, habM⟩ := Cond.instanceMethod_spec hinst
  obtain ⟨m8, methM', cM, hn8, hmethM', -, -, -, -, -, -, hsigM⟩ := Cond.codeWith_spec hcode
  cases Option.some.inj (hn8.symm.trans hnamed)
  cases hmethM.symm.trans hmethM'
  obtain ⟨c2, r2, m2, q1, q2, q3, q4, kP, hkP, hkPi⟩ := Cond.selects_spec hsel
  cases hcls.symm.trans q1
  cases (State.methodFound?_of_named hnamed hy).symm.trans q2
  cases hnamed.symm.trans q3
  have hselP : selectMethod e.platform s.vm cellB.cls mk = .method mk := by rw [Launch.admits_selectMethod X.admits]; exact q4
  obtain ⟨vm₁, X₁, hstep₁⟩ := X.invokevirtual hexec hown hlink hnamed hmethM hstM hkP hkPi hy (a := b) (cell := cellB) hcell
    (fun z h => by rw [h] at hobj; cases hobj) hselP hmethM habM hkP hkPi (g := g) hg (argsL := argsL) (rest := rest) (hlen _ hsigM) hstack hdg
  obtain ⟨v, B, X', hpost, hsteps⟩ := hK m meth c ⟨T.setVm vm₁, locs, cells, slots⟩ { g with stack := rest } (.invokevirtual index) mk (Value.ref b :: argsL).toArray X₁ hg hsize hdg hW (X₁.named hnamed) (hpre vm₁ X₁.warmed)
  exact ⟨v, vm₁, B, X₁.warmed, X', hpost, fun target h => hstep₁ _ fun acts => by rw [doInvoke_state]; exact hsteps.trans h⟩
abbrev vx_CVW (R : Room) (s : State) (args : Array Value) (own C : String) (index : Nat) (y : MethodName) (bytes : ByteArray) (maxL : Nat) (ret : Option FieldType) (hh : List (Nat × Nat × Nat × Nat)) (ws : List Cond) (rm : Room) (mc ms n : Nat) : Prop :=
  (rm.cells = mc ∧ rm.slots = ms ∧ rm.frames + 1 ≤ R.frames ∧ 8 + (maxL + 11) + rm.locals ≤ R.locals ∧ (∀ w ∈ ws, ∀ (a' : Array Value) (U : State), s.WarmedH U.vm → w.before a' U = true) ∧ Cond.codeWith y bytes maxL ret hh ∈ ws) ∧
  (Cond.codeWith y bytes maxL ret hh).before args s = true ∧ (Cond.initialized y.cls).before args s = true ∧ (y.cls ≠ "java/lang/invoke/MethodHandle" ∧ y.cls ≠ "java/lang/invoke/VarHandle") ∧
  (∀ sig, parseMethodDescriptor y.desc = some sig → n = sig.parameters.length) ∧ (Cond.methodLink own index y).before args s = true ∧ (Cond.instanceMethod y).before args s = true ∧ (Cond.selects C y y).before args s = true
theorem vx_cwVW {own C : String} {index maxL mc ms : Nat} {y : MethodName} {bytes : ByteArray} {ret : Option FieldType} {hh : List (Nat × Nat × Nat × Nat)} {Ts ws ws' : List Cond} {rm : Room} (n : Nat) (ht : ∀ w ∈ Ts, w.before args s = true) (hT : GoodIn Ts (wsV own index C y ws)) (hw : ws = Cond.codeWith y bytes maxL ret hh :: ws') (hrc : rm.cells = mc) (hrs : rm.slots = ms)
    (hd : y.cls = C ∧ y.cls ≠ "java/lang/invoke/MethodHandle" ∧ y.cls ≠ "java/lang/invoke/VarHandle" ∧ (parseMethodDescriptor y.desc).map (fun d => d.parameters.length) = some n) (hR : rm.frames + 1 ≤ R.frames ∧ 8 + (maxL + 11) + rm.locals ≤ R.locals) :
    vx_CVW R s args own C index y bytes maxL ret hh ws rm mc ms n := by
  obtain ⟨hC, hd⟩ := hd
  subst hC
  have ok : ∀ w ∈ wsV own index y.cls y ws, w.before args s = true := fun w h => ht w (hT w h).1
  have hG : GoodIn Ts ws := fun w h => hT w (by unfold wsV; exact List.mem_append_right _ h)
  have hc : Cond.codeWith y bytes maxL ret hh ∈ ws := by rw [hw]; exact List.mem_cons_self
  refine ⟨⟨hrc, hrs, hR.1, hR.2, pay_in ht hG, hc⟩, ht _ (hG _ hc).1, ok _ (by simp [wsV]), ⟨hd.1, hd.2.1⟩, fun sig h => ?_, ok _ (by simp [wsV]), ok _ (by simp [wsV]), ok _ (by simp [wsV])⟩
  have h2 := hd.2.2
  rw [h] at h2
  exact (Option.some.inj h2).symm
theorem vx_runVW {y : MethodName} {bytes cc : ByteArray} {maxL nL mc ms n index : Nat} {ret : Option FieldType} {hh : List (Nat × Nat × Nat × Nat)} {ws : List Cond} {rm : Room} {Pc : Array Value → State → Prop} {Qc : Array Value → State → Outcome → State → Prop} {free : Addr → Prop} {Ts : List Cond} {own C : String} {b : Addr} {As rest : List Value} {g : JFrame}
    (S : CallFix p m c cc nL s args Ts own) (hM : Met l y ws rm Pc Qc mc ms free) (cw : vx_CVW R s args own C index y bytes maxL ret hh ws rm mc ms n) (hp : PreV s H C b Pc As)
    (hg : g.method = m) (hn : As.length = n) (hsize : g.locals.size = nL) (hstack : g.stack = As.reverse ++ .ref b :: rest) (hW : 2 * g.monitorRoom + (rest.map fun v => v.category).sum ≤ 8) (hdg : decode cc g.pc = .ok (.invokevirtual index, 3)) (hf : cells + mc ≤ R.cells ∧ slots + ms ≤ R.slots) :
    va_Run p l e R s m args below meth c H locs cells slots mc ms g rest (Qc (Value.ref b :: As).toArray) free := by
  obtain ⟨⟨hrc, hrs, hfr, hlo, hws, hcw⟩, hcode, hini, hy, hlen, hl, hin, hse⟩ := cw
  have hK : Back l R p e below s args y 3 8 (PreOf R mc ms Pc) (PostOf Qc mc ms free) := va_backW (hh := hh) (bytes := bytes) (maxL := maxL) (ret := ret) hM hp.1 hrc hrs hfr hlo hws hcw (fun a' U hW => word_at hW (Or.inl (by first | rfl | simp [Cond.onTables, Cond.keeps, Cond.steady])) hini)
  obtain ⟨hx, hb, hml, ho, -⟩ := S
  obtain ⟨-, ⟨cellB, hcB, hoB, hclB⟩, hPc⟩ := hp
  intro T hT X
  obtain ⟨v, vm₁, ⟨U', l2, c2, s2⟩, hW₁, X', ⟨g', mk, t, L, e1, e2, hq, h1, hL, h2, h3⟩, st⟩ := vx_callVW X hx (C := C) (hh := hh) (bytes := bytes) (maxL := maxL) (ret := ret) ho hl hin hse hcode hy hK (by rw [hT]; exact hcB) hoB hclB hg (hsize.trans hml.symm) (argsL := As) (rest := rest) (fun sig h => hn.trans (hlen sig h)) hstack hW (by rw [hb]; exact hdg)
    (fun vm₁ hW₁ => ⟨hf.1, hf.2, hPc (T.setVm vm₁) hT hW₁⟩)
  dsimp only [Pt.U, Pt.locs, Pt.cells, Pt.slots] at X' e1 e2 h1 h2 h3 st
  subst h1; subst h2; subst h3
  exact ⟨v, (T.setVm vm₁).calling g' mk (Value.ref b :: As).toArray, t, U', L, hT, X', hL, e1, e2, hq, st⟩
section
variable {y : MethodName} {bytes cc : ByteArray} {maxL nL mc ms n index : Nat} {ret : Option FieldType} {ws : List Cond} {rm : Room} {Pc : Array Value → State → Prop} {Qc : Array Value → State → Outcome → State → Prop} {XC : String → State → State → Prop} {free : Addr → Prop} {Ts : List Cond} {own C : String} {b : Addr} {As rest : List Value} {g : JFrame}
theorem vx_runVX {hh : List (Nat × Nat × Nat × Nat)} (S : CallFix p m c cc nL s args Ts own) (hM : vx_Met l y ws rm Pc Qc XC mc ms free) (cw : vx_CVW R s args own C index y bytes maxL ret hh ws rm mc ms n) (hp : PreV s H C b Pc As)
    (hg : g.method = m) (hn : As.length = n) (hsize : g.locals.size = nL) (hstack : g.stack = As.reverse ++ .ref b :: rest) (hW : 2 * g.monitorRoom + (rest.map fun v => v.category).sum ≤ 8) (hdg : decode cc g.pc = .ok (.invokevirtual index, 3)) (hf : cells + mc ≤ R.cells ∧ slots + ms ≤ R.slots) :
    vx_Run p l e R s m args below meth c H locs cells slots mc ms g rest (Qc (Value.ref b :: As).toArray) XC free := by
  obtain ⟨⟨hrc, hrs, hfr, hlo, hws, hcw⟩, hcode, hini, hy, hlen, hl, hin, hse⟩ := cw
  have hK : vx_Back l R p e below s args y 3 8 (PreOf R mc ms Pc) (PostOf Qc mc ms free) (vx_Post XC mc ms free) := vx_backW (hh := hh) (bytes := bytes) (maxL := maxL) (ret := ret) hM hp.1 hrc hrs hfr hlo hws hcw (fun a' U hW => word_at hW (Or.inl (by first | rfl | simp [Cond.onTables, Cond.keeps, Cond.steady])) hini)
  obtain ⟨hx, hb, hml, ho, -⟩ := S
  obtain ⟨-, ⟨cellB, hcB, hoB, hclB⟩, hPc⟩ := hp
  intro T hT X
  rcases vx_callVX X hx (C := C) (hh := hh) (bytes := bytes) (maxL := maxL) (ret := ret) ho hl hin hse hcode hy hK (by rw [hT]; exact hcB) hoB hclB hg (hsize.trans hml.symm) (argsL := As) (rest := rest) (fun sig h => hn.trans (hlen sig h)) hstack hW (by rw [hb]; exact hdg)
    (fun vm₁ hW₁ => ⟨hf.1, hf.2, hPc (T.setVm vm₁) hT hW₁⟩) with ⟨v, vm₁, ⟨U', l2, c2, s2⟩, hW₁, X', ⟨g', mk, t, L, e1, e2, hq, h1, hL, h2, h3⟩, st⟩ | ⟨q, vm₁, ⟨U', l2, c2, s2⟩, hW₁, X', ⟨g', mk, t, L, E, ce, e1, e2, hq, hce, hcv, hcl, h1, hL, h2, h3⟩, st⟩
  · dsimp only [Pt.U, Pt.locs, Pt.cells, Pt.slots] at X' e1 e2 h1 h2 h3 st
    subst h1; subst h2; subst h3
    exact Or.inl ⟨v, (T.setVm vm₁).calling g' mk (Value.ref b :: As).toArray, t, U', L, hT, X', hL, e1, e2, hq, st⟩
  · dsimp only [Pt.U, Pt.locs, Pt.cells, Pt.slots] at X' e1 e2 h1 h2 h3 st hcl
    subst h1; subst h2; subst h3
    exact Or.inr ⟨q, (T.setVm vm₁).calling g' mk (Value.ref b :: As).toArray, t, U', L, E, ce, hT, X', hL, e1, e2, hq, hce, hcv, vx_cls hW₁ hcl, st⟩
theorem vx_runSX {hh : List (Nat × Nat × Nat × Nat)} (S : CallFix p m c cc nL s args Ts own) (hM : vx_Met l y ws rm Pc Qc XC mc ms free) (cw : vx_CSW R s args own index y bytes maxL ret hh ws rm mc ms n) (hp : PreS s H Pc As)
    (hg : g.method = m) (hn : As.length = n) (hsize : g.locals.size = nL) (hstack : g.stack = As.reverse ++ rest) (hW : 2 * g.monitorRoom + (rest.map fun v => v.category).sum ≤ 8) (hdg : decode cc g.pc = .ok (.invokestatic index, 3)) (hf : cells + mc ≤ R.cells ∧ slots + ms ≤ R.slots) :
    vx_Run p l e R s m args below meth c H locs cells slots mc ms g rest (Qc As.toArray) XC free := by
  obtain ⟨⟨hrc, hrs, hfr, hlo, hws, hcw⟩, hcode, hini, hy, hlen, hl, hstt⟩ := cw
  have hK : vx_Back l R p e below s args y 3 8 (PreOf R mc ms Pc) (PostOf Qc mc ms free) (vx_Post XC mc ms free) := vx_backW (hh := hh) (bytes := bytes) (maxL := maxL) (ret := ret) hM hp.1 hrc hrs hfr hlo hws hcw (fun a' U hW => word_at hW (Or.inl (by first | rfl | simp [Cond.onTables, Cond.keeps, Cond.steady])) hini)
  obtain ⟨hx, hb, hml, ho, -⟩ := S
  intro T hT X
  rcases vx_callSX X hx (hh := hh) (bytes := bytes) (maxL := maxL) (ret := ret) ho hl hstt hini hcode hy hK hg (hsize.trans hml.symm) (argsL := As) (rest := rest) (fun sig h => hn.trans (hlen sig h)) hstack hW (by rw [hb]; exact hdg)
    (fun vm₁ hW₁ => ⟨hf.1, hf.2, hp.2 (T.setVm vm₁) hT hW₁⟩) with ⟨v, vm₁, ⟨U', l2, c2, s2⟩, hW₁, X', ⟨g', mk, t, L, e1, e2, hq, h1, hL, h2, h3⟩, st⟩ | ⟨q, vm₁, ⟨U', l2, c2, s2⟩, hW₁, X', ⟨g', mk, t, L, E, ce, e1, e2, hq, hce, hcv, hcl, h1, hL, h2, h3⟩, st⟩
  · dsimp only [Pt.U, Pt.locs, Pt.cells, Pt.slots] at X' e1 e2 h1 h2 h3 st
    subst h1; subst h2; subst h3
    exact Or.inl ⟨v, (T.setVm vm₁).calling g' mk As.toArray, t, U', L, hT, X', hL, e1, e2, hq, st⟩
  · dsimp only [Pt.U, Pt.locs, Pt.cells, Pt.slots] at X' e1 e2 h1 h2 h3 st hcl
    subst h1; subst h2; subst h3
    exact Or.inr ⟨q, (T.setVm vm₁).calling g' mk As.toArray, t, U', L, E, ce, hT, X', hL, e1, e2, hq, hce, hcv, vx_cls hW₁ hcl, st⟩
end
end VXH
theorem vx_ofWH {l : Launch} {y : MethodName} {ws ws' : List Cond} {rm : Room} {Pc : Array Value → State → Prop} {Qc : Array Value → State → Outcome → State → Prop} {XC : String → State → State → Prop} {mc ms : Nat} {free : Addr → Prop} {cc : ByteArray} {maxL : Nat} {ret : Option FieldType} {hh : List (Nat × Nat × Nat × Nat)}
    (hy : plainName y.cls = true) (hw : ws = Cond.codeWith y cc maxL ret hh :: ws')
    (body : ∀ p e s m args below meth c s₁, BodyLoose p l y (headSpec ws rm) cc maxL ret e s m args below meth c s₁ → c.maxLocals = maxL → Pc args s →
      W p l e (headSpec ws rm).room s m args below meth c s.heap [] 0 0 (vx_MQ below Qc XC args s mc ms free) (entryFrame m args maxL)) : vx_Met l y ws rm Pc Qc XC mc ms free := by
  refine MetFree.of_bodyS (code := cc) (maxLocals := maxL) (ret := ret) hy ?_ ?_
  · intro args s m h hn
    obtain ⟨m9, meth, c, hn9, h1, h2, h3, h4, -, h5, h6, -⟩ := Cond.codeWith_spec (atoms_spec (ws := ws) h _ (by rw [hw]; exact List.mem_cons_self))
    cases hn.symm.trans hn9
    exact ⟨meth, c, h1, h2, h3, h4, h5, h6⟩
  · intro p e s m args below meth c s₁ B hml hP _
    have hh0 : s₁.heap = s.heap := by rw [B.state]; rfl
    obtain ⟨t, a1, o, b1, b2, b3⟩ := body p e s m args below meth c s₁ B hml hP s₁ hh0 (Stand.of_body B)
    exact ⟨t, o, a1, b1, b2, b3⟩
/-! ===== END ===== -/
end
section
def R_Li : String := "ShadowHeap$Listing"
def R_Me : String := "ShadowHeap$Memory"
def R_Pr : String := "ShadowHeap$Program"
def R_Ru : String := "ShadowHeap$Run"
def R_S : String := "ShadowHeap"
def R_Mo : String := "ShadowHeapModel"
def R_La : String := "ShadowHeapLaw"
def F_Li : u_T := fun k => match k with
  | 0 => ("ShadowHeap$Listing", "operations", "[I", true)
  | 1 => ("ShadowHeap$Listing", "origins", "[I", true)
  | 2 => ("ShadowHeap$Listing", "firstLines", "[I", true)
  | _ => ("ShadowHeap$Listing", "size", "I", false)
def t_Li : Nat → FieldType := fun k => match k with
  | 0 => .array .int
  | 1 => .array .int
  | 2 => .array .int
  | _ => .int
theorem n_Li : ∀ a, a < 4 → ∀ b, b < 4 → a ≠ b → (F_Li a).2.1 ≠ (F_Li b).2.1 := by decide +kernel
theorem t_Li_ok : ∀ k, k < 4 → parseFieldDescriptor (F_Li k).2.2.1 = some (t_Li k) := by decide +kernel
def F_Me : u_T := fun k => match k with
  | 0 => ("ShadowHeap$Memory", "bytes", "[I", true)
  | 1 => ("ShadowHeap$Memory", "shadows", "[I", true)
  | 2 => ("ShadowHeap$Memory", "blockCells", "[I", true)
  | 3 => ("ShadowHeap$Memory", "quarantined", "[Z", true)
  | 4 => ("ShadowHeap$Memory", "queue", "[I", true)
  | 5 => ("ShadowHeap$Memory", "queuedCells", "I", false)
  | 6 => ("ShadowHeap$Memory", "queued", "I", false)
  | _ => ("ShadowHeap$Memory", "liveCount", "I", false)
def t_Me : Nat → FieldType := fun k => match k with
  | 0 => .array .int
  | 1 => .array .int
  | 2 => .array .int
  | 3 => .array .boolean
  | 4 => .array .int
  | 5 => .int
  | 6 => .int
  | _ => .int
theorem n_Me : ∀ a, a < 8 → ∀ b, b < 8 → a ≠ b → (F_Me a).2.1 ≠ (F_Me b).2.1 := by decide +kernel
theorem t_Me_ok : ∀ k, k < 8 → parseFieldDescriptor (F_Me k).2.2.1 = some (t_Me k) := by decide +kernel
def F_Pr : u_T := fun k => match k with
  | 0 => ("ShadowHeap$Program", "\x72", "[I", true)
  | 1 => ("ShadowHeap$Program", "a", "[I", true)
  | 2 => ("ShadowHeap$Program", "b", "[I", true)
  | 3 => ("ShadowHeap$Program", "k", "[I", true)
  | 4 => ("ShadowHeap$Program", "plain", "LShadowHeap$Listing;", true)
  | _ => ("ShadowHeap$Program", "rewritten", "LShadowHeap$Listing;", true)
def t_Pr : Nat → FieldType := fun k => match k with
  | 0 => .array .int
  | 1 => .array .int
  | 2 => .array .int
  | 3 => .array .int
  | 4 => .object "ShadowHeap$Listing"
  | _ => .object "ShadowHeap$Listing"
theorem n_Pr : ∀ a, a < 6 → ∀ b, b < 6 → a ≠ b → (F_Pr a).2.1 ≠ (F_Pr b).2.1 := by decide +kernel
theorem t_Pr_ok : ∀ k, k < 6 → parseFieldDescriptor (F_Pr k).2.2.1 = some (t_Pr k) := by decide +kernel
def F_Ru : u_T := fun k => match k with
  | 0 => ("ShadowHeap$Run", "program", "LShadowHeap$Program;", true)
  | 1 => ("ShadowHeap$Run", "memory", "LShadowHeap$Memory;", true)
  | 2 => ("ShadowHeap$Run", "registers", "[I", true)
  | 3 => ("ShadowHeap$Run", "printedNumbers", "[I", true)
  | 4 => ("ShadowHeap$Run", "printedCount", "I", false)
  | 5 => ("ShadowHeap$Run", "listing", "LShadowHeap$Listing;", false)
  | 6 => ("ShadowHeap$Run", "state", "I", false)
  | 7 => ("ShadowHeap$Run", "line", "I", false)
  | 8 => ("ShadowHeap$Run", "reportKind", "I", false)
  | _ => ("ShadowHeap$Run", "reportAddress", "I", false)
def t_Ru : Nat → FieldType := fun k => match k with
  | 0 => .object "ShadowHeap$Program"
  | 1 => .object "ShadowHeap$Memory"
  | 2 => .array .int
  | 3 => .array .int
  | 4 => .int
  | 5 => .object "ShadowHeap$Listing"
  | 6 => .int
  | 7 => .int
  | 8 => .int
  | _ => .int
theorem n_Ru : ∀ a, a < 10 → ∀ b, b < 10 → a ≠ b → (F_Ru a).2.1 ≠ (F_Ru b).2.1 := by decide +kernel
theorem t_Ru_ok : ∀ k, k < 10 → parseFieldDescriptor (F_Ru k).2.2.1 = some (t_Ru k) := by decide +kernel
def F_S : u_T := fun k => match k with
  | 0 => ("ShadowHeap", "program", "LShadowHeap$Program;", true)
  | 1 => ("ShadowHeap", "memory", "LShadowHeap$Memory;", true)
  | _ => ("ShadowHeap", "run", "LShadowHeap$Run;", true)
def t_S : Nat → FieldType := fun k => match k with
  | 0 => .object "ShadowHeap$Program"
  | 1 => .object "ShadowHeap$Memory"
  | _ => .object "ShadowHeap$Run"
theorem n_S : ∀ a, a < 3 → ∀ b, b < 3 → a ≠ b → (F_S a).2.1 ≠ (F_S b).2.1 := by decide +kernel
theorem t_S_ok : ∀ k, k < 3 → parseFieldDescriptor (F_S k).2.2.1 = some (t_S k) := by decide +kernel
def F_Mo : u_T := fun k => match k with
  | 0 => ("ShadowHeapModel", "code", "I", false)
  | 1 => ("ShadowHeapModel", "count", "I", false)
  | 2 => ("ShadowHeapModel", "operation", "[I", true)
  | 3 => ("ShadowHeapModel", "rs", "[I", true)
  | 4 => ("ShadowHeapModel", "as", "[I", true)
  | 5 => ("ShadowHeapModel", "bs", "[I", true)
  | 6 => ("ShadowHeapModel", "ks", "[I", true)
  | 7 => ("ShadowHeapModel", "heap", "[I", true)
  | 8 => ("ShadowHeapModel", "shadow", "[I", true)
  | 9 => ("ShadowHeapModel", "owner", "[I", true)
  | 10 => ("ShadowHeapModel", "size", "[I", true)
  | 11 => ("ShadowHeapModel", "waiting", "I", false)
  | 12 => ("ShadowHeapModel", "quarantine", "[I", true)
  | 13 => ("ShadowHeapModel", "state", "I", false)
  | 14 => ("ShadowHeapModel", "checked", "Z", false)
  | 15 => ("ShadowHeapModel", "at", "I", false)
  | 16 => ("ShadowHeapModel", "lastDone", "I", false)
  | 17 => ("ShadowHeapModel", "register", "[I", true)
  | 18 => ("ShadowHeapModel", "prints", "I", false)
  | 19 => ("ShadowHeapModel", "print", "[I", true)
  | 20 => ("ShadowHeapModel", "kind", "I", false)
  | 21 => ("ShadowHeapModel", "where", "I", false)
  | _ => ("ShadowHeapModel", "whose", "I", false)
def t_Mo : Nat → FieldType := fun k => match k with
  | 0 => .int
  | 1 => .int
  | 2 => .array .int
  | 3 => .array .int
  | 4 => .array .int
  | 5 => .array .int
  | 6 => .array .int
  | 7 => .array .int
  | 8 => .array .int
  | 9 => .array .int
  | 10 => .array .int
  | 11 => .int
  | 12 => .array .int
  | 13 => .int
  | 14 => .boolean
  | 15 => .int
  | 16 => .int
  | 17 => .array .int
  | 18 => .int
  | 19 => .array .int
  | 20 => .int
  | 21 => .int
  | _ => .int
theorem n_Mo : ∀ a, a < 23 → ∀ b, b < 23 → a ≠ b → (F_Mo a).2.1 ≠ (F_Mo b).2.1 := by decide +kernel
theorem t_Mo_ok : ∀ k, k < 23 → parseFieldDescriptor (F_Mo k).2.2.1 = some (t_Mo k) := by decide +kernel
abbrev vwCl : List vw_C := [(R_Li, F_Li, 4), (R_Me, F_Me, 8), (R_Pr, F_Pr, 6), (R_Ru, F_Ru, 10), (R_S, F_S, 3), (R_Mo, F_Mo, 23)]
abbrev b_S_init : ByteArray := prog_1_method_1_code
def y_S_init : MethodName := ⟨R_S, "<init>", "()V"⟩
abbrev b_Pr_init : ByteArray := prog_4_method_1_code
def y_Pr_init : MethodName := ⟨R_Pr, "<init>", "()V"⟩
abbrev b_Li_init : ByteArray := prog_2_method_1_code
def y_Li_init : MethodName := ⟨R_Li, "<init>", "(I)V"⟩
abbrev b_Me_init : ByteArray := prog_3_method_1_code
def y_Me_init : MethodName := ⟨R_Me, "<init>", "()V"⟩
abbrev b_Me_reset : ByteArray := prog_3_method_2_code
def y_Me_reset : MethodName := ⟨R_Me, "reset", "()V"⟩
abbrev b_Ru_init : ByteArray := prog_5_method_1_code
def y_Ru_init : MethodName := ⟨R_Ru, "<init>", "(LShadowHeap$Program;LShadowHeap$Memory;)V"⟩
abbrev b_S_clear : ByteArray := prog_1_method_3_code
def y_S_clear : MethodName := ⟨R_S, "clear", "()V"⟩
abbrev b_Ru_drop : ByteArray := prog_5_method_2_code
def y_Ru_drop : MethodName := ⟨R_Ru, "drop", "()V"⟩
abbrev b_Pr_removeAll : ByteArray := prog_4_method_4_code
def y_Pr_removeAll : MethodName := ⟨R_Pr, "removeAll", "()V"⟩
abbrev b_La_code : ByteArray := method_3_code
def y_La_code : MethodName := ⟨R_La, "code", "(LShadowHeap;IIIII[J)I"⟩
abbrev b_S_code : ByteArray := prog_1_method_2_code
def y_S_code : MethodName := ⟨R_S, "code", "(IIIII)I"⟩
abbrev b_S_isRegister : ByteArray := prog_1_method_15_code
def y_S_isRegister : MethodName := ⟨R_S, "isRegister", "(I)Z"⟩
abbrev b_Pr_size : ByteArray := prog_4_method_2_code
def y_Pr_size : MethodName := ⟨R_Pr, "size", "()I"⟩
abbrev b_Pr_add : ByteArray := prog_4_method_3_code
def y_Pr_add : MethodName := ⟨R_Pr, "add", "(IIIII)I"⟩
abbrev b_Li_beginInstruction : ByteArray := prog_2_method_2_code
def y_Li_beginInstruction : MethodName := ⟨R_Li, "beginInstruction", "(I)V"⟩
abbrev b_Li_append : ByteArray := prog_2_method_3_code
def y_Li_append : MethodName := ⟨R_Li, "append", "(II)V"⟩
abbrev b_La_rewrite : ByteArray := method_4_code
def y_La_rewrite : MethodName := ⟨R_La, "rewrite", "(LShadowHeap;[J)I"⟩
abbrev b_S_rewrite : ByteArray := prog_1_method_4_code
def y_S_rewrite : MethodName := ⟨R_S, "rewrite", "()I"⟩
abbrev b_S_refuseGoingOutside : ByteArray := prog_1_method_14_code
def y_S_refuseGoingOutside : MethodName := ⟨R_S, "refuseGoingOutside", "()V"⟩
abbrev b_Pr_goesOnWithin : ByteArray := prog_4_method_5_code
def y_Pr_goesOnWithin : MethodName := ⟨R_Pr, "goesOnWithin", "()Z"⟩
abbrev b_Pr_goesOnElsewhere : ByteArray := prog_4_method_8_code
def y_Pr_goesOnElsewhere : MethodName := ⟨R_Pr, "goesOnElsewhere", "(I)Z"⟩
abbrev b_La_rewritten : ByteArray := method_5_code
def y_La_rewritten : MethodName := ⟨R_La, "rewritten", "(LShadowHeap;II[J)I"⟩
abbrev b_S_rewritten : ByteArray := prog_1_method_5_code
def y_S_rewritten : MethodName := ⟨R_S, "rewritten", "(II)I"⟩
abbrev b_Pr_numberAt : ByteArray := prog_4_method_6_code
def y_Pr_numberAt : MethodName := ⟨R_Pr, "numberAt", "(LShadowHeap$Listing;I)I"⟩
abbrev b_La_start : ByteArray := method_6_code
def y_La_start : MethodName := ⟨R_La, "start", "(LShadowHeap;ZII)I"⟩
abbrev b_S_start : ByteArray := prog_1_method_6_code
def y_S_start : MethodName := ⟨R_S, "start", "(ZII)V"⟩
abbrev b_Ru_begin : ByteArray := prog_5_method_3_code
def y_Ru_begin : MethodName := ⟨R_Ru, "begin", "(ZII)V"⟩
abbrev b_La_step : ByteArray := method_7_code
def y_La_step : MethodName := ⟨R_La, "step", "(LShadowHeap;I[J)I"⟩
abbrev b_S_step : ByteArray := prog_1_method_7_code
def y_S_step : MethodName := ⟨R_S, "step", "(I)I"⟩
abbrev b_Ru_doLine : ByteArray := prog_5_method_4_code
def y_Ru_doLine : MethodName := ⟨R_Ru, "doLine", "()V"⟩
abbrev b_Ru_addressOf : ByteArray := prog_5_method_17_code
def y_Ru_addressOf : MethodName := ⟨R_Ru, "addressOf", "(I)I"⟩
abbrev b_Ru_aOf : ByteArray := prog_5_method_15_code
def y_Ru_aOf : MethodName := ⟨R_Ru, "aOf", "(I)I"⟩
abbrev b_Pr_widthOf : ByteArray := prog_4_method_7_code
def y_Pr_widthOf : MethodName := ⟨R_Pr, "widthOf", "(I)I"⟩
abbrev b_Ru_checkBytes : ByteArray := prog_5_method_11_code
def y_Ru_checkBytes : MethodName := ⟨R_Ru, "checkBytes", "(II)V"⟩
abbrev b_Me_kindOfTouch : ByteArray := prog_3_method_6_code
def y_Me_kindOfTouch : MethodName := ⟨R_Me, "kindOfTouch", "(I)I"⟩
abbrev b_Me_holds : ByteArray := prog_3_method_3_code
def y_Me_holds : MethodName := ⟨R_Me, "holds", "(II)Z"⟩
abbrev b_Ru_endWithReport : ByteArray := prog_5_method_13_code
def y_Ru_endWithReport : MethodName := ⟨R_Ru, "endWithReport", "(II)V"⟩
abbrev b_Ru_checkFree : ByteArray := prog_5_method_12_code
def y_Ru_checkFree : MethodName := ⟨R_Ru, "checkFree", "(I)V"⟩
abbrev b_Me_mayFree : ByteArray := prog_3_method_7_code
def y_Me_mayFree : MethodName := ⟨R_Me, "mayFree", "(I)Z"⟩
abbrev b_Ru_goesOn : ByteArray := prog_5_method_6_code
def y_Ru_goesOn : MethodName := ⟨R_Ru, "goesOn", "(II)Z"⟩
abbrev b_Ru_bOf : ByteArray := prog_5_method_16_code
def y_Ru_bOf : MethodName := ⟨R_Ru, "bOf", "(I)I"⟩
abbrev b_Ru_useHeap : ByteArray := prog_5_method_8_code
def y_Ru_useHeap : MethodName := ⟨R_Ru, "useHeap", "(II)V"⟩
abbrev b_Me_allocate : ByteArray := prog_3_method_8_code
def y_Me_allocate : MethodName := ⟨R_Me, "allocate", "(I)I"⟩
abbrev b_Me_lowestGap : ByteArray := prog_3_method_10_code
def y_Me_lowestGap : MethodName := ⟨R_Me, "lowestGap", "(I)I"⟩
abbrev b_Me_releaseOldest : ByteArray := prog_3_method_12_code
def y_Me_releaseOldest : MethodName := ⟨R_Me, "releaseOldest", "()V"⟩
abbrev b_Me_paint : ByteArray := prog_3_method_13_code
def y_Me_paint : MethodName := ⟨R_Me, "paint", "(III)V"⟩
abbrev b_Me_placeBlock : ByteArray := prog_3_method_11_code
def y_Me_placeBlock : MethodName := ⟨R_Me, "placeBlock", "(III)V"⟩
abbrev b_Ru_freeOrCrash : ByteArray := prog_5_method_9_code
def y_Ru_freeOrCrash : MethodName := ⟨R_Ru, "freeOrCrash", "(I)V"⟩
abbrev b_Me_free : ByteArray := prog_3_method_9_code
def y_Me_free : MethodName := ⟨R_Me, "free", "(I)V"⟩
abbrev b_Ru_touchOrCrash : ByteArray := prog_5_method_10_code
def y_Ru_touchOrCrash : MethodName := ⟨R_Ru, "touchOrCrash", "(II)V"⟩
abbrev b_Me_load : ByteArray := prog_3_method_4_code
def y_Me_load : MethodName := ⟨R_Me, "load", "(II)I"⟩
abbrev b_Me_store : ByteArray := prog_3_method_5_code
def y_Me_store : MethodName := ⟨R_Me, "store", "(III)V"⟩
abbrev b_Ru_print : ByteArray := prog_5_method_14_code
def y_Ru_print : MethodName := ⟨R_Ru, "print", "(I)V"⟩
abbrev b_Ru_computed : ByteArray := prog_5_method_7_code
def y_Ru_computed : MethodName := ⟨R_Ru, "computed", "(II)I"⟩
abbrev b_Ru_goOnAt : ByteArray := prog_5_method_5_code
def y_Ru_goOnAt : MethodName := ⟨R_Ru, "goOnAt", "(I)V"⟩
abbrev b_La_look : ByteArray := method_8_code
def y_La_look : MethodName := ⟨R_La, "look", "(LShadowHeap;I[J)I"⟩
abbrev b_S_look : ByteArray := prog_1_method_8_code
def y_S_look : MethodName := ⟨R_S, "look", "(I)I"⟩
abbrev b_La_register : ByteArray := method_9_code
def y_La_register : MethodName := ⟨R_La, "register", "(LShadowHeap;I[J)I"⟩
abbrev b_S_register : ByteArray := prog_1_method_9_code
def y_S_register : MethodName := ⟨R_S, "register", "(I)I"⟩
abbrev b_La_printed : ByteArray := method_10_code
def y_La_printed : MethodName := ⟨R_La, "printed", "(LShadowHeap;I[J)I"⟩
abbrev b_S_printed : ByteArray := prog_1_method_10_code
def y_S_printed : MethodName := ⟨R_S, "printed", "(I)I"⟩
abbrev b_La_heap : ByteArray := method_11_code
def y_La_heap : MethodName := ⟨R_La, "heap", "(LShadowHeap;I[J)I"⟩
abbrev b_S_heap : ByteArray := prog_1_method_11_code
def y_S_heap : MethodName := ⟨R_S, "heap", "(I)I"⟩
abbrev b_La_shadow : ByteArray := method_12_code
def y_La_shadow : MethodName := ⟨R_La, "shadow", "(LShadowHeap;I[J)I"⟩
abbrev b_S_shadow : ByteArray := prog_1_method_12_code
def y_S_shadow : MethodName := ⟨R_S, "shadow", "(I)I"⟩
abbrev b_La_report : ByteArray := method_13_code
def y_La_report : MethodName := ⟨R_La, "report", "(LShadowHeap;I[J)I"⟩
abbrev b_S_report : ByteArray := prog_1_method_13_code
def y_S_report : MethodName := ⟨R_S, "report", "(I)I"⟩
abbrev b_Mo_init : ByteArray := prog_7_method_1_code
def y_Mo_init : MethodName := ⟨R_Mo, "<init>", "()V"⟩
abbrev b_Mo_empty : ByteArray := prog_7_method_14_code
def y_Mo_empty : MethodName := ⟨R_Mo, "empty", "()V"⟩
abbrev b_Mo_thrown : ByteArray := prog_7_method_2_code
def y_Mo_thrown : MethodName := ⟨R_Mo, "thrown", "()I"⟩
abbrev b_Mo_code : ByteArray := prog_7_method_5_code
def y_Mo_code : MethodName := ⟨R_Mo, "code", "(IIIII)I"⟩
abbrev b_Mo_isRegister : ByteArray := prog_7_method_4_code
def y_Mo_isRegister : MethodName := ⟨R_Mo, "isRegister", "(I)Z"⟩
abbrev b_Mo_refuse : ByteArray := prog_7_method_3_code
def y_Mo_refuse : MethodName := ⟨R_Mo, "refuse", "(I)I"⟩
abbrev b_Mo_clear : ByteArray := prog_7_method_6_code
def y_Mo_clear : MethodName := ⟨R_Mo, "clear", "()V"⟩
abbrev b_Mo_rewrite : ByteArray := prog_7_method_12_code
def y_Mo_rewrite : MethodName := ⟨R_Mo, "rewrite", "()I"⟩
abbrev b_Mo_isSound : ByteArray := prog_7_method_7_code
def y_Mo_isSound : MethodName := ⟨R_Mo, "isSound", "()Z"⟩
abbrev b_Mo_place : ByteArray := prog_7_method_9_code
def y_Mo_place : MethodName := ⟨R_Mo, "place", "(I)I"⟩
abbrev b_Mo_isChecked : ByteArray := prog_7_method_8_code
def y_Mo_isChecked : MethodName := ⟨R_Mo, "isChecked", "(I)Z"⟩
abbrev b_Mo_rewritten : ByteArray := prog_7_method_13_code
def y_Mo_rewritten : MethodName := ⟨R_Mo, "rewritten", "(II)I"⟩
abbrev b_Mo_instructionAt : ByteArray := prog_7_method_10_code
def y_Mo_instructionAt : MethodName := ⟨R_Mo, "instructionAt", "(I)I"⟩
abbrev b_Mo_isCheck : ByteArray := prog_7_method_11_code
def y_Mo_isCheck : MethodName := ⟨R_Mo, "isCheck", "(I)Z"⟩
abbrev b_Mo_start : ByteArray := prog_7_method_23_code
def y_Mo_start : MethodName := ⟨R_Mo, "start", "(ZII)V"⟩
abbrev b_Mo_step : ByteArray := prog_7_method_30_code
def y_Mo_step : MethodName := ⟨R_Mo, "step", "(I)I"⟩
abbrev b_Mo_one : ByteArray := prog_7_method_29_code
def y_Mo_one : MethodName := ⟨R_Mo, "one", "()V"⟩
abbrev b_Mo_check : ByteArray := prog_7_method_25_code
def y_Mo_check : MethodName := ⟨R_Mo, "check", "(I)V"⟩
abbrev b_Mo_isBlock : ByteArray := prog_7_method_18_code
def y_Mo_isBlock : MethodName := ⟨R_Mo, "isBlock", "(I)Z"⟩
abbrev b_Mo_tell : ByteArray := prog_7_method_24_code
def y_Mo_tell : MethodName := ⟨R_Mo, "tell", "(III)V"⟩
abbrev b_Mo_wrongByte : ByteArray := prog_7_method_22_code
def y_Mo_wrongByte : MethodName := ⟨R_Mo, "wrongByte", "(I)I"⟩
abbrev b_Mo_isIn : ByteArray := prog_7_method_21_code
def y_Mo_isIn : MethodName := ⟨R_Mo, "isIn", "(I)Z"⟩
abbrev b_Mo_perform : ByteArray := prog_7_method_28_code
def y_Mo_perform : MethodName := ⟨R_Mo, "perform", "(I)I"⟩
abbrev b_Mo_allocate : ByteArray := prog_7_method_17_code
def y_Mo_allocate : MethodName := ⟨R_Mo, "allocate", "(I)I"⟩
abbrev b_Mo_gap : ByteArray := prog_7_method_15_code
def y_Mo_gap : MethodName := ⟨R_Mo, "gap", "(I)I"⟩
abbrev b_Mo_release : ByteArray := prog_7_method_16_code
def y_Mo_release : MethodName := ⟨R_Mo, "release", "()V"⟩
abbrev b_Mo_free : ByteArray := prog_7_method_19_code
def y_Mo_free : MethodName := ⟨R_Mo, "free", "(I)V"⟩
abbrev b_Mo_quarantined : ByteArray := prog_7_method_20_code
def y_Mo_quarantined : MethodName := ⟨R_Mo, "quarantined", "()I"⟩
abbrev b_Mo_touch : ByteArray := prog_7_method_27_code
def y_Mo_touch : MethodName := ⟨R_Mo, "touch", "(I)V"⟩
abbrev b_Mo_load : ByteArray := prog_7_method_26_code
def y_Mo_load : MethodName := ⟨R_Mo, "load", "(I)I"⟩
abbrev b_Mo_look : ByteArray := prog_7_method_32_code
def y_Mo_look : MethodName := ⟨R_Mo, "look", "(I)I"⟩
abbrev b_Mo_blocks : ByteArray := prog_7_method_31_code
def y_Mo_blocks : MethodName := ⟨R_Mo, "blocks", "(Z)I"⟩
abbrev b_Mo_register : ByteArray := prog_7_method_33_code
def y_Mo_register : MethodName := ⟨R_Mo, "register", "(I)I"⟩
abbrev b_Mo_printed : ByteArray := prog_7_method_34_code
def y_Mo_printed : MethodName := ⟨R_Mo, "printed", "(I)I"⟩
abbrev b_Mo_heap : ByteArray := prog_7_method_35_code
def y_Mo_heap : MethodName := ⟨R_Mo, "heap", "(I)I"⟩
abbrev b_Mo_shadow : ByteArray := prog_7_method_36_code
def y_Mo_shadow : MethodName := ⟨R_Mo, "shadow", "(I)I"⟩
abbrev b_Mo_report : ByteArray := prog_7_method_37_code
def y_Mo_report : MethodName := ⟨R_Mo, "report", "(I)I"⟩
abbrev b_La_law : ByteArray := code
def y_La_law : MethodName := ⟨R_La, "law", "([I)Z"⟩
/-- the good words of the tables: every method takes them all -/
def bw : List Cond := lw_tbl.filter goodWord
theorem bw_mem {w : Cond} (i : Nat) (h : lw_tbl[i]? = some w) (hg : goodWord w = true) : w ∈ bw := List.mem_filter.mpr ⟨List.mem_of_getElem? h, hg⟩
theorem bw_good {h : Cond} : GoodIn (h :: bw) bw := fun w hw => ⟨List.mem_cons_of_mem _ hw, good_of_word (List.mem_filter.mp hw).2⟩
theorem bw_c {h w : Cond} {ws : List Cond} (hw : w ∈ bw) (t : GoodIn (h :: bw) ws) : GoodIn (h :: bw) (w :: ws) := fun x hx => (List.mem_cons.mp hx).elim (fun e => by rw [e]; exact bw_good w hw) (t x)
theorem bw_V {h k : Cond} {own C : String} {idx : Nat} {y : MethodName} (h1 : .methodLink own idx y ∈ bw) (h2 : .instanceMethod y ∈ bw) (h3 : .selects C y y ∈ bw) (h4 : .initialized C ∈ bw) (h5 : k ∈ bw) : GoodIn (h :: bw) (wsV own idx C y (k :: bw)) := bw_c h1 (bw_c h2 (bw_c h3 (bw_c h4 (bw_c h5 bw_good))))
theorem bw_S {h k : Cond} {own : String} {idx : Nat} {y : MethodName} (h1 : .methodLink own idx y ∈ bw) (h2 : .static y ∈ bw) (h3 : .initialized y.cls ∈ bw) (h5 : k ∈ bw) : GoodIn (h :: bw) (va_wsS own idx y (k :: bw)) := bw_c h1 (bw_c h2 (bw_c h3 (bw_c h5 bw_good)))
theorem q_se_S_refuseGoingOutside : Cond.selects R_S y_S_refuseGoingOutside y_S_refuseGoingOutside ∈ bw := bw_mem 1 (by decide +kernel) (by decide +kernel)
theorem q_se_Ru_addressOf : Cond.selects R_Ru y_Ru_addressOf y_Ru_addressOf ∈ bw := bw_mem 2 (by decide +kernel) (by decide +kernel)
theorem q_se_Ru_aOf : Cond.selects R_Ru y_Ru_aOf y_Ru_aOf ∈ bw := bw_mem 3 (by decide +kernel) (by decide +kernel)
theorem q_se_Ru_checkBytes : Cond.selects R_Ru y_Ru_checkBytes y_Ru_checkBytes ∈ bw := bw_mem 4 (by decide +kernel) (by decide +kernel)
theorem q_se_Ru_endWithReport : Cond.selects R_Ru y_Ru_endWithReport y_Ru_endWithReport ∈ bw := bw_mem 5 (by decide +kernel) (by decide +kernel)
theorem q_se_Ru_checkFree : Cond.selects R_Ru y_Ru_checkFree y_Ru_checkFree ∈ bw := bw_mem 6 (by decide +kernel) (by decide +kernel)
theorem q_se_Ru_goesOn : Cond.selects R_Ru y_Ru_goesOn y_Ru_goesOn ∈ bw := bw_mem 7 (by decide +kernel) (by decide +kernel)
theorem q_se_Ru_bOf : Cond.selects R_Ru y_Ru_bOf y_Ru_bOf ∈ bw := bw_mem 8 (by decide +kernel) (by decide +kernel)
theorem q_se_Ru_useHeap : Cond.selects R_Ru y_Ru_useHeap y_Ru_useHeap ∈ bw := bw_mem 9 (by decide +kernel) (by decide +kernel)
theorem q_se_Me_lowestGap : Cond.selects R_Me y_Me_lowestGap y_Me_lowestGap ∈ bw := bw_mem 10 (by decide +kernel) (by decide +kernel)
theorem q_se_Me_releaseOldest : Cond.selects R_Me y_Me_releaseOldest y_Me_releaseOldest ∈ bw := bw_mem 11 (by decide +kernel) (by decide +kernel)
theorem q_se_Me_paint : Cond.selects R_Me y_Me_paint y_Me_paint ∈ bw := bw_mem 12 (by decide +kernel) (by decide +kernel)
theorem q_se_Me_placeBlock : Cond.selects R_Me y_Me_placeBlock y_Me_placeBlock ∈ bw := bw_mem 13 (by decide +kernel) (by decide +kernel)
theorem q_se_Ru_freeOrCrash : Cond.selects R_Ru y_Ru_freeOrCrash y_Ru_freeOrCrash ∈ bw := bw_mem 14 (by decide +kernel) (by decide +kernel)
theorem q_se_Ru_touchOrCrash : Cond.selects R_Ru y_Ru_touchOrCrash y_Ru_touchOrCrash ∈ bw := bw_mem 15 (by decide +kernel) (by decide +kernel)
theorem q_se_Ru_print : Cond.selects R_Ru y_Ru_print y_Ru_print ∈ bw := bw_mem 16 (by decide +kernel) (by decide +kernel)
theorem q_se_Ru_computed : Cond.selects R_Ru y_Ru_computed y_Ru_computed ∈ bw := bw_mem 17 (by decide +kernel) (by decide +kernel)
theorem q_se_Ru_goOnAt : Cond.selects R_Ru y_Ru_goOnAt y_Ru_goOnAt ∈ bw := bw_mem 18 (by decide +kernel) (by decide +kernel)
theorem q_se_Mo_empty : Cond.selects R_Mo y_Mo_empty y_Mo_empty ∈ bw := bw_mem 19 (by decide +kernel) (by decide +kernel)
theorem q_se_Mo_refuse : Cond.selects R_Mo y_Mo_refuse y_Mo_refuse ∈ bw := bw_mem 20 (by decide +kernel) (by decide +kernel)
theorem q_se_Mo_isSound : Cond.selects R_Mo y_Mo_isSound y_Mo_isSound ∈ bw := bw_mem 21 (by decide +kernel) (by decide +kernel)
theorem q_se_Mo_place : Cond.selects R_Mo y_Mo_place y_Mo_place ∈ bw := bw_mem 22 (by decide +kernel) (by decide +kernel)
theorem q_se_Mo_isChecked : Cond.selects R_Mo y_Mo_isChecked y_Mo_isChecked ∈ bw := bw_mem 23 (by decide +kernel) (by decide +kernel)
theorem q_se_Mo_instructionAt : Cond.selects R_Mo y_Mo_instructionAt y_Mo_instructionAt ∈ bw := bw_mem 24 (by decide +kernel) (by decide +kernel)
theorem q_se_Mo_isCheck : Cond.selects R_Mo y_Mo_isCheck y_Mo_isCheck ∈ bw := bw_mem 25 (by decide +kernel) (by decide +kernel)
theorem q_se_Mo_one : Cond.selects R_Mo y_Mo_one y_Mo_one ∈ bw := bw_mem 26 (by decide +kernel) (by decide +kernel)
theorem q_se_Mo_check : Cond.selects R_Mo y_Mo_check y_Mo_check ∈ bw := bw_mem 27 (by decide +kernel) (by decide +kernel)
theorem q_se_Mo_isBlock : Cond.selects R_Mo y_Mo_isBlock y_Mo_isBlock ∈ bw := bw_mem 28 (by decide +kernel) (by decide +kernel)
theorem q_se_Mo_tell : Cond.selects R_Mo y_Mo_tell y_Mo_tell ∈ bw := bw_mem 29 (by decide +kernel) (by decide +kernel)
theorem q_se_Mo_wrongByte : Cond.selects R_Mo y_Mo_wrongByte y_Mo_wrongByte ∈ bw := bw_mem 30 (by decide +kernel) (by decide +kernel)
theorem q_se_Mo_perform : Cond.selects R_Mo y_Mo_perform y_Mo_perform ∈ bw := bw_mem 31 (by decide +kernel) (by decide +kernel)
theorem q_se_Mo_allocate : Cond.selects R_Mo y_Mo_allocate y_Mo_allocate ∈ bw := bw_mem 32 (by decide +kernel) (by decide +kernel)
theorem q_se_Mo_gap : Cond.selects R_Mo y_Mo_gap y_Mo_gap ∈ bw := bw_mem 33 (by decide +kernel) (by decide +kernel)
theorem q_se_Mo_release : Cond.selects R_Mo y_Mo_release y_Mo_release ∈ bw := bw_mem 34 (by decide +kernel) (by decide +kernel)
theorem q_se_Mo_free : Cond.selects R_Mo y_Mo_free y_Mo_free ∈ bw := bw_mem 35 (by decide +kernel) (by decide +kernel)
theorem q_se_Mo_quarantined : Cond.selects R_Mo y_Mo_quarantined y_Mo_quarantined ∈ bw := bw_mem 36 (by decide +kernel) (by decide +kernel)
theorem q_se_Mo_touch : Cond.selects R_Mo y_Mo_touch y_Mo_touch ∈ bw := bw_mem 37 (by decide +kernel) (by decide +kernel)
theorem q_se_Mo_load : Cond.selects R_Mo y_Mo_load y_Mo_load ∈ bw := bw_mem 38 (by decide +kernel) (by decide +kernel)
theorem q_se_Mo_blocks : Cond.selects R_Mo y_Mo_blocks y_Mo_blocks ∈ bw := bw_mem 39 (by decide +kernel) (by decide +kernel)
theorem q_in_La : Cond.initialized R_La ∈ bw := bw_mem 40 (by decide +kernel) (by decide +kernel)
theorem q_in_S : Cond.initialized R_S ∈ bw := bw_mem 41 (by decide +kernel) (by decide +kernel)
theorem q_in_Pr : Cond.initialized R_Pr ∈ bw := bw_mem 42 (by decide +kernel) (by decide +kernel)
theorem q_in_Li : Cond.initialized R_Li ∈ bw := bw_mem 43 (by decide +kernel) (by decide +kernel)
theorem q_in_Me : Cond.initialized R_Me ∈ bw := bw_mem 44 (by decide +kernel) (by decide +kernel)
theorem q_in_Ru : Cond.initialized R_Ru ∈ bw := bw_mem 45 (by decide +kernel) (by decide +kernel)
theorem q_in_Mo : Cond.initialized R_Mo ∈ bw := bw_mem 46 (by decide +kernel) (by decide +kernel)
theorem q_in_IllegalArgumentException : Cond.initialized "java/lang/IllegalArgumentException" ∈ bw := bw_mem 50 (by decide +kernel) (by decide +kernel)
theorem q_in_IndexOutOfBoundsException : Cond.initialized "java/lang/IndexOutOfBoundsException" ∈ bw := bw_mem 51 (by decide +kernel) (by decide +kernel)
theorem q_in_IllegalStateException : Cond.initialized "java/lang/IllegalStateException" ∈ bw := bw_mem 52 (by decide +kernel) (by decide +kernel)
theorem q_cl_La_8 : Cond.classLink R_La 8 R_S ∈ bw := bw_mem 53 (by decide +kernel) (by decide +kernel)
theorem q_ib_S : Cond.instantiable R_S 3 ∈ bw := bw_mem 54 (by decide +kernel) (by decide +kernel)
theorem q_ml_La_53 : Cond.methodLink R_La 53 y_S_init ∈ bw := bw_mem 55 (by decide +kernel) (by decide +kernel)
theorem q_im_S_init : Cond.instanceMethod y_S_init ∈ bw := bw_mem 56 (by decide +kernel) (by decide +kernel)
theorem q_cd_S_init : Cond.code y_S_init b_S_init 1 none ∈ bw := bw_mem 57 (by decide +kernel) (by decide +kernel)
theorem q_ml_S_1 : Cond.methodLink R_S 1 objectInit ∈ bw := bw_mem 58 (by decide +kernel) (by decide +kernel)
theorem q_im_obj_init : Cond.instanceMethod objectInit ∈ bw := bw_mem 59 (by decide +kernel) (by decide +kernel)
theorem q_cd_obj_init : Cond.code objectInit ⟨#[0xb1]⟩ 1 none ∈ bw := bw_mem 60 (by decide +kernel) (by decide +kernel)
theorem q_cl_S_7 : Cond.classLink R_S 7 R_Pr ∈ bw := bw_mem 61 (by decide +kernel) (by decide +kernel)
theorem q_ib_Pr : Cond.instantiable R_Pr 6 ∈ bw := bw_mem 62 (by decide +kernel) (by decide +kernel)
theorem q_mn_S_9 : Cond.methodLinkNest R_S 9 y_Pr_init R_S ∈ lw_tbl := List.mem_of_getElem? (i := 63) (by decide +kernel)
theorem q_im_Pr_init : Cond.instanceMethod y_Pr_init ∈ bw := bw_mem 64 (by decide +kernel) (by decide +kernel)
theorem q_cd_Pr_init : Cond.code y_Pr_init b_Pr_init 1 none ∈ bw := bw_mem 65 (by decide +kernel) (by decide +kernel)
theorem q_ml_Pr_3 : Cond.methodLink R_Pr 3 objectInit ∈ bw := bw_mem 66 (by decide +kernel) (by decide +kernel)
theorem q_cl_Pr_24 : Cond.classLink R_Pr 24 R_Li ∈ bw := bw_mem 67 (by decide +kernel) (by decide +kernel)
theorem q_ib_Li : Cond.instantiable R_Li 4 ∈ bw := bw_mem 68 (by decide +kernel) (by decide +kernel)
theorem q_ml_Pr_26 : Cond.methodLink R_Pr 26 y_Li_init ∈ bw := bw_mem 69 (by decide +kernel) (by decide +kernel)
theorem q_im_Li_init : Cond.instanceMethod y_Li_init ∈ bw := bw_mem 70 (by decide +kernel) (by decide +kernel)
theorem q_cd_Li_init : Cond.code y_Li_init b_Li_init 2 none ∈ bw := bw_mem 71 (by decide +kernel) (by decide +kernel)
theorem q_ml_Li_3 : Cond.methodLink R_Li 3 objectInit ∈ bw := bw_mem 72 (by decide +kernel) (by decide +kernel)
theorem q_fl_Li_9 : Cond.fieldLink R_Li 9 "ShadowHeap$Listing" "operations" "[I" ∈ bw := bw_mem 73 (by decide +kernel) (by decide +kernel)
theorem q_fl_Ru_53 : Cond.fieldLink R_Ru 53 "ShadowHeap$Listing" "operations" "[I" ∈ bw := bw_mem 74 (by decide +kernel) (by decide +kernel)
theorem q_fl_Pr_50 : Cond.fieldLink R_Pr 50 "ShadowHeap$Listing" "operations" "[I" ∈ bw := bw_mem 75 (by decide +kernel) (by decide +kernel)
theorem q_fl_S_78 : Cond.fieldLink R_S 78 "ShadowHeap$Listing" "operations" "[I" ∈ bw := bw_mem 76 (by decide +kernel) (by decide +kernel)
theorem q_fl_Li_15 : Cond.fieldLink R_Li 15 "ShadowHeap$Listing" "origins" "[I" ∈ bw := bw_mem 77 (by decide +kernel) (by decide +kernel)
theorem q_fl_Ru_58 : Cond.fieldLink R_Ru 58 "ShadowHeap$Listing" "origins" "[I" ∈ bw := bw_mem 78 (by decide +kernel) (by decide +kernel)
theorem q_fl_S_82 : Cond.fieldLink R_S 82 "ShadowHeap$Listing" "origins" "[I" ∈ bw := bw_mem 79 (by decide +kernel) (by decide +kernel)
theorem q_fl_Pr_57 : Cond.fieldLink R_Pr 57 "ShadowHeap$Listing" "origins" "[I" ∈ bw := bw_mem 80 (by decide +kernel) (by decide +kernel)
theorem q_fl_Li_18 : Cond.fieldLink R_Li 18 "ShadowHeap$Listing" "firstLines" "[I" ∈ bw := bw_mem 81 (by decide +kernel) (by decide +kernel)
theorem q_fl_Pr_60 : Cond.fieldLink R_Pr 60 "ShadowHeap$Listing" "firstLines" "[I" ∈ bw := bw_mem 82 (by decide +kernel) (by decide +kernel)
theorem q_fl_Li_21 : Cond.fieldLink R_Li 21 "ShadowHeap$Listing" "size" "I" ∈ bw := bw_mem 83 (by decide +kernel) (by decide +kernel)
theorem q_fl_Pr_36 : Cond.fieldLink R_Pr 36 "ShadowHeap$Listing" "size" "I" ∈ bw := bw_mem 84 (by decide +kernel) (by decide +kernel)
theorem q_fl_S_71 : Cond.fieldLink R_S 71 "ShadowHeap$Listing" "size" "I" ∈ bw := bw_mem 85 (by decide +kernel) (by decide +kernel)
theorem q_fl_Ru_103 : Cond.fieldLink R_Ru 103 "ShadowHeap$Listing" "size" "I" ∈ bw := bw_mem 86 (by decide +kernel) (by decide +kernel)
theorem q_ac_int : Cond.arrayClass .int ∈ bw := bw_mem 96 (by decide +kernel) (by decide +kernel)
theorem q_fl_Pr_9 : Cond.fieldLink R_Pr 9 "ShadowHeap$Program" "\x72" "[I" ∈ bw := bw_mem 97 (by decide +kernel) (by decide +kernel)
theorem q_fl_Ru_93 : Cond.fieldLink R_Ru 93 "ShadowHeap$Program" "\x72" "[I" ∈ bw := bw_mem 98 (by decide +kernel) (by decide +kernel)
theorem q_fl_Pr_15 : Cond.fieldLink R_Pr 15 "ShadowHeap$Program" "a" "[I" ∈ bw := bw_mem 99 (by decide +kernel) (by decide +kernel)
theorem q_fl_Ru_150 : Cond.fieldLink R_Ru 150 "ShadowHeap$Program" "a" "[I" ∈ bw := bw_mem 100 (by decide +kernel) (by decide +kernel)
theorem q_fl_Pr_18 : Cond.fieldLink R_Pr 18 "ShadowHeap$Program" "b" "[I" ∈ bw := bw_mem 101 (by decide +kernel) (by decide +kernel)
theorem q_fl_Ru_153 : Cond.fieldLink R_Ru 153 "ShadowHeap$Program" "b" "[I" ∈ bw := bw_mem 102 (by decide +kernel) (by decide +kernel)
theorem q_fl_Pr_21 : Cond.fieldLink R_Pr 21 "ShadowHeap$Program" "k" "[I" ∈ bw := bw_mem 103 (by decide +kernel) (by decide +kernel)
theorem q_fl_Ru_109 : Cond.fieldLink R_Ru 109 "ShadowHeap$Program" "k" "[I" ∈ bw := bw_mem 104 (by decide +kernel) (by decide +kernel)
theorem q_fl_Ru_26 : Cond.fieldLink R_Ru 26 "ShadowHeap$Program" "plain" "LShadowHeap$Listing;" ∈ bw := bw_mem 105 (by decide +kernel) (by decide +kernel)
theorem q_fl_Pr_29 : Cond.fieldLink R_Pr 29 "ShadowHeap$Program" "plain" "LShadowHeap$Listing;" ∈ bw := bw_mem 106 (by decide +kernel) (by decide +kernel)
theorem q_fl_Pr_33 : Cond.fieldLink R_Pr 33 "ShadowHeap$Program" "rewritten" "LShadowHeap$Listing;" ∈ bw := bw_mem 107 (by decide +kernel) (by decide +kernel)
theorem q_fl_Ru_39 : Cond.fieldLink R_Ru 39 "ShadowHeap$Program" "rewritten" "LShadowHeap$Listing;" ∈ bw := bw_mem 108 (by decide +kernel) (by decide +kernel)
theorem q_fl_S_67 : Cond.fieldLink R_S 67 "ShadowHeap$Program" "rewritten" "LShadowHeap$Listing;" ∈ bw := bw_mem 109 (by decide +kernel) (by decide +kernel)
theorem q_cl_S_16 : Cond.classLink R_S 16 R_Me ∈ bw := bw_mem 123 (by decide +kernel) (by decide +kernel)
theorem q_ib_Me : Cond.instantiable R_Me 8 ∈ bw := bw_mem 124 (by decide +kernel) (by decide +kernel)
theorem q_ml_S_18 : Cond.methodLink R_S 18 y_Me_init ∈ bw := bw_mem 125 (by decide +kernel) (by decide +kernel)
theorem q_im_Me_init : Cond.instanceMethod y_Me_init ∈ bw := bw_mem 126 (by decide +kernel) (by decide +kernel)
theorem q_cd_Me_init : Cond.code y_Me_init b_Me_init 1 none ∈ bw := bw_mem 127 (by decide +kernel) (by decide +kernel)
theorem q_ml_Me_3 : Cond.methodLink R_Me 3 objectInit ∈ bw := bw_mem 128 (by decide +kernel) (by decide +kernel)
theorem q_ml_Me_28 : Cond.methodLink R_Me 28 y_Me_reset ∈ bw := bw_mem 129 (by decide +kernel) (by decide +kernel)
theorem q_im_Me_reset : Cond.instanceMethod y_Me_reset ∈ bw := bw_mem 130 (by decide +kernel) (by decide +kernel)
theorem q_se_Me_reset : Cond.selects R_Me y_Me_reset y_Me_reset ∈ bw := bw_mem 131 (by decide +kernel) (by decide +kernel)
theorem q_cd_Me_reset : Cond.code y_Me_reset b_Me_reset 2 none ∈ bw := bw_mem 132 (by decide +kernel) (by decide +kernel)
theorem q_fl_Me_11 : Cond.fieldLink R_Me 11 "ShadowHeap$Memory" "bytes" "[I" ∈ bw := bw_mem 133 (by decide +kernel) (by decide +kernel)
theorem q_fl_S_138 : Cond.fieldLink R_S 138 "ShadowHeap$Memory" "bytes" "[I" ∈ bw := bw_mem 134 (by decide +kernel) (by decide +kernel)
theorem q_fl_Me_15 : Cond.fieldLink R_Me 15 "ShadowHeap$Memory" "shadows" "[I" ∈ bw := bw_mem 135 (by decide +kernel) (by decide +kernel)
theorem q_fl_S_143 : Cond.fieldLink R_S 143 "ShadowHeap$Memory" "shadows" "[I" ∈ bw := bw_mem 136 (by decide +kernel) (by decide +kernel)
theorem q_fl_Me_18 : Cond.fieldLink R_Me 18 "ShadowHeap$Memory" "blockCells" "[I" ∈ bw := bw_mem 137 (by decide +kernel) (by decide +kernel)
theorem q_fl_Me_21 : Cond.fieldLink R_Me 21 "ShadowHeap$Memory" "quarantined" "[Z" ∈ bw := bw_mem 138 (by decide +kernel) (by decide +kernel)
theorem q_fl_Me_25 : Cond.fieldLink R_Me 25 "ShadowHeap$Memory" "queue" "[I" ∈ bw := bw_mem 139 (by decide +kernel) (by decide +kernel)
theorem q_fl_Me_31 : Cond.fieldLink R_Me 31 "ShadowHeap$Memory" "queuedCells" "I" ∈ bw := bw_mem 140 (by decide +kernel) (by decide +kernel)
theorem q_fl_Me_35 : Cond.fieldLink R_Me 35 "ShadowHeap$Memory" "queued" "I" ∈ bw := bw_mem 141 (by decide +kernel) (by decide +kernel)
theorem q_fl_S_121 : Cond.fieldLink R_S 121 "ShadowHeap$Memory" "queued" "I" ∈ bw := bw_mem 142 (by decide +kernel) (by decide +kernel)
theorem q_fl_Me_38 : Cond.fieldLink R_Me 38 "ShadowHeap$Memory" "liveCount" "I" ∈ bw := bw_mem 143 (by decide +kernel) (by decide +kernel)
theorem q_fl_S_118 : Cond.fieldLink R_S 118 "ShadowHeap$Memory" "liveCount" "I" ∈ bw := bw_mem 144 (by decide +kernel) (by decide +kernel)
theorem q_ac_boolean : Cond.arrayClass .boolean ∈ bw := bw_mem 162 (by decide +kernel) (by decide +kernel)
theorem q_cl_S_23 : Cond.classLink R_S 23 R_Ru ∈ bw := bw_mem 163 (by decide +kernel) (by decide +kernel)
theorem q_ib_Ru : Cond.instantiable R_Ru 10 ∈ bw := bw_mem 164 (by decide +kernel) (by decide +kernel)
theorem q_ml_S_25 : Cond.methodLink R_S 25 y_Ru_init ∈ bw := bw_mem 165 (by decide +kernel) (by decide +kernel)
theorem q_im_Ru_init : Cond.instanceMethod y_Ru_init ∈ bw := bw_mem 166 (by decide +kernel) (by decide +kernel)
theorem q_cd_Ru_init : Cond.code y_Ru_init b_Ru_init 3 none ∈ bw := bw_mem 167 (by decide +kernel) (by decide +kernel)
theorem q_ml_Ru_3 : Cond.methodLink R_Ru 3 objectInit ∈ bw := bw_mem 168 (by decide +kernel) (by decide +kernel)
theorem q_fl_Ru_18 : Cond.fieldLink R_Ru 18 "ShadowHeap$Run" "program" "LShadowHeap$Program;" ∈ bw := bw_mem 169 (by decide +kernel) (by decide +kernel)
theorem q_fl_Ru_22 : Cond.fieldLink R_Ru 22 "ShadowHeap$Run" "memory" "LShadowHeap$Memory;" ∈ bw := bw_mem 170 (by decide +kernel) (by decide +kernel)
theorem q_fl_Ru_9 : Cond.fieldLink R_Ru 9 "ShadowHeap$Run" "registers" "[I" ∈ bw := bw_mem 171 (by decide +kernel) (by decide +kernel)
theorem q_fl_S_124 : Cond.fieldLink R_S 124 "ShadowHeap$Run" "registers" "[I" ∈ bw := bw_mem 172 (by decide +kernel) (by decide +kernel)
theorem q_fl_Ru_15 : Cond.fieldLink R_Ru 15 "ShadowHeap$Run" "printedNumbers" "[I" ∈ bw := bw_mem 173 (by decide +kernel) (by decide +kernel)
theorem q_fl_S_129 : Cond.fieldLink R_S 129 "ShadowHeap$Run" "printedNumbers" "[I" ∈ bw := bw_mem 174 (by decide +kernel) (by decide +kernel)
theorem q_fl_Ru_47 : Cond.fieldLink R_Ru 47 "ShadowHeap$Run" "printedCount" "I" ∈ bw := bw_mem 175 (by decide +kernel) (by decide +kernel)
theorem q_fl_S_115 : Cond.fieldLink R_S 115 "ShadowHeap$Run" "printedCount" "I" ∈ bw := bw_mem 176 (by decide +kernel) (by decide +kernel)
theorem q_fl_Ru_32 : Cond.fieldLink R_Ru 32 "ShadowHeap$Run" "listing" "LShadowHeap$Listing;" ∈ bw := bw_mem 177 (by decide +kernel) (by decide +kernel)
theorem q_fl_S_154 : Cond.fieldLink R_S 154 "ShadowHeap$Run" "listing" "LShadowHeap$Listing;" ∈ bw := bw_mem 178 (by decide +kernel) (by decide +kernel)
theorem q_fl_Ru_35 : Cond.fieldLink R_Ru 35 "ShadowHeap$Run" "state" "I" ∈ bw := bw_mem 179 (by decide +kernel) (by decide +kernel)
theorem q_fl_S_100 : Cond.fieldLink R_S 100 "ShadowHeap$Run" "state" "I" ∈ bw := bw_mem 180 (by decide +kernel) (by decide +kernel)
theorem q_fl_Ru_50 : Cond.fieldLink R_Ru 50 "ShadowHeap$Run" "line" "I" ∈ bw := bw_mem 181 (by decide +kernel) (by decide +kernel)
theorem q_fl_S_112 : Cond.fieldLink R_S 112 "ShadowHeap$Run" "line" "I" ∈ bw := bw_mem 182 (by decide +kernel) (by decide +kernel)
theorem q_fl_Ru_144 : Cond.fieldLink R_Ru 144 "ShadowHeap$Run" "reportKind" "I" ∈ bw := bw_mem 183 (by decide +kernel) (by decide +kernel)
theorem q_fl_S_148 : Cond.fieldLink R_S 148 "ShadowHeap$Run" "reportKind" "I" ∈ bw := bw_mem 184 (by decide +kernel) (by decide +kernel)
theorem q_fl_Ru_147 : Cond.fieldLink R_Ru 147 "ShadowHeap$Run" "reportAddress" "I" ∈ bw := bw_mem 185 (by decide +kernel) (by decide +kernel)
theorem q_fl_S_151 : Cond.fieldLink R_S 151 "ShadowHeap$Run" "reportAddress" "I" ∈ bw := bw_mem 186 (by decide +kernel) (by decide +kernel)
theorem q_fl_S_10 : Cond.fieldLink R_S 10 "ShadowHeap" "program" "LShadowHeap$Program;" ∈ bw := bw_mem 208 (by decide +kernel) (by decide +kernel)
theorem q_fl_S_19 : Cond.fieldLink R_S 19 "ShadowHeap" "memory" "LShadowHeap$Memory;" ∈ bw := bw_mem 209 (by decide +kernel) (by decide +kernel)
theorem q_fl_S_28 : Cond.fieldLink R_S 28 "ShadowHeap" "run" "LShadowHeap$Run;" ∈ bw := bw_mem 210 (by decide +kernel) (by decide +kernel)
theorem q_ml_La_66 : Cond.methodLink R_La 66 y_S_clear ∈ bw := bw_mem 218 (by decide +kernel) (by decide +kernel)
theorem q_im_S_clear : Cond.instanceMethod y_S_clear ∈ bw := bw_mem 219 (by decide +kernel) (by decide +kernel)
theorem q_se_S_clear : Cond.selects R_S y_S_clear y_S_clear ∈ bw := bw_mem 220 (by decide +kernel) (by decide +kernel)
theorem q_cd_S_clear : Cond.code y_S_clear b_S_clear 1 none ∈ bw := bw_mem 221 (by decide +kernel) (by decide +kernel)
theorem q_ml_S_54 : Cond.methodLink R_S 54 y_Ru_drop ∈ bw := bw_mem 222 (by decide +kernel) (by decide +kernel)
theorem q_im_Ru_drop : Cond.instanceMethod y_Ru_drop ∈ bw := bw_mem 223 (by decide +kernel) (by decide +kernel)
theorem q_se_Ru_drop : Cond.selects R_Ru y_Ru_drop y_Ru_drop ∈ bw := bw_mem 224 (by decide +kernel) (by decide +kernel)
theorem q_cd_Ru_drop : Cond.code y_Ru_drop b_Ru_drop 1 none ∈ bw := bw_mem 225 (by decide +kernel) (by decide +kernel)
theorem q_ml_S_61 : Cond.methodLink R_S 61 y_Pr_removeAll ∈ bw := bw_mem 226 (by decide +kernel) (by decide +kernel)
theorem q_im_Pr_removeAll : Cond.instanceMethod y_Pr_removeAll ∈ bw := bw_mem 227 (by decide +kernel) (by decide +kernel)
theorem q_se_Pr_removeAll : Cond.selects R_Pr y_Pr_removeAll y_Pr_removeAll ∈ bw := bw_mem 228 (by decide +kernel) (by decide +kernel)
theorem q_cd_Pr_removeAll : Cond.code y_Pr_removeAll b_Pr_removeAll 1 none ∈ bw := bw_mem 229 (by decide +kernel) (by decide +kernel)
theorem q_ml_La_57 : Cond.methodLink R_La 57 y_La_code ∈ bw := bw_mem 230 (by decide +kernel) (by decide +kernel)
theorem q_st_La_code : Cond.static y_La_code ∈ bw := bw_mem 231 (by decide +kernel) (by decide +kernel)
theorem q_cd_La_code : Cond.codeWith y_La_code b_La_code 8 (some .int) [(0, 16, 19, 13), (0, 16, 23, 15)] ∈ bw := bw_mem 232 (by decide +kernel) (by decide +kernel)
theorem q_cl_La_13 : Cond.classLink R_La 13 "java/lang/IllegalArgumentException" ∈ bw := bw_mem 233 (by decide +kernel) (by decide +kernel)
theorem q_cl_La_15 : Cond.classLink R_La 15 "java/lang/IndexOutOfBoundsException" ∈ bw := bw_mem 234 (by decide +kernel) (by decide +kernel)
theorem q_ml_La_7 : Cond.methodLink R_La 7 y_S_code ∈ bw := bw_mem 235 (by decide +kernel) (by decide +kernel)
theorem q_im_S_code : Cond.instanceMethod y_S_code ∈ bw := bw_mem 236 (by decide +kernel) (by decide +kernel)
theorem q_se_S_code : Cond.selects R_S y_S_code y_S_code ∈ bw := bw_mem 237 (by decide +kernel) (by decide +kernel)
theorem q_cd_S_code : Cond.code y_S_code b_S_code 6 (some .int) ∈ bw := bw_mem 238 (by decide +kernel) (by decide +kernel)
theorem q_cl_S_32 : Cond.classLink R_S 32 "java/lang/IllegalArgumentException" ∈ bw := bw_mem 239 (by decide +kernel) (by decide +kernel)
theorem q_ca_IllegalArgumentException : Cond.castable "java/lang/IllegalArgumentException" "java/lang/IllegalArgumentException" ∈ lw_tbl := List.mem_of_getElem? (i := 241) (by decide +kernel)
theorem q_ml_S_36 : Cond.methodLink R_S 36 ⟨"java/lang/IllegalArgumentException", "<init>", "(Ljava/lang/String;)V"⟩ ∈ bw := bw_mem 281 (by decide +kernel) (by decide +kernel)
theorem q_ac_byte : Cond.arrayClass .byte ∈ bw := bw_mem 306 (by decide +kernel) (by decide +kernel)
theorem q_ml_S_39 : Cond.methodLink R_S 39 y_S_isRegister ∈ bw := bw_mem 307 (by decide +kernel) (by decide +kernel)
theorem q_st_S_isRegister : Cond.static y_S_isRegister ∈ bw := bw_mem 308 (by decide +kernel) (by decide +kernel)
theorem q_cd_S_isRegister : Cond.code y_S_isRegister b_S_isRegister 1 (some .boolean) ∈ bw := bw_mem 309 (by decide +kernel) (by decide +kernel)
theorem q_ml_S_45 : Cond.methodLink R_S 45 y_Pr_size ∈ bw := bw_mem 311 (by decide +kernel) (by decide +kernel)
theorem q_im_Pr_size : Cond.instanceMethod y_Pr_size ∈ bw := bw_mem 312 (by decide +kernel) (by decide +kernel)
theorem q_se_Pr_size : Cond.selects R_Pr y_Pr_size y_Pr_size ∈ bw := bw_mem 313 (by decide +kernel) (by decide +kernel)
theorem q_cd_Pr_size : Cond.code y_Pr_size b_Pr_size 1 (some .int) ∈ bw := bw_mem 314 (by decide +kernel) (by decide +kernel)
theorem q_cl_S_49 : Cond.classLink R_S 49 "java/lang/IndexOutOfBoundsException" ∈ bw := bw_mem 315 (by decide +kernel) (by decide +kernel)
theorem q_ca_IndexOutOfBoundsException : Cond.castable "java/lang/IndexOutOfBoundsException" "java/lang/IndexOutOfBoundsException" ∈ lw_tbl := List.mem_of_getElem? (i := 317) (by decide +kernel)
theorem q_ml_S_53 : Cond.methodLink R_S 53 ⟨"java/lang/IndexOutOfBoundsException", "<init>", "(Ljava/lang/String;)V"⟩ ∈ bw := bw_mem 325 (by decide +kernel) (by decide +kernel)
theorem q_ml_S_57 : Cond.methodLink R_S 57 y_Pr_add ∈ bw := bw_mem 331 (by decide +kernel) (by decide +kernel)
theorem q_im_Pr_add : Cond.instanceMethod y_Pr_add ∈ bw := bw_mem 332 (by decide +kernel) (by decide +kernel)
theorem q_se_Pr_add : Cond.selects R_Pr y_Pr_add y_Pr_add ∈ bw := bw_mem 333 (by decide +kernel) (by decide +kernel)
theorem q_cd_Pr_add : Cond.code y_Pr_add b_Pr_add 7 (some .int) ∈ bw := bw_mem 334 (by decide +kernel) (by decide +kernel)
theorem q_ml_Pr_40 : Cond.methodLink R_Pr 40 y_Pr_size ∈ bw := bw_mem 335 (by decide +kernel) (by decide +kernel)
theorem q_ml_Pr_43 : Cond.methodLink R_Pr 43 y_Li_beginInstruction ∈ bw := bw_mem 336 (by decide +kernel) (by decide +kernel)
theorem q_im_Li_beginInstruction : Cond.instanceMethod y_Li_beginInstruction ∈ bw := bw_mem 337 (by decide +kernel) (by decide +kernel)
theorem q_se_Li_beginInstruction : Cond.selects R_Li y_Li_beginInstruction y_Li_beginInstruction ∈ bw := bw_mem 338 (by decide +kernel) (by decide +kernel)
theorem q_cd_Li_beginInstruction : Cond.code y_Li_beginInstruction b_Li_beginInstruction 2 none ∈ bw := bw_mem 339 (by decide +kernel) (by decide +kernel)
theorem q_ml_Pr_46 : Cond.methodLink R_Pr 46 y_Li_append ∈ bw := bw_mem 340 (by decide +kernel) (by decide +kernel)
theorem q_im_Li_append : Cond.instanceMethod y_Li_append ∈ bw := bw_mem 341 (by decide +kernel) (by decide +kernel)
theorem q_se_Li_append : Cond.selects R_Li y_Li_append y_Li_append ∈ bw := bw_mem 342 (by decide +kernel) (by decide +kernel)
theorem q_cd_Li_append : Cond.code y_Li_append b_Li_append 3 none ∈ bw := bw_mem 343 (by decide +kernel) (by decide +kernel)
theorem q_ml_La_70 : Cond.methodLink R_La 70 y_La_rewrite ∈ bw := bw_mem 344 (by decide +kernel) (by decide +kernel)
theorem q_st_La_rewrite : Cond.static y_La_rewrite ∈ bw := bw_mem 345 (by decide +kernel) (by decide +kernel)
theorem q_cd_La_rewrite : Cond.codeWith y_La_rewrite b_La_rewrite 3 (some .int) [(0, 8, 11, 21)] ∈ bw := bw_mem 346 (by decide +kernel) (by decide +kernel)
theorem q_cl_La_21 : Cond.classLink R_La 21 "java/lang/IllegalStateException" ∈ bw := bw_mem 347 (by decide +kernel) (by decide +kernel)
theorem q_ml_La_17 : Cond.methodLink R_La 17 y_S_rewrite ∈ bw := bw_mem 348 (by decide +kernel) (by decide +kernel)
theorem q_im_S_rewrite : Cond.instanceMethod y_S_rewrite ∈ bw := bw_mem 349 (by decide +kernel) (by decide +kernel)
theorem q_se_S_rewrite : Cond.selects R_S y_S_rewrite y_S_rewrite ∈ bw := bw_mem 350 (by decide +kernel) (by decide +kernel)
theorem q_cd_S_rewrite : Cond.code y_S_rewrite b_S_rewrite 1 (some .int) ∈ bw := bw_mem 351 (by decide +kernel) (by decide +kernel)
theorem q_ml_S_64 : Cond.methodLink R_S 64 y_S_refuseGoingOutside ∈ bw := bw_mem 352 (by decide +kernel) (by decide +kernel)
theorem q_im_S_refuseGoingOutside : Cond.instanceMethod y_S_refuseGoingOutside ∈ bw := bw_mem 354 (by decide +kernel) (by decide +kernel)
theorem q_cd_S_refuseGoingOutside : Cond.code y_S_refuseGoingOutside b_S_refuseGoingOutside 1 none ∈ bw := bw_mem 355 (by decide +kernel) (by decide +kernel)
theorem q_ml_S_157 : Cond.methodLink R_S 157 y_Pr_goesOnWithin ∈ bw := bw_mem 356 (by decide +kernel) (by decide +kernel)
theorem q_im_Pr_goesOnWithin : Cond.instanceMethod y_Pr_goesOnWithin ∈ bw := bw_mem 357 (by decide +kernel) (by decide +kernel)
theorem q_se_Pr_goesOnWithin : Cond.selects R_Pr y_Pr_goesOnWithin y_Pr_goesOnWithin ∈ bw := bw_mem 358 (by decide +kernel) (by decide +kernel)
theorem q_cd_Pr_goesOnWithin : Cond.code y_Pr_goesOnWithin b_Pr_goesOnWithin 2 (some .boolean) ∈ bw := bw_mem 359 (by decide +kernel) (by decide +kernel)
theorem q_ml_Pr_53 : Cond.methodLink R_Pr 53 y_Pr_goesOnElsewhere ∈ bw := bw_mem 360 (by decide +kernel) (by decide +kernel)
theorem q_st_Pr_goesOnElsewhere : Cond.static y_Pr_goesOnElsewhere ∈ bw := bw_mem 361 (by decide +kernel) (by decide +kernel)
theorem q_cd_Pr_goesOnElsewhere : Cond.code y_Pr_goesOnElsewhere b_Pr_goesOnElsewhere 1 (some .boolean) ∈ bw := bw_mem 362 (by decide +kernel) (by decide +kernel)
theorem q_cl_S_91 : Cond.classLink R_S 91 "java/lang/IllegalStateException" ∈ bw := bw_mem 363 (by decide +kernel) (by decide +kernel)
theorem q_ca_IllegalStateException : Cond.castable "java/lang/IllegalStateException" "java/lang/IllegalStateException" ∈ lw_tbl := List.mem_of_getElem? (i := 365) (by decide +kernel)
theorem q_ml_S_95 : Cond.methodLink R_S 95 ⟨"java/lang/IllegalStateException", "<init>", "(Ljava/lang/String;)V"⟩ ∈ bw := bw_mem 373 (by decide +kernel) (by decide +kernel)
theorem q_ml_La_74 : Cond.methodLink R_La 74 y_La_rewritten ∈ bw := bw_mem 379 (by decide +kernel) (by decide +kernel)
theorem q_st_La_rewritten : Cond.static y_La_rewritten ∈ bw := bw_mem 380 (by decide +kernel) (by decide +kernel)
theorem q_cd_La_rewritten : Cond.codeWith y_La_rewritten b_La_rewritten 5 (some .int) [(0, 10, 13, 21), (0, 10, 17, 15), (0, 10, 21, 13)] ∈ bw := bw_mem 381 (by decide +kernel) (by decide +kernel)
theorem q_ml_La_23 : Cond.methodLink R_La 23 y_S_rewritten ∈ bw := bw_mem 382 (by decide +kernel) (by decide +kernel)
theorem q_im_S_rewritten : Cond.instanceMethod y_S_rewritten ∈ bw := bw_mem 383 (by decide +kernel) (by decide +kernel)
theorem q_se_S_rewritten : Cond.selects R_S y_S_rewritten y_S_rewritten ∈ bw := bw_mem 384 (by decide +kernel) (by decide +kernel)
theorem q_cd_S_rewritten : Cond.code y_S_rewritten b_S_rewritten 3 (some .int) ∈ bw := bw_mem 385 (by decide +kernel) (by decide +kernel)
theorem q_ml_S_85 : Cond.methodLink R_S 85 y_Pr_numberAt ∈ bw := bw_mem 387 (by decide +kernel) (by decide +kernel)
theorem q_im_Pr_numberAt : Cond.instanceMethod y_Pr_numberAt ∈ bw := bw_mem 388 (by decide +kernel) (by decide +kernel)
theorem q_se_Pr_numberAt : Cond.selects R_Pr y_Pr_numberAt y_Pr_numberAt ∈ bw := bw_mem 389 (by decide +kernel) (by decide +kernel)
theorem q_cd_Pr_numberAt : Cond.code y_Pr_numberAt b_Pr_numberAt 4 (some .int) ∈ bw := bw_mem 390 (by decide +kernel) (by decide +kernel)
theorem q_ml_La_78 : Cond.methodLink R_La 78 y_La_start ∈ bw := bw_mem 392 (by decide +kernel) (by decide +kernel)
theorem q_st_La_start : Cond.static y_La_start ∈ bw := bw_mem 393 (by decide +kernel) (by decide +kernel)
theorem q_cd_La_start : Cond.codeWith y_La_start b_La_start 5 (some .int) [(0, 7, 10, 21)] ∈ bw := bw_mem 394 (by decide +kernel) (by decide +kernel)
theorem q_ml_La_27 : Cond.methodLink R_La 27 y_S_start ∈ bw := bw_mem 395 (by decide +kernel) (by decide +kernel)
theorem q_im_S_start : Cond.instanceMethod y_S_start ∈ bw := bw_mem 396 (by decide +kernel) (by decide +kernel)
theorem q_se_S_start : Cond.selects R_S y_S_start y_S_start ∈ bw := bw_mem 397 (by decide +kernel) (by decide +kernel)
theorem q_cd_S_start : Cond.code y_S_start b_S_start 4 none ∈ bw := bw_mem 398 (by decide +kernel) (by decide +kernel)
theorem q_ml_S_96 : Cond.methodLink R_S 96 y_Ru_begin ∈ bw := bw_mem 400 (by decide +kernel) (by decide +kernel)
theorem q_im_Ru_begin : Cond.instanceMethod y_Ru_begin ∈ bw := bw_mem 401 (by decide +kernel) (by decide +kernel)
theorem q_se_Ru_begin : Cond.selects R_Ru y_Ru_begin y_Ru_begin ∈ bw := bw_mem 402 (by decide +kernel) (by decide +kernel)
theorem q_cd_Ru_begin : Cond.code y_Ru_begin b_Ru_begin 5 none ∈ bw := bw_mem 403 (by decide +kernel) (by decide +kernel)
theorem q_ml_Ru_42 : Cond.methodLink R_Ru 42 y_Me_reset ∈ bw := bw_mem 404 (by decide +kernel) (by decide +kernel)
theorem q_ml_La_82 : Cond.methodLink R_La 82 y_La_step ∈ bw := bw_mem 405 (by decide +kernel) (by decide +kernel)
theorem q_st_La_step : Cond.static y_La_step ∈ bw := bw_mem 406 (by decide +kernel) (by decide +kernel)
theorem q_cd_La_step : Cond.codeWith y_La_step b_La_step 4 (some .int) [(0, 9, 12, 21), (0, 9, 15, 13)] ∈ bw := bw_mem 407 (by decide +kernel) (by decide +kernel)
theorem q_ml_La_31 : Cond.methodLink R_La 31 y_S_step ∈ bw := bw_mem 408 (by decide +kernel) (by decide +kernel)
theorem q_im_S_step : Cond.instanceMethod y_S_step ∈ bw := bw_mem 409 (by decide +kernel) (by decide +kernel)
theorem q_se_S_step : Cond.selects R_S y_S_step y_S_step ∈ bw := bw_mem 410 (by decide +kernel) (by decide +kernel)
theorem q_cd_S_step : Cond.code y_S_step b_S_step 3 (some .int) ∈ bw := bw_mem 411 (by decide +kernel) (by decide +kernel)
theorem q_ml_S_107 : Cond.methodLink R_S 107 y_Ru_doLine ∈ bw := bw_mem 414 (by decide +kernel) (by decide +kernel)
theorem q_im_Ru_doLine : Cond.instanceMethod y_Ru_doLine ∈ bw := bw_mem 415 (by decide +kernel) (by decide +kernel)
theorem q_se_Ru_doLine : Cond.selects R_Ru y_Ru_doLine y_Ru_doLine ∈ bw := bw_mem 416 (by decide +kernel) (by decide +kernel)
theorem q_cd_Ru_doLine : Cond.code y_Ru_doLine b_Ru_doLine 4 none ∈ bw := bw_mem 417 (by decide +kernel) (by decide +kernel)
theorem q_ml_Ru_61 : Cond.methodLink R_Ru 61 y_Ru_addressOf ∈ bw := bw_mem 418 (by decide +kernel) (by decide +kernel)
theorem q_im_Ru_addressOf : Cond.instanceMethod y_Ru_addressOf ∈ bw := bw_mem 420 (by decide +kernel) (by decide +kernel)
theorem q_cd_Ru_addressOf : Cond.code y_Ru_addressOf b_Ru_addressOf 2 (some .int) ∈ bw := bw_mem 421 (by decide +kernel) (by decide +kernel)
theorem q_ml_Ru_72 : Cond.methodLink R_Ru 72 y_Ru_aOf ∈ bw := bw_mem 422 (by decide +kernel) (by decide +kernel)
theorem q_im_Ru_aOf : Cond.instanceMethod y_Ru_aOf ∈ bw := bw_mem 424 (by decide +kernel) (by decide +kernel)
theorem q_cd_Ru_aOf : Cond.code y_Ru_aOf b_Ru_aOf 2 (some .int) ∈ bw := bw_mem 425 (by decide +kernel) (by decide +kernel)
theorem q_ml_Ru_65 : Cond.methodLink R_Ru 65 y_Pr_widthOf ∈ bw := bw_mem 426 (by decide +kernel) (by decide +kernel)
theorem q_im_Pr_widthOf : Cond.instanceMethod y_Pr_widthOf ∈ bw := bw_mem 427 (by decide +kernel) (by decide +kernel)
theorem q_se_Pr_widthOf : Cond.selects R_Pr y_Pr_widthOf y_Pr_widthOf ∈ bw := bw_mem 428 (by decide +kernel) (by decide +kernel)
theorem q_cd_Pr_widthOf : Cond.code y_Pr_widthOf b_Pr_widthOf 3 (some .int) ∈ bw := bw_mem 429 (by decide +kernel) (by decide +kernel)
theorem q_ml_Ru_68 : Cond.methodLink R_Ru 68 y_Ru_checkBytes ∈ bw := bw_mem 430 (by decide +kernel) (by decide +kernel)
theorem q_im_Ru_checkBytes : Cond.instanceMethod y_Ru_checkBytes ∈ bw := bw_mem 432 (by decide +kernel) (by decide +kernel)
theorem q_cd_Ru_checkBytes : Cond.code y_Ru_checkBytes b_Ru_checkBytes 5 none ∈ bw := bw_mem 433 (by decide +kernel) (by decide +kernel)
theorem q_ml_Ru_138 : Cond.methodLink R_Ru 138 y_Me_kindOfTouch ∈ bw := bw_mem 434 (by decide +kernel) (by decide +kernel)
theorem q_im_Me_kindOfTouch : Cond.instanceMethod y_Me_kindOfTouch ∈ bw := bw_mem 435 (by decide +kernel) (by decide +kernel)
theorem q_se_Me_kindOfTouch : Cond.selects R_Me y_Me_kindOfTouch y_Me_kindOfTouch ∈ bw := bw_mem 436 (by decide +kernel) (by decide +kernel)
theorem q_cd_Me_kindOfTouch : Cond.code y_Me_kindOfTouch b_Me_kindOfTouch 2 (some .int) ∈ bw := bw_mem 437 (by decide +kernel) (by decide +kernel)
theorem q_ml_Me_41 : Cond.methodLink R_Me 41 y_Me_holds ∈ bw := bw_mem 438 (by decide +kernel) (by decide +kernel)
theorem q_st_Me_holds : Cond.static y_Me_holds ∈ bw := bw_mem 439 (by decide +kernel) (by decide +kernel)
theorem q_cd_Me_holds : Cond.code y_Me_holds b_Me_holds 2 (some .boolean) ∈ bw := bw_mem 440 (by decide +kernel) (by decide +kernel)
theorem q_ml_Ru_141 : Cond.methodLink R_Ru 141 y_Ru_endWithReport ∈ bw := bw_mem 441 (by decide +kernel) (by decide +kernel)
theorem q_im_Ru_endWithReport : Cond.instanceMethod y_Ru_endWithReport ∈ bw := bw_mem 443 (by decide +kernel) (by decide +kernel)
theorem q_cd_Ru_endWithReport : Cond.code y_Ru_endWithReport b_Ru_endWithReport 3 none ∈ bw := bw_mem 444 (by decide +kernel) (by decide +kernel)
theorem q_ml_Ru_75 : Cond.methodLink R_Ru 75 y_Ru_checkFree ∈ bw := bw_mem 445 (by decide +kernel) (by decide +kernel)
theorem q_im_Ru_checkFree : Cond.instanceMethod y_Ru_checkFree ∈ bw := bw_mem 447 (by decide +kernel) (by decide +kernel)
theorem q_cd_Ru_checkFree : Cond.code y_Ru_checkFree b_Ru_checkFree 2 none ∈ bw := bw_mem 448 (by decide +kernel) (by decide +kernel)
theorem q_ml_Ru_121 : Cond.methodLink R_Ru 121 y_Me_mayFree ∈ bw := bw_mem 449 (by decide +kernel) (by decide +kernel)
theorem q_im_Me_mayFree : Cond.instanceMethod y_Me_mayFree ∈ bw := bw_mem 450 (by decide +kernel) (by decide +kernel)
theorem q_se_Me_mayFree : Cond.selects R_Me y_Me_mayFree y_Me_mayFree ∈ bw := bw_mem 451 (by decide +kernel) (by decide +kernel)
theorem q_cd_Me_mayFree : Cond.code y_Me_mayFree b_Me_mayFree 3 (some .boolean) ∈ bw := bw_mem 452 (by decide +kernel) (by decide +kernel)
theorem q_ml_Ru_79 : Cond.methodLink R_Ru 79 y_Ru_goesOn ∈ bw := bw_mem 453 (by decide +kernel) (by decide +kernel)
theorem q_im_Ru_goesOn : Cond.instanceMethod y_Ru_goesOn ∈ bw := bw_mem 455 (by decide +kernel) (by decide +kernel)
theorem q_cd_Ru_goesOn : Cond.code y_Ru_goesOn b_Ru_goesOn 3 (some .boolean) ∈ bw := bw_mem 456 (by decide +kernel) (by decide +kernel)
theorem q_ml_Ru_106 : Cond.methodLink R_Ru 106 y_Ru_bOf ∈ bw := bw_mem 457 (by decide +kernel) (by decide +kernel)
theorem q_im_Ru_bOf : Cond.instanceMethod y_Ru_bOf ∈ bw := bw_mem 459 (by decide +kernel) (by decide +kernel)
theorem q_cd_Ru_bOf : Cond.code y_Ru_bOf b_Ru_bOf 2 (some .int) ∈ bw := bw_mem 460 (by decide +kernel) (by decide +kernel)
theorem q_ml_Ru_83 : Cond.methodLink R_Ru 83 y_Pr_numberAt ∈ bw := bw_mem 461 (by decide +kernel) (by decide +kernel)
theorem q_ml_Ru_87 : Cond.methodLink R_Ru 87 y_Ru_useHeap ∈ bw := bw_mem 462 (by decide +kernel) (by decide +kernel)
theorem q_im_Ru_useHeap : Cond.instanceMethod y_Ru_useHeap ∈ bw := bw_mem 464 (by decide +kernel) (by decide +kernel)
theorem q_cd_Ru_useHeap : Cond.code y_Ru_useHeap b_Ru_useHeap 3 none ∈ bw := bw_mem 465 (by decide +kernel) (by decide +kernel)
theorem q_ml_Ru_112 : Cond.methodLink R_Ru 112 y_Me_allocate ∈ bw := bw_mem 466 (by decide +kernel) (by decide +kernel)
theorem q_im_Me_allocate : Cond.instanceMethod y_Me_allocate ∈ bw := bw_mem 467 (by decide +kernel) (by decide +kernel)
theorem q_se_Me_allocate : Cond.selects R_Me y_Me_allocate y_Me_allocate ∈ bw := bw_mem 468 (by decide +kernel) (by decide +kernel)
theorem q_cd_Me_allocate : Cond.code y_Me_allocate b_Me_allocate 5 (some .int) ∈ bw := bw_mem 469 (by decide +kernel) (by decide +kernel)
theorem q_ml_Me_45 : Cond.methodLink R_Me 45 y_Me_lowestGap ∈ bw := bw_mem 470 (by decide +kernel) (by decide +kernel)
theorem q_im_Me_lowestGap : Cond.instanceMethod y_Me_lowestGap ∈ bw := bw_mem 472 (by decide +kernel) (by decide +kernel)
theorem q_cd_Me_lowestGap : Cond.code y_Me_lowestGap b_Me_lowestGap 4 (some .int) ∈ bw := bw_mem 473 (by decide +kernel) (by decide +kernel)
theorem q_ml_Me_49 : Cond.methodLink R_Me 49 y_Me_releaseOldest ∈ bw := bw_mem 474 (by decide +kernel) (by decide +kernel)
theorem q_im_Me_releaseOldest : Cond.instanceMethod y_Me_releaseOldest ∈ bw := bw_mem 476 (by decide +kernel) (by decide +kernel)
theorem q_cd_Me_releaseOldest : Cond.code y_Me_releaseOldest b_Me_releaseOldest 4 none ∈ bw := bw_mem 477 (by decide +kernel) (by decide +kernel)
theorem q_ml_Me_56 : Cond.methodLink R_Me 56 y_Me_paint ∈ bw := bw_mem 478 (by decide +kernel) (by decide +kernel)
theorem q_im_Me_paint : Cond.instanceMethod y_Me_paint ∈ bw := bw_mem 480 (by decide +kernel) (by decide +kernel)
theorem q_cd_Me_paint : Cond.code y_Me_paint b_Me_paint 5 none ∈ bw := bw_mem 481 (by decide +kernel) (by decide +kernel)
theorem q_ml_Me_52 : Cond.methodLink R_Me 52 y_Me_placeBlock ∈ bw := bw_mem 482 (by decide +kernel) (by decide +kernel)
theorem q_im_Me_placeBlock : Cond.instanceMethod y_Me_placeBlock ∈ bw := bw_mem 484 (by decide +kernel) (by decide +kernel)
theorem q_cd_Me_placeBlock : Cond.code y_Me_placeBlock b_Me_placeBlock 6 none ∈ bw := bw_mem 485 (by decide +kernel) (by decide +kernel)
theorem q_ml_Ru_115 : Cond.methodLink R_Ru 115 y_Ru_freeOrCrash ∈ bw := bw_mem 486 (by decide +kernel) (by decide +kernel)
theorem q_im_Ru_freeOrCrash : Cond.instanceMethod y_Ru_freeOrCrash ∈ bw := bw_mem 488 (by decide +kernel) (by decide +kernel)
theorem q_cd_Ru_freeOrCrash : Cond.code y_Ru_freeOrCrash b_Ru_freeOrCrash 2 none ∈ bw := bw_mem 489 (by decide +kernel) (by decide +kernel)
theorem q_ml_Ru_125 : Cond.methodLink R_Ru 125 y_Me_free ∈ bw := bw_mem 490 (by decide +kernel) (by decide +kernel)
theorem q_im_Me_free : Cond.instanceMethod y_Me_free ∈ bw := bw_mem 491 (by decide +kernel) (by decide +kernel)
theorem q_se_Me_free : Cond.selects R_Me y_Me_free y_Me_free ∈ bw := bw_mem 492 (by decide +kernel) (by decide +kernel)
theorem q_cd_Me_free : Cond.code y_Me_free b_Me_free 5 none ∈ bw := bw_mem 493 (by decide +kernel) (by decide +kernel)
theorem q_ml_Ru_118 : Cond.methodLink R_Ru 118 y_Ru_touchOrCrash ∈ bw := bw_mem 494 (by decide +kernel) (by decide +kernel)
theorem q_im_Ru_touchOrCrash : Cond.instanceMethod y_Ru_touchOrCrash ∈ bw := bw_mem 496 (by decide +kernel) (by decide +kernel)
theorem q_cd_Ru_touchOrCrash : Cond.code y_Ru_touchOrCrash b_Ru_touchOrCrash 5 none ∈ bw := bw_mem 497 (by decide +kernel) (by decide +kernel)
theorem q_ml_Ru_128 : Cond.methodLink R_Ru 128 y_Me_holds ∈ bw := bw_mem 498 (by decide +kernel) (by decide +kernel)
theorem q_ml_Ru_131 : Cond.methodLink R_Ru 131 y_Me_load ∈ bw := bw_mem 499 (by decide +kernel) (by decide +kernel)
theorem q_im_Me_load : Cond.instanceMethod y_Me_load ∈ bw := bw_mem 500 (by decide +kernel) (by decide +kernel)
theorem q_se_Me_load : Cond.selects R_Me y_Me_load y_Me_load ∈ bw := bw_mem 501 (by decide +kernel) (by decide +kernel)
theorem q_cd_Me_load : Cond.code y_Me_load b_Me_load 5 (some .int) ∈ bw := bw_mem 502 (by decide +kernel) (by decide +kernel)
theorem q_ml_Ru_134 : Cond.methodLink R_Ru 134 y_Me_store ∈ bw := bw_mem 503 (by decide +kernel) (by decide +kernel)
theorem q_im_Me_store : Cond.instanceMethod y_Me_store ∈ bw := bw_mem 504 (by decide +kernel) (by decide +kernel)
theorem q_se_Me_store : Cond.selects R_Me y_Me_store y_Me_store ∈ bw := bw_mem 505 (by decide +kernel) (by decide +kernel)
theorem q_cd_Me_store : Cond.code y_Me_store b_Me_store 5 none ∈ bw := bw_mem 506 (by decide +kernel) (by decide +kernel)
theorem q_ml_Ru_90 : Cond.methodLink R_Ru 90 y_Ru_print ∈ bw := bw_mem 507 (by decide +kernel) (by decide +kernel)
theorem q_im_Ru_print : Cond.instanceMethod y_Ru_print ∈ bw := bw_mem 509 (by decide +kernel) (by decide +kernel)
theorem q_cd_Ru_print : Cond.code y_Ru_print b_Ru_print 2 none ∈ bw := bw_mem 510 (by decide +kernel) (by decide +kernel)
theorem q_ml_Ru_96 : Cond.methodLink R_Ru 96 y_Ru_computed ∈ bw := bw_mem 511 (by decide +kernel) (by decide +kernel)
theorem q_im_Ru_computed : Cond.instanceMethod y_Ru_computed ∈ bw := bw_mem 513 (by decide +kernel) (by decide +kernel)
theorem q_cd_Ru_computed : Cond.code y_Ru_computed b_Ru_computed 3 (some .int) ∈ bw := bw_mem 514 (by decide +kernel) (by decide +kernel)
theorem q_ml_Ru_100 : Cond.methodLink R_Ru 100 y_Ru_goOnAt ∈ bw := bw_mem 515 (by decide +kernel) (by decide +kernel)
theorem q_im_Ru_goOnAt : Cond.instanceMethod y_Ru_goOnAt ∈ bw := bw_mem 517 (by decide +kernel) (by decide +kernel)
theorem q_cd_Ru_goOnAt : Cond.code y_Ru_goOnAt b_Ru_goOnAt 2 none ∈ bw := bw_mem 518 (by decide +kernel) (by decide +kernel)
theorem q_ml_La_86 : Cond.methodLink R_La 86 y_La_look ∈ bw := bw_mem 519 (by decide +kernel) (by decide +kernel)
theorem q_st_La_look : Cond.static y_La_look ∈ bw := bw_mem 520 (by decide +kernel) (by decide +kernel)
theorem q_cd_La_look : Cond.codeWith y_La_look b_La_look 4 (some .int) [(0, 9, 12, 13)] ∈ bw := bw_mem 521 (by decide +kernel) (by decide +kernel)
theorem q_ml_La_35 : Cond.methodLink R_La 35 y_S_look ∈ bw := bw_mem 522 (by decide +kernel) (by decide +kernel)
theorem q_im_S_look : Cond.instanceMethod y_S_look ∈ bw := bw_mem 523 (by decide +kernel) (by decide +kernel)
theorem q_se_S_look : Cond.selects R_S y_S_look y_S_look ∈ bw := bw_mem 524 (by decide +kernel) (by decide +kernel)
theorem q_cd_S_look : Cond.code y_S_look b_S_look 2 (some .int) ∈ bw := bw_mem 525 (by decide +kernel) (by decide +kernel)
theorem q_ml_La_89 : Cond.methodLink R_La 89 y_La_register ∈ bw := bw_mem 527 (by decide +kernel) (by decide +kernel)
theorem q_st_La_register : Cond.static y_La_register ∈ bw := bw_mem 528 (by decide +kernel) (by decide +kernel)
theorem q_cd_La_register : Cond.codeWith y_La_register b_La_register 4 (some .int) [(0, 9, 12, 13)] ∈ bw := bw_mem 529 (by decide +kernel) (by decide +kernel)
theorem q_ml_La_38 : Cond.methodLink R_La 38 y_S_register ∈ bw := bw_mem 530 (by decide +kernel) (by decide +kernel)
theorem q_im_S_register : Cond.instanceMethod y_S_register ∈ bw := bw_mem 531 (by decide +kernel) (by decide +kernel)
theorem q_se_S_register : Cond.selects R_S y_S_register y_S_register ∈ bw := bw_mem 532 (by decide +kernel) (by decide +kernel)
theorem q_cd_S_register : Cond.code y_S_register b_S_register 2 (some .int) ∈ bw := bw_mem 533 (by decide +kernel) (by decide +kernel)
theorem q_ml_La_92 : Cond.methodLink R_La 92 y_La_printed ∈ bw := bw_mem 534 (by decide +kernel) (by decide +kernel)
theorem q_st_La_printed : Cond.static y_La_printed ∈ bw := bw_mem 535 (by decide +kernel) (by decide +kernel)
theorem q_cd_La_printed : Cond.codeWith y_La_printed b_La_printed 4 (some .int) [(0, 9, 12, 15)] ∈ bw := bw_mem 536 (by decide +kernel) (by decide +kernel)
theorem q_ml_La_41 : Cond.methodLink R_La 41 y_S_printed ∈ bw := bw_mem 537 (by decide +kernel) (by decide +kernel)
theorem q_im_S_printed : Cond.instanceMethod y_S_printed ∈ bw := bw_mem 538 (by decide +kernel) (by decide +kernel)
theorem q_se_S_printed : Cond.selects R_S y_S_printed y_S_printed ∈ bw := bw_mem 539 (by decide +kernel) (by decide +kernel)
theorem q_cd_S_printed : Cond.code y_S_printed b_S_printed 2 (some .int) ∈ bw := bw_mem 540 (by decide +kernel) (by decide +kernel)
theorem q_ml_La_95 : Cond.methodLink R_La 95 y_La_heap ∈ bw := bw_mem 542 (by decide +kernel) (by decide +kernel)
theorem q_st_La_heap : Cond.static y_La_heap ∈ bw := bw_mem 543 (by decide +kernel) (by decide +kernel)
theorem q_cd_La_heap : Cond.codeWith y_La_heap b_La_heap 4 (some .int) [(0, 9, 12, 15)] ∈ bw := bw_mem 544 (by decide +kernel) (by decide +kernel)
theorem q_ml_La_44 : Cond.methodLink R_La 44 y_S_heap ∈ bw := bw_mem 545 (by decide +kernel) (by decide +kernel)
theorem q_im_S_heap : Cond.instanceMethod y_S_heap ∈ bw := bw_mem 546 (by decide +kernel) (by decide +kernel)
theorem q_se_S_heap : Cond.selects R_S y_S_heap y_S_heap ∈ bw := bw_mem 547 (by decide +kernel) (by decide +kernel)
theorem q_cd_S_heap : Cond.code y_S_heap b_S_heap 2 (some .int) ∈ bw := bw_mem 548 (by decide +kernel) (by decide +kernel)
theorem q_ml_S_132 : Cond.methodLink R_S 132 y_Me_holds ∈ bw := bw_mem 549 (by decide +kernel) (by decide +kernel)
theorem q_ml_La_98 : Cond.methodLink R_La 98 y_La_shadow ∈ bw := bw_mem 551 (by decide +kernel) (by decide +kernel)
theorem q_st_La_shadow : Cond.static y_La_shadow ∈ bw := bw_mem 552 (by decide +kernel) (by decide +kernel)
theorem q_cd_La_shadow : Cond.codeWith y_La_shadow b_La_shadow 4 (some .int) [(0, 9, 12, 15)] ∈ bw := bw_mem 553 (by decide +kernel) (by decide +kernel)
theorem q_ml_La_47 : Cond.methodLink R_La 47 y_S_shadow ∈ bw := bw_mem 554 (by decide +kernel) (by decide +kernel)
theorem q_im_S_shadow : Cond.instanceMethod y_S_shadow ∈ bw := bw_mem 555 (by decide +kernel) (by decide +kernel)
theorem q_se_S_shadow : Cond.selects R_S y_S_shadow y_S_shadow ∈ bw := bw_mem 556 (by decide +kernel) (by decide +kernel)
theorem q_cd_S_shadow : Cond.code y_S_shadow b_S_shadow 2 (some .int) ∈ bw := bw_mem 557 (by decide +kernel) (by decide +kernel)
theorem q_ml_La_101 : Cond.methodLink R_La 101 y_La_report ∈ bw := bw_mem 559 (by decide +kernel) (by decide +kernel)
theorem q_st_La_report : Cond.static y_La_report ∈ bw := bw_mem 560 (by decide +kernel) (by decide +kernel)
theorem q_cd_La_report : Cond.codeWith y_La_report b_La_report 4 (some .int) [(0, 9, 12, 21), (0, 9, 15, 13)] ∈ bw := bw_mem 561 (by decide +kernel) (by decide +kernel)
theorem q_ml_La_50 : Cond.methodLink R_La 50 y_S_report ∈ bw := bw_mem 562 (by decide +kernel) (by decide +kernel)
theorem q_im_S_report : Cond.instanceMethod y_S_report ∈ bw := bw_mem 563 (by decide +kernel) (by decide +kernel)
theorem q_se_S_report : Cond.selects R_S y_S_report y_S_report ∈ bw := bw_mem 564 (by decide +kernel) (by decide +kernel)
theorem q_cd_S_report : Cond.code y_S_report b_S_report 2 (some .int) ∈ bw := bw_mem 565 (by decide +kernel) (by decide +kernel)
theorem q_cl_La_54 : Cond.classLink R_La 54 R_Mo ∈ bw := bw_mem 567 (by decide +kernel) (by decide +kernel)
theorem q_ib_Mo : Cond.instantiable R_Mo 23 ∈ bw := bw_mem 568 (by decide +kernel) (by decide +kernel)
theorem q_ml_La_56 : Cond.methodLink R_La 56 y_Mo_init ∈ bw := bw_mem 569 (by decide +kernel) (by decide +kernel)
theorem q_im_Mo_init : Cond.instanceMethod y_Mo_init ∈ bw := bw_mem 570 (by decide +kernel) (by decide +kernel)
theorem q_cd_Mo_init : Cond.code y_Mo_init b_Mo_init 1 none ∈ bw := bw_mem 571 (by decide +kernel) (by decide +kernel)
theorem q_ml_Mo_1 : Cond.methodLink R_Mo 1 objectInit ∈ bw := bw_mem 572 (by decide +kernel) (by decide +kernel)
theorem q_ml_Mo_46 : Cond.methodLink R_Mo 46 y_Mo_empty ∈ bw := bw_mem 573 (by decide +kernel) (by decide +kernel)
theorem q_im_Mo_empty : Cond.instanceMethod y_Mo_empty ∈ bw := bw_mem 575 (by decide +kernel) (by decide +kernel)
theorem q_cd_Mo_empty : Cond.code y_Mo_empty b_Mo_empty 2 none ∈ bw := bw_mem 576 (by decide +kernel) (by decide +kernel)
theorem q_fl_Mo_49 : Cond.fieldLink R_Mo 49 "ShadowHeapModel" "code" "I" ∈ bw := bw_mem 577 (by decide +kernel) (by decide +kernel)
theorem q_fl_Mo_61 : Cond.fieldLink R_Mo 61 "ShadowHeapModel" "count" "I" ∈ bw := bw_mem 578 (by decide +kernel) (by decide +kernel)
theorem q_fl_Mo_7 : Cond.fieldLink R_Mo 7 "ShadowHeapModel" "operation" "[I" ∈ bw := bw_mem 579 (by decide +kernel) (by decide +kernel)
theorem q_fl_Mo_13 : Cond.fieldLink R_Mo 13 "ShadowHeapModel" "rs" "[I" ∈ bw := bw_mem 580 (by decide +kernel) (by decide +kernel)
theorem q_fl_Mo_16 : Cond.fieldLink R_Mo 16 "ShadowHeapModel" "as" "[I" ∈ bw := bw_mem 581 (by decide +kernel) (by decide +kernel)
theorem q_fl_Mo_19 : Cond.fieldLink R_Mo 19 "ShadowHeapModel" "bs" "[I" ∈ bw := bw_mem 582 (by decide +kernel) (by decide +kernel)
theorem q_fl_Mo_22 : Cond.fieldLink R_Mo 22 "ShadowHeapModel" "ks" "[I" ∈ bw := bw_mem 583 (by decide +kernel) (by decide +kernel)
theorem q_fl_Mo_25 : Cond.fieldLink R_Mo 25 "ShadowHeapModel" "heap" "[I" ∈ bw := bw_mem 584 (by decide +kernel) (by decide +kernel)
theorem q_fl_Mo_28 : Cond.fieldLink R_Mo 28 "ShadowHeapModel" "shadow" "[I" ∈ bw := bw_mem 585 (by decide +kernel) (by decide +kernel)
theorem q_fl_Mo_31 : Cond.fieldLink R_Mo 31 "ShadowHeapModel" "owner" "[I" ∈ bw := bw_mem 586 (by decide +kernel) (by decide +kernel)
theorem q_fl_Mo_34 : Cond.fieldLink R_Mo 34 "ShadowHeapModel" "size" "[I" ∈ bw := bw_mem 587 (by decide +kernel) (by decide +kernel)
theorem q_fl_Mo_83 : Cond.fieldLink R_Mo 83 "ShadowHeapModel" "waiting" "I" ∈ bw := bw_mem 588 (by decide +kernel) (by decide +kernel)
theorem q_fl_Mo_37 : Cond.fieldLink R_Mo 37 "ShadowHeapModel" "quarantine" "[I" ∈ bw := bw_mem 589 (by decide +kernel) (by decide +kernel)
theorem q_fl_Mo_64 : Cond.fieldLink R_Mo 64 "ShadowHeapModel" "state" "I" ∈ bw := bw_mem 590 (by decide +kernel) (by decide +kernel)
theorem q_fl_Mo_99 : Cond.fieldLink R_Mo 99 "ShadowHeapModel" "checked" "Z" ∈ bw := bw_mem 591 (by decide +kernel) (by decide +kernel)
theorem q_fl_Mo_103 : Cond.fieldLink R_Mo 103 "ShadowHeapModel" "at" "I" ∈ bw := bw_mem 592 (by decide +kernel) (by decide +kernel)
theorem q_fl_Mo_106 : Cond.fieldLink R_Mo 106 "ShadowHeapModel" "lastDone" "I" ∈ bw := bw_mem 593 (by decide +kernel) (by decide +kernel)
theorem q_fl_Mo_40 : Cond.fieldLink R_Mo 40 "ShadowHeapModel" "register" "[I" ∈ bw := bw_mem 594 (by decide +kernel) (by decide +kernel)
theorem q_fl_Mo_109 : Cond.fieldLink R_Mo 109 "ShadowHeapModel" "prints" "I" ∈ bw := bw_mem 595 (by decide +kernel) (by decide +kernel)
theorem q_fl_Mo_43 : Cond.fieldLink R_Mo 43 "ShadowHeapModel" "print" "[I" ∈ bw := bw_mem 596 (by decide +kernel) (by decide +kernel)
theorem q_fl_Mo_112 : Cond.fieldLink R_Mo 112 "ShadowHeapModel" "kind" "I" ∈ bw := bw_mem 597 (by decide +kernel) (by decide +kernel)
theorem q_fl_Mo_115 : Cond.fieldLink R_Mo 115 "ShadowHeapModel" "where" "I" ∈ bw := bw_mem 598 (by decide +kernel) (by decide +kernel)
theorem q_fl_Mo_118 : Cond.fieldLink R_Mo 118 "ShadowHeapModel" "whose" "I" ∈ bw := bw_mem 599 (by decide +kernel) (by decide +kernel)
theorem q_ml_La_63 : Cond.methodLink R_La 63 y_Mo_thrown ∈ bw := bw_mem 647 (by decide +kernel) (by decide +kernel)
theorem q_im_Mo_thrown : Cond.instanceMethod y_Mo_thrown ∈ bw := bw_mem 648 (by decide +kernel) (by decide +kernel)
theorem q_se_Mo_thrown : Cond.selects R_Mo y_Mo_thrown y_Mo_thrown ∈ bw := bw_mem 649 (by decide +kernel) (by decide +kernel)
theorem q_cd_Mo_thrown : Cond.code y_Mo_thrown b_Mo_thrown 1 (some .int) ∈ bw := bw_mem 650 (by decide +kernel) (by decide +kernel)
theorem q_ml_La_62 : Cond.methodLink R_La 62 y_Mo_code ∈ bw := bw_mem 651 (by decide +kernel) (by decide +kernel)
theorem q_im_Mo_code : Cond.instanceMethod y_Mo_code ∈ bw := bw_mem 652 (by decide +kernel) (by decide +kernel)
theorem q_se_Mo_code : Cond.selects R_Mo y_Mo_code y_Mo_code ∈ bw := bw_mem 653 (by decide +kernel) (by decide +kernel)
theorem q_cd_Mo_code : Cond.code y_Mo_code b_Mo_code 6 (some .int) ∈ bw := bw_mem 654 (by decide +kernel) (by decide +kernel)
theorem q_ml_Mo_53 : Cond.methodLink R_Mo 53 y_Mo_isRegister ∈ bw := bw_mem 655 (by decide +kernel) (by decide +kernel)
theorem q_st_Mo_isRegister : Cond.static y_Mo_isRegister ∈ bw := bw_mem 656 (by decide +kernel) (by decide +kernel)
theorem q_cd_Mo_isRegister : Cond.code y_Mo_isRegister b_Mo_isRegister 1 (some .boolean) ∈ bw := bw_mem 657 (by decide +kernel) (by decide +kernel)
theorem q_ml_Mo_57 : Cond.methodLink R_Mo 57 y_Mo_refuse ∈ bw := bw_mem 658 (by decide +kernel) (by decide +kernel)
theorem q_im_Mo_refuse : Cond.instanceMethod y_Mo_refuse ∈ bw := bw_mem 660 (by decide +kernel) (by decide +kernel)
theorem q_cd_Mo_refuse : Cond.code y_Mo_refuse b_Mo_refuse 2 (some .int) ∈ bw := bw_mem 661 (by decide +kernel) (by decide +kernel)
theorem q_ml_La_69 : Cond.methodLink R_La 69 y_Mo_clear ∈ bw := bw_mem 662 (by decide +kernel) (by decide +kernel)
theorem q_im_Mo_clear : Cond.instanceMethod y_Mo_clear ∈ bw := bw_mem 663 (by decide +kernel) (by decide +kernel)
theorem q_se_Mo_clear : Cond.selects R_Mo y_Mo_clear y_Mo_clear ∈ bw := bw_mem 664 (by decide +kernel) (by decide +kernel)
theorem q_cd_Mo_clear : Cond.code y_Mo_clear b_Mo_clear 1 none ∈ bw := bw_mem 665 (by decide +kernel) (by decide +kernel)
theorem q_ml_La_73 : Cond.methodLink R_La 73 y_Mo_rewrite ∈ bw := bw_mem 666 (by decide +kernel) (by decide +kernel)
theorem q_im_Mo_rewrite : Cond.instanceMethod y_Mo_rewrite ∈ bw := bw_mem 667 (by decide +kernel) (by decide +kernel)
theorem q_se_Mo_rewrite : Cond.selects R_Mo y_Mo_rewrite y_Mo_rewrite ∈ bw := bw_mem 668 (by decide +kernel) (by decide +kernel)
theorem q_cd_Mo_rewrite : Cond.code y_Mo_rewrite b_Mo_rewrite 1 (some .int) ∈ bw := bw_mem 669 (by decide +kernel) (by decide +kernel)
theorem q_ml_Mo_76 : Cond.methodLink R_Mo 76 y_Mo_isSound ∈ bw := bw_mem 670 (by decide +kernel) (by decide +kernel)
theorem q_im_Mo_isSound : Cond.instanceMethod y_Mo_isSound ∈ bw := bw_mem 672 (by decide +kernel) (by decide +kernel)
theorem q_cd_Mo_isSound : Cond.code y_Mo_isSound b_Mo_isSound 3 (some .boolean) ∈ bw := bw_mem 673 (by decide +kernel) (by decide +kernel)
theorem q_ml_Mo_70 : Cond.methodLink R_Mo 70 y_Mo_place ∈ bw := bw_mem 674 (by decide +kernel) (by decide +kernel)
theorem q_im_Mo_place : Cond.instanceMethod y_Mo_place ∈ bw := bw_mem 676 (by decide +kernel) (by decide +kernel)
theorem q_cd_Mo_place : Cond.code y_Mo_place b_Mo_place 4 (some .int) ∈ bw := bw_mem 677 (by decide +kernel) (by decide +kernel)
theorem q_ml_Mo_67 : Cond.methodLink R_Mo 67 y_Mo_isChecked ∈ bw := bw_mem 678 (by decide +kernel) (by decide +kernel)
theorem q_im_Mo_isChecked : Cond.instanceMethod y_Mo_isChecked ∈ bw := bw_mem 680 (by decide +kernel) (by decide +kernel)
theorem q_cd_Mo_isChecked : Cond.code y_Mo_isChecked b_Mo_isChecked 2 (some .boolean) ∈ bw := bw_mem 681 (by decide +kernel) (by decide +kernel)
theorem q_ml_La_77 : Cond.methodLink R_La 77 y_Mo_rewritten ∈ bw := bw_mem 682 (by decide +kernel) (by decide +kernel)
theorem q_im_Mo_rewritten : Cond.instanceMethod y_Mo_rewritten ∈ bw := bw_mem 683 (by decide +kernel) (by decide +kernel)
theorem q_se_Mo_rewritten : Cond.selects R_Mo y_Mo_rewritten y_Mo_rewritten ∈ bw := bw_mem 684 (by decide +kernel) (by decide +kernel)
theorem q_cd_Mo_rewritten : Cond.code y_Mo_rewritten b_Mo_rewritten 5 (some .int) ∈ bw := bw_mem 685 (by decide +kernel) (by decide +kernel)
theorem q_ml_Mo_73 : Cond.methodLink R_Mo 73 y_Mo_instructionAt ∈ bw := bw_mem 686 (by decide +kernel) (by decide +kernel)
theorem q_im_Mo_instructionAt : Cond.instanceMethod y_Mo_instructionAt ∈ bw := bw_mem 688 (by decide +kernel) (by decide +kernel)
theorem q_cd_Mo_instructionAt : Cond.code y_Mo_instructionAt b_Mo_instructionAt 3 (some .int) ∈ bw := bw_mem 689 (by decide +kernel) (by decide +kernel)
theorem q_ml_Mo_80 : Cond.methodLink R_Mo 80 y_Mo_isCheck ∈ bw := bw_mem 690 (by decide +kernel) (by decide +kernel)
theorem q_im_Mo_isCheck : Cond.instanceMethod y_Mo_isCheck ∈ bw := bw_mem 692 (by decide +kernel) (by decide +kernel)
theorem q_cd_Mo_isCheck : Cond.code y_Mo_isCheck b_Mo_isCheck 3 (some .boolean) ∈ bw := bw_mem 693 (by decide +kernel) (by decide +kernel)
theorem q_ml_La_81 : Cond.methodLink R_La 81 y_Mo_start ∈ bw := bw_mem 694 (by decide +kernel) (by decide +kernel)
theorem q_im_Mo_start : Cond.instanceMethod y_Mo_start ∈ bw := bw_mem 695 (by decide +kernel) (by decide +kernel)
theorem q_se_Mo_start : Cond.selects R_Mo y_Mo_start y_Mo_start ∈ bw := bw_mem 696 (by decide +kernel) (by decide +kernel)
theorem q_cd_Mo_start : Cond.code y_Mo_start b_Mo_start 5 none ∈ bw := bw_mem 697 (by decide +kernel) (by decide +kernel)
theorem q_ml_La_85 : Cond.methodLink R_La 85 y_Mo_step ∈ bw := bw_mem 698 (by decide +kernel) (by decide +kernel)
theorem q_im_Mo_step : Cond.instanceMethod y_Mo_step ∈ bw := bw_mem 699 (by decide +kernel) (by decide +kernel)
theorem q_se_Mo_step : Cond.selects R_Mo y_Mo_step y_Mo_step ∈ bw := bw_mem 700 (by decide +kernel) (by decide +kernel)
theorem q_cd_Mo_step : Cond.code y_Mo_step b_Mo_step 3 (some .int) ∈ bw := bw_mem 701 (by decide +kernel) (by decide +kernel)
theorem q_ml_Mo_150 : Cond.methodLink R_Mo 150 y_Mo_one ∈ bw := bw_mem 702 (by decide +kernel) (by decide +kernel)
theorem q_im_Mo_one : Cond.instanceMethod y_Mo_one ∈ bw := bw_mem 704 (by decide +kernel) (by decide +kernel)
theorem q_cd_Mo_one : Cond.code y_Mo_one b_Mo_one 3 none ∈ bw := bw_mem 705 (by decide +kernel) (by decide +kernel)
theorem q_ml_Mo_144 : Cond.methodLink R_Mo 144 y_Mo_check ∈ bw := bw_mem 706 (by decide +kernel) (by decide +kernel)
theorem q_im_Mo_check : Cond.instanceMethod y_Mo_check ∈ bw := bw_mem 708 (by decide +kernel) (by decide +kernel)
theorem q_cd_Mo_check : Cond.code y_Mo_check b_Mo_check 6 none ∈ bw := bw_mem 709 (by decide +kernel) (by decide +kernel)
theorem q_ml_Mo_121 : Cond.methodLink R_Mo 121 y_Mo_isBlock ∈ bw := bw_mem 710 (by decide +kernel) (by decide +kernel)
theorem q_im_Mo_isBlock : Cond.instanceMethod y_Mo_isBlock ∈ bw := bw_mem 712 (by decide +kernel) (by decide +kernel)
theorem q_cd_Mo_isBlock : Cond.code y_Mo_isBlock b_Mo_isBlock 3 (some .boolean) ∈ bw := bw_mem 713 (by decide +kernel) (by decide +kernel)
theorem q_ml_Mo_124 : Cond.methodLink R_Mo 124 y_Mo_tell ∈ bw := bw_mem 714 (by decide +kernel) (by decide +kernel)
theorem q_im_Mo_tell : Cond.instanceMethod y_Mo_tell ∈ bw := bw_mem 716 (by decide +kernel) (by decide +kernel)
theorem q_cd_Mo_tell : Cond.code y_Mo_tell b_Mo_tell 4 none ∈ bw := bw_mem 717 (by decide +kernel) (by decide +kernel)
theorem q_ml_Mo_128 : Cond.methodLink R_Mo 128 y_Mo_wrongByte ∈ bw := bw_mem 718 (by decide +kernel) (by decide +kernel)
theorem q_im_Mo_wrongByte : Cond.instanceMethod y_Mo_wrongByte ∈ bw := bw_mem 720 (by decide +kernel) (by decide +kernel)
theorem q_cd_Mo_wrongByte : Cond.code y_Mo_wrongByte b_Mo_wrongByte 3 (some .int) ∈ bw := bw_mem 721 (by decide +kernel) (by decide +kernel)
theorem q_ml_Mo_96 : Cond.methodLink R_Mo 96 y_Mo_isIn ∈ bw := bw_mem 722 (by decide +kernel) (by decide +kernel)
theorem q_st_Mo_isIn : Cond.static y_Mo_isIn ∈ bw := bw_mem 723 (by decide +kernel) (by decide +kernel)
theorem q_cd_Mo_isIn : Cond.code y_Mo_isIn b_Mo_isIn 1 (some .boolean) ∈ bw := bw_mem 724 (by decide +kernel) (by decide +kernel)
theorem q_ml_Mo_147 : Cond.methodLink R_Mo 147 y_Mo_perform ∈ bw := bw_mem 725 (by decide +kernel) (by decide +kernel)
theorem q_im_Mo_perform : Cond.instanceMethod y_Mo_perform ∈ bw := bw_mem 727 (by decide +kernel) (by decide +kernel)
theorem q_cd_Mo_perform : Cond.code y_Mo_perform b_Mo_perform 6 (some .int) ∈ bw := bw_mem 728 (by decide +kernel) (by decide +kernel)
theorem q_ml_Mo_134 : Cond.methodLink R_Mo 134 y_Mo_allocate ∈ bw := bw_mem 729 (by decide +kernel) (by decide +kernel)
theorem q_im_Mo_allocate : Cond.instanceMethod y_Mo_allocate ∈ bw := bw_mem 731 (by decide +kernel) (by decide +kernel)
theorem q_cd_Mo_allocate : Cond.code y_Mo_allocate b_Mo_allocate 5 (some .int) ∈ bw := bw_mem 732 (by decide +kernel) (by decide +kernel)
theorem q_ml_Mo_86 : Cond.methodLink R_Mo 86 y_Mo_gap ∈ bw := bw_mem 733 (by decide +kernel) (by decide +kernel)
theorem q_im_Mo_gap : Cond.instanceMethod y_Mo_gap ∈ bw := bw_mem 735 (by decide +kernel) (by decide +kernel)
theorem q_cd_Mo_gap : Cond.code y_Mo_gap b_Mo_gap 4 (some .int) ∈ bw := bw_mem 736 (by decide +kernel) (by decide +kernel)
theorem q_ml_Mo_89 : Cond.methodLink R_Mo 89 y_Mo_release ∈ bw := bw_mem 737 (by decide +kernel) (by decide +kernel)
theorem q_im_Mo_release : Cond.instanceMethod y_Mo_release ∈ bw := bw_mem 739 (by decide +kernel) (by decide +kernel)
theorem q_cd_Mo_release : Cond.code y_Mo_release b_Mo_release 3 none ∈ bw := bw_mem 740 (by decide +kernel) (by decide +kernel)
theorem q_ml_Mo_137 : Cond.methodLink R_Mo 137 y_Mo_free ∈ bw := bw_mem 741 (by decide +kernel) (by decide +kernel)
theorem q_im_Mo_free : Cond.instanceMethod y_Mo_free ∈ bw := bw_mem 743 (by decide +kernel) (by decide +kernel)
theorem q_cd_Mo_free : Cond.code y_Mo_free b_Mo_free 4 none ∈ bw := bw_mem 744 (by decide +kernel) (by decide +kernel)
theorem q_ml_Mo_92 : Cond.methodLink R_Mo 92 y_Mo_quarantined ∈ bw := bw_mem 745 (by decide +kernel) (by decide +kernel)
theorem q_im_Mo_quarantined : Cond.instanceMethod y_Mo_quarantined ∈ bw := bw_mem 747 (by decide +kernel) (by decide +kernel)
theorem q_cd_Mo_quarantined : Cond.code y_Mo_quarantined b_Mo_quarantined 3 (some .int) ∈ bw := bw_mem 748 (by decide +kernel) (by decide +kernel)
theorem q_ml_Mo_141 : Cond.methodLink R_Mo 141 y_Mo_touch ∈ bw := bw_mem 749 (by decide +kernel) (by decide +kernel)
theorem q_im_Mo_touch : Cond.instanceMethod y_Mo_touch ∈ bw := bw_mem 751 (by decide +kernel) (by decide +kernel)
theorem q_cd_Mo_touch : Cond.code y_Mo_touch b_Mo_touch 5 none ∈ bw := bw_mem 752 (by decide +kernel) (by decide +kernel)
theorem q_ml_Mo_131 : Cond.methodLink R_Mo 131 y_Mo_load ∈ bw := bw_mem 753 (by decide +kernel) (by decide +kernel)
theorem q_im_Mo_load : Cond.instanceMethod y_Mo_load ∈ bw := bw_mem 755 (by decide +kernel) (by decide +kernel)
theorem q_cd_Mo_load : Cond.code y_Mo_load b_Mo_load 4 (some .int) ∈ bw := bw_mem 756 (by decide +kernel) (by decide +kernel)
theorem q_ml_La_88 : Cond.methodLink R_La 88 y_Mo_look ∈ bw := bw_mem 757 (by decide +kernel) (by decide +kernel)
theorem q_im_Mo_look : Cond.instanceMethod y_Mo_look ∈ bw := bw_mem 758 (by decide +kernel) (by decide +kernel)
theorem q_se_Mo_look : Cond.selects R_Mo y_Mo_look y_Mo_look ∈ bw := bw_mem 759 (by decide +kernel) (by decide +kernel)
theorem q_cd_Mo_look : Cond.code y_Mo_look b_Mo_look 2 (some .int) ∈ bw := bw_mem 760 (by decide +kernel) (by decide +kernel)
theorem q_ml_Mo_153 : Cond.methodLink R_Mo 153 y_Mo_blocks ∈ bw := bw_mem 761 (by decide +kernel) (by decide +kernel)
theorem q_im_Mo_blocks : Cond.instanceMethod y_Mo_blocks ∈ bw := bw_mem 763 (by decide +kernel) (by decide +kernel)
theorem q_cd_Mo_blocks : Cond.code y_Mo_blocks b_Mo_blocks 4 (some .int) ∈ bw := bw_mem 764 (by decide +kernel) (by decide +kernel)
theorem q_ml_La_91 : Cond.methodLink R_La 91 y_Mo_register ∈ bw := bw_mem 765 (by decide +kernel) (by decide +kernel)
theorem q_im_Mo_register : Cond.instanceMethod y_Mo_register ∈ bw := bw_mem 766 (by decide +kernel) (by decide +kernel)
theorem q_se_Mo_register : Cond.selects R_Mo y_Mo_register y_Mo_register ∈ bw := bw_mem 767 (by decide +kernel) (by decide +kernel)
theorem q_cd_Mo_register : Cond.code y_Mo_register b_Mo_register 2 (some .int) ∈ bw := bw_mem 768 (by decide +kernel) (by decide +kernel)
theorem q_ml_La_94 : Cond.methodLink R_La 94 y_Mo_printed ∈ bw := bw_mem 769 (by decide +kernel) (by decide +kernel)
theorem q_im_Mo_printed : Cond.instanceMethod y_Mo_printed ∈ bw := bw_mem 770 (by decide +kernel) (by decide +kernel)
theorem q_se_Mo_printed : Cond.selects R_Mo y_Mo_printed y_Mo_printed ∈ bw := bw_mem 771 (by decide +kernel) (by decide +kernel)
theorem q_cd_Mo_printed : Cond.code y_Mo_printed b_Mo_printed 2 (some .int) ∈ bw := bw_mem 772 (by decide +kernel) (by decide +kernel)
theorem q_ml_La_97 : Cond.methodLink R_La 97 y_Mo_heap ∈ bw := bw_mem 773 (by decide +kernel) (by decide +kernel)
theorem q_im_Mo_heap : Cond.instanceMethod y_Mo_heap ∈ bw := bw_mem 774 (by decide +kernel) (by decide +kernel)
theorem q_se_Mo_heap : Cond.selects R_Mo y_Mo_heap y_Mo_heap ∈ bw := bw_mem 775 (by decide +kernel) (by decide +kernel)
theorem q_cd_Mo_heap : Cond.code y_Mo_heap b_Mo_heap 2 (some .int) ∈ bw := bw_mem 776 (by decide +kernel) (by decide +kernel)
theorem q_ml_La_100 : Cond.methodLink R_La 100 y_Mo_shadow ∈ bw := bw_mem 777 (by decide +kernel) (by decide +kernel)
theorem q_im_Mo_shadow : Cond.instanceMethod y_Mo_shadow ∈ bw := bw_mem 778 (by decide +kernel) (by decide +kernel)
theorem q_se_Mo_shadow : Cond.selects R_Mo y_Mo_shadow y_Mo_shadow ∈ bw := bw_mem 779 (by decide +kernel) (by decide +kernel)
theorem q_cd_Mo_shadow : Cond.code y_Mo_shadow b_Mo_shadow 2 (some .int) ∈ bw := bw_mem 780 (by decide +kernel) (by decide +kernel)
theorem q_ml_La_103 : Cond.methodLink R_La 103 y_Mo_report ∈ bw := bw_mem 781 (by decide +kernel) (by decide +kernel)
theorem q_im_Mo_report : Cond.instanceMethod y_Mo_report ∈ bw := bw_mem 782 (by decide +kernel) (by decide +kernel)
theorem q_se_Mo_report : Cond.selects R_Mo y_Mo_report y_Mo_report ∈ bw := bw_mem 783 (by decide +kernel) (by decide +kernel)
theorem q_cd_Mo_report : Cond.code y_Mo_report b_Mo_report 2 (some .int) ∈ bw := bw_mem 784 (by decide +kernel) (by decide +kernel)
theorem q_ac_long : Cond.arrayClass .long ∈ bw := bw_mem 785 (by decide +kernel) (by decide +kernel)
theorem i_Li : ∀ w ∈ u_ws R_Li F_Li 4, w ∈ bw := by decide +kernel
theorem i_Me : ∀ w ∈ u_ws R_Me F_Me 8, w ∈ bw := by decide +kernel
theorem i_Pr : ∀ w ∈ u_ws R_Pr F_Pr 6, w ∈ bw := by decide +kernel
theorem i_Ru : ∀ w ∈ u_ws R_Ru F_Ru 10, w ∈ bw := by decide +kernel
theorem i_S : ∀ w ∈ u_ws R_S F_S 3, w ∈ bw := by decide +kernel
theorem i_Mo : ∀ w ∈ u_ws R_Mo F_Mo 23, w ∈ bw := by decide +kernel
end
section
theorem d_S_init_0 : decode b_S_init 0 = .ok (.aload_n 0, 1) := by decide +kernel
theorem d_S_init_1 : decode b_S_init 1 = .ok (.invokespecial 1, 3) := by decide +kernel
theorem d_S_init_4 : decode b_S_init 4 = .ok (.aload_n 0, 1) := by decide +kernel
theorem d_S_init_5 : decode b_S_init 5 = .ok (.new 7, 3) := by decide +kernel
theorem d_S_init_8 : decode b_S_init 8 = .ok (.dup, 1) := by decide +kernel
theorem d_S_init_9 : decode b_S_init 9 = .ok (.invokespecial 9, 3) := by decide +kernel
theorem d_S_init_12 : decode b_S_init 12 = .ok (.putfield 10, 3) := by decide +kernel
theorem d_S_init_15 : decode b_S_init 15 = .ok (.aload_n 0, 1) := by decide +kernel
theorem d_S_init_16 : decode b_S_init 16 = .ok (.new 16, 3) := by decide +kernel
theorem d_S_init_19 : decode b_S_init 19 = .ok (.dup, 1) := by decide +kernel
theorem d_S_init_20 : decode b_S_init 20 = .ok (.invokespecial 18, 3) := by decide +kernel
theorem d_S_init_23 : decode b_S_init 23 = .ok (.putfield 19, 3) := by decide +kernel
theorem d_S_init_26 : decode b_S_init 26 = .ok (.aload_n 0, 1) := by decide +kernel
theorem d_S_init_27 : decode b_S_init 27 = .ok (.new 23, 3) := by decide +kernel
theorem d_S_init_30 : decode b_S_init 30 = .ok (.dup, 1) := by decide +kernel
theorem d_S_init_31 : decode b_S_init 31 = .ok (.aload_n 0, 1) := by decide +kernel
theorem d_S_init_32 : decode b_S_init 32 = .ok (.getfield 10, 3) := by decide +kernel
theorem d_S_init_35 : decode b_S_init 35 = .ok (.aload_n 0, 1) := by decide +kernel
theorem d_S_init_36 : decode b_S_init 36 = .ok (.getfield 19, 3) := by decide +kernel
theorem d_S_init_39 : decode b_S_init 39 = .ok (.invokespecial 25, 3) := by decide +kernel
theorem d_S_init_42 : decode b_S_init 42 = .ok (.putfield 28, 3) := by decide +kernel
theorem d_S_init_45 : decode b_S_init 45 = .ok (.return_, 1) := by decide +kernel
theorem d_Pr_init_0 : decode b_Pr_init 0 = .ok (.aload_n 0, 1) := by decide +kernel
theorem d_Pr_init_1 : decode b_Pr_init 1 = .ok (.invokespecial 3, 3) := by decide +kernel
theorem d_Pr_init_4 : decode b_Pr_init 4 = .ok (.aload_n 0, 1) := by decide +kernel
theorem d_Pr_init_5 : decode b_Pr_init 5 = .ok (.bipush 40, 2) := by decide +kernel
theorem d_Pr_init_7 : decode b_Pr_init 7 = .ok (.newarray .int, 2) := by decide +kernel
theorem d_Pr_init_9 : decode b_Pr_init 9 = .ok (.putfield 9, 3) := by decide +kernel
theorem d_Pr_init_12 : decode b_Pr_init 12 = .ok (.aload_n 0, 1) := by decide +kernel
theorem d_Pr_init_13 : decode b_Pr_init 13 = .ok (.bipush 40, 2) := by decide +kernel
theorem d_Pr_init_15 : decode b_Pr_init 15 = .ok (.newarray .int, 2) := by decide +kernel
theorem d_Pr_init_17 : decode b_Pr_init 17 = .ok (.putfield 15, 3) := by decide +kernel
theorem d_Pr_init_20 : decode b_Pr_init 20 = .ok (.aload_n 0, 1) := by decide +kernel
theorem d_Pr_init_21 : decode b_Pr_init 21 = .ok (.bipush 40, 2) := by decide +kernel
theorem d_Pr_init_23 : decode b_Pr_init 23 = .ok (.newarray .int, 2) := by decide +kernel
theorem d_Pr_init_25 : decode b_Pr_init 25 = .ok (.putfield 18, 3) := by decide +kernel
theorem d_Pr_init_28 : decode b_Pr_init 28 = .ok (.aload_n 0, 1) := by decide +kernel
theorem d_Pr_init_29 : decode b_Pr_init 29 = .ok (.bipush 40, 2) := by decide +kernel
theorem d_Pr_init_31 : decode b_Pr_init 31 = .ok (.newarray .int, 2) := by decide +kernel
theorem d_Pr_init_33 : decode b_Pr_init 33 = .ok (.putfield 21, 3) := by decide +kernel
theorem d_Pr_init_36 : decode b_Pr_init 36 = .ok (.aload_n 0, 1) := by decide +kernel
theorem d_Pr_init_37 : decode b_Pr_init 37 = .ok (.new 24, 3) := by decide +kernel
theorem d_Pr_init_40 : decode b_Pr_init 40 = .ok (.dup, 1) := by decide +kernel
theorem d_Pr_init_41 : decode b_Pr_init 41 = .ok (.bipush 40, 2) := by decide +kernel
theorem d_Pr_init_43 : decode b_Pr_init 43 = .ok (.invokespecial 26, 3) := by decide +kernel
theorem d_Pr_init_46 : decode b_Pr_init 46 = .ok (.putfield 29, 3) := by decide +kernel
theorem d_Pr_init_49 : decode b_Pr_init 49 = .ok (.aload_n 0, 1) := by decide +kernel
theorem d_Pr_init_50 : decode b_Pr_init 50 = .ok (.new 24, 3) := by decide +kernel
theorem d_Pr_init_53 : decode b_Pr_init 53 = .ok (.dup, 1) := by decide +kernel
theorem d_Pr_init_54 : decode b_Pr_init 54 = .ok (.bipush 80, 2) := by decide +kernel
theorem d_Pr_init_56 : decode b_Pr_init 56 = .ok (.invokespecial 26, 3) := by decide +kernel
theorem d_Pr_init_59 : decode b_Pr_init 59 = .ok (.putfield 33, 3) := by decide +kernel
theorem d_Pr_init_62 : decode b_Pr_init 62 = .ok (.return_, 1) := by decide +kernel
theorem d_Li_init_0 : decode b_Li_init 0 = .ok (.aload_n 0, 1) := by decide +kernel
theorem d_Li_init_1 : decode b_Li_init 1 = .ok (.invokespecial 3, 3) := by decide +kernel
theorem d_Li_init_4 : decode b_Li_init 4 = .ok (.aload_n 0, 1) := by decide +kernel
theorem d_Li_init_5 : decode b_Li_init 5 = .ok (.iload_n 1, 1) := by decide +kernel
theorem d_Li_init_6 : decode b_Li_init 6 = .ok (.newarray .int, 2) := by decide +kernel
theorem d_Li_init_8 : decode b_Li_init 8 = .ok (.putfield 9, 3) := by decide +kernel
theorem d_Li_init_11 : decode b_Li_init 11 = .ok (.aload_n 0, 1) := by decide +kernel
theorem d_Li_init_12 : decode b_Li_init 12 = .ok (.iload_n 1, 1) := by decide +kernel
theorem d_Li_init_13 : decode b_Li_init 13 = .ok (.newarray .int, 2) := by decide +kernel
theorem d_Li_init_15 : decode b_Li_init 15 = .ok (.putfield 15, 3) := by decide +kernel
theorem d_Li_init_18 : decode b_Li_init 18 = .ok (.aload_n 0, 1) := by decide +kernel
theorem d_Li_init_19 : decode b_Li_init 19 = .ok (.bipush 40, 2) := by decide +kernel
theorem d_Li_init_21 : decode b_Li_init 21 = .ok (.newarray .int, 2) := by decide +kernel
theorem d_Li_init_23 : decode b_Li_init 23 = .ok (.putfield 18, 3) := by decide +kernel
theorem d_Li_init_26 : decode b_Li_init 26 = .ok (.aload_n 0, 1) := by decide +kernel
theorem d_Li_init_27 : decode b_Li_init 27 = .ok (.iconst 0, 1) := by decide +kernel
theorem d_Li_init_28 : decode b_Li_init 28 = .ok (.putfield 21, 3) := by decide +kernel
theorem d_Li_init_31 : decode b_Li_init 31 = .ok (.return_, 1) := by decide +kernel
theorem d_Me_init_0 : decode b_Me_init 0 = .ok (.aload_n 0, 1) := by decide +kernel
theorem d_Me_init_1 : decode b_Me_init 1 = .ok (.invokespecial 3, 3) := by decide +kernel
theorem d_Me_init_4 : decode b_Me_init 4 = .ok (.aload_n 0, 1) := by decide +kernel
theorem d_Me_init_5 : decode b_Me_init 5 = .ok (.sipush 512, 3) := by decide +kernel
theorem d_Me_init_8 : decode b_Me_init 8 = .ok (.newarray .int, 2) := by decide +kernel
theorem d_Me_init_10 : decode b_Me_init 10 = .ok (.putfield 11, 3) := by decide +kernel
theorem d_Me_init_13 : decode b_Me_init 13 = .ok (.aload_n 0, 1) := by decide +kernel
theorem d_Me_init_14 : decode b_Me_init 14 = .ok (.bipush 64, 2) := by decide +kernel
theorem d_Me_init_16 : decode b_Me_init 16 = .ok (.newarray .int, 2) := by decide +kernel
theorem d_Me_init_18 : decode b_Me_init 18 = .ok (.putfield 15, 3) := by decide +kernel
theorem d_Me_init_21 : decode b_Me_init 21 = .ok (.aload_n 0, 1) := by decide +kernel
theorem d_Me_init_22 : decode b_Me_init 22 = .ok (.bipush 64, 2) := by decide +kernel
theorem d_Me_init_24 : decode b_Me_init 24 = .ok (.newarray .int, 2) := by decide +kernel
theorem d_Me_init_26 : decode b_Me_init 26 = .ok (.putfield 18, 3) := by decide +kernel
theorem d_Me_init_29 : decode b_Me_init 29 = .ok (.aload_n 0, 1) := by decide +kernel
theorem d_Me_init_30 : decode b_Me_init 30 = .ok (.bipush 64, 2) := by decide +kernel
theorem d_Me_init_32 : decode b_Me_init 32 = .ok (.newarray .boolean, 2) := by decide +kernel
theorem d_Me_init_34 : decode b_Me_init 34 = .ok (.putfield 21, 3) := by decide +kernel
theorem d_Me_init_37 : decode b_Me_init 37 = .ok (.aload_n 0, 1) := by decide +kernel
theorem d_Me_init_38 : decode b_Me_init 38 = .ok (.bipush 64, 2) := by decide +kernel
theorem d_Me_init_40 : decode b_Me_init 40 = .ok (.newarray .int, 2) := by decide +kernel
theorem d_Me_init_42 : decode b_Me_init 42 = .ok (.putfield 25, 3) := by decide +kernel
theorem d_Me_init_45 : decode b_Me_init 45 = .ok (.aload_n 0, 1) := by decide +kernel
theorem d_Me_init_46 : decode b_Me_init 46 = .ok (.invokevirtual 28, 3) := by decide +kernel
theorem d_Me_init_49 : decode b_Me_init 49 = .ok (.return_, 1) := by decide +kernel
theorem d_Me_reset_0 : decode b_Me_reset 0 = .ok (.iconst 0, 1) := by decide +kernel
theorem d_Me_reset_1 : decode b_Me_reset 1 = .ok (.istore_n 1, 1) := by decide +kernel
theorem d_Me_reset_2 : decode b_Me_reset 2 = .ok (.iload_n 1, 1) := by decide +kernel
theorem d_Me_reset_3 : decode b_Me_reset 3 = .ok (.sipush 512, 3) := by decide +kernel
theorem d_Me_reset_6 : decode b_Me_reset 6 = .ok (.if_icmp .ge 16, 3) := by decide +kernel
theorem d_Me_reset_9 : decode b_Me_reset 9 = .ok (.aload_n 0, 1) := by decide +kernel
theorem d_Me_reset_10 : decode b_Me_reset 10 = .ok (.getfield 11, 3) := by decide +kernel
theorem d_Me_reset_13 : decode b_Me_reset 13 = .ok (.iload_n 1, 1) := by decide +kernel
theorem d_Me_reset_14 : decode b_Me_reset 14 = .ok (.iconst 0, 1) := by decide +kernel
theorem d_Me_reset_15 : decode b_Me_reset 15 = .ok (.iastore, 1) := by decide +kernel
theorem d_Me_reset_16 : decode b_Me_reset 16 = .ok (.iinc 1 1, 3) := by decide +kernel
theorem d_Me_reset_19 : decode b_Me_reset 19 = .ok (.goto (-17), 3) := by decide +kernel
theorem d_Me_reset_22 : decode b_Me_reset 22 = .ok (.iconst 0, 1) := by decide +kernel
theorem d_Me_reset_23 : decode b_Me_reset 23 = .ok (.istore_n 1, 1) := by decide +kernel
theorem d_Me_reset_24 : decode b_Me_reset 24 = .ok (.iload_n 1, 1) := by decide +kernel
theorem d_Me_reset_25 : decode b_Me_reset 25 = .ok (.bipush 64, 2) := by decide +kernel
theorem d_Me_reset_27 : decode b_Me_reset 27 = .ok (.if_icmp .ge 31, 3) := by decide +kernel
theorem d_Me_reset_30 : decode b_Me_reset 30 = .ok (.aload_n 0, 1) := by decide +kernel
theorem d_Me_reset_31 : decode b_Me_reset 31 = .ok (.getfield 15, 3) := by decide +kernel
theorem d_Me_reset_34 : decode b_Me_reset 34 = .ok (.iload_n 1, 1) := by decide +kernel
theorem d_Me_reset_35 : decode b_Me_reset 35 = .ok (.bipush (-3), 2) := by decide +kernel
theorem d_Me_reset_37 : decode b_Me_reset 37 = .ok (.iastore, 1) := by decide +kernel
theorem d_Me_reset_38 : decode b_Me_reset 38 = .ok (.aload_n 0, 1) := by decide +kernel
theorem d_Me_reset_39 : decode b_Me_reset 39 = .ok (.getfield 18, 3) := by decide +kernel
theorem d_Me_reset_42 : decode b_Me_reset 42 = .ok (.iload_n 1, 1) := by decide +kernel
theorem d_Me_reset_43 : decode b_Me_reset 43 = .ok (.iconst 0, 1) := by decide +kernel
theorem d_Me_reset_44 : decode b_Me_reset 44 = .ok (.iastore, 1) := by decide +kernel
theorem d_Me_reset_45 : decode b_Me_reset 45 = .ok (.aload_n 0, 1) := by decide +kernel
theorem d_Me_reset_46 : decode b_Me_reset 46 = .ok (.getfield 21, 3) := by decide +kernel
theorem d_Me_reset_49 : decode b_Me_reset 49 = .ok (.iload_n 1, 1) := by decide +kernel
theorem d_Me_reset_50 : decode b_Me_reset 50 = .ok (.iconst 0, 1) := by decide +kernel
theorem d_Me_reset_51 : decode b_Me_reset 51 = .ok (.bastore, 1) := by decide +kernel
theorem d_Me_reset_52 : decode b_Me_reset 52 = .ok (.iinc 1 1, 3) := by decide +kernel
theorem d_Me_reset_55 : decode b_Me_reset 55 = .ok (.goto (-31), 3) := by decide +kernel
theorem d_Me_reset_58 : decode b_Me_reset 58 = .ok (.aload_n 0, 1) := by decide +kernel
theorem d_Me_reset_59 : decode b_Me_reset 59 = .ok (.iconst 0, 1) := by decide +kernel
theorem d_Me_reset_60 : decode b_Me_reset 60 = .ok (.putfield 31, 3) := by decide +kernel
theorem d_Me_reset_63 : decode b_Me_reset 63 = .ok (.aload_n 0, 1) := by decide +kernel
theorem d_Me_reset_64 : decode b_Me_reset 64 = .ok (.iconst 0, 1) := by decide +kernel
theorem d_Me_reset_65 : decode b_Me_reset 65 = .ok (.putfield 35, 3) := by decide +kernel
theorem d_Me_reset_68 : decode b_Me_reset 68 = .ok (.aload_n 0, 1) := by decide +kernel
theorem d_Me_reset_69 : decode b_Me_reset 69 = .ok (.iconst 0, 1) := by decide +kernel
theorem d_Me_reset_70 : decode b_Me_reset 70 = .ok (.putfield 38, 3) := by decide +kernel
theorem d_Me_reset_73 : decode b_Me_reset 73 = .ok (.return_, 1) := by decide +kernel
theorem d_Ru_init_0 : decode b_Ru_init 0 = .ok (.aload_n 0, 1) := by decide +kernel
theorem d_Ru_init_1 : decode b_Ru_init 1 = .ok (.invokespecial 3, 3) := by decide +kernel
theorem d_Ru_init_4 : decode b_Ru_init 4 = .ok (.aload_n 0, 1) := by decide +kernel
theorem d_Ru_init_5 : decode b_Ru_init 5 = .ok (.bipush 8, 2) := by decide +kernel
theorem d_Ru_init_7 : decode b_Ru_init 7 = .ok (.newarray .int, 2) := by decide +kernel
theorem d_Ru_init_9 : decode b_Ru_init 9 = .ok (.putfield 9, 3) := by decide +kernel
theorem d_Ru_init_12 : decode b_Ru_init 12 = .ok (.aload_n 0, 1) := by decide +kernel
theorem d_Ru_init_13 : decode b_Ru_init 13 = .ok (.bipush 60, 2) := by decide +kernel
theorem d_Ru_init_15 : decode b_Ru_init 15 = .ok (.newarray .int, 2) := by decide +kernel
theorem d_Ru_init_17 : decode b_Ru_init 17 = .ok (.putfield 15, 3) := by decide +kernel
theorem d_Ru_init_20 : decode b_Ru_init 20 = .ok (.aload_n 0, 1) := by decide +kernel
theorem d_Ru_init_21 : decode b_Ru_init 21 = .ok (.aload_n 1, 1) := by decide +kernel
theorem d_Ru_init_22 : decode b_Ru_init 22 = .ok (.putfield 18, 3) := by decide +kernel
theorem d_Ru_init_25 : decode b_Ru_init 25 = .ok (.aload_n 0, 1) := by decide +kernel
theorem d_Ru_init_26 : decode b_Ru_init 26 = .ok (.aload_n 2, 1) := by decide +kernel
theorem d_Ru_init_27 : decode b_Ru_init 27 = .ok (.putfield 22, 3) := by decide +kernel
theorem d_Ru_init_30 : decode b_Ru_init 30 = .ok (.aload_n 0, 1) := by decide +kernel
theorem d_Ru_init_31 : decode b_Ru_init 31 = .ok (.aload_n 1, 1) := by decide +kernel
theorem d_Ru_init_32 : decode b_Ru_init 32 = .ok (.getfield 26, 3) := by decide +kernel
theorem d_Ru_init_35 : decode b_Ru_init 35 = .ok (.putfield 32, 3) := by decide +kernel
theorem d_Ru_init_38 : decode b_Ru_init 38 = .ok (.aload_n 0, 1) := by decide +kernel
theorem d_Ru_init_39 : decode b_Ru_init 39 = .ok (.iconst 0, 1) := by decide +kernel
theorem d_Ru_init_40 : decode b_Ru_init 40 = .ok (.putfield 35, 3) := by decide +kernel
theorem d_Ru_init_43 : decode b_Ru_init 43 = .ok (.return_, 1) := by decide +kernel
theorem d_S_clear_0 : decode b_S_clear 0 = .ok (.aload_n 0, 1) := by decide +kernel
theorem d_S_clear_1 : decode b_S_clear 1 = .ok (.getfield 28, 3) := by decide +kernel
theorem d_S_clear_4 : decode b_S_clear 4 = .ok (.invokevirtual 54, 3) := by decide +kernel
theorem d_S_clear_7 : decode b_S_clear 7 = .ok (.aload_n 0, 1) := by decide +kernel
theorem d_S_clear_8 : decode b_S_clear 8 = .ok (.getfield 10, 3) := by decide +kernel
theorem d_S_clear_11 : decode b_S_clear 11 = .ok (.invokevirtual 61, 3) := by decide +kernel
theorem d_S_clear_14 : decode b_S_clear 14 = .ok (.return_, 1) := by decide +kernel
theorem d_Ru_drop_0 : decode b_Ru_drop 0 = .ok (.aload_n 0, 1) := by decide +kernel
theorem d_Ru_drop_1 : decode b_Ru_drop 1 = .ok (.iconst 0, 1) := by decide +kernel
theorem d_Ru_drop_2 : decode b_Ru_drop 2 = .ok (.putfield 35, 3) := by decide +kernel
theorem d_Ru_drop_5 : decode b_Ru_drop 5 = .ok (.return_, 1) := by decide +kernel
theorem d_Pr_removeAll_0 : decode b_Pr_removeAll 0 = .ok (.aload_n 0, 1) := by decide +kernel
theorem d_Pr_removeAll_1 : decode b_Pr_removeAll 1 = .ok (.getfield 29, 3) := by decide +kernel
theorem d_Pr_removeAll_4 : decode b_Pr_removeAll 4 = .ok (.iconst 0, 1) := by decide +kernel
theorem d_Pr_removeAll_5 : decode b_Pr_removeAll 5 = .ok (.putfield 36, 3) := by decide +kernel
theorem d_Pr_removeAll_8 : decode b_Pr_removeAll 8 = .ok (.aload_n 0, 1) := by decide +kernel
theorem d_Pr_removeAll_9 : decode b_Pr_removeAll 9 = .ok (.getfield 33, 3) := by decide +kernel
theorem d_Pr_removeAll_12 : decode b_Pr_removeAll 12 = .ok (.iconst 0, 1) := by decide +kernel
theorem d_Pr_removeAll_13 : decode b_Pr_removeAll 13 = .ok (.putfield 36, 3) := by decide +kernel
theorem d_Pr_removeAll_16 : decode b_Pr_removeAll 16 = .ok (.return_, 1) := by decide +kernel
theorem d_La_code_0 : decode b_La_code 0 = .ok (.aload 6, 2) := by decide +kernel
theorem d_La_code_2 : decode b_La_code 2 = .ok (.iconst 0, 1) := by decide +kernel
theorem d_La_code_3 : decode b_La_code 3 = .ok (.aload_n 0, 1) := by decide +kernel
theorem d_La_code_4 : decode b_La_code 4 = .ok (.iload_n 1, 1) := by decide +kernel
theorem d_La_code_5 : decode b_La_code 5 = .ok (.iload_n 2, 1) := by decide +kernel
theorem d_La_code_6 : decode b_La_code 6 = .ok (.iload_n 3, 1) := by decide +kernel
theorem d_La_code_7 : decode b_La_code 7 = .ok (.iload 4, 2) := by decide +kernel
theorem d_La_code_9 : decode b_La_code 9 = .ok (.iload 5, 2) := by decide +kernel
theorem d_La_code_11 : decode b_La_code 11 = .ok (.invokevirtual 7, 3) := by decide +kernel
theorem d_La_code_14 : decode b_La_code 14 = .ok (.i2l, 1) := by decide +kernel
theorem d_La_code_15 : decode b_La_code 15 = .ok (.lastore, 1) := by decide +kernel
theorem d_La_code_16 : decode b_La_code 16 = .ok (.goto 11, 3) := by decide +kernel
theorem d_La_code_19 : decode b_La_code 19 = .ok (.astore 7, 2) := by decide +kernel
theorem d_La_code_21 : decode b_La_code 21 = .ok (.iconst 1, 1) := by decide +kernel
theorem d_La_code_22 : decode b_La_code 22 = .ok (.ireturn, 1) := by decide +kernel
theorem d_La_code_23 : decode b_La_code 23 = .ok (.astore 7, 2) := by decide +kernel
theorem d_La_code_25 : decode b_La_code 25 = .ok (.iconst 2, 1) := by decide +kernel
theorem d_La_code_26 : decode b_La_code 26 = .ok (.ireturn, 1) := by decide +kernel
theorem d_La_code_27 : decode b_La_code 27 = .ok (.iconst 0, 1) := by decide +kernel
theorem d_La_code_28 : decode b_La_code 28 = .ok (.ireturn, 1) := by decide +kernel
theorem d_S_code_0 : decode b_S_code 0 = .ok (.iload_n 1, 1) := by decide +kernel
theorem d_S_code_1 : decode b_S_code 1 = .ok (.ifCond .lt 9, 3) := by decide +kernel
theorem d_S_code_4 : decode b_S_code 4 = .ok (.iload_n 1, 1) := by decide +kernel
theorem d_S_code_5 : decode b_S_code 5 = .ok (.bipush 14, 2) := by decide +kernel
theorem d_S_code_7 : decode b_S_code 7 = .ok (.if_icmp .le 13, 3) := by decide +kernel
theorem d_S_code_10 : decode b_S_code 10 = .ok (.new 32, 3) := by decide +kernel
theorem d_S_code_13 : decode b_S_code 13 = .ok (.dup, 1) := by decide +kernel
theorem d_S_code_14 : decode b_S_code 14 = .ok (.ldc 34, 2) := by decide +kernel
theorem d_S_code_16 : decode b_S_code 16 = .ok (.invokespecial 36, 3) := by decide +kernel
theorem d_S_code_19 : decode b_S_code 19 = .ok (.athrow, 1) := by decide +kernel
theorem d_S_code_20 : decode b_S_code 20 = .ok (.iload_n 2, 1) := by decide +kernel
theorem d_S_code_21 : decode b_S_code 21 = .ok (.invokestatic 39, 3) := by decide +kernel
theorem d_S_code_24 : decode b_S_code 24 = .ok (.ifCond .eq 18, 3) := by decide +kernel
theorem d_S_code_27 : decode b_S_code 27 = .ok (.iload_n 3, 1) := by decide +kernel
theorem d_S_code_28 : decode b_S_code 28 = .ok (.invokestatic 39, 3) := by decide +kernel
theorem d_S_code_31 : decode b_S_code 31 = .ok (.ifCond .eq 11, 3) := by decide +kernel
theorem d_S_code_34 : decode b_S_code 34 = .ok (.iload 4, 2) := by decide +kernel
theorem d_S_code_36 : decode b_S_code 36 = .ok (.invokestatic 39, 3) := by decide +kernel
theorem d_S_code_39 : decode b_S_code 39 = .ok (.ifCond .ne 13, 3) := by decide +kernel
theorem d_S_code_42 : decode b_S_code 42 = .ok (.new 32, 3) := by decide +kernel
theorem d_S_code_45 : decode b_S_code 45 = .ok (.dup, 1) := by decide +kernel
theorem d_S_code_46 : decode b_S_code 46 = .ok (.ldc 43, 2) := by decide +kernel
theorem d_S_code_48 : decode b_S_code 48 = .ok (.invokespecial 36, 3) := by decide +kernel
theorem d_S_code_51 : decode b_S_code 51 = .ok (.athrow, 1) := by decide +kernel
theorem d_S_code_52 : decode b_S_code 52 = .ok (.aload_n 0, 1) := by decide +kernel
theorem d_S_code_53 : decode b_S_code 53 = .ok (.getfield 10, 3) := by decide +kernel
theorem d_S_code_56 : decode b_S_code 56 = .ok (.invokevirtual 45, 3) := by decide +kernel
theorem d_S_code_59 : decode b_S_code 59 = .ok (.bipush 40, 2) := by decide +kernel
theorem d_S_code_61 : decode b_S_code 61 = .ok (.if_icmp .lt 13, 3) := by decide +kernel
theorem d_S_code_64 : decode b_S_code 64 = .ok (.new 49, 3) := by decide +kernel
theorem d_S_code_67 : decode b_S_code 67 = .ok (.dup, 1) := by decide +kernel
theorem d_S_code_68 : decode b_S_code 68 = .ok (.ldc 51, 2) := by decide +kernel
theorem d_S_code_70 : decode b_S_code 70 = .ok (.invokespecial 53, 3) := by decide +kernel
theorem d_S_code_73 : decode b_S_code 73 = .ok (.athrow, 1) := by decide +kernel
theorem d_S_code_74 : decode b_S_code 74 = .ok (.aload_n 0, 1) := by decide +kernel
theorem d_S_code_75 : decode b_S_code 75 = .ok (.getfield 28, 3) := by decide +kernel
theorem d_S_code_78 : decode b_S_code 78 = .ok (.invokevirtual 54, 3) := by decide +kernel
theorem d_S_code_81 : decode b_S_code 81 = .ok (.aload_n 0, 1) := by decide +kernel
theorem d_S_code_82 : decode b_S_code 82 = .ok (.getfield 10, 3) := by decide +kernel
theorem d_S_code_85 : decode b_S_code 85 = .ok (.iload_n 1, 1) := by decide +kernel
theorem d_S_code_86 : decode b_S_code 86 = .ok (.iload_n 2, 1) := by decide +kernel
theorem d_S_code_87 : decode b_S_code 87 = .ok (.iload_n 3, 1) := by decide +kernel
theorem d_S_code_88 : decode b_S_code 88 = .ok (.iload 4, 2) := by decide +kernel
theorem d_S_code_90 : decode b_S_code 90 = .ok (.iload 5, 2) := by decide +kernel
theorem d_S_code_92 : decode b_S_code 92 = .ok (.invokevirtual 57, 3) := by decide +kernel
theorem d_S_code_95 : decode b_S_code 95 = .ok (.ireturn, 1) := by decide +kernel
theorem d_S_isRegister_0 : decode b_S_isRegister 0 = .ok (.iload_n 0, 1) := by decide +kernel
theorem d_S_isRegister_1 : decode b_S_isRegister 1 = .ok (.ifCond .lt 13, 3) := by decide +kernel
theorem d_S_isRegister_4 : decode b_S_isRegister 4 = .ok (.iload_n 0, 1) := by decide +kernel
theorem d_S_isRegister_5 : decode b_S_isRegister 5 = .ok (.bipush 8, 2) := by decide +kernel
theorem d_S_isRegister_7 : decode b_S_isRegister 7 = .ok (.if_icmp .ge 7, 3) := by decide +kernel
theorem d_S_isRegister_10 : decode b_S_isRegister 10 = .ok (.iconst 1, 1) := by decide +kernel
theorem d_S_isRegister_11 : decode b_S_isRegister 11 = .ok (.goto 4, 3) := by decide +kernel
theorem d_S_isRegister_14 : decode b_S_isRegister 14 = .ok (.iconst 0, 1) := by decide +kernel
theorem d_S_isRegister_15 : decode b_S_isRegister 15 = .ok (.ireturn, 1) := by decide +kernel
theorem d_Pr_size_0 : decode b_Pr_size 0 = .ok (.aload_n 0, 1) := by decide +kernel
theorem d_Pr_size_1 : decode b_Pr_size 1 = .ok (.getfield 29, 3) := by decide +kernel
theorem d_Pr_size_4 : decode b_Pr_size 4 = .ok (.getfield 36, 3) := by decide +kernel
theorem d_Pr_size_7 : decode b_Pr_size 7 = .ok (.ireturn, 1) := by decide +kernel
theorem d_Pr_add_0 : decode b_Pr_add 0 = .ok (.aload_n 0, 1) := by decide +kernel
theorem d_Pr_add_1 : decode b_Pr_add 1 = .ok (.invokevirtual 40, 3) := by decide +kernel
theorem d_Pr_add_4 : decode b_Pr_add 4 = .ok (.istore 6, 2) := by decide +kernel
theorem d_Pr_add_6 : decode b_Pr_add 6 = .ok (.aload_n 0, 1) := by decide +kernel
theorem d_Pr_add_7 : decode b_Pr_add 7 = .ok (.getfield 9, 3) := by decide +kernel
theorem d_Pr_add_10 : decode b_Pr_add 10 = .ok (.iload 6, 2) := by decide +kernel
theorem d_Pr_add_12 : decode b_Pr_add 12 = .ok (.iload_n 2, 1) := by decide +kernel
theorem d_Pr_add_13 : decode b_Pr_add 13 = .ok (.iastore, 1) := by decide +kernel
theorem d_Pr_add_14 : decode b_Pr_add 14 = .ok (.aload_n 0, 1) := by decide +kernel
theorem d_Pr_add_15 : decode b_Pr_add 15 = .ok (.getfield 15, 3) := by decide +kernel
theorem d_Pr_add_18 : decode b_Pr_add 18 = .ok (.iload 6, 2) := by decide +kernel
theorem d_Pr_add_20 : decode b_Pr_add 20 = .ok (.iload_n 3, 1) := by decide +kernel
theorem d_Pr_add_21 : decode b_Pr_add 21 = .ok (.iastore, 1) := by decide +kernel
theorem d_Pr_add_22 : decode b_Pr_add 22 = .ok (.aload_n 0, 1) := by decide +kernel
theorem d_Pr_add_23 : decode b_Pr_add 23 = .ok (.getfield 18, 3) := by decide +kernel
theorem d_Pr_add_26 : decode b_Pr_add 26 = .ok (.iload 6, 2) := by decide +kernel
theorem d_Pr_add_28 : decode b_Pr_add 28 = .ok (.iload 4, 2) := by decide +kernel
theorem d_Pr_add_30 : decode b_Pr_add 30 = .ok (.iastore, 1) := by decide +kernel
theorem d_Pr_add_31 : decode b_Pr_add 31 = .ok (.aload_n 0, 1) := by decide +kernel
theorem d_Pr_add_32 : decode b_Pr_add 32 = .ok (.getfield 21, 3) := by decide +kernel
theorem d_Pr_add_35 : decode b_Pr_add 35 = .ok (.iload 6, 2) := by decide +kernel
theorem d_Pr_add_37 : decode b_Pr_add 37 = .ok (.iload 5, 2) := by decide +kernel
theorem d_Pr_add_39 : decode b_Pr_add 39 = .ok (.iastore, 1) := by decide +kernel
theorem d_Pr_add_40 : decode b_Pr_add 40 = .ok (.aload_n 0, 1) := by decide +kernel
theorem d_Pr_add_41 : decode b_Pr_add 41 = .ok (.getfield 29, 3) := by decide +kernel
theorem d_Pr_add_44 : decode b_Pr_add 44 = .ok (.iload 6, 2) := by decide +kernel
theorem d_Pr_add_46 : decode b_Pr_add 46 = .ok (.invokevirtual 43, 3) := by decide +kernel
theorem d_Pr_add_49 : decode b_Pr_add 49 = .ok (.aload_n 0, 1) := by decide +kernel
theorem d_Pr_add_50 : decode b_Pr_add 50 = .ok (.getfield 29, 3) := by decide +kernel
theorem d_Pr_add_53 : decode b_Pr_add 53 = .ok (.iload_n 1, 1) := by decide +kernel
theorem d_Pr_add_54 : decode b_Pr_add 54 = .ok (.iload 6, 2) := by decide +kernel
theorem d_Pr_add_56 : decode b_Pr_add 56 = .ok (.invokevirtual 46, 3) := by decide +kernel
theorem d_Pr_add_59 : decode b_Pr_add 59 = .ok (.aload_n 0, 1) := by decide +kernel
theorem d_Pr_add_60 : decode b_Pr_add 60 = .ok (.getfield 33, 3) := by decide +kernel
theorem d_Pr_add_63 : decode b_Pr_add 63 = .ok (.iload 6, 2) := by decide +kernel
theorem d_Pr_add_65 : decode b_Pr_add 65 = .ok (.invokevirtual 43, 3) := by decide +kernel
theorem d_Pr_add_68 : decode b_Pr_add 68 = .ok (.iload_n 1, 1) := by decide +kernel
theorem d_Pr_add_69 : decode b_Pr_add 69 = .ok (.bipush 6, 2) := by decide +kernel
theorem d_Pr_add_71 : decode b_Pr_add 71 = .ok (.if_icmp .lt 23, 3) := by decide +kernel
theorem d_Pr_add_74 : decode b_Pr_add 74 = .ok (.iload_n 1, 1) := by decide +kernel
theorem d_Pr_add_75 : decode b_Pr_add 75 = .ok (.bipush 9, 2) := by decide +kernel
theorem d_Pr_add_77 : decode b_Pr_add 77 = .ok (.if_icmp .gt 17, 3) := by decide +kernel
theorem d_Pr_add_80 : decode b_Pr_add 80 = .ok (.aload_n 0, 1) := by decide +kernel
theorem d_Pr_add_81 : decode b_Pr_add 81 = .ok (.getfield 33, 3) := by decide +kernel
theorem d_Pr_add_84 : decode b_Pr_add 84 = .ok (.bipush 15, 2) := by decide +kernel
theorem d_Pr_add_86 : decode b_Pr_add 86 = .ok (.iload 6, 2) := by decide +kernel
theorem d_Pr_add_88 : decode b_Pr_add 88 = .ok (.invokevirtual 46, 3) := by decide +kernel
theorem d_Pr_add_91 : decode b_Pr_add 91 = .ok (.goto 19, 3) := by decide +kernel
theorem d_Pr_add_94 : decode b_Pr_add 94 = .ok (.iload_n 1, 1) := by decide +kernel
theorem d_Pr_add_95 : decode b_Pr_add 95 = .ok (.iconst 5, 1) := by decide +kernel
theorem d_Pr_add_96 : decode b_Pr_add 96 = .ok (.if_icmp .ne 14, 3) := by decide +kernel
theorem d_Pr_add_99 : decode b_Pr_add 99 = .ok (.aload_n 0, 1) := by decide +kernel
theorem d_Pr_add_100 : decode b_Pr_add 100 = .ok (.getfield 33, 3) := by decide +kernel
theorem d_Pr_add_103 : decode b_Pr_add 103 = .ok (.bipush 16, 2) := by decide +kernel
theorem d_Pr_add_105 : decode b_Pr_add 105 = .ok (.iload 6, 2) := by decide +kernel
theorem d_Pr_add_107 : decode b_Pr_add 107 = .ok (.invokevirtual 46, 3) := by decide +kernel
theorem d_Pr_add_110 : decode b_Pr_add 110 = .ok (.aload_n 0, 1) := by decide +kernel
theorem d_Pr_add_111 : decode b_Pr_add 111 = .ok (.getfield 33, 3) := by decide +kernel
theorem d_Pr_add_114 : decode b_Pr_add 114 = .ok (.iload_n 1, 1) := by decide +kernel
theorem d_Pr_add_115 : decode b_Pr_add 115 = .ok (.iload 6, 2) := by decide +kernel
theorem d_Pr_add_117 : decode b_Pr_add 117 = .ok (.invokevirtual 46, 3) := by decide +kernel
theorem d_Pr_add_120 : decode b_Pr_add 120 = .ok (.iload 6, 2) := by decide +kernel
theorem d_Pr_add_122 : decode b_Pr_add 122 = .ok (.ireturn, 1) := by decide +kernel
theorem d_Li_beginInstruction_0 : decode b_Li_beginInstruction 0 = .ok (.aload_n 0, 1) := by decide +kernel
theorem d_Li_beginInstruction_1 : decode b_Li_beginInstruction 1 = .ok (.getfield 18, 3) := by decide +kernel
theorem d_Li_beginInstruction_4 : decode b_Li_beginInstruction 4 = .ok (.iload_n 1, 1) := by decide +kernel
theorem d_Li_beginInstruction_5 : decode b_Li_beginInstruction 5 = .ok (.aload_n 0, 1) := by decide +kernel
theorem d_Li_beginInstruction_6 : decode b_Li_beginInstruction 6 = .ok (.getfield 21, 3) := by decide +kernel
theorem d_Li_beginInstruction_9 : decode b_Li_beginInstruction 9 = .ok (.iastore, 1) := by decide +kernel
theorem d_Li_beginInstruction_10 : decode b_Li_beginInstruction 10 = .ok (.return_, 1) := by decide +kernel
theorem d_Li_append_0 : decode b_Li_append 0 = .ok (.aload_n 0, 1) := by decide +kernel
theorem d_Li_append_1 : decode b_Li_append 1 = .ok (.getfield 9, 3) := by decide +kernel
theorem d_Li_append_4 : decode b_Li_append 4 = .ok (.aload_n 0, 1) := by decide +kernel
theorem d_Li_append_5 : decode b_Li_append 5 = .ok (.getfield 21, 3) := by decide +kernel
theorem d_Li_append_8 : decode b_Li_append 8 = .ok (.iload_n 1, 1) := by decide +kernel
theorem d_Li_append_9 : decode b_Li_append 9 = .ok (.iastore, 1) := by decide +kernel
theorem d_Li_append_10 : decode b_Li_append 10 = .ok (.aload_n 0, 1) := by decide +kernel
theorem d_Li_append_11 : decode b_Li_append 11 = .ok (.getfield 15, 3) := by decide +kernel
theorem d_Li_append_14 : decode b_Li_append 14 = .ok (.aload_n 0, 1) := by decide +kernel
theorem d_Li_append_15 : decode b_Li_append 15 = .ok (.getfield 21, 3) := by decide +kernel
theorem d_Li_append_18 : decode b_Li_append 18 = .ok (.iload_n 2, 1) := by decide +kernel
theorem d_Li_append_19 : decode b_Li_append 19 = .ok (.iastore, 1) := by decide +kernel
theorem d_Li_append_20 : decode b_Li_append 20 = .ok (.aload_n 0, 1) := by decide +kernel
theorem d_Li_append_21 : decode b_Li_append 21 = .ok (.dup, 1) := by decide +kernel
theorem d_Li_append_22 : decode b_Li_append 22 = .ok (.getfield 21, 3) := by decide +kernel
theorem d_Li_append_25 : decode b_Li_append 25 = .ok (.iconst 1, 1) := by decide +kernel
theorem d_Li_append_26 : decode b_Li_append 26 = .ok (.iadd, 1) := by decide +kernel
theorem d_Li_append_27 : decode b_Li_append 27 = .ok (.putfield 21, 3) := by decide +kernel
theorem d_Li_append_30 : decode b_Li_append 30 = .ok (.return_, 1) := by decide +kernel
theorem d_La_rewrite_0 : decode b_La_rewrite 0 = .ok (.aload_n 1, 1) := by decide +kernel
theorem d_La_rewrite_1 : decode b_La_rewrite 1 = .ok (.iconst 0, 1) := by decide +kernel
theorem d_La_rewrite_2 : decode b_La_rewrite 2 = .ok (.aload_n 0, 1) := by decide +kernel
theorem d_La_rewrite_3 : decode b_La_rewrite 3 = .ok (.invokevirtual 17, 3) := by decide +kernel
theorem d_La_rewrite_6 : decode b_La_rewrite 6 = .ok (.i2l, 1) := by decide +kernel
theorem d_La_rewrite_7 : decode b_La_rewrite 7 = .ok (.lastore, 1) := by decide +kernel
theorem d_La_rewrite_8 : decode b_La_rewrite 8 = .ok (.goto 6, 3) := by decide +kernel
theorem d_La_rewrite_11 : decode b_La_rewrite 11 = .ok (.astore_n 2, 1) := by decide +kernel
theorem d_La_rewrite_12 : decode b_La_rewrite 12 = .ok (.iconst 1, 1) := by decide +kernel
theorem d_La_rewrite_13 : decode b_La_rewrite 13 = .ok (.ireturn, 1) := by decide +kernel
theorem d_La_rewrite_14 : decode b_La_rewrite 14 = .ok (.iconst 0, 1) := by decide +kernel
theorem d_La_rewrite_15 : decode b_La_rewrite 15 = .ok (.ireturn, 1) := by decide +kernel
theorem d_S_rewrite_0 : decode b_S_rewrite 0 = .ok (.aload_n 0, 1) := by decide +kernel
theorem d_S_rewrite_1 : decode b_S_rewrite 1 = .ok (.invokevirtual 64, 3) := by decide +kernel
theorem d_S_rewrite_4 : decode b_S_rewrite 4 = .ok (.aload_n 0, 1) := by decide +kernel
theorem d_S_rewrite_5 : decode b_S_rewrite 5 = .ok (.getfield 10, 3) := by decide +kernel
theorem d_S_rewrite_8 : decode b_S_rewrite 8 = .ok (.getfield 67, 3) := by decide +kernel
theorem d_S_rewrite_11 : decode b_S_rewrite 11 = .ok (.getfield 71, 3) := by decide +kernel
theorem d_S_rewrite_14 : decode b_S_rewrite 14 = .ok (.ireturn, 1) := by decide +kernel
theorem d_S_refuseGoingOutside_0 : decode b_S_refuseGoingOutside 0 = .ok (.aload_n 0, 1) := by decide +kernel
theorem d_S_refuseGoingOutside_1 : decode b_S_refuseGoingOutside 1 = .ok (.getfield 10, 3) := by decide +kernel
theorem d_S_refuseGoingOutside_4 : decode b_S_refuseGoingOutside 4 = .ok (.invokevirtual 157, 3) := by decide +kernel
theorem d_S_refuseGoingOutside_7 : decode b_S_refuseGoingOutside 7 = .ok (.ifCond .ne 13, 3) := by decide +kernel
theorem d_S_refuseGoingOutside_10 : decode b_S_refuseGoingOutside 10 = .ok (.new 91, 3) := by decide +kernel
theorem d_S_refuseGoingOutside_13 : decode b_S_refuseGoingOutside 13 = .ok (.dup, 1) := by decide +kernel
theorem d_S_refuseGoingOutside_14 : decode b_S_refuseGoingOutside 14 = .ok (.ldc 161, 2) := by decide +kernel
theorem d_S_refuseGoingOutside_16 : decode b_S_refuseGoingOutside 16 = .ok (.invokespecial 95, 3) := by decide +kernel
theorem d_S_refuseGoingOutside_19 : decode b_S_refuseGoingOutside 19 = .ok (.athrow, 1) := by decide +kernel
theorem d_S_refuseGoingOutside_20 : decode b_S_refuseGoingOutside 20 = .ok (.return_, 1) := by decide +kernel
theorem d_Pr_goesOnWithin_0 : decode b_Pr_goesOnWithin 0 = .ok (.iconst 0, 1) := by decide +kernel
theorem d_Pr_goesOnWithin_1 : decode b_Pr_goesOnWithin 1 = .ok (.istore_n 1, 1) := by decide +kernel
theorem d_Pr_goesOnWithin_2 : decode b_Pr_goesOnWithin 2 = .ok (.iload_n 1, 1) := by decide +kernel
theorem d_Pr_goesOnWithin_3 : decode b_Pr_goesOnWithin 3 = .ok (.aload_n 0, 1) := by decide +kernel
theorem d_Pr_goesOnWithin_4 : decode b_Pr_goesOnWithin 4 = .ok (.invokevirtual 40, 3) := by decide +kernel
theorem d_Pr_goesOnWithin_7 : decode b_Pr_goesOnWithin 7 = .ok (.if_icmp .ge 48, 3) := by decide +kernel
theorem d_Pr_goesOnWithin_10 : decode b_Pr_goesOnWithin 10 = .ok (.aload_n 0, 1) := by decide +kernel
theorem d_Pr_goesOnWithin_11 : decode b_Pr_goesOnWithin 11 = .ok (.getfield 29, 3) := by decide +kernel
theorem d_Pr_goesOnWithin_14 : decode b_Pr_goesOnWithin 14 = .ok (.getfield 50, 3) := by decide +kernel
theorem d_Pr_goesOnWithin_17 : decode b_Pr_goesOnWithin 17 = .ok (.iload_n 1, 1) := by decide +kernel
theorem d_Pr_goesOnWithin_18 : decode b_Pr_goesOnWithin 18 = .ok (.iaload, 1) := by decide +kernel
theorem d_Pr_goesOnWithin_19 : decode b_Pr_goesOnWithin 19 = .ok (.invokestatic 53, 3) := by decide +kernel
theorem d_Pr_goesOnWithin_22 : decode b_Pr_goesOnWithin 22 = .ok (.ifCond .eq 27, 3) := by decide +kernel
theorem d_Pr_goesOnWithin_25 : decode b_Pr_goesOnWithin 25 = .ok (.aload_n 0, 1) := by decide +kernel
theorem d_Pr_goesOnWithin_26 : decode b_Pr_goesOnWithin 26 = .ok (.getfield 21, 3) := by decide +kernel
theorem d_Pr_goesOnWithin_29 : decode b_Pr_goesOnWithin 29 = .ok (.iload_n 1, 1) := by decide +kernel
theorem d_Pr_goesOnWithin_30 : decode b_Pr_goesOnWithin 30 = .ok (.iaload, 1) := by decide +kernel
theorem d_Pr_goesOnWithin_31 : decode b_Pr_goesOnWithin 31 = .ok (.ifCond .lt 16, 3) := by decide +kernel
theorem d_Pr_goesOnWithin_34 : decode b_Pr_goesOnWithin 34 = .ok (.aload_n 0, 1) := by decide +kernel
end
section
theorem d_Pr_goesOnWithin_35 : decode b_Pr_goesOnWithin 35 = .ok (.getfield 21, 3) := by decide +kernel
theorem d_Pr_goesOnWithin_38 : decode b_Pr_goesOnWithin 38 = .ok (.iload_n 1, 1) := by decide +kernel
theorem d_Pr_goesOnWithin_39 : decode b_Pr_goesOnWithin 39 = .ok (.iaload, 1) := by decide +kernel
theorem d_Pr_goesOnWithin_40 : decode b_Pr_goesOnWithin 40 = .ok (.aload_n 0, 1) := by decide +kernel
theorem d_Pr_goesOnWithin_41 : decode b_Pr_goesOnWithin 41 = .ok (.invokevirtual 40, 3) := by decide +kernel
theorem d_Pr_goesOnWithin_44 : decode b_Pr_goesOnWithin 44 = .ok (.if_icmp .lt 5, 3) := by decide +kernel
theorem d_Pr_goesOnWithin_47 : decode b_Pr_goesOnWithin 47 = .ok (.iconst 0, 1) := by decide +kernel
theorem d_Pr_goesOnWithin_48 : decode b_Pr_goesOnWithin 48 = .ok (.ireturn, 1) := by decide +kernel
theorem d_Pr_goesOnWithin_49 : decode b_Pr_goesOnWithin 49 = .ok (.iinc 1 1, 3) := by decide +kernel
theorem d_Pr_goesOnWithin_52 : decode b_Pr_goesOnWithin 52 = .ok (.goto (-50), 3) := by decide +kernel
theorem d_Pr_goesOnWithin_55 : decode b_Pr_goesOnWithin 55 = .ok (.iconst 1, 1) := by decide +kernel
theorem d_Pr_goesOnWithin_56 : decode b_Pr_goesOnWithin 56 = .ok (.ireturn, 1) := by decide +kernel
theorem d_Pr_goesOnElsewhere_0 : decode b_Pr_goesOnElsewhere 0 = .ok (.iload_n 0, 1) := by decide +kernel
theorem d_Pr_goesOnElsewhere_1 : decode b_Pr_goesOnElsewhere 1 = .ok (.bipush 10, 2) := by decide +kernel
theorem d_Pr_goesOnElsewhere_3 : decode b_Pr_goesOnElsewhere 3 = .ok (.if_icmp .eq 9, 3) := by decide +kernel
theorem d_Pr_goesOnElsewhere_6 : decode b_Pr_goesOnElsewhere 6 = .ok (.iload_n 0, 1) := by decide +kernel
theorem d_Pr_goesOnElsewhere_7 : decode b_Pr_goesOnElsewhere 7 = .ok (.bipush 11, 2) := by decide +kernel
theorem d_Pr_goesOnElsewhere_9 : decode b_Pr_goesOnElsewhere 9 = .ok (.if_icmp .ne 7, 3) := by decide +kernel
theorem d_Pr_goesOnElsewhere_12 : decode b_Pr_goesOnElsewhere 12 = .ok (.iconst 1, 1) := by decide +kernel
theorem d_Pr_goesOnElsewhere_13 : decode b_Pr_goesOnElsewhere 13 = .ok (.goto 4, 3) := by decide +kernel
theorem d_Pr_goesOnElsewhere_16 : decode b_Pr_goesOnElsewhere 16 = .ok (.iconst 0, 1) := by decide +kernel
theorem d_Pr_goesOnElsewhere_17 : decode b_Pr_goesOnElsewhere 17 = .ok (.ireturn, 1) := by decide +kernel
theorem d_La_rewritten_0 : decode b_La_rewritten 0 = .ok (.aload_n 3, 1) := by decide +kernel
theorem d_La_rewritten_1 : decode b_La_rewritten 1 = .ok (.iconst 0, 1) := by decide +kernel
theorem d_La_rewritten_2 : decode b_La_rewritten 2 = .ok (.aload_n 0, 1) := by decide +kernel
theorem d_La_rewritten_3 : decode b_La_rewritten 3 = .ok (.iload_n 1, 1) := by decide +kernel
theorem d_La_rewritten_4 : decode b_La_rewritten 4 = .ok (.iload_n 2, 1) := by decide +kernel
theorem d_La_rewritten_5 : decode b_La_rewritten 5 = .ok (.invokevirtual 23, 3) := by decide +kernel
theorem d_La_rewritten_8 : decode b_La_rewritten 8 = .ok (.i2l, 1) := by decide +kernel
theorem d_La_rewritten_9 : decode b_La_rewritten 9 = .ok (.lastore, 1) := by decide +kernel
theorem d_La_rewritten_10 : decode b_La_rewritten 10 = .ok (.goto 15, 3) := by decide +kernel
theorem d_La_rewritten_13 : decode b_La_rewritten 13 = .ok (.astore 4, 2) := by decide +kernel
theorem d_La_rewritten_15 : decode b_La_rewritten 15 = .ok (.iconst 1, 1) := by decide +kernel
theorem d_La_rewritten_16 : decode b_La_rewritten 16 = .ok (.ireturn, 1) := by decide +kernel
theorem d_La_rewritten_17 : decode b_La_rewritten 17 = .ok (.astore 4, 2) := by decide +kernel
theorem d_La_rewritten_19 : decode b_La_rewritten 19 = .ok (.iconst 2, 1) := by decide +kernel
theorem d_La_rewritten_20 : decode b_La_rewritten 20 = .ok (.ireturn, 1) := by decide +kernel
theorem d_La_rewritten_21 : decode b_La_rewritten 21 = .ok (.astore 4, 2) := by decide +kernel
theorem d_La_rewritten_23 : decode b_La_rewritten 23 = .ok (.iconst 3, 1) := by decide +kernel
theorem d_La_rewritten_24 : decode b_La_rewritten 24 = .ok (.ireturn, 1) := by decide +kernel
theorem d_La_rewritten_25 : decode b_La_rewritten 25 = .ok (.iconst 0, 1) := by decide +kernel
theorem d_La_rewritten_26 : decode b_La_rewritten 26 = .ok (.ireturn, 1) := by decide +kernel
theorem d_S_rewritten_0 : decode b_S_rewritten 0 = .ok (.aload_n 0, 1) := by decide +kernel
theorem d_S_rewritten_1 : decode b_S_rewritten 1 = .ok (.invokevirtual 64, 3) := by decide +kernel
theorem d_S_rewritten_4 : decode b_S_rewritten 4 = .ok (.iload_n 1, 1) := by decide +kernel
theorem d_S_rewritten_5 : decode b_S_rewritten 5 = .ok (.ifCond .lt 17, 3) := by decide +kernel
theorem d_S_rewritten_8 : decode b_S_rewritten 8 = .ok (.iload_n 1, 1) := by decide +kernel
theorem d_S_rewritten_9 : decode b_S_rewritten 9 = .ok (.aload_n 0, 1) := by decide +kernel
theorem d_S_rewritten_10 : decode b_S_rewritten 10 = .ok (.getfield 10, 3) := by decide +kernel
theorem d_S_rewritten_13 : decode b_S_rewritten 13 = .ok (.getfield 67, 3) := by decide +kernel
theorem d_S_rewritten_16 : decode b_S_rewritten 16 = .ok (.getfield 71, 3) := by decide +kernel
theorem d_S_rewritten_19 : decode b_S_rewritten 19 = .ok (.if_icmp .lt 13, 3) := by decide +kernel
theorem d_S_rewritten_22 : decode b_S_rewritten 22 = .ok (.new 49, 3) := by decide +kernel
theorem d_S_rewritten_25 : decode b_S_rewritten 25 = .ok (.dup, 1) := by decide +kernel
theorem d_S_rewritten_26 : decode b_S_rewritten 26 = .ok (.ldc 76, 2) := by decide +kernel
theorem d_S_rewritten_28 : decode b_S_rewritten 28 = .ok (.invokespecial 53, 3) := by decide +kernel
theorem d_S_rewritten_31 : decode b_S_rewritten 31 = .ok (.athrow, 1) := by decide +kernel
theorem d_S_rewritten_32 : decode b_S_rewritten 32 = .ok (.iload_n 2, 1) := by decide +kernel
theorem d_S_rewritten_33 : decode b_S_rewritten 33 = .ok (.tableswitch 69 0 2 #[27, 40, 53], 27) := by decide +kernel
theorem d_S_rewritten_60 : decode b_S_rewritten 60 = .ok (.aload_n 0, 1) := by decide +kernel
theorem d_S_rewritten_61 : decode b_S_rewritten 61 = .ok (.getfield 10, 3) := by decide +kernel
theorem d_S_rewritten_64 : decode b_S_rewritten 64 = .ok (.getfield 67, 3) := by decide +kernel
theorem d_S_rewritten_67 : decode b_S_rewritten 67 = .ok (.getfield 78, 3) := by decide +kernel
theorem d_S_rewritten_70 : decode b_S_rewritten 70 = .ok (.iload_n 1, 1) := by decide +kernel
theorem d_S_rewritten_71 : decode b_S_rewritten 71 = .ok (.iaload, 1) := by decide +kernel
theorem d_S_rewritten_72 : decode b_S_rewritten 72 = .ok (.ireturn, 1) := by decide +kernel
theorem d_S_rewritten_73 : decode b_S_rewritten 73 = .ok (.aload_n 0, 1) := by decide +kernel
theorem d_S_rewritten_74 : decode b_S_rewritten 74 = .ok (.getfield 10, 3) := by decide +kernel
theorem d_S_rewritten_77 : decode b_S_rewritten 77 = .ok (.getfield 67, 3) := by decide +kernel
theorem d_S_rewritten_80 : decode b_S_rewritten 80 = .ok (.getfield 82, 3) := by decide +kernel
theorem d_S_rewritten_83 : decode b_S_rewritten 83 = .ok (.iload_n 1, 1) := by decide +kernel
theorem d_S_rewritten_84 : decode b_S_rewritten 84 = .ok (.iaload, 1) := by decide +kernel
theorem d_S_rewritten_85 : decode b_S_rewritten 85 = .ok (.ireturn, 1) := by decide +kernel
theorem d_S_rewritten_86 : decode b_S_rewritten 86 = .ok (.aload_n 0, 1) := by decide +kernel
theorem d_S_rewritten_87 : decode b_S_rewritten 87 = .ok (.getfield 10, 3) := by decide +kernel
theorem d_S_rewritten_90 : decode b_S_rewritten 90 = .ok (.aload_n 0, 1) := by decide +kernel
theorem d_S_rewritten_91 : decode b_S_rewritten 91 = .ok (.getfield 10, 3) := by decide +kernel
theorem d_S_rewritten_94 : decode b_S_rewritten 94 = .ok (.getfield 67, 3) := by decide +kernel
theorem d_S_rewritten_97 : decode b_S_rewritten 97 = .ok (.iload_n 1, 1) := by decide +kernel
theorem d_S_rewritten_98 : decode b_S_rewritten 98 = .ok (.invokevirtual 85, 3) := by decide +kernel
theorem d_S_rewritten_101 : decode b_S_rewritten 101 = .ok (.ireturn, 1) := by decide +kernel
theorem d_S_rewritten_102 : decode b_S_rewritten 102 = .ok (.new 32, 3) := by decide +kernel
theorem d_S_rewritten_105 : decode b_S_rewritten 105 = .ok (.dup, 1) := by decide +kernel
theorem d_S_rewritten_106 : decode b_S_rewritten 106 = .ok (.ldc 89, 2) := by decide +kernel
theorem d_S_rewritten_108 : decode b_S_rewritten 108 = .ok (.invokespecial 36, 3) := by decide +kernel
theorem d_S_rewritten_111 : decode b_S_rewritten 111 = .ok (.athrow, 1) := by decide +kernel
theorem d_Pr_numberAt_0 : decode b_Pr_numberAt 0 = .ok (.aload_n 0, 1) := by decide +kernel
theorem d_Pr_numberAt_1 : decode b_Pr_numberAt 1 = .ok (.getfield 21, 3) := by decide +kernel
theorem d_Pr_numberAt_4 : decode b_Pr_numberAt 4 = .ok (.aload_n 1, 1) := by decide +kernel
theorem d_Pr_numberAt_5 : decode b_Pr_numberAt 5 = .ok (.getfield 57, 3) := by decide +kernel
theorem d_Pr_numberAt_8 : decode b_Pr_numberAt 8 = .ok (.iload_n 2, 1) := by decide +kernel
theorem d_Pr_numberAt_9 : decode b_Pr_numberAt 9 = .ok (.iaload, 1) := by decide +kernel
theorem d_Pr_numberAt_10 : decode b_Pr_numberAt 10 = .ok (.iaload, 1) := by decide +kernel
theorem d_Pr_numberAt_11 : decode b_Pr_numberAt 11 = .ok (.istore_n 3, 1) := by decide +kernel
theorem d_Pr_numberAt_12 : decode b_Pr_numberAt 12 = .ok (.aload_n 1, 1) := by decide +kernel
theorem d_Pr_numberAt_13 : decode b_Pr_numberAt 13 = .ok (.getfield 50, 3) := by decide +kernel
theorem d_Pr_numberAt_16 : decode b_Pr_numberAt 16 = .ok (.iload_n 2, 1) := by decide +kernel
theorem d_Pr_numberAt_17 : decode b_Pr_numberAt 17 = .ok (.iaload, 1) := by decide +kernel
theorem d_Pr_numberAt_18 : decode b_Pr_numberAt 18 = .ok (.invokestatic 53, 3) := by decide +kernel
theorem d_Pr_numberAt_21 : decode b_Pr_numberAt 21 = .ok (.ifCond .eq 12, 3) := by decide +kernel
theorem d_Pr_numberAt_24 : decode b_Pr_numberAt 24 = .ok (.aload_n 1, 1) := by decide +kernel
theorem d_Pr_numberAt_25 : decode b_Pr_numberAt 25 = .ok (.getfield 60, 3) := by decide +kernel
theorem d_Pr_numberAt_28 : decode b_Pr_numberAt 28 = .ok (.iload_n 3, 1) := by decide +kernel
theorem d_Pr_numberAt_29 : decode b_Pr_numberAt 29 = .ok (.iaload, 1) := by decide +kernel
theorem d_Pr_numberAt_30 : decode b_Pr_numberAt 30 = .ok (.goto 4, 3) := by decide +kernel
theorem d_Pr_numberAt_33 : decode b_Pr_numberAt 33 = .ok (.iload_n 3, 1) := by decide +kernel
theorem d_Pr_numberAt_34 : decode b_Pr_numberAt 34 = .ok (.ireturn, 1) := by decide +kernel
theorem d_La_start_0 : decode b_La_start 0 = .ok (.aload_n 0, 1) := by decide +kernel
theorem d_La_start_1 : decode b_La_start 1 = .ok (.iload_n 1, 1) := by decide +kernel
theorem d_La_start_2 : decode b_La_start 2 = .ok (.iload_n 2, 1) := by decide +kernel
theorem d_La_start_3 : decode b_La_start 3 = .ok (.iload_n 3, 1) := by decide +kernel
theorem d_La_start_4 : decode b_La_start 4 = .ok (.invokevirtual 27, 3) := by decide +kernel
theorem d_La_start_7 : decode b_La_start 7 = .ok (.goto 7, 3) := by decide +kernel
theorem d_La_start_10 : decode b_La_start 10 = .ok (.astore 4, 2) := by decide +kernel
theorem d_La_start_12 : decode b_La_start 12 = .ok (.iconst 1, 1) := by decide +kernel
theorem d_La_start_13 : decode b_La_start 13 = .ok (.ireturn, 1) := by decide +kernel
theorem d_La_start_14 : decode b_La_start 14 = .ok (.iconst 0, 1) := by decide +kernel
theorem d_La_start_15 : decode b_La_start 15 = .ok (.ireturn, 1) := by decide +kernel
theorem d_S_start_0 : decode b_S_start 0 = .ok (.aload_n 0, 1) := by decide +kernel
theorem d_S_start_1 : decode b_S_start 1 = .ok (.getfield 10, 3) := by decide +kernel
theorem d_S_start_4 : decode b_S_start 4 = .ok (.invokevirtual 45, 3) := by decide +kernel
theorem d_S_start_7 : decode b_S_start 7 = .ok (.ifCond .ne 13, 3) := by decide +kernel
theorem d_S_start_10 : decode b_S_start 10 = .ok (.new 91, 3) := by decide +kernel
theorem d_S_start_13 : decode b_S_start 13 = .ok (.dup, 1) := by decide +kernel
theorem d_S_start_14 : decode b_S_start 14 = .ok (.ldc 93, 2) := by decide +kernel
theorem d_S_start_16 : decode b_S_start 16 = .ok (.invokespecial 95, 3) := by decide +kernel
theorem d_S_start_19 : decode b_S_start 19 = .ok (.athrow, 1) := by decide +kernel
theorem d_S_start_20 : decode b_S_start 20 = .ok (.aload_n 0, 1) := by decide +kernel
theorem d_S_start_21 : decode b_S_start 21 = .ok (.invokevirtual 64, 3) := by decide +kernel
theorem d_S_start_24 : decode b_S_start 24 = .ok (.aload_n 0, 1) := by decide +kernel
theorem d_S_start_25 : decode b_S_start 25 = .ok (.getfield 28, 3) := by decide +kernel
theorem d_S_start_28 : decode b_S_start 28 = .ok (.iload_n 1, 1) := by decide +kernel
theorem d_S_start_29 : decode b_S_start 29 = .ok (.iload_n 2, 1) := by decide +kernel
theorem d_S_start_30 : decode b_S_start 30 = .ok (.iload_n 3, 1) := by decide +kernel
theorem d_S_start_31 : decode b_S_start 31 = .ok (.invokevirtual 96, 3) := by decide +kernel
theorem d_S_start_34 : decode b_S_start 34 = .ok (.return_, 1) := by decide +kernel
theorem d_Ru_begin_0 : decode b_Ru_begin 0 = .ok (.aload_n 0, 1) := by decide +kernel
theorem d_Ru_begin_1 : decode b_Ru_begin 1 = .ok (.iload_n 1, 1) := by decide +kernel
theorem d_Ru_begin_2 : decode b_Ru_begin 2 = .ok (.ifCond .eq 13, 3) := by decide +kernel
theorem d_Ru_begin_5 : decode b_Ru_begin 5 = .ok (.aload_n 0, 1) := by decide +kernel
theorem d_Ru_begin_6 : decode b_Ru_begin 6 = .ok (.getfield 18, 3) := by decide +kernel
theorem d_Ru_begin_9 : decode b_Ru_begin 9 = .ok (.getfield 39, 3) := by decide +kernel
theorem d_Ru_begin_12 : decode b_Ru_begin 12 = .ok (.goto 10, 3) := by decide +kernel
theorem d_Ru_begin_15 : decode b_Ru_begin 15 = .ok (.aload_n 0, 1) := by decide +kernel
theorem d_Ru_begin_16 : decode b_Ru_begin 16 = .ok (.getfield 18, 3) := by decide +kernel
theorem d_Ru_begin_19 : decode b_Ru_begin 19 = .ok (.getfield 26, 3) := by decide +kernel
theorem d_Ru_begin_22 : decode b_Ru_begin 22 = .ok (.putfield 32, 3) := by decide +kernel
theorem d_Ru_begin_25 : decode b_Ru_begin 25 = .ok (.aload_n 0, 1) := by decide +kernel
theorem d_Ru_begin_26 : decode b_Ru_begin 26 = .ok (.getfield 22, 3) := by decide +kernel
theorem d_Ru_begin_29 : decode b_Ru_begin 29 = .ok (.invokevirtual 42, 3) := by decide +kernel
theorem d_Ru_begin_32 : decode b_Ru_begin 32 = .ok (.iconst 0, 1) := by decide +kernel
theorem d_Ru_begin_33 : decode b_Ru_begin 33 = .ok (.istore 4, 2) := by decide +kernel
theorem d_Ru_begin_35 : decode b_Ru_begin 35 = .ok (.iload 4, 2) := by decide +kernel
theorem d_Ru_begin_37 : decode b_Ru_begin 37 = .ok (.bipush 8, 2) := by decide +kernel
theorem d_Ru_begin_39 : decode b_Ru_begin 39 = .ok (.if_icmp .ge 17, 3) := by decide +kernel
theorem d_Ru_begin_42 : decode b_Ru_begin 42 = .ok (.aload_n 0, 1) := by decide +kernel
theorem d_Ru_begin_43 : decode b_Ru_begin 43 = .ok (.getfield 9, 3) := by decide +kernel
theorem d_Ru_begin_46 : decode b_Ru_begin 46 = .ok (.iload 4, 2) := by decide +kernel
theorem d_Ru_begin_48 : decode b_Ru_begin 48 = .ok (.iconst 0, 1) := by decide +kernel
theorem d_Ru_begin_49 : decode b_Ru_begin 49 = .ok (.iastore, 1) := by decide +kernel
theorem d_Ru_begin_50 : decode b_Ru_begin 50 = .ok (.iinc 4 1, 3) := by decide +kernel
theorem d_Ru_begin_53 : decode b_Ru_begin 53 = .ok (.goto (-18), 3) := by decide +kernel
theorem d_Ru_begin_56 : decode b_Ru_begin 56 = .ok (.aload_n 0, 1) := by decide +kernel
theorem d_Ru_begin_57 : decode b_Ru_begin 57 = .ok (.getfield 9, 3) := by decide +kernel
theorem d_Ru_begin_60 : decode b_Ru_begin 60 = .ok (.iconst 0, 1) := by decide +kernel
theorem d_Ru_begin_61 : decode b_Ru_begin 61 = .ok (.iload_n 2, 1) := by decide +kernel
theorem d_Ru_begin_62 : decode b_Ru_begin 62 = .ok (.iastore, 1) := by decide +kernel
theorem d_Ru_begin_63 : decode b_Ru_begin 63 = .ok (.aload_n 0, 1) := by decide +kernel
theorem d_Ru_begin_64 : decode b_Ru_begin 64 = .ok (.getfield 9, 3) := by decide +kernel
theorem d_Ru_begin_67 : decode b_Ru_begin 67 = .ok (.iconst 1, 1) := by decide +kernel
theorem d_Ru_begin_68 : decode b_Ru_begin 68 = .ok (.iload_n 3, 1) := by decide +kernel
theorem d_Ru_begin_69 : decode b_Ru_begin 69 = .ok (.iastore, 1) := by decide +kernel
theorem d_Ru_begin_70 : decode b_Ru_begin 70 = .ok (.aload_n 0, 1) := by decide +kernel
theorem d_Ru_begin_71 : decode b_Ru_begin 71 = .ok (.iconst 0, 1) := by decide +kernel
theorem d_Ru_begin_72 : decode b_Ru_begin 72 = .ok (.putfield 47, 3) := by decide +kernel
theorem d_Ru_begin_75 : decode b_Ru_begin 75 = .ok (.aload_n 0, 1) := by decide +kernel
theorem d_Ru_begin_76 : decode b_Ru_begin 76 = .ok (.iconst 0, 1) := by decide +kernel
theorem d_Ru_begin_77 : decode b_Ru_begin 77 = .ok (.putfield 50, 3) := by decide +kernel
theorem d_Ru_begin_80 : decode b_Ru_begin 80 = .ok (.aload_n 0, 1) := by decide +kernel
theorem d_Ru_begin_81 : decode b_Ru_begin 81 = .ok (.iconst 1, 1) := by decide +kernel
theorem d_Ru_begin_82 : decode b_Ru_begin 82 = .ok (.putfield 35, 3) := by decide +kernel
theorem d_Ru_begin_85 : decode b_Ru_begin 85 = .ok (.return_, 1) := by decide +kernel
theorem d_La_step_0 : decode b_La_step 0 = .ok (.aload_n 2, 1) := by decide +kernel
theorem d_La_step_1 : decode b_La_step 1 = .ok (.iconst 0, 1) := by decide +kernel
theorem d_La_step_2 : decode b_La_step 2 = .ok (.aload_n 0, 1) := by decide +kernel
theorem d_La_step_3 : decode b_La_step 3 = .ok (.iload_n 1, 1) := by decide +kernel
theorem d_La_step_4 : decode b_La_step 4 = .ok (.invokevirtual 31, 3) := by decide +kernel
theorem d_La_step_7 : decode b_La_step 7 = .ok (.i2l, 1) := by decide +kernel
theorem d_La_step_8 : decode b_La_step 8 = .ok (.lastore, 1) := by decide +kernel
theorem d_La_step_9 : decode b_La_step 9 = .ok (.goto 9, 3) := by decide +kernel
theorem d_La_step_12 : decode b_La_step 12 = .ok (.astore_n 3, 1) := by decide +kernel
theorem d_La_step_13 : decode b_La_step 13 = .ok (.iconst 1, 1) := by decide +kernel
theorem d_La_step_14 : decode b_La_step 14 = .ok (.ireturn, 1) := by decide +kernel
theorem d_La_step_15 : decode b_La_step 15 = .ok (.astore_n 3, 1) := by decide +kernel
theorem d_La_step_16 : decode b_La_step 16 = .ok (.iconst 2, 1) := by decide +kernel
theorem d_La_step_17 : decode b_La_step 17 = .ok (.ireturn, 1) := by decide +kernel
theorem d_La_step_18 : decode b_La_step 18 = .ok (.iconst 0, 1) := by decide +kernel
theorem d_La_step_19 : decode b_La_step 19 = .ok (.ireturn, 1) := by decide +kernel
theorem d_S_step_0 : decode b_S_step 0 = .ok (.aload_n 0, 1) := by decide +kernel
theorem d_S_step_1 : decode b_S_step 1 = .ok (.getfield 28, 3) := by decide +kernel
theorem d_S_step_4 : decode b_S_step 4 = .ok (.getfield 100, 3) := by decide +kernel
theorem d_S_step_7 : decode b_S_step 7 = .ok (.ifCond .ne 13, 3) := by decide +kernel
theorem d_S_step_10 : decode b_S_step 10 = .ok (.new 91, 3) := by decide +kernel
theorem d_S_step_13 : decode b_S_step 13 = .ok (.dup, 1) := by decide +kernel
theorem d_S_step_14 : decode b_S_step 14 = .ok (.ldc 103, 2) := by decide +kernel
theorem d_S_step_16 : decode b_S_step 16 = .ok (.invokespecial 95, 3) := by decide +kernel
theorem d_S_step_19 : decode b_S_step 19 = .ok (.athrow, 1) := by decide +kernel
theorem d_S_step_20 : decode b_S_step 20 = .ok (.iload_n 1, 1) := by decide +kernel
theorem d_S_step_21 : decode b_S_step 21 = .ok (.ifCond .lt 10, 3) := by decide +kernel
theorem d_S_step_24 : decode b_S_step 24 = .ok (.iload_n 1, 1) := by decide +kernel
theorem d_S_step_25 : decode b_S_step 25 = .ok (.sipush 1000, 3) := by decide +kernel
theorem d_S_step_28 : decode b_S_step 28 = .ok (.if_icmp .le 13, 3) := by decide +kernel
theorem d_S_step_31 : decode b_S_step 31 = .ok (.new 32, 3) := by decide +kernel
theorem d_S_step_34 : decode b_S_step 34 = .ok (.dup, 1) := by decide +kernel
theorem d_S_step_35 : decode b_S_step 35 = .ok (.ldc 105, 2) := by decide +kernel
theorem d_S_step_37 : decode b_S_step 37 = .ok (.invokespecial 36, 3) := by decide +kernel
theorem d_S_step_40 : decode b_S_step 40 = .ok (.athrow, 1) := by decide +kernel
theorem d_S_step_41 : decode b_S_step 41 = .ok (.iconst 0, 1) := by decide +kernel
theorem d_S_step_42 : decode b_S_step 42 = .ok (.istore_n 2, 1) := by decide +kernel
theorem d_S_step_43 : decode b_S_step 43 = .ok (.iload_n 2, 1) := by decide +kernel
theorem d_S_step_44 : decode b_S_step 44 = .ok (.iload_n 1, 1) := by decide +kernel
theorem d_S_step_45 : decode b_S_step 45 = .ok (.if_icmp .ge 27, 3) := by decide +kernel
theorem d_S_step_48 : decode b_S_step 48 = .ok (.aload_n 0, 1) := by decide +kernel
theorem d_S_step_49 : decode b_S_step 49 = .ok (.getfield 28, 3) := by decide +kernel
theorem d_S_step_52 : decode b_S_step 52 = .ok (.getfield 100, 3) := by decide +kernel
theorem d_S_step_55 : decode b_S_step 55 = .ok (.iconst 1, 1) := by decide +kernel
theorem d_S_step_56 : decode b_S_step 56 = .ok (.if_icmp .ne 16, 3) := by decide +kernel
theorem d_S_step_59 : decode b_S_step 59 = .ok (.aload_n 0, 1) := by decide +kernel
theorem d_S_step_60 : decode b_S_step 60 = .ok (.getfield 28, 3) := by decide +kernel
theorem d_S_step_63 : decode b_S_step 63 = .ok (.invokevirtual 107, 3) := by decide +kernel
theorem d_S_step_66 : decode b_S_step 66 = .ok (.iinc 2 1, 3) := by decide +kernel
theorem d_S_step_69 : decode b_S_step 69 = .ok (.goto (-26), 3) := by decide +kernel
theorem d_S_step_72 : decode b_S_step 72 = .ok (.iload_n 2, 1) := by decide +kernel
theorem d_S_step_73 : decode b_S_step 73 = .ok (.ireturn, 1) := by decide +kernel
theorem d_Ru_doLine_0 : decode b_Ru_doLine 0 = .ok (.aload_n 0, 1) := by decide +kernel
theorem d_Ru_doLine_1 : decode b_Ru_doLine 1 = .ok (.getfield 32, 3) := by decide +kernel
theorem d_Ru_doLine_4 : decode b_Ru_doLine 4 = .ok (.getfield 53, 3) := by decide +kernel
theorem d_Ru_doLine_7 : decode b_Ru_doLine 7 = .ok (.aload_n 0, 1) := by decide +kernel
theorem d_Ru_doLine_8 : decode b_Ru_doLine 8 = .ok (.getfield 50, 3) := by decide +kernel
theorem d_Ru_doLine_11 : decode b_Ru_doLine 11 = .ok (.iaload, 1) := by decide +kernel
theorem d_Ru_doLine_12 : decode b_Ru_doLine 12 = .ok (.istore_n 1, 1) := by decide +kernel
theorem d_Ru_doLine_13 : decode b_Ru_doLine 13 = .ok (.aload_n 0, 1) := by decide +kernel
theorem d_Ru_doLine_14 : decode b_Ru_doLine 14 = .ok (.getfield 32, 3) := by decide +kernel
theorem d_Ru_doLine_17 : decode b_Ru_doLine 17 = .ok (.getfield 58, 3) := by decide +kernel
theorem d_Ru_doLine_20 : decode b_Ru_doLine 20 = .ok (.aload_n 0, 1) := by decide +kernel
theorem d_Ru_doLine_21 : decode b_Ru_doLine 21 = .ok (.getfield 50, 3) := by decide +kernel
theorem d_Ru_doLine_24 : decode b_Ru_doLine 24 = .ok (.iaload, 1) := by decide +kernel
theorem d_Ru_doLine_25 : decode b_Ru_doLine 25 = .ok (.istore_n 2, 1) := by decide +kernel
theorem d_Ru_doLine_26 : decode b_Ru_doLine 26 = .ok (.aload_n 0, 1) := by decide +kernel
theorem d_Ru_doLine_27 : decode b_Ru_doLine 27 = .ok (.getfield 50, 3) := by decide +kernel
theorem d_Ru_doLine_30 : decode b_Ru_doLine 30 = .ok (.iconst 1, 1) := by decide +kernel
theorem d_Ru_doLine_31 : decode b_Ru_doLine 31 = .ok (.iadd, 1) := by decide +kernel
theorem d_Ru_doLine_32 : decode b_Ru_doLine 32 = .ok (.istore_n 3, 1) := by decide +kernel
theorem d_Ru_doLine_33 : decode b_Ru_doLine 33 = .ok (.iload_n 1, 1) := by decide +kernel
theorem d_Ru_doLine_34 : decode b_Ru_doLine 34 = .ok (.bipush 14, 2) := by decide +kernel
theorem d_Ru_doLine_36 : decode b_Ru_doLine 36 = .ok (.if_icmp .ne 11, 3) := by decide +kernel
theorem d_Ru_doLine_39 : decode b_Ru_doLine 39 = .ok (.aload_n 0, 1) := by decide +kernel
theorem d_Ru_doLine_40 : decode b_Ru_doLine 40 = .ok (.iconst 2, 1) := by decide +kernel
theorem d_Ru_doLine_41 : decode b_Ru_doLine 41 = .ok (.putfield 35, 3) := by decide +kernel
theorem d_Ru_doLine_44 : decode b_Ru_doLine 44 = .ok (.goto 149, 3) := by decide +kernel
theorem d_Ru_doLine_47 : decode b_Ru_doLine 47 = .ok (.iload_n 1, 1) := by decide +kernel
theorem d_Ru_doLine_48 : decode b_Ru_doLine 48 = .ok (.bipush 15, 2) := by decide +kernel
theorem d_Ru_doLine_50 : decode b_Ru_doLine 50 = .ok (.if_icmp .ne 23, 3) := by decide +kernel
theorem d_Ru_doLine_53 : decode b_Ru_doLine 53 = .ok (.aload_n 0, 1) := by decide +kernel
theorem d_Ru_doLine_54 : decode b_Ru_doLine 54 = .ok (.aload_n 0, 1) := by decide +kernel
theorem d_Ru_doLine_55 : decode b_Ru_doLine 55 = .ok (.iload_n 2, 1) := by decide +kernel
theorem d_Ru_doLine_56 : decode b_Ru_doLine 56 = .ok (.invokevirtual 61, 3) := by decide +kernel
theorem d_Ru_doLine_59 : decode b_Ru_doLine 59 = .ok (.aload_n 0, 1) := by decide +kernel
theorem d_Ru_doLine_60 : decode b_Ru_doLine 60 = .ok (.getfield 18, 3) := by decide +kernel
theorem d_Ru_doLine_63 : decode b_Ru_doLine 63 = .ok (.iload_n 2, 1) := by decide +kernel
theorem d_Ru_doLine_64 : decode b_Ru_doLine 64 = .ok (.invokevirtual 65, 3) := by decide +kernel
theorem d_Ru_doLine_67 : decode b_Ru_doLine 67 = .ok (.invokevirtual 68, 3) := by decide +kernel
theorem d_Ru_doLine_70 : decode b_Ru_doLine 70 = .ok (.goto 123, 3) := by decide +kernel
theorem d_Ru_doLine_73 : decode b_Ru_doLine 73 = .ok (.iload_n 1, 1) := by decide +kernel
theorem d_Ru_doLine_74 : decode b_Ru_doLine 74 = .ok (.bipush 16, 2) := by decide +kernel
theorem d_Ru_doLine_76 : decode b_Ru_doLine 76 = .ok (.if_icmp .ne 15, 3) := by decide +kernel
theorem d_Ru_doLine_79 : decode b_Ru_doLine 79 = .ok (.aload_n 0, 1) := by decide +kernel
theorem d_Ru_doLine_80 : decode b_Ru_doLine 80 = .ok (.aload_n 0, 1) := by decide +kernel
theorem d_Ru_doLine_81 : decode b_Ru_doLine 81 = .ok (.iload_n 2, 1) := by decide +kernel
theorem d_Ru_doLine_82 : decode b_Ru_doLine 82 = .ok (.invokevirtual 72, 3) := by decide +kernel
theorem d_Ru_doLine_85 : decode b_Ru_doLine 85 = .ok (.invokevirtual 75, 3) := by decide +kernel
theorem d_Ru_doLine_88 : decode b_Ru_doLine 88 = .ok (.goto 105, 3) := by decide +kernel
theorem d_Ru_doLine_91 : decode b_Ru_doLine 91 = .ok (.iload_n 1, 1) := by decide +kernel
theorem d_Ru_doLine_92 : decode b_Ru_doLine 92 = .ok (.bipush 10, 2) := by decide +kernel
theorem d_Ru_doLine_94 : decode b_Ru_doLine 94 = .ok (.if_icmp .eq 9, 3) := by decide +kernel
theorem d_Ru_doLine_97 : decode b_Ru_doLine 97 = .ok (.iload_n 1, 1) := by decide +kernel
theorem d_Ru_doLine_98 : decode b_Ru_doLine 98 = .ok (.bipush 11, 2) := by decide +kernel
theorem d_Ru_doLine_100 : decode b_Ru_doLine 100 = .ok (.if_icmp .ne 35, 3) := by decide +kernel
theorem d_Ru_doLine_103 : decode b_Ru_doLine 103 = .ok (.aload_n 0, 1) := by decide +kernel
theorem d_Ru_doLine_104 : decode b_Ru_doLine 104 = .ok (.iload_n 1, 1) := by decide +kernel
theorem d_Ru_doLine_105 : decode b_Ru_doLine 105 = .ok (.iload_n 2, 1) := by decide +kernel
theorem d_Ru_doLine_106 : decode b_Ru_doLine 106 = .ok (.invokevirtual 79, 3) := by decide +kernel
theorem d_Ru_doLine_109 : decode b_Ru_doLine 109 = .ok (.ifCond .eq 21, 3) := by decide +kernel
theorem d_Ru_doLine_112 : decode b_Ru_doLine 112 = .ok (.aload_n 0, 1) := by decide +kernel
theorem d_Ru_doLine_113 : decode b_Ru_doLine 113 = .ok (.getfield 18, 3) := by decide +kernel
theorem d_Ru_doLine_116 : decode b_Ru_doLine 116 = .ok (.aload_n 0, 1) := by decide +kernel
theorem d_Ru_doLine_117 : decode b_Ru_doLine 117 = .ok (.getfield 32, 3) := by decide +kernel
theorem d_Ru_doLine_120 : decode b_Ru_doLine 120 = .ok (.aload_n 0, 1) := by decide +kernel
theorem d_Ru_doLine_121 : decode b_Ru_doLine 121 = .ok (.getfield 50, 3) := by decide +kernel
theorem d_Ru_doLine_124 : decode b_Ru_doLine 124 = .ok (.invokevirtual 83, 3) := by decide +kernel
theorem d_Ru_doLine_127 : decode b_Ru_doLine 127 = .ok (.goto 4, 3) := by decide +kernel
theorem d_Ru_doLine_130 : decode b_Ru_doLine 130 = .ok (.iload_n 3, 1) := by decide +kernel
theorem d_Ru_doLine_131 : decode b_Ru_doLine 131 = .ok (.istore_n 3, 1) := by decide +kernel
theorem d_Ru_doLine_132 : decode b_Ru_doLine 132 = .ok (.goto 61, 3) := by decide +kernel
theorem d_Ru_doLine_135 : decode b_Ru_doLine 135 = .ok (.iload_n 1, 1) := by decide +kernel
theorem d_Ru_doLine_136 : decode b_Ru_doLine 136 = .ok (.iconst 4, 1) := by decide +kernel
theorem d_Ru_doLine_137 : decode b_Ru_doLine 137 = .ok (.if_icmp .lt 18, 3) := by decide +kernel
theorem d_Ru_doLine_140 : decode b_Ru_doLine 140 = .ok (.iload_n 1, 1) := by decide +kernel
theorem d_Ru_doLine_141 : decode b_Ru_doLine 141 = .ok (.bipush 9, 2) := by decide +kernel
theorem d_Ru_doLine_143 : decode b_Ru_doLine 143 = .ok (.if_icmp .gt 12, 3) := by decide +kernel
theorem d_Ru_doLine_146 : decode b_Ru_doLine 146 = .ok (.aload_n 0, 1) := by decide +kernel
theorem d_Ru_doLine_147 : decode b_Ru_doLine 147 = .ok (.iload_n 1, 1) := by decide +kernel
theorem d_Ru_doLine_148 : decode b_Ru_doLine 148 = .ok (.iload_n 2, 1) := by decide +kernel
theorem d_Ru_doLine_149 : decode b_Ru_doLine 149 = .ok (.invokevirtual 87, 3) := by decide +kernel
theorem d_Ru_doLine_152 : decode b_Ru_doLine 152 = .ok (.goto 41, 3) := by decide +kernel
theorem d_Ru_doLine_155 : decode b_Ru_doLine 155 = .ok (.iload_n 1, 1) := by decide +kernel
theorem d_Ru_doLine_156 : decode b_Ru_doLine 156 = .ok (.bipush 12, 2) := by decide +kernel
theorem d_Ru_doLine_158 : decode b_Ru_doLine 158 = .ok (.if_icmp .ne 15, 3) := by decide +kernel
theorem d_Ru_doLine_161 : decode b_Ru_doLine 161 = .ok (.aload_n 0, 1) := by decide +kernel
theorem d_Ru_doLine_162 : decode b_Ru_doLine 162 = .ok (.aload_n 0, 1) := by decide +kernel
theorem d_Ru_doLine_163 : decode b_Ru_doLine 163 = .ok (.iload_n 2, 1) := by decide +kernel
theorem d_Ru_doLine_164 : decode b_Ru_doLine 164 = .ok (.invokevirtual 72, 3) := by decide +kernel
theorem d_Ru_doLine_167 : decode b_Ru_doLine 167 = .ok (.invokevirtual 90, 3) := by decide +kernel
theorem d_Ru_doLine_170 : decode b_Ru_doLine 170 = .ok (.goto 23, 3) := by decide +kernel
theorem d_Ru_doLine_173 : decode b_Ru_doLine 173 = .ok (.aload_n 0, 1) := by decide +kernel
theorem d_Ru_doLine_174 : decode b_Ru_doLine 174 = .ok (.getfield 9, 3) := by decide +kernel
theorem d_Ru_doLine_177 : decode b_Ru_doLine 177 = .ok (.aload_n 0, 1) := by decide +kernel
theorem d_Ru_doLine_178 : decode b_Ru_doLine 178 = .ok (.getfield 18, 3) := by decide +kernel
theorem d_Ru_doLine_181 : decode b_Ru_doLine 181 = .ok (.getfield 93, 3) := by decide +kernel
theorem d_Ru_doLine_184 : decode b_Ru_doLine 184 = .ok (.iload_n 2, 1) := by decide +kernel
theorem d_Ru_doLine_185 : decode b_Ru_doLine 185 = .ok (.iaload, 1) := by decide +kernel
theorem d_Ru_doLine_186 : decode b_Ru_doLine 186 = .ok (.aload_n 0, 1) := by decide +kernel
theorem d_Ru_doLine_187 : decode b_Ru_doLine 187 = .ok (.iload_n 1, 1) := by decide +kernel
theorem d_Ru_doLine_188 : decode b_Ru_doLine 188 = .ok (.iload_n 2, 1) := by decide +kernel
theorem d_Ru_doLine_189 : decode b_Ru_doLine 189 = .ok (.invokevirtual 96, 3) := by decide +kernel
theorem d_Ru_doLine_192 : decode b_Ru_doLine 192 = .ok (.iastore, 1) := by decide +kernel
theorem d_Ru_doLine_193 : decode b_Ru_doLine 193 = .ok (.aload_n 0, 1) := by decide +kernel
theorem d_Ru_doLine_194 : decode b_Ru_doLine 194 = .ok (.getfield 35, 3) := by decide +kernel
theorem d_Ru_doLine_197 : decode b_Ru_doLine 197 = .ok (.iconst 1, 1) := by decide +kernel
theorem d_Ru_doLine_198 : decode b_Ru_doLine 198 = .ok (.if_icmp .ne 8, 3) := by decide +kernel
theorem d_Ru_doLine_201 : decode b_Ru_doLine 201 = .ok (.aload_n 0, 1) := by decide +kernel
theorem d_Ru_doLine_202 : decode b_Ru_doLine 202 = .ok (.iload_n 3, 1) := by decide +kernel
theorem d_Ru_doLine_203 : decode b_Ru_doLine 203 = .ok (.invokevirtual 100, 3) := by decide +kernel
theorem d_Ru_doLine_206 : decode b_Ru_doLine 206 = .ok (.return_, 1) := by decide +kernel
theorem d_Ru_addressOf_0 : decode b_Ru_addressOf 0 = .ok (.aload_n 0, 1) := by decide +kernel
theorem d_Ru_addressOf_1 : decode b_Ru_addressOf 1 = .ok (.iload_n 1, 1) := by decide +kernel
theorem d_Ru_addressOf_2 : decode b_Ru_addressOf 2 = .ok (.invokevirtual 72, 3) := by decide +kernel
theorem d_Ru_addressOf_5 : decode b_Ru_addressOf 5 = .ok (.aload_n 0, 1) := by decide +kernel
theorem d_Ru_addressOf_6 : decode b_Ru_addressOf 6 = .ok (.getfield 18, 3) := by decide +kernel
theorem d_Ru_addressOf_9 : decode b_Ru_addressOf 9 = .ok (.getfield 109, 3) := by decide +kernel
theorem d_Ru_addressOf_12 : decode b_Ru_addressOf 12 = .ok (.iload_n 1, 1) := by decide +kernel
theorem d_Ru_addressOf_13 : decode b_Ru_addressOf 13 = .ok (.iaload, 1) := by decide +kernel
theorem d_Ru_addressOf_14 : decode b_Ru_addressOf 14 = .ok (.iadd, 1) := by decide +kernel
theorem d_Ru_addressOf_15 : decode b_Ru_addressOf 15 = .ok (.ireturn, 1) := by decide +kernel
theorem d_Ru_aOf_0 : decode b_Ru_aOf 0 = .ok (.aload_n 0, 1) := by decide +kernel
theorem d_Ru_aOf_1 : decode b_Ru_aOf 1 = .ok (.getfield 9, 3) := by decide +kernel
theorem d_Ru_aOf_4 : decode b_Ru_aOf 4 = .ok (.aload_n 0, 1) := by decide +kernel
theorem d_Ru_aOf_5 : decode b_Ru_aOf 5 = .ok (.getfield 18, 3) := by decide +kernel
theorem d_Ru_aOf_8 : decode b_Ru_aOf 8 = .ok (.getfield 150, 3) := by decide +kernel
theorem d_Ru_aOf_11 : decode b_Ru_aOf 11 = .ok (.iload_n 1, 1) := by decide +kernel
theorem d_Ru_aOf_12 : decode b_Ru_aOf 12 = .ok (.iaload, 1) := by decide +kernel
theorem d_Ru_aOf_13 : decode b_Ru_aOf 13 = .ok (.iaload, 1) := by decide +kernel
theorem d_Ru_aOf_14 : decode b_Ru_aOf 14 = .ok (.ireturn, 1) := by decide +kernel
theorem d_Pr_widthOf_0 : decode b_Pr_widthOf 0 = .ok (.aload_n 0, 1) := by decide +kernel
theorem d_Pr_widthOf_1 : decode b_Pr_widthOf 1 = .ok (.getfield 29, 3) := by decide +kernel
theorem d_Pr_widthOf_4 : decode b_Pr_widthOf 4 = .ok (.getfield 50, 3) := by decide +kernel
theorem d_Pr_widthOf_7 : decode b_Pr_widthOf 7 = .ok (.iload_n 1, 1) := by decide +kernel
theorem d_Pr_widthOf_8 : decode b_Pr_widthOf 8 = .ok (.iaload, 1) := by decide +kernel
theorem d_Pr_widthOf_9 : decode b_Pr_widthOf 9 = .ok (.istore_n 2, 1) := by decide +kernel
theorem d_Pr_widthOf_10 : decode b_Pr_widthOf 10 = .ok (.iload_n 2, 1) := by decide +kernel
theorem d_Pr_widthOf_11 : decode b_Pr_widthOf 11 = .ok (.bipush 6, 2) := by decide +kernel
theorem d_Pr_widthOf_13 : decode b_Pr_widthOf 13 = .ok (.if_icmp .eq 9, 3) := by decide +kernel
theorem d_Pr_widthOf_16 : decode b_Pr_widthOf 16 = .ok (.iload_n 2, 1) := by decide +kernel
theorem d_Pr_widthOf_17 : decode b_Pr_widthOf 17 = .ok (.bipush 8, 2) := by decide +kernel
theorem d_Pr_widthOf_19 : decode b_Pr_widthOf 19 = .ok (.if_icmp .ne 7, 3) := by decide +kernel
theorem d_Pr_widthOf_22 : decode b_Pr_widthOf 22 = .ok (.iconst 1, 1) := by decide +kernel
theorem d_Pr_widthOf_23 : decode b_Pr_widthOf 23 = .ok (.goto 4, 3) := by decide +kernel
theorem d_Pr_widthOf_26 : decode b_Pr_widthOf 26 = .ok (.iconst 4, 1) := by decide +kernel
theorem d_Pr_widthOf_27 : decode b_Pr_widthOf 27 = .ok (.ireturn, 1) := by decide +kernel
theorem d_Ru_checkBytes_0 : decode b_Ru_checkBytes 0 = .ok (.iconst 0, 1) := by decide +kernel
theorem d_Ru_checkBytes_1 : decode b_Ru_checkBytes 1 = .ok (.istore_n 3, 1) := by decide +kernel
theorem d_Ru_checkBytes_2 : decode b_Ru_checkBytes 2 = .ok (.iload_n 3, 1) := by decide +kernel
theorem d_Ru_checkBytes_3 : decode b_Ru_checkBytes 3 = .ok (.iload_n 2, 1) := by decide +kernel
theorem d_Ru_checkBytes_4 : decode b_Ru_checkBytes 4 = .ok (.if_icmp .ge 43, 3) := by decide +kernel
theorem d_Ru_checkBytes_7 : decode b_Ru_checkBytes 7 = .ok (.aload_n 0, 1) := by decide +kernel
theorem d_Ru_checkBytes_8 : decode b_Ru_checkBytes 8 = .ok (.getfield 35, 3) := by decide +kernel
theorem d_Ru_checkBytes_11 : decode b_Ru_checkBytes 11 = .ok (.iconst 1, 1) := by decide +kernel
theorem d_Ru_checkBytes_12 : decode b_Ru_checkBytes 12 = .ok (.if_icmp .ne 35, 3) := by decide +kernel
theorem d_Ru_checkBytes_15 : decode b_Ru_checkBytes 15 = .ok (.aload_n 0, 1) := by decide +kernel
theorem d_Ru_checkBytes_16 : decode b_Ru_checkBytes 16 = .ok (.getfield 22, 3) := by decide +kernel
theorem d_Ru_checkBytes_19 : decode b_Ru_checkBytes 19 = .ok (.iload_n 1, 1) := by decide +kernel
theorem d_Ru_checkBytes_20 : decode b_Ru_checkBytes 20 = .ok (.iload_n 3, 1) := by decide +kernel
theorem d_Ru_checkBytes_21 : decode b_Ru_checkBytes 21 = .ok (.iadd, 1) := by decide +kernel
theorem d_Ru_checkBytes_22 : decode b_Ru_checkBytes 22 = .ok (.invokevirtual 138, 3) := by decide +kernel
theorem d_Ru_checkBytes_25 : decode b_Ru_checkBytes 25 = .ok (.istore 4, 2) := by decide +kernel
theorem d_Ru_checkBytes_27 : decode b_Ru_checkBytes 27 = .ok (.iload 4, 2) := by decide +kernel
theorem d_Ru_checkBytes_29 : decode b_Ru_checkBytes 29 = .ok (.ifCond .eq 12, 3) := by decide +kernel
theorem d_Ru_checkBytes_32 : decode b_Ru_checkBytes 32 = .ok (.aload_n 0, 1) := by decide +kernel
theorem d_Ru_checkBytes_33 : decode b_Ru_checkBytes 33 = .ok (.iload 4, 2) := by decide +kernel
theorem d_Ru_checkBytes_35 : decode b_Ru_checkBytes 35 = .ok (.iload_n 1, 1) := by decide +kernel
end
section
theorem d_Ru_checkBytes_36 : decode b_Ru_checkBytes 36 = .ok (.iload_n 3, 1) := by decide +kernel
theorem d_Ru_checkBytes_37 : decode b_Ru_checkBytes 37 = .ok (.iadd, 1) := by decide +kernel
theorem d_Ru_checkBytes_38 : decode b_Ru_checkBytes 38 = .ok (.invokevirtual 141, 3) := by decide +kernel
theorem d_Ru_checkBytes_41 : decode b_Ru_checkBytes 41 = .ok (.iinc 3 1, 3) := by decide +kernel
theorem d_Ru_checkBytes_44 : decode b_Ru_checkBytes 44 = .ok (.goto (-42), 3) := by decide +kernel
theorem d_Ru_checkBytes_47 : decode b_Ru_checkBytes 47 = .ok (.return_, 1) := by decide +kernel
theorem d_Me_kindOfTouch_0 : decode b_Me_kindOfTouch 0 = .ok (.iload_n 1, 1) := by decide +kernel
theorem d_Me_kindOfTouch_1 : decode b_Me_kindOfTouch 1 = .ok (.iconst 1, 1) := by decide +kernel
theorem d_Me_kindOfTouch_2 : decode b_Me_kindOfTouch 2 = .ok (.invokestatic 41, 3) := by decide +kernel
theorem d_Me_kindOfTouch_5 : decode b_Me_kindOfTouch 5 = .ok (.ifCond .ne 5, 3) := by decide +kernel
theorem d_Me_kindOfTouch_8 : decode b_Me_kindOfTouch 8 = .ok (.iconst 5, 1) := by decide +kernel
theorem d_Me_kindOfTouch_9 : decode b_Me_kindOfTouch 9 = .ok (.ireturn, 1) := by decide +kernel
theorem d_Me_kindOfTouch_10 : decode b_Me_kindOfTouch 10 = .ok (.aload_n 0, 1) := by decide +kernel
theorem d_Me_kindOfTouch_11 : decode b_Me_kindOfTouch 11 = .ok (.getfield 15, 3) := by decide +kernel
theorem d_Me_kindOfTouch_14 : decode b_Me_kindOfTouch 14 = .ok (.iload_n 1, 1) := by decide +kernel
theorem d_Me_kindOfTouch_15 : decode b_Me_kindOfTouch 15 = .ok (.bipush 8, 2) := by decide +kernel
theorem d_Me_kindOfTouch_17 : decode b_Me_kindOfTouch 17 = .ok (.idiv, 1) := by decide +kernel
theorem d_Me_kindOfTouch_18 : decode b_Me_kindOfTouch 18 = .ok (.iaload, 1) := by decide +kernel
theorem d_Me_kindOfTouch_19 : decode b_Me_kindOfTouch 19 = .ok (.tableswitch 37 (-3) 0 #[35, 33, 31, 29], 29) := by decide +kernel
theorem d_Me_kindOfTouch_48 : decode b_Me_kindOfTouch 48 = .ok (.iconst 0, 1) := by decide +kernel
theorem d_Me_kindOfTouch_49 : decode b_Me_kindOfTouch 49 = .ok (.ireturn, 1) := by decide +kernel
theorem d_Me_kindOfTouch_50 : decode b_Me_kindOfTouch 50 = .ok (.iconst 1, 1) := by decide +kernel
theorem d_Me_kindOfTouch_51 : decode b_Me_kindOfTouch 51 = .ok (.ireturn, 1) := by decide +kernel
theorem d_Me_kindOfTouch_52 : decode b_Me_kindOfTouch 52 = .ok (.iconst 2, 1) := by decide +kernel
theorem d_Me_kindOfTouch_53 : decode b_Me_kindOfTouch 53 = .ok (.ireturn, 1) := by decide +kernel
theorem d_Me_kindOfTouch_54 : decode b_Me_kindOfTouch 54 = .ok (.iconst 3, 1) := by decide +kernel
theorem d_Me_kindOfTouch_55 : decode b_Me_kindOfTouch 55 = .ok (.ireturn, 1) := by decide +kernel
theorem d_Me_kindOfTouch_56 : decode b_Me_kindOfTouch 56 = .ok (.iload_n 1, 1) := by decide +kernel
theorem d_Me_kindOfTouch_57 : decode b_Me_kindOfTouch 57 = .ok (.bipush 8, 2) := by decide +kernel
theorem d_Me_kindOfTouch_59 : decode b_Me_kindOfTouch 59 = .ok (.irem, 1) := by decide +kernel
theorem d_Me_kindOfTouch_60 : decode b_Me_kindOfTouch 60 = .ok (.aload_n 0, 1) := by decide +kernel
theorem d_Me_kindOfTouch_61 : decode b_Me_kindOfTouch 61 = .ok (.getfield 15, 3) := by decide +kernel
theorem d_Me_kindOfTouch_64 : decode b_Me_kindOfTouch 64 = .ok (.iload_n 1, 1) := by decide +kernel
theorem d_Me_kindOfTouch_65 : decode b_Me_kindOfTouch 65 = .ok (.bipush 8, 2) := by decide +kernel
theorem d_Me_kindOfTouch_67 : decode b_Me_kindOfTouch 67 = .ok (.idiv, 1) := by decide +kernel
theorem d_Me_kindOfTouch_68 : decode b_Me_kindOfTouch 68 = .ok (.iaload, 1) := by decide +kernel
theorem d_Me_kindOfTouch_69 : decode b_Me_kindOfTouch 69 = .ok (.if_icmp .ge 7, 3) := by decide +kernel
theorem d_Me_kindOfTouch_72 : decode b_Me_kindOfTouch 72 = .ok (.iconst 0, 1) := by decide +kernel
theorem d_Me_kindOfTouch_73 : decode b_Me_kindOfTouch 73 = .ok (.goto 4, 3) := by decide +kernel
theorem d_Me_kindOfTouch_76 : decode b_Me_kindOfTouch 76 = .ok (.iconst 1, 1) := by decide +kernel
theorem d_Me_kindOfTouch_77 : decode b_Me_kindOfTouch 77 = .ok (.ireturn, 1) := by decide +kernel
theorem d_Me_holds_0 : decode b_Me_holds 0 = .ok (.iload_n 0, 1) := by decide +kernel
theorem d_Me_holds_1 : decode b_Me_holds 1 = .ok (.ifCond .lt 16, 3) := by decide +kernel
theorem d_Me_holds_4 : decode b_Me_holds 4 = .ok (.iload_n 0, 1) := by decide +kernel
theorem d_Me_holds_5 : decode b_Me_holds 5 = .ok (.sipush 512, 3) := by decide +kernel
theorem d_Me_holds_8 : decode b_Me_holds 8 = .ok (.iload_n 1, 1) := by decide +kernel
theorem d_Me_holds_9 : decode b_Me_holds 9 = .ok (.isub, 1) := by decide +kernel
theorem d_Me_holds_10 : decode b_Me_holds 10 = .ok (.if_icmp .gt 7, 3) := by decide +kernel
theorem d_Me_holds_13 : decode b_Me_holds 13 = .ok (.iconst 1, 1) := by decide +kernel
theorem d_Me_holds_14 : decode b_Me_holds 14 = .ok (.goto 4, 3) := by decide +kernel
theorem d_Me_holds_17 : decode b_Me_holds 17 = .ok (.iconst 0, 1) := by decide +kernel
theorem d_Me_holds_18 : decode b_Me_holds 18 = .ok (.ireturn, 1) := by decide +kernel
theorem d_Ru_endWithReport_0 : decode b_Ru_endWithReport 0 = .ok (.aload_n 0, 1) := by decide +kernel
theorem d_Ru_endWithReport_1 : decode b_Ru_endWithReport 1 = .ok (.iload_n 1, 1) := by decide +kernel
theorem d_Ru_endWithReport_2 : decode b_Ru_endWithReport 2 = .ok (.putfield 144, 3) := by decide +kernel
theorem d_Ru_endWithReport_5 : decode b_Ru_endWithReport 5 = .ok (.aload_n 0, 1) := by decide +kernel
theorem d_Ru_endWithReport_6 : decode b_Ru_endWithReport 6 = .ok (.iload_n 2, 1) := by decide +kernel
theorem d_Ru_endWithReport_7 : decode b_Ru_endWithReport 7 = .ok (.putfield 147, 3) := by decide +kernel
theorem d_Ru_endWithReport_10 : decode b_Ru_endWithReport 10 = .ok (.aload_n 0, 1) := by decide +kernel
theorem d_Ru_endWithReport_11 : decode b_Ru_endWithReport 11 = .ok (.iconst 3, 1) := by decide +kernel
theorem d_Ru_endWithReport_12 : decode b_Ru_endWithReport 12 = .ok (.putfield 35, 3) := by decide +kernel
theorem d_Ru_endWithReport_15 : decode b_Ru_endWithReport 15 = .ok (.return_, 1) := by decide +kernel
theorem d_Ru_checkFree_0 : decode b_Ru_checkFree 0 = .ok (.aload_n 0, 1) := by decide +kernel
theorem d_Ru_checkFree_1 : decode b_Ru_checkFree 1 = .ok (.getfield 22, 3) := by decide +kernel
theorem d_Ru_checkFree_4 : decode b_Ru_checkFree 4 = .ok (.iload_n 1, 1) := by decide +kernel
theorem d_Ru_checkFree_5 : decode b_Ru_checkFree 5 = .ok (.invokevirtual 121, 3) := by decide +kernel
theorem d_Ru_checkFree_8 : decode b_Ru_checkFree 8 = .ok (.ifCond .ne 9, 3) := by decide +kernel
theorem d_Ru_checkFree_11 : decode b_Ru_checkFree 11 = .ok (.aload_n 0, 1) := by decide +kernel
theorem d_Ru_checkFree_12 : decode b_Ru_checkFree 12 = .ok (.iconst 4, 1) := by decide +kernel
theorem d_Ru_checkFree_13 : decode b_Ru_checkFree 13 = .ok (.iload_n 1, 1) := by decide +kernel
theorem d_Ru_checkFree_14 : decode b_Ru_checkFree 14 = .ok (.invokevirtual 141, 3) := by decide +kernel
theorem d_Ru_checkFree_17 : decode b_Ru_checkFree 17 = .ok (.return_, 1) := by decide +kernel
theorem d_Me_mayFree_0 : decode b_Me_mayFree 0 = .ok (.iload_n 1, 1) := by decide +kernel
theorem d_Me_mayFree_1 : decode b_Me_mayFree 1 = .ok (.ifCond .ne 5, 3) := by decide +kernel
theorem d_Me_mayFree_4 : decode b_Me_mayFree 4 = .ok (.iconst 1, 1) := by decide +kernel
theorem d_Me_mayFree_5 : decode b_Me_mayFree 5 = .ok (.ireturn, 1) := by decide +kernel
theorem d_Me_mayFree_6 : decode b_Me_mayFree 6 = .ok (.iload_n 1, 1) := by decide +kernel
theorem d_Me_mayFree_7 : decode b_Me_mayFree 7 = .ok (.iconst 1, 1) := by decide +kernel
theorem d_Me_mayFree_8 : decode b_Me_mayFree 8 = .ok (.invokestatic 41, 3) := by decide +kernel
theorem d_Me_mayFree_11 : decode b_Me_mayFree 11 = .ok (.ifCond .eq 10, 3) := by decide +kernel
theorem d_Me_mayFree_14 : decode b_Me_mayFree 14 = .ok (.iload_n 1, 1) := by decide +kernel
theorem d_Me_mayFree_15 : decode b_Me_mayFree 15 = .ok (.bipush 8, 2) := by decide +kernel
theorem d_Me_mayFree_17 : decode b_Me_mayFree 17 = .ok (.irem, 1) := by decide +kernel
theorem d_Me_mayFree_18 : decode b_Me_mayFree 18 = .ok (.ifCond .eq 5, 3) := by decide +kernel
theorem d_Me_mayFree_21 : decode b_Me_mayFree 21 = .ok (.iconst 0, 1) := by decide +kernel
theorem d_Me_mayFree_22 : decode b_Me_mayFree 22 = .ok (.ireturn, 1) := by decide +kernel
theorem d_Me_mayFree_23 : decode b_Me_mayFree 23 = .ok (.iload_n 1, 1) := by decide +kernel
theorem d_Me_mayFree_24 : decode b_Me_mayFree 24 = .ok (.bipush 8, 2) := by decide +kernel
theorem d_Me_mayFree_26 : decode b_Me_mayFree 26 = .ok (.idiv, 1) := by decide +kernel
theorem d_Me_mayFree_27 : decode b_Me_mayFree 27 = .ok (.iconst 1, 1) := by decide +kernel
theorem d_Me_mayFree_28 : decode b_Me_mayFree 28 = .ok (.isub, 1) := by decide +kernel
theorem d_Me_mayFree_29 : decode b_Me_mayFree 29 = .ok (.istore_n 2, 1) := by decide +kernel
theorem d_Me_mayFree_30 : decode b_Me_mayFree 30 = .ok (.aload_n 0, 1) := by decide +kernel
theorem d_Me_mayFree_31 : decode b_Me_mayFree 31 = .ok (.getfield 18, 3) := by decide +kernel
theorem d_Me_mayFree_34 : decode b_Me_mayFree 34 = .ok (.iload_n 2, 1) := by decide +kernel
theorem d_Me_mayFree_35 : decode b_Me_mayFree 35 = .ok (.iaload, 1) := by decide +kernel
theorem d_Me_mayFree_36 : decode b_Me_mayFree 36 = .ok (.ifCond .le 16, 3) := by decide +kernel
theorem d_Me_mayFree_39 : decode b_Me_mayFree 39 = .ok (.aload_n 0, 1) := by decide +kernel
theorem d_Me_mayFree_40 : decode b_Me_mayFree 40 = .ok (.getfield 21, 3) := by decide +kernel
theorem d_Me_mayFree_43 : decode b_Me_mayFree 43 = .ok (.iload_n 2, 1) := by decide +kernel
theorem d_Me_mayFree_44 : decode b_Me_mayFree 44 = .ok (.baload, 1) := by decide +kernel
theorem d_Me_mayFree_45 : decode b_Me_mayFree 45 = .ok (.ifCond .ne 7, 3) := by decide +kernel
theorem d_Me_mayFree_48 : decode b_Me_mayFree 48 = .ok (.iconst 1, 1) := by decide +kernel
theorem d_Me_mayFree_49 : decode b_Me_mayFree 49 = .ok (.goto 4, 3) := by decide +kernel
theorem d_Me_mayFree_52 : decode b_Me_mayFree 52 = .ok (.iconst 0, 1) := by decide +kernel
theorem d_Me_mayFree_53 : decode b_Me_mayFree 53 = .ok (.ireturn, 1) := by decide +kernel
theorem d_Ru_goesOn_0 : decode b_Ru_goesOn 0 = .ok (.iload_n 1, 1) := by decide +kernel
theorem d_Ru_goesOn_1 : decode b_Ru_goesOn 1 = .ok (.bipush 10, 2) := by decide +kernel
theorem d_Ru_goesOn_3 : decode b_Ru_goesOn 3 = .ok (.if_icmp .ne 19, 3) := by decide +kernel
theorem d_Ru_goesOn_6 : decode b_Ru_goesOn 6 = .ok (.aload_n 0, 1) := by decide +kernel
theorem d_Ru_goesOn_7 : decode b_Ru_goesOn 7 = .ok (.iload_n 2, 1) := by decide +kernel
theorem d_Ru_goesOn_8 : decode b_Ru_goesOn 8 = .ok (.invokevirtual 72, 3) := by decide +kernel
theorem d_Ru_goesOn_11 : decode b_Ru_goesOn 11 = .ok (.ifCond .ne 7, 3) := by decide +kernel
theorem d_Ru_goesOn_14 : decode b_Ru_goesOn 14 = .ok (.iconst 1, 1) := by decide +kernel
theorem d_Ru_goesOn_15 : decode b_Ru_goesOn 15 = .ok (.goto 25, 3) := by decide +kernel
theorem d_Ru_goesOn_18 : decode b_Ru_goesOn 18 = .ok (.iconst 0, 1) := by decide +kernel
theorem d_Ru_goesOn_19 : decode b_Ru_goesOn 19 = .ok (.goto 21, 3) := by decide +kernel
theorem d_Ru_goesOn_22 : decode b_Ru_goesOn 22 = .ok (.aload_n 0, 1) := by decide +kernel
theorem d_Ru_goesOn_23 : decode b_Ru_goesOn 23 = .ok (.iload_n 2, 1) := by decide +kernel
theorem d_Ru_goesOn_24 : decode b_Ru_goesOn 24 = .ok (.invokevirtual 72, 3) := by decide +kernel
theorem d_Ru_goesOn_27 : decode b_Ru_goesOn 27 = .ok (.aload_n 0, 1) := by decide +kernel
theorem d_Ru_goesOn_28 : decode b_Ru_goesOn 28 = .ok (.iload_n 2, 1) := by decide +kernel
theorem d_Ru_goesOn_29 : decode b_Ru_goesOn 29 = .ok (.invokevirtual 106, 3) := by decide +kernel
theorem d_Ru_goesOn_32 : decode b_Ru_goesOn 32 = .ok (.if_icmp .ge 7, 3) := by decide +kernel
theorem d_Ru_goesOn_35 : decode b_Ru_goesOn 35 = .ok (.iconst 1, 1) := by decide +kernel
theorem d_Ru_goesOn_36 : decode b_Ru_goesOn 36 = .ok (.goto 4, 3) := by decide +kernel
theorem d_Ru_goesOn_39 : decode b_Ru_goesOn 39 = .ok (.iconst 0, 1) := by decide +kernel
theorem d_Ru_goesOn_40 : decode b_Ru_goesOn 40 = .ok (.ireturn, 1) := by decide +kernel
theorem d_Ru_bOf_0 : decode b_Ru_bOf 0 = .ok (.aload_n 0, 1) := by decide +kernel
theorem d_Ru_bOf_1 : decode b_Ru_bOf 1 = .ok (.getfield 9, 3) := by decide +kernel
theorem d_Ru_bOf_4 : decode b_Ru_bOf 4 = .ok (.aload_n 0, 1) := by decide +kernel
theorem d_Ru_bOf_5 : decode b_Ru_bOf 5 = .ok (.getfield 18, 3) := by decide +kernel
theorem d_Ru_bOf_8 : decode b_Ru_bOf 8 = .ok (.getfield 153, 3) := by decide +kernel
theorem d_Ru_bOf_11 : decode b_Ru_bOf 11 = .ok (.iload_n 1, 1) := by decide +kernel
theorem d_Ru_bOf_12 : decode b_Ru_bOf 12 = .ok (.iaload, 1) := by decide +kernel
theorem d_Ru_bOf_13 : decode b_Ru_bOf 13 = .ok (.iaload, 1) := by decide +kernel
theorem d_Ru_bOf_14 : decode b_Ru_bOf 14 = .ok (.ireturn, 1) := by decide +kernel
theorem d_Ru_useHeap_0 : decode b_Ru_useHeap 0 = .ok (.iload_n 1, 1) := by decide +kernel
theorem d_Ru_useHeap_1 : decode b_Ru_useHeap 1 = .ok (.iconst 4, 1) := by decide +kernel
theorem d_Ru_useHeap_2 : decode b_Ru_useHeap 2 = .ok (.if_icmp .ne 32, 3) := by decide +kernel
theorem d_Ru_useHeap_5 : decode b_Ru_useHeap 5 = .ok (.aload_n 0, 1) := by decide +kernel
theorem d_Ru_useHeap_6 : decode b_Ru_useHeap 6 = .ok (.getfield 9, 3) := by decide +kernel
theorem d_Ru_useHeap_9 : decode b_Ru_useHeap 9 = .ok (.aload_n 0, 1) := by decide +kernel
theorem d_Ru_useHeap_10 : decode b_Ru_useHeap 10 = .ok (.getfield 18, 3) := by decide +kernel
theorem d_Ru_useHeap_13 : decode b_Ru_useHeap 13 = .ok (.getfield 93, 3) := by decide +kernel
theorem d_Ru_useHeap_16 : decode b_Ru_useHeap 16 = .ok (.iload_n 2, 1) := by decide +kernel
theorem d_Ru_useHeap_17 : decode b_Ru_useHeap 17 = .ok (.iaload, 1) := by decide +kernel
theorem d_Ru_useHeap_18 : decode b_Ru_useHeap 18 = .ok (.aload_n 0, 1) := by decide +kernel
theorem d_Ru_useHeap_19 : decode b_Ru_useHeap 19 = .ok (.getfield 22, 3) := by decide +kernel
theorem d_Ru_useHeap_22 : decode b_Ru_useHeap 22 = .ok (.aload_n 0, 1) := by decide +kernel
theorem d_Ru_useHeap_23 : decode b_Ru_useHeap 23 = .ok (.iload_n 2, 1) := by decide +kernel
theorem d_Ru_useHeap_24 : decode b_Ru_useHeap 24 = .ok (.invokevirtual 72, 3) := by decide +kernel
theorem d_Ru_useHeap_27 : decode b_Ru_useHeap 27 = .ok (.invokevirtual 112, 3) := by decide +kernel
theorem d_Ru_useHeap_30 : decode b_Ru_useHeap 30 = .ok (.iastore, 1) := by decide +kernel
theorem d_Ru_useHeap_31 : decode b_Ru_useHeap 31 = .ok (.goto 26, 3) := by decide +kernel
theorem d_Ru_useHeap_34 : decode b_Ru_useHeap 34 = .ok (.iload_n 1, 1) := by decide +kernel
theorem d_Ru_useHeap_35 : decode b_Ru_useHeap 35 = .ok (.iconst 5, 1) := by decide +kernel
theorem d_Ru_useHeap_36 : decode b_Ru_useHeap 36 = .ok (.if_icmp .ne 15, 3) := by decide +kernel
theorem d_Ru_useHeap_39 : decode b_Ru_useHeap 39 = .ok (.aload_n 0, 1) := by decide +kernel
theorem d_Ru_useHeap_40 : decode b_Ru_useHeap 40 = .ok (.aload_n 0, 1) := by decide +kernel
theorem d_Ru_useHeap_41 : decode b_Ru_useHeap 41 = .ok (.iload_n 2, 1) := by decide +kernel
theorem d_Ru_useHeap_42 : decode b_Ru_useHeap 42 = .ok (.invokevirtual 72, 3) := by decide +kernel
theorem d_Ru_useHeap_45 : decode b_Ru_useHeap 45 = .ok (.invokevirtual 115, 3) := by decide +kernel
theorem d_Ru_useHeap_48 : decode b_Ru_useHeap 48 = .ok (.goto 9, 3) := by decide +kernel
theorem d_Ru_useHeap_51 : decode b_Ru_useHeap 51 = .ok (.aload_n 0, 1) := by decide +kernel
theorem d_Ru_useHeap_52 : decode b_Ru_useHeap 52 = .ok (.iload_n 1, 1) := by decide +kernel
theorem d_Ru_useHeap_53 : decode b_Ru_useHeap 53 = .ok (.iload_n 2, 1) := by decide +kernel
theorem d_Ru_useHeap_54 : decode b_Ru_useHeap 54 = .ok (.invokevirtual 118, 3) := by decide +kernel
theorem d_Ru_useHeap_57 : decode b_Ru_useHeap 57 = .ok (.return_, 1) := by decide +kernel
theorem d_Me_allocate_0 : decode b_Me_allocate 0 = .ok (.iload_n 1, 1) := by decide +kernel
theorem d_Me_allocate_1 : decode b_Me_allocate 1 = .ok (.iconst 1, 1) := by decide +kernel
theorem d_Me_allocate_2 : decode b_Me_allocate 2 = .ok (.if_icmp .lt 9, 3) := by decide +kernel
theorem d_Me_allocate_5 : decode b_Me_allocate 5 = .ok (.iload_n 1, 1) := by decide +kernel
theorem d_Me_allocate_6 : decode b_Me_allocate 6 = .ok (.bipush 100, 2) := by decide +kernel
theorem d_Me_allocate_8 : decode b_Me_allocate 8 = .ok (.if_icmp .le 5, 3) := by decide +kernel
theorem d_Me_allocate_11 : decode b_Me_allocate 11 = .ok (.iconst 0, 1) := by decide +kernel
theorem d_Me_allocate_12 : decode b_Me_allocate 12 = .ok (.ireturn, 1) := by decide +kernel
theorem d_Me_allocate_13 : decode b_Me_allocate 13 = .ok (.iload_n 1, 1) := by decide +kernel
theorem d_Me_allocate_14 : decode b_Me_allocate 14 = .ok (.bipush 8, 2) := by decide +kernel
theorem d_Me_allocate_16 : decode b_Me_allocate 16 = .ok (.iadd, 1) := by decide +kernel
theorem d_Me_allocate_17 : decode b_Me_allocate 17 = .ok (.iconst 1, 1) := by decide +kernel
theorem d_Me_allocate_18 : decode b_Me_allocate 18 = .ok (.isub, 1) := by decide +kernel
theorem d_Me_allocate_19 : decode b_Me_allocate 19 = .ok (.bipush 8, 2) := by decide +kernel
theorem d_Me_allocate_21 : decode b_Me_allocate 21 = .ok (.idiv, 1) := by decide +kernel
theorem d_Me_allocate_22 : decode b_Me_allocate 22 = .ok (.iconst 2, 1) := by decide +kernel
theorem d_Me_allocate_23 : decode b_Me_allocate 23 = .ok (.iadd, 1) := by decide +kernel
theorem d_Me_allocate_24 : decode b_Me_allocate 24 = .ok (.istore_n 2, 1) := by decide +kernel
theorem d_Me_allocate_25 : decode b_Me_allocate 25 = .ok (.aload_n 0, 1) := by decide +kernel
theorem d_Me_allocate_26 : decode b_Me_allocate 26 = .ok (.iload_n 2, 1) := by decide +kernel
theorem d_Me_allocate_27 : decode b_Me_allocate 27 = .ok (.invokevirtual 45, 3) := by decide +kernel
theorem d_Me_allocate_30 : decode b_Me_allocate 30 = .ok (.istore_n 3, 1) := by decide +kernel
theorem d_Me_allocate_31 : decode b_Me_allocate 31 = .ok (.aload_n 0, 1) := by decide +kernel
theorem d_Me_allocate_32 : decode b_Me_allocate 32 = .ok (.getfield 35, 3) := by decide +kernel
theorem d_Me_allocate_35 : decode b_Me_allocate 35 = .ok (.istore 4, 2) := by decide +kernel
theorem d_Me_allocate_37 : decode b_Me_allocate 37 = .ok (.iload 4, 2) := by decide +kernel
theorem d_Me_allocate_39 : decode b_Me_allocate 39 = .ok (.ifCond .le 24, 3) := by decide +kernel
theorem d_Me_allocate_42 : decode b_Me_allocate 42 = .ok (.iload_n 3, 1) := by decide +kernel
theorem d_Me_allocate_43 : decode b_Me_allocate 43 = .ok (.iconst (-1), 1) := by decide +kernel
theorem d_Me_allocate_44 : decode b_Me_allocate 44 = .ok (.if_icmp .ne 19, 3) := by decide +kernel
theorem d_Me_allocate_47 : decode b_Me_allocate 47 = .ok (.aload_n 0, 1) := by decide +kernel
theorem d_Me_allocate_48 : decode b_Me_allocate 48 = .ok (.invokevirtual 49, 3) := by decide +kernel
theorem d_Me_allocate_51 : decode b_Me_allocate 51 = .ok (.aload_n 0, 1) := by decide +kernel
theorem d_Me_allocate_52 : decode b_Me_allocate 52 = .ok (.iload_n 2, 1) := by decide +kernel
theorem d_Me_allocate_53 : decode b_Me_allocate 53 = .ok (.invokevirtual 45, 3) := by decide +kernel
theorem d_Me_allocate_56 : decode b_Me_allocate 56 = .ok (.istore_n 3, 1) := by decide +kernel
theorem d_Me_allocate_57 : decode b_Me_allocate 57 = .ok (.iinc 4 (-1), 3) := by decide +kernel
theorem d_Me_allocate_60 : decode b_Me_allocate 60 = .ok (.goto (-23), 3) := by decide +kernel
theorem d_Me_allocate_63 : decode b_Me_allocate 63 = .ok (.iload_n 3, 1) := by decide +kernel
theorem d_Me_allocate_64 : decode b_Me_allocate 64 = .ok (.iconst (-1), 1) := by decide +kernel
theorem d_Me_allocate_65 : decode b_Me_allocate 65 = .ok (.if_icmp .ne 5, 3) := by decide +kernel
theorem d_Me_allocate_68 : decode b_Me_allocate 68 = .ok (.iconst 0, 1) := by decide +kernel
theorem d_Me_allocate_69 : decode b_Me_allocate 69 = .ok (.ireturn, 1) := by decide +kernel
theorem d_Me_allocate_70 : decode b_Me_allocate 70 = .ok (.aload_n 0, 1) := by decide +kernel
theorem d_Me_allocate_71 : decode b_Me_allocate 71 = .ok (.iload_n 3, 1) := by decide +kernel
theorem d_Me_allocate_72 : decode b_Me_allocate 72 = .ok (.iload_n 2, 1) := by decide +kernel
theorem d_Me_allocate_73 : decode b_Me_allocate 73 = .ok (.iload_n 1, 1) := by decide +kernel
theorem d_Me_allocate_74 : decode b_Me_allocate 74 = .ok (.invokevirtual 52, 3) := by decide +kernel
theorem d_Me_allocate_77 : decode b_Me_allocate 77 = .ok (.iload_n 3, 1) := by decide +kernel
theorem d_Me_allocate_78 : decode b_Me_allocate 78 = .ok (.iconst 1, 1) := by decide +kernel
theorem d_Me_allocate_79 : decode b_Me_allocate 79 = .ok (.iadd, 1) := by decide +kernel
theorem d_Me_allocate_80 : decode b_Me_allocate 80 = .ok (.bipush 8, 2) := by decide +kernel
theorem d_Me_allocate_82 : decode b_Me_allocate 82 = .ok (.imul, 1) := by decide +kernel
theorem d_Me_allocate_83 : decode b_Me_allocate 83 = .ok (.ireturn, 1) := by decide +kernel
theorem d_Me_lowestGap_0 : decode b_Me_lowestGap 0 = .ok (.iconst 0, 1) := by decide +kernel
theorem d_Me_lowestGap_1 : decode b_Me_lowestGap 1 = .ok (.istore_n 2, 1) := by decide +kernel
theorem d_Me_lowestGap_2 : decode b_Me_lowestGap 2 = .ok (.iconst 0, 1) := by decide +kernel
theorem d_Me_lowestGap_3 : decode b_Me_lowestGap 3 = .ok (.istore_n 3, 1) := by decide +kernel
theorem d_Me_lowestGap_4 : decode b_Me_lowestGap 4 = .ok (.iload_n 3, 1) := by decide +kernel
theorem d_Me_lowestGap_5 : decode b_Me_lowestGap 5 = .ok (.bipush 64, 2) := by decide +kernel
theorem d_Me_lowestGap_7 : decode b_Me_lowestGap 7 = .ok (.if_icmp .ge 38, 3) := by decide +kernel
theorem d_Me_lowestGap_10 : decode b_Me_lowestGap 10 = .ok (.aload_n 0, 1) := by decide +kernel
theorem d_Me_lowestGap_11 : decode b_Me_lowestGap 11 = .ok (.getfield 18, 3) := by decide +kernel
theorem d_Me_lowestGap_14 : decode b_Me_lowestGap 14 = .ok (.iload_n 3, 1) := by decide +kernel
theorem d_Me_lowestGap_15 : decode b_Me_lowestGap 15 = .ok (.iaload, 1) := by decide +kernel
theorem d_Me_lowestGap_16 : decode b_Me_lowestGap 16 = .ok (.ifCond .le 17, 3) := by decide +kernel
theorem d_Me_lowestGap_19 : decode b_Me_lowestGap 19 = .ok (.iload_n 3, 1) := by decide +kernel
theorem d_Me_lowestGap_20 : decode b_Me_lowestGap 20 = .ok (.aload_n 0, 1) := by decide +kernel
theorem d_Me_lowestGap_21 : decode b_Me_lowestGap 21 = .ok (.getfield 18, 3) := by decide +kernel
theorem d_Me_lowestGap_24 : decode b_Me_lowestGap 24 = .ok (.iload_n 3, 1) := by decide +kernel
theorem d_Me_lowestGap_25 : decode b_Me_lowestGap 25 = .ok (.iaload, 1) := by decide +kernel
theorem d_Me_lowestGap_26 : decode b_Me_lowestGap 26 = .ok (.iadd, 1) := by decide +kernel
theorem d_Me_lowestGap_27 : decode b_Me_lowestGap 27 = .ok (.istore_n 3, 1) := by decide +kernel
theorem d_Me_lowestGap_28 : decode b_Me_lowestGap 28 = .ok (.iload_n 3, 1) := by decide +kernel
theorem d_Me_lowestGap_29 : decode b_Me_lowestGap 29 = .ok (.istore_n 2, 1) := by decide +kernel
theorem d_Me_lowestGap_30 : decode b_Me_lowestGap 30 = .ok (.goto (-26), 3) := by decide +kernel
theorem d_Me_lowestGap_33 : decode b_Me_lowestGap 33 = .ok (.iinc 3 1, 3) := by decide +kernel
theorem d_Me_lowestGap_36 : decode b_Me_lowestGap 36 = .ok (.iload_n 3, 1) := by decide +kernel
theorem d_Me_lowestGap_37 : decode b_Me_lowestGap 37 = .ok (.iload_n 2, 1) := by decide +kernel
theorem d_Me_lowestGap_38 : decode b_Me_lowestGap 38 = .ok (.isub, 1) := by decide +kernel
theorem d_Me_lowestGap_39 : decode b_Me_lowestGap 39 = .ok (.iload_n 1, 1) := by decide +kernel
theorem d_Me_lowestGap_40 : decode b_Me_lowestGap 40 = .ok (.if_icmp .lt (-36), 3) := by decide +kernel
theorem d_Me_lowestGap_43 : decode b_Me_lowestGap 43 = .ok (.iload_n 2, 1) := by decide +kernel
theorem d_Me_lowestGap_44 : decode b_Me_lowestGap 44 = .ok (.ireturn, 1) := by decide +kernel
theorem d_Me_lowestGap_45 : decode b_Me_lowestGap 45 = .ok (.iconst (-1), 1) := by decide +kernel
theorem d_Me_lowestGap_46 : decode b_Me_lowestGap 46 = .ok (.ireturn, 1) := by decide +kernel
theorem d_Me_releaseOldest_0 : decode b_Me_releaseOldest 0 = .ok (.aload_n 0, 1) := by decide +kernel
theorem d_Me_releaseOldest_1 : decode b_Me_releaseOldest 1 = .ok (.getfield 25, 3) := by decide +kernel
theorem d_Me_releaseOldest_4 : decode b_Me_releaseOldest 4 = .ok (.iconst 0, 1) := by decide +kernel
theorem d_Me_releaseOldest_5 : decode b_Me_releaseOldest 5 = .ok (.iaload, 1) := by decide +kernel
theorem d_Me_releaseOldest_6 : decode b_Me_releaseOldest 6 = .ok (.istore_n 1, 1) := by decide +kernel
theorem d_Me_releaseOldest_7 : decode b_Me_releaseOldest 7 = .ok (.aload_n 0, 1) := by decide +kernel
theorem d_Me_releaseOldest_8 : decode b_Me_releaseOldest 8 = .ok (.getfield 18, 3) := by decide +kernel
theorem d_Me_releaseOldest_11 : decode b_Me_releaseOldest 11 = .ok (.iload_n 1, 1) := by decide +kernel
theorem d_Me_releaseOldest_12 : decode b_Me_releaseOldest 12 = .ok (.iaload, 1) := by decide +kernel
theorem d_Me_releaseOldest_13 : decode b_Me_releaseOldest 13 = .ok (.istore_n 2, 1) := by decide +kernel
theorem d_Me_releaseOldest_14 : decode b_Me_releaseOldest 14 = .ok (.aload_n 0, 1) := by decide +kernel
theorem d_Me_releaseOldest_15 : decode b_Me_releaseOldest 15 = .ok (.iload_n 1, 1) := by decide +kernel
theorem d_Me_releaseOldest_16 : decode b_Me_releaseOldest 16 = .ok (.iload_n 1, 1) := by decide +kernel
theorem d_Me_releaseOldest_17 : decode b_Me_releaseOldest 17 = .ok (.iload_n 2, 1) := by decide +kernel
theorem d_Me_releaseOldest_18 : decode b_Me_releaseOldest 18 = .ok (.iadd, 1) := by decide +kernel
theorem d_Me_releaseOldest_19 : decode b_Me_releaseOldest 19 = .ok (.bipush (-3), 2) := by decide +kernel
theorem d_Me_releaseOldest_21 : decode b_Me_releaseOldest 21 = .ok (.invokevirtual 56, 3) := by decide +kernel
theorem d_Me_releaseOldest_24 : decode b_Me_releaseOldest 24 = .ok (.aload_n 0, 1) := by decide +kernel
theorem d_Me_releaseOldest_25 : decode b_Me_releaseOldest 25 = .ok (.getfield 18, 3) := by decide +kernel
theorem d_Me_releaseOldest_28 : decode b_Me_releaseOldest 28 = .ok (.iload_n 1, 1) := by decide +kernel
theorem d_Me_releaseOldest_29 : decode b_Me_releaseOldest 29 = .ok (.iconst 0, 1) := by decide +kernel
theorem d_Me_releaseOldest_30 : decode b_Me_releaseOldest 30 = .ok (.iastore, 1) := by decide +kernel
theorem d_Me_releaseOldest_31 : decode b_Me_releaseOldest 31 = .ok (.aload_n 0, 1) := by decide +kernel
theorem d_Me_releaseOldest_32 : decode b_Me_releaseOldest 32 = .ok (.getfield 21, 3) := by decide +kernel
theorem d_Me_releaseOldest_35 : decode b_Me_releaseOldest 35 = .ok (.iload_n 1, 1) := by decide +kernel
theorem d_Me_releaseOldest_36 : decode b_Me_releaseOldest 36 = .ok (.iconst 0, 1) := by decide +kernel
theorem d_Me_releaseOldest_37 : decode b_Me_releaseOldest 37 = .ok (.bastore, 1) := by decide +kernel
theorem d_Me_releaseOldest_38 : decode b_Me_releaseOldest 38 = .ok (.aload_n 0, 1) := by decide +kernel
theorem d_Me_releaseOldest_39 : decode b_Me_releaseOldest 39 = .ok (.dup, 1) := by decide +kernel
theorem d_Me_releaseOldest_40 : decode b_Me_releaseOldest 40 = .ok (.getfield 35, 3) := by decide +kernel
theorem d_Me_releaseOldest_43 : decode b_Me_releaseOldest 43 = .ok (.iconst 1, 1) := by decide +kernel
theorem d_Me_releaseOldest_44 : decode b_Me_releaseOldest 44 = .ok (.isub, 1) := by decide +kernel
theorem d_Me_releaseOldest_45 : decode b_Me_releaseOldest 45 = .ok (.putfield 35, 3) := by decide +kernel
theorem d_Me_releaseOldest_48 : decode b_Me_releaseOldest 48 = .ok (.aload_n 0, 1) := by decide +kernel
theorem d_Me_releaseOldest_49 : decode b_Me_releaseOldest 49 = .ok (.dup, 1) := by decide +kernel
theorem d_Me_releaseOldest_50 : decode b_Me_releaseOldest 50 = .ok (.getfield 31, 3) := by decide +kernel
theorem d_Me_releaseOldest_53 : decode b_Me_releaseOldest 53 = .ok (.iload_n 2, 1) := by decide +kernel
theorem d_Me_releaseOldest_54 : decode b_Me_releaseOldest 54 = .ok (.isub, 1) := by decide +kernel
theorem d_Me_releaseOldest_55 : decode b_Me_releaseOldest 55 = .ok (.putfield 31, 3) := by decide +kernel
theorem d_Me_releaseOldest_58 : decode b_Me_releaseOldest 58 = .ok (.iconst 0, 1) := by decide +kernel
theorem d_Me_releaseOldest_59 : decode b_Me_releaseOldest 59 = .ok (.istore_n 3, 1) := by decide +kernel
theorem d_Me_releaseOldest_60 : decode b_Me_releaseOldest 60 = .ok (.iload_n 3, 1) := by decide +kernel
theorem d_Me_releaseOldest_61 : decode b_Me_releaseOldest 61 = .ok (.aload_n 0, 1) := by decide +kernel
theorem d_Me_releaseOldest_62 : decode b_Me_releaseOldest 62 = .ok (.getfield 35, 3) := by decide +kernel
theorem d_Me_releaseOldest_65 : decode b_Me_releaseOldest 65 = .ok (.if_icmp .ge 23, 3) := by decide +kernel
theorem d_Me_releaseOldest_68 : decode b_Me_releaseOldest 68 = .ok (.aload_n 0, 1) := by decide +kernel
theorem d_Me_releaseOldest_69 : decode b_Me_releaseOldest 69 = .ok (.getfield 25, 3) := by decide +kernel
theorem d_Me_releaseOldest_72 : decode b_Me_releaseOldest 72 = .ok (.iload_n 3, 1) := by decide +kernel
theorem d_Me_releaseOldest_73 : decode b_Me_releaseOldest 73 = .ok (.aload_n 0, 1) := by decide +kernel
theorem d_Me_releaseOldest_74 : decode b_Me_releaseOldest 74 = .ok (.getfield 25, 3) := by decide +kernel
theorem d_Me_releaseOldest_77 : decode b_Me_releaseOldest 77 = .ok (.iload_n 3, 1) := by decide +kernel
theorem d_Me_releaseOldest_78 : decode b_Me_releaseOldest 78 = .ok (.iconst 1, 1) := by decide +kernel
theorem d_Me_releaseOldest_79 : decode b_Me_releaseOldest 79 = .ok (.iadd, 1) := by decide +kernel
theorem d_Me_releaseOldest_80 : decode b_Me_releaseOldest 80 = .ok (.iaload, 1) := by decide +kernel
theorem d_Me_releaseOldest_81 : decode b_Me_releaseOldest 81 = .ok (.iastore, 1) := by decide +kernel
theorem d_Me_releaseOldest_82 : decode b_Me_releaseOldest 82 = .ok (.iinc 3 1, 3) := by decide +kernel
theorem d_Me_releaseOldest_85 : decode b_Me_releaseOldest 85 = .ok (.goto (-25), 3) := by decide +kernel
theorem d_Me_releaseOldest_88 : decode b_Me_releaseOldest 88 = .ok (.return_, 1) := by decide +kernel
theorem d_Me_paint_0 : decode b_Me_paint 0 = .ok (.iload_n 1, 1) := by decide +kernel
theorem d_Me_paint_1 : decode b_Me_paint 1 = .ok (.istore 4, 2) := by decide +kernel
theorem d_Me_paint_3 : decode b_Me_paint 3 = .ok (.iload 4, 2) := by decide +kernel
theorem d_Me_paint_5 : decode b_Me_paint 5 = .ok (.iload_n 2, 1) := by decide +kernel
theorem d_Me_paint_6 : decode b_Me_paint 6 = .ok (.if_icmp .ge 17, 3) := by decide +kernel
theorem d_Me_paint_9 : decode b_Me_paint 9 = .ok (.aload_n 0, 1) := by decide +kernel
theorem d_Me_paint_10 : decode b_Me_paint 10 = .ok (.getfield 15, 3) := by decide +kernel
theorem d_Me_paint_13 : decode b_Me_paint 13 = .ok (.iload 4, 2) := by decide +kernel
theorem d_Me_paint_15 : decode b_Me_paint 15 = .ok (.iload_n 3, 1) := by decide +kernel
theorem d_Me_paint_16 : decode b_Me_paint 16 = .ok (.iastore, 1) := by decide +kernel
theorem d_Me_paint_17 : decode b_Me_paint 17 = .ok (.iinc 4 1, 3) := by decide +kernel
theorem d_Me_paint_20 : decode b_Me_paint 20 = .ok (.goto (-17), 3) := by decide +kernel
theorem d_Me_paint_23 : decode b_Me_paint 23 = .ok (.return_, 1) := by decide +kernel
theorem d_Me_placeBlock_0 : decode b_Me_placeBlock 0 = .ok (.iload_n 1, 1) := by decide +kernel
theorem d_Me_placeBlock_1 : decode b_Me_placeBlock 1 = .ok (.iload_n 2, 1) := by decide +kernel
theorem d_Me_placeBlock_2 : decode b_Me_placeBlock 2 = .ok (.iadd, 1) := by decide +kernel
theorem d_Me_placeBlock_3 : decode b_Me_placeBlock 3 = .ok (.iconst 1, 1) := by decide +kernel
theorem d_Me_placeBlock_4 : decode b_Me_placeBlock 4 = .ok (.isub, 1) := by decide +kernel
theorem d_Me_placeBlock_5 : decode b_Me_placeBlock 5 = .ok (.istore 4, 2) := by decide +kernel
theorem d_Me_placeBlock_7 : decode b_Me_placeBlock 7 = .ok (.aload_n 0, 1) := by decide +kernel
theorem d_Me_placeBlock_8 : decode b_Me_placeBlock 8 = .ok (.getfield 18, 3) := by decide +kernel
theorem d_Me_placeBlock_11 : decode b_Me_placeBlock 11 = .ok (.iload_n 1, 1) := by decide +kernel
theorem d_Me_placeBlock_12 : decode b_Me_placeBlock 12 = .ok (.iload_n 2, 1) := by decide +kernel
theorem d_Me_placeBlock_13 : decode b_Me_placeBlock 13 = .ok (.iastore, 1) := by decide +kernel
theorem d_Me_placeBlock_14 : decode b_Me_placeBlock 14 = .ok (.aload_n 0, 1) := by decide +kernel
theorem d_Me_placeBlock_15 : decode b_Me_placeBlock 15 = .ok (.dup, 1) := by decide +kernel
theorem d_Me_placeBlock_16 : decode b_Me_placeBlock 16 = .ok (.getfield 38, 3) := by decide +kernel
theorem d_Me_placeBlock_19 : decode b_Me_placeBlock 19 = .ok (.iconst 1, 1) := by decide +kernel
theorem d_Me_placeBlock_20 : decode b_Me_placeBlock 20 = .ok (.iadd, 1) := by decide +kernel
theorem d_Me_placeBlock_21 : decode b_Me_placeBlock 21 = .ok (.putfield 38, 3) := by decide +kernel
theorem d_Me_placeBlock_24 : decode b_Me_placeBlock 24 = .ok (.aload_n 0, 1) := by decide +kernel
theorem d_Me_placeBlock_25 : decode b_Me_placeBlock 25 = .ok (.getfield 15, 3) := by decide +kernel
theorem d_Me_placeBlock_28 : decode b_Me_placeBlock 28 = .ok (.iload_n 1, 1) := by decide +kernel
theorem d_Me_placeBlock_29 : decode b_Me_placeBlock 29 = .ok (.iconst (-1), 1) := by decide +kernel
theorem d_Me_placeBlock_30 : decode b_Me_placeBlock 30 = .ok (.iastore, 1) := by decide +kernel
theorem d_Me_placeBlock_31 : decode b_Me_placeBlock 31 = .ok (.aload_n 0, 1) := by decide +kernel
theorem d_Me_placeBlock_32 : decode b_Me_placeBlock 32 = .ok (.iload_n 1, 1) := by decide +kernel
theorem d_Me_placeBlock_33 : decode b_Me_placeBlock 33 = .ok (.iconst 1, 1) := by decide +kernel
theorem d_Me_placeBlock_34 : decode b_Me_placeBlock 34 = .ok (.iadd, 1) := by decide +kernel
theorem d_Me_placeBlock_35 : decode b_Me_placeBlock 35 = .ok (.iload 4, 2) := by decide +kernel
theorem d_Me_placeBlock_37 : decode b_Me_placeBlock 37 = .ok (.iconst 0, 1) := by decide +kernel
theorem d_Me_placeBlock_38 : decode b_Me_placeBlock 38 = .ok (.invokevirtual 56, 3) := by decide +kernel
theorem d_Me_placeBlock_41 : decode b_Me_placeBlock 41 = .ok (.aload_n 0, 1) := by decide +kernel
theorem d_Me_placeBlock_42 : decode b_Me_placeBlock 42 = .ok (.getfield 15, 3) := by decide +kernel
theorem d_Me_placeBlock_45 : decode b_Me_placeBlock 45 = .ok (.iload 4, 2) := by decide +kernel
theorem d_Me_placeBlock_47 : decode b_Me_placeBlock 47 = .ok (.iconst 1, 1) := by decide +kernel
theorem d_Me_placeBlock_48 : decode b_Me_placeBlock 48 = .ok (.isub, 1) := by decide +kernel
theorem d_Me_placeBlock_49 : decode b_Me_placeBlock 49 = .ok (.iload_n 3, 1) := by decide +kernel
theorem d_Me_placeBlock_50 : decode b_Me_placeBlock 50 = .ok (.bipush 8, 2) := by decide +kernel
theorem d_Me_placeBlock_52 : decode b_Me_placeBlock 52 = .ok (.irem, 1) := by decide +kernel
theorem d_Me_placeBlock_53 : decode b_Me_placeBlock 53 = .ok (.iastore, 1) := by decide +kernel
theorem d_Me_placeBlock_54 : decode b_Me_placeBlock 54 = .ok (.aload_n 0, 1) := by decide +kernel
theorem d_Me_placeBlock_55 : decode b_Me_placeBlock 55 = .ok (.getfield 15, 3) := by decide +kernel
theorem d_Me_placeBlock_58 : decode b_Me_placeBlock 58 = .ok (.iload 4, 2) := by decide +kernel
theorem d_Me_placeBlock_60 : decode b_Me_placeBlock 60 = .ok (.iconst (-1), 1) := by decide +kernel
theorem d_Me_placeBlock_61 : decode b_Me_placeBlock 61 = .ok (.iastore, 1) := by decide +kernel
theorem d_Me_placeBlock_62 : decode b_Me_placeBlock 62 = .ok (.iload_n 1, 1) := by decide +kernel
theorem d_Me_placeBlock_63 : decode b_Me_placeBlock 63 = .ok (.iconst 1, 1) := by decide +kernel
theorem d_Me_placeBlock_64 : decode b_Me_placeBlock 64 = .ok (.iadd, 1) := by decide +kernel
theorem d_Me_placeBlock_65 : decode b_Me_placeBlock 65 = .ok (.bipush 8, 2) := by decide +kernel
theorem d_Me_placeBlock_67 : decode b_Me_placeBlock 67 = .ok (.imul, 1) := by decide +kernel
theorem d_Me_placeBlock_68 : decode b_Me_placeBlock 68 = .ok (.istore 5, 2) := by decide +kernel
theorem d_Me_placeBlock_70 : decode b_Me_placeBlock 70 = .ok (.iload 5, 2) := by decide +kernel
theorem d_Me_placeBlock_72 : decode b_Me_placeBlock 72 = .ok (.iload 4, 2) := by decide +kernel
theorem d_Me_placeBlock_74 : decode b_Me_placeBlock 74 = .ok (.bipush 8, 2) := by decide +kernel
theorem d_Me_placeBlock_76 : decode b_Me_placeBlock 76 = .ok (.imul, 1) := by decide +kernel
theorem d_Me_placeBlock_77 : decode b_Me_placeBlock 77 = .ok (.if_icmp .ge 17, 3) := by decide +kernel
theorem d_Me_placeBlock_80 : decode b_Me_placeBlock 80 = .ok (.aload_n 0, 1) := by decide +kernel
theorem d_Me_placeBlock_81 : decode b_Me_placeBlock 81 = .ok (.getfield 11, 3) := by decide +kernel
theorem d_Me_placeBlock_84 : decode b_Me_placeBlock 84 = .ok (.iload 5, 2) := by decide +kernel
theorem d_Me_placeBlock_86 : decode b_Me_placeBlock 86 = .ok (.iconst 0, 1) := by decide +kernel
theorem d_Me_placeBlock_87 : decode b_Me_placeBlock 87 = .ok (.iastore, 1) := by decide +kernel
theorem d_Me_placeBlock_88 : decode b_Me_placeBlock 88 = .ok (.iinc 5 1, 3) := by decide +kernel
theorem d_Me_placeBlock_91 : decode b_Me_placeBlock 91 = .ok (.goto (-21), 3) := by decide +kernel
theorem d_Me_placeBlock_94 : decode b_Me_placeBlock 94 = .ok (.return_, 1) := by decide +kernel
theorem d_Ru_freeOrCrash_0 : decode b_Ru_freeOrCrash 0 = .ok (.aload_n 0, 1) := by decide +kernel
theorem d_Ru_freeOrCrash_1 : decode b_Ru_freeOrCrash 1 = .ok (.getfield 22, 3) := by decide +kernel
theorem d_Ru_freeOrCrash_4 : decode b_Ru_freeOrCrash 4 = .ok (.iload_n 1, 1) := by decide +kernel
theorem d_Ru_freeOrCrash_5 : decode b_Ru_freeOrCrash 5 = .ok (.invokevirtual 121, 3) := by decide +kernel
theorem d_Ru_freeOrCrash_8 : decode b_Ru_freeOrCrash 8 = .ok (.ifCond .eq 14, 3) := by decide +kernel
theorem d_Ru_freeOrCrash_11 : decode b_Ru_freeOrCrash 11 = .ok (.aload_n 0, 1) := by decide +kernel
theorem d_Ru_freeOrCrash_12 : decode b_Ru_freeOrCrash 12 = .ok (.getfield 22, 3) := by decide +kernel
theorem d_Ru_freeOrCrash_15 : decode b_Ru_freeOrCrash 15 = .ok (.iload_n 1, 1) := by decide +kernel
theorem d_Ru_freeOrCrash_16 : decode b_Ru_freeOrCrash 16 = .ok (.invokevirtual 125, 3) := by decide +kernel
theorem d_Ru_freeOrCrash_19 : decode b_Ru_freeOrCrash 19 = .ok (.goto 8, 3) := by decide +kernel
theorem d_Ru_freeOrCrash_22 : decode b_Ru_freeOrCrash 22 = .ok (.aload_n 0, 1) := by decide +kernel
theorem d_Ru_freeOrCrash_23 : decode b_Ru_freeOrCrash 23 = .ok (.iconst 4, 1) := by decide +kernel
end
section
theorem d_Ru_freeOrCrash_24 : decode b_Ru_freeOrCrash 24 = .ok (.putfield 35, 3) := by decide +kernel
theorem d_Ru_freeOrCrash_27 : decode b_Ru_freeOrCrash 27 = .ok (.return_, 1) := by decide +kernel
theorem d_Me_free_0 : decode b_Me_free 0 = .ok (.iload_n 1, 1) := by decide +kernel
theorem d_Me_free_1 : decode b_Me_free 1 = .ok (.ifCond .ne 4, 3) := by decide +kernel
theorem d_Me_free_4 : decode b_Me_free 4 = .ok (.return_, 1) := by decide +kernel
theorem d_Me_free_5 : decode b_Me_free 5 = .ok (.iload_n 1, 1) := by decide +kernel
theorem d_Me_free_6 : decode b_Me_free 6 = .ok (.bipush 8, 2) := by decide +kernel
theorem d_Me_free_8 : decode b_Me_free 8 = .ok (.idiv, 1) := by decide +kernel
theorem d_Me_free_9 : decode b_Me_free 9 = .ok (.iconst 1, 1) := by decide +kernel
theorem d_Me_free_10 : decode b_Me_free 10 = .ok (.isub, 1) := by decide +kernel
theorem d_Me_free_11 : decode b_Me_free 11 = .ok (.istore_n 2, 1) := by decide +kernel
theorem d_Me_free_12 : decode b_Me_free 12 = .ok (.aload_n 0, 1) := by decide +kernel
theorem d_Me_free_13 : decode b_Me_free 13 = .ok (.getfield 18, 3) := by decide +kernel
theorem d_Me_free_16 : decode b_Me_free 16 = .ok (.iload_n 2, 1) := by decide +kernel
theorem d_Me_free_17 : decode b_Me_free 17 = .ok (.iaload, 1) := by decide +kernel
theorem d_Me_free_18 : decode b_Me_free 18 = .ok (.istore_n 3, 1) := by decide +kernel
theorem d_Me_free_19 : decode b_Me_free 19 = .ok (.aload_n 0, 1) := by decide +kernel
theorem d_Me_free_20 : decode b_Me_free 20 = .ok (.iload_n 2, 1) := by decide +kernel
theorem d_Me_free_21 : decode b_Me_free 21 = .ok (.iconst 1, 1) := by decide +kernel
theorem d_Me_free_22 : decode b_Me_free 22 = .ok (.iadd, 1) := by decide +kernel
theorem d_Me_free_23 : decode b_Me_free 23 = .ok (.iload_n 2, 1) := by decide +kernel
theorem d_Me_free_24 : decode b_Me_free 24 = .ok (.iload_n 3, 1) := by decide +kernel
theorem d_Me_free_25 : decode b_Me_free 25 = .ok (.iadd, 1) := by decide +kernel
theorem d_Me_free_26 : decode b_Me_free 26 = .ok (.iconst 1, 1) := by decide +kernel
theorem d_Me_free_27 : decode b_Me_free 27 = .ok (.isub, 1) := by decide +kernel
theorem d_Me_free_28 : decode b_Me_free 28 = .ok (.bipush (-2), 2) := by decide +kernel
theorem d_Me_free_30 : decode b_Me_free 30 = .ok (.invokevirtual 56, 3) := by decide +kernel
theorem d_Me_free_33 : decode b_Me_free 33 = .ok (.aload_n 0, 1) := by decide +kernel
theorem d_Me_free_34 : decode b_Me_free 34 = .ok (.getfield 21, 3) := by decide +kernel
theorem d_Me_free_37 : decode b_Me_free 37 = .ok (.iload_n 2, 1) := by decide +kernel
theorem d_Me_free_38 : decode b_Me_free 38 = .ok (.iconst 1, 1) := by decide +kernel
theorem d_Me_free_39 : decode b_Me_free 39 = .ok (.bastore, 1) := by decide +kernel
theorem d_Me_free_40 : decode b_Me_free 40 = .ok (.aload_n 0, 1) := by decide +kernel
theorem d_Me_free_41 : decode b_Me_free 41 = .ok (.getfield 25, 3) := by decide +kernel
theorem d_Me_free_44 : decode b_Me_free 44 = .ok (.aload_n 0, 1) := by decide +kernel
theorem d_Me_free_45 : decode b_Me_free 45 = .ok (.getfield 35, 3) := by decide +kernel
theorem d_Me_free_48 : decode b_Me_free 48 = .ok (.iload_n 2, 1) := by decide +kernel
theorem d_Me_free_49 : decode b_Me_free 49 = .ok (.iastore, 1) := by decide +kernel
theorem d_Me_free_50 : decode b_Me_free 50 = .ok (.aload_n 0, 1) := by decide +kernel
theorem d_Me_free_51 : decode b_Me_free 51 = .ok (.dup, 1) := by decide +kernel
theorem d_Me_free_52 : decode b_Me_free 52 = .ok (.getfield 35, 3) := by decide +kernel
theorem d_Me_free_55 : decode b_Me_free 55 = .ok (.iconst 1, 1) := by decide +kernel
theorem d_Me_free_56 : decode b_Me_free 56 = .ok (.iadd, 1) := by decide +kernel
theorem d_Me_free_57 : decode b_Me_free 57 = .ok (.putfield 35, 3) := by decide +kernel
theorem d_Me_free_60 : decode b_Me_free 60 = .ok (.aload_n 0, 1) := by decide +kernel
theorem d_Me_free_61 : decode b_Me_free 61 = .ok (.dup, 1) := by decide +kernel
theorem d_Me_free_62 : decode b_Me_free 62 = .ok (.getfield 31, 3) := by decide +kernel
theorem d_Me_free_65 : decode b_Me_free 65 = .ok (.iload_n 3, 1) := by decide +kernel
theorem d_Me_free_66 : decode b_Me_free 66 = .ok (.iadd, 1) := by decide +kernel
theorem d_Me_free_67 : decode b_Me_free 67 = .ok (.putfield 31, 3) := by decide +kernel
theorem d_Me_free_70 : decode b_Me_free 70 = .ok (.aload_n 0, 1) := by decide +kernel
theorem d_Me_free_71 : decode b_Me_free 71 = .ok (.dup, 1) := by decide +kernel
theorem d_Me_free_72 : decode b_Me_free 72 = .ok (.getfield 38, 3) := by decide +kernel
theorem d_Me_free_75 : decode b_Me_free 75 = .ok (.iconst 1, 1) := by decide +kernel
theorem d_Me_free_76 : decode b_Me_free 76 = .ok (.isub, 1) := by decide +kernel
theorem d_Me_free_77 : decode b_Me_free 77 = .ok (.putfield 38, 3) := by decide +kernel
theorem d_Me_free_80 : decode b_Me_free 80 = .ok (.aload_n 0, 1) := by decide +kernel
theorem d_Me_free_81 : decode b_Me_free 81 = .ok (.getfield 35, 3) := by decide +kernel
theorem d_Me_free_84 : decode b_Me_free 84 = .ok (.istore 4, 2) := by decide +kernel
theorem d_Me_free_86 : decode b_Me_free 86 = .ok (.iload 4, 2) := by decide +kernel
theorem d_Me_free_88 : decode b_Me_free 88 = .ok (.ifCond .le 22, 3) := by decide +kernel
theorem d_Me_free_91 : decode b_Me_free 91 = .ok (.aload_n 0, 1) := by decide +kernel
theorem d_Me_free_92 : decode b_Me_free 92 = .ok (.getfield 31, 3) := by decide +kernel
theorem d_Me_free_95 : decode b_Me_free 95 = .ok (.bipush 20, 2) := by decide +kernel
theorem d_Me_free_97 : decode b_Me_free 97 = .ok (.if_icmp .le 13, 3) := by decide +kernel
theorem d_Me_free_100 : decode b_Me_free 100 = .ok (.aload_n 0, 1) := by decide +kernel
theorem d_Me_free_101 : decode b_Me_free 101 = .ok (.invokevirtual 49, 3) := by decide +kernel
theorem d_Me_free_104 : decode b_Me_free 104 = .ok (.iinc 4 (-1), 3) := by decide +kernel
theorem d_Me_free_107 : decode b_Me_free 107 = .ok (.goto (-21), 3) := by decide +kernel
theorem d_Me_free_110 : decode b_Me_free 110 = .ok (.return_, 1) := by decide +kernel
theorem d_Ru_touchOrCrash_0 : decode b_Ru_touchOrCrash 0 = .ok (.aload_n 0, 1) := by decide +kernel
theorem d_Ru_touchOrCrash_1 : decode b_Ru_touchOrCrash 1 = .ok (.iload_n 2, 1) := by decide +kernel
theorem d_Ru_touchOrCrash_2 : decode b_Ru_touchOrCrash 2 = .ok (.invokevirtual 61, 3) := by decide +kernel
theorem d_Ru_touchOrCrash_5 : decode b_Ru_touchOrCrash 5 = .ok (.istore_n 3, 1) := by decide +kernel
theorem d_Ru_touchOrCrash_6 : decode b_Ru_touchOrCrash 6 = .ok (.aload_n 0, 1) := by decide +kernel
theorem d_Ru_touchOrCrash_7 : decode b_Ru_touchOrCrash 7 = .ok (.getfield 18, 3) := by decide +kernel
theorem d_Ru_touchOrCrash_10 : decode b_Ru_touchOrCrash 10 = .ok (.iload_n 2, 1) := by decide +kernel
theorem d_Ru_touchOrCrash_11 : decode b_Ru_touchOrCrash 11 = .ok (.invokevirtual 65, 3) := by decide +kernel
theorem d_Ru_touchOrCrash_14 : decode b_Ru_touchOrCrash 14 = .ok (.istore 4, 2) := by decide +kernel
theorem d_Ru_touchOrCrash_16 : decode b_Ru_touchOrCrash 16 = .ok (.iload_n 3, 1) := by decide +kernel
theorem d_Ru_touchOrCrash_17 : decode b_Ru_touchOrCrash 17 = .ok (.iload 4, 2) := by decide +kernel
theorem d_Ru_touchOrCrash_19 : decode b_Ru_touchOrCrash 19 = .ok (.invokestatic 128, 3) := by decide +kernel
theorem d_Ru_touchOrCrash_22 : decode b_Ru_touchOrCrash 22 = .ok (.ifCond .ne 11, 3) := by decide +kernel
theorem d_Ru_touchOrCrash_25 : decode b_Ru_touchOrCrash 25 = .ok (.aload_n 0, 1) := by decide +kernel
theorem d_Ru_touchOrCrash_26 : decode b_Ru_touchOrCrash 26 = .ok (.iconst 4, 1) := by decide +kernel
theorem d_Ru_touchOrCrash_27 : decode b_Ru_touchOrCrash 27 = .ok (.putfield 35, 3) := by decide +kernel
theorem d_Ru_touchOrCrash_30 : decode b_Ru_touchOrCrash 30 = .ok (.goto 57, 3) := by decide +kernel
theorem d_Ru_touchOrCrash_33 : decode b_Ru_touchOrCrash 33 = .ok (.iload_n 1, 1) := by decide +kernel
theorem d_Ru_touchOrCrash_34 : decode b_Ru_touchOrCrash 34 = .ok (.bipush 6, 2) := by decide +kernel
theorem d_Ru_touchOrCrash_36 : decode b_Ru_touchOrCrash 36 = .ok (.if_icmp .eq 9, 3) := by decide +kernel
theorem d_Ru_touchOrCrash_39 : decode b_Ru_touchOrCrash 39 = .ok (.iload_n 1, 1) := by decide +kernel
theorem d_Ru_touchOrCrash_40 : decode b_Ru_touchOrCrash 40 = .ok (.bipush 7, 2) := by decide +kernel
theorem d_Ru_touchOrCrash_42 : decode b_Ru_touchOrCrash 42 = .ok (.if_icmp .ne 30, 3) := by decide +kernel
theorem d_Ru_touchOrCrash_45 : decode b_Ru_touchOrCrash 45 = .ok (.aload_n 0, 1) := by decide +kernel
theorem d_Ru_touchOrCrash_46 : decode b_Ru_touchOrCrash 46 = .ok (.getfield 9, 3) := by decide +kernel
theorem d_Ru_touchOrCrash_49 : decode b_Ru_touchOrCrash 49 = .ok (.aload_n 0, 1) := by decide +kernel
theorem d_Ru_touchOrCrash_50 : decode b_Ru_touchOrCrash 50 = .ok (.getfield 18, 3) := by decide +kernel
theorem d_Ru_touchOrCrash_53 : decode b_Ru_touchOrCrash 53 = .ok (.getfield 93, 3) := by decide +kernel
theorem d_Ru_touchOrCrash_56 : decode b_Ru_touchOrCrash 56 = .ok (.iload_n 2, 1) := by decide +kernel
theorem d_Ru_touchOrCrash_57 : decode b_Ru_touchOrCrash 57 = .ok (.iaload, 1) := by decide +kernel
theorem d_Ru_touchOrCrash_58 : decode b_Ru_touchOrCrash 58 = .ok (.aload_n 0, 1) := by decide +kernel
theorem d_Ru_touchOrCrash_59 : decode b_Ru_touchOrCrash 59 = .ok (.getfield 22, 3) := by decide +kernel
theorem d_Ru_touchOrCrash_62 : decode b_Ru_touchOrCrash 62 = .ok (.iload_n 3, 1) := by decide +kernel
theorem d_Ru_touchOrCrash_63 : decode b_Ru_touchOrCrash 63 = .ok (.iload 4, 2) := by decide +kernel
theorem d_Ru_touchOrCrash_65 : decode b_Ru_touchOrCrash 65 = .ok (.invokevirtual 131, 3) := by decide +kernel
theorem d_Ru_touchOrCrash_68 : decode b_Ru_touchOrCrash 68 = .ok (.iastore, 1) := by decide +kernel
theorem d_Ru_touchOrCrash_69 : decode b_Ru_touchOrCrash 69 = .ok (.goto 18, 3) := by decide +kernel
theorem d_Ru_touchOrCrash_72 : decode b_Ru_touchOrCrash 72 = .ok (.aload_n 0, 1) := by decide +kernel
theorem d_Ru_touchOrCrash_73 : decode b_Ru_touchOrCrash 73 = .ok (.getfield 22, 3) := by decide +kernel
theorem d_Ru_touchOrCrash_76 : decode b_Ru_touchOrCrash 76 = .ok (.iload_n 3, 1) := by decide +kernel
theorem d_Ru_touchOrCrash_77 : decode b_Ru_touchOrCrash 77 = .ok (.iload 4, 2) := by decide +kernel
theorem d_Ru_touchOrCrash_79 : decode b_Ru_touchOrCrash 79 = .ok (.aload_n 0, 1) := by decide +kernel
theorem d_Ru_touchOrCrash_80 : decode b_Ru_touchOrCrash 80 = .ok (.iload_n 2, 1) := by decide +kernel
theorem d_Ru_touchOrCrash_81 : decode b_Ru_touchOrCrash 81 = .ok (.invokevirtual 106, 3) := by decide +kernel
theorem d_Ru_touchOrCrash_84 : decode b_Ru_touchOrCrash 84 = .ok (.invokevirtual 134, 3) := by decide +kernel
theorem d_Ru_touchOrCrash_87 : decode b_Ru_touchOrCrash 87 = .ok (.return_, 1) := by decide +kernel
theorem d_Me_load_0 : decode b_Me_load 0 = .ok (.iconst 0, 1) := by decide +kernel
theorem d_Me_load_1 : decode b_Me_load 1 = .ok (.istore_n 3, 1) := by decide +kernel
theorem d_Me_load_2 : decode b_Me_load 2 = .ok (.iload_n 2, 1) := by decide +kernel
theorem d_Me_load_3 : decode b_Me_load 3 = .ok (.iconst 1, 1) := by decide +kernel
theorem d_Me_load_4 : decode b_Me_load 4 = .ok (.isub, 1) := by decide +kernel
theorem d_Me_load_5 : decode b_Me_load 5 = .ok (.istore 4, 2) := by decide +kernel
theorem d_Me_load_7 : decode b_Me_load 7 = .ok (.iload 4, 2) := by decide +kernel
theorem d_Me_load_9 : decode b_Me_load 9 = .ok (.ifCond .lt 24, 3) := by decide +kernel
theorem d_Me_load_12 : decode b_Me_load 12 = .ok (.iload_n 3, 1) := by decide +kernel
theorem d_Me_load_13 : decode b_Me_load 13 = .ok (.bipush 8, 2) := by decide +kernel
theorem d_Me_load_15 : decode b_Me_load 15 = .ok (.ishl, 1) := by decide +kernel
theorem d_Me_load_16 : decode b_Me_load 16 = .ok (.aload_n 0, 1) := by decide +kernel
theorem d_Me_load_17 : decode b_Me_load 17 = .ok (.getfield 11, 3) := by decide +kernel
theorem d_Me_load_20 : decode b_Me_load 20 = .ok (.iload_n 1, 1) := by decide +kernel
theorem d_Me_load_21 : decode b_Me_load 21 = .ok (.iload 4, 2) := by decide +kernel
theorem d_Me_load_23 : decode b_Me_load 23 = .ok (.iadd, 1) := by decide +kernel
theorem d_Me_load_24 : decode b_Me_load 24 = .ok (.iaload, 1) := by decide +kernel
theorem d_Me_load_25 : decode b_Me_load 25 = .ok (.ior, 1) := by decide +kernel
theorem d_Me_load_26 : decode b_Me_load 26 = .ok (.istore_n 3, 1) := by decide +kernel
theorem d_Me_load_27 : decode b_Me_load 27 = .ok (.iinc 4 (-1), 3) := by decide +kernel
theorem d_Me_load_30 : decode b_Me_load 30 = .ok (.goto (-23), 3) := by decide +kernel
theorem d_Me_load_33 : decode b_Me_load 33 = .ok (.iload_n 3, 1) := by decide +kernel
theorem d_Me_load_34 : decode b_Me_load 34 = .ok (.ireturn, 1) := by decide +kernel
theorem d_Me_store_0 : decode b_Me_store 0 = .ok (.iconst 0, 1) := by decide +kernel
theorem d_Me_store_1 : decode b_Me_store 1 = .ok (.istore 4, 2) := by decide +kernel
theorem d_Me_store_3 : decode b_Me_store 3 = .ok (.iload 4, 2) := by decide +kernel
theorem d_Me_store_5 : decode b_Me_store 5 = .ok (.iload_n 2, 1) := by decide +kernel
theorem d_Me_store_6 : decode b_Me_store 6 = .ok (.if_icmp .ge 29, 3) := by decide +kernel
theorem d_Me_store_9 : decode b_Me_store 9 = .ok (.aload_n 0, 1) := by decide +kernel
theorem d_Me_store_10 : decode b_Me_store 10 = .ok (.getfield 11, 3) := by decide +kernel
theorem d_Me_store_13 : decode b_Me_store 13 = .ok (.iload_n 1, 1) := by decide +kernel
theorem d_Me_store_14 : decode b_Me_store 14 = .ok (.iload 4, 2) := by decide +kernel
theorem d_Me_store_16 : decode b_Me_store 16 = .ok (.iadd, 1) := by decide +kernel
theorem d_Me_store_17 : decode b_Me_store 17 = .ok (.iload_n 3, 1) := by decide +kernel
theorem d_Me_store_18 : decode b_Me_store 18 = .ok (.bipush 8, 2) := by decide +kernel
theorem d_Me_store_20 : decode b_Me_store 20 = .ok (.iload 4, 2) := by decide +kernel
theorem d_Me_store_22 : decode b_Me_store 22 = .ok (.imul, 1) := by decide +kernel
theorem d_Me_store_23 : decode b_Me_store 23 = .ok (.iushr, 1) := by decide +kernel
theorem d_Me_store_24 : decode b_Me_store 24 = .ok (.sipush 255, 3) := by decide +kernel
theorem d_Me_store_27 : decode b_Me_store 27 = .ok (.iand, 1) := by decide +kernel
theorem d_Me_store_28 : decode b_Me_store 28 = .ok (.iastore, 1) := by decide +kernel
theorem d_Me_store_29 : decode b_Me_store 29 = .ok (.iinc 4 1, 3) := by decide +kernel
theorem d_Me_store_32 : decode b_Me_store 32 = .ok (.goto (-29), 3) := by decide +kernel
theorem d_Me_store_35 : decode b_Me_store 35 = .ok (.return_, 1) := by decide +kernel
theorem d_Ru_print_0 : decode b_Ru_print 0 = .ok (.aload_n 0, 1) := by decide +kernel
theorem d_Ru_print_1 : decode b_Ru_print 1 = .ok (.getfield 47, 3) := by decide +kernel
theorem d_Ru_print_4 : decode b_Ru_print 4 = .ok (.bipush 60, 2) := by decide +kernel
theorem d_Ru_print_6 : decode b_Ru_print 6 = .ok (.if_icmp .ge 23, 3) := by decide +kernel
theorem d_Ru_print_9 : decode b_Ru_print 9 = .ok (.aload_n 0, 1) := by decide +kernel
theorem d_Ru_print_10 : decode b_Ru_print 10 = .ok (.getfield 15, 3) := by decide +kernel
theorem d_Ru_print_13 : decode b_Ru_print 13 = .ok (.aload_n 0, 1) := by decide +kernel
theorem d_Ru_print_14 : decode b_Ru_print 14 = .ok (.getfield 47, 3) := by decide +kernel
theorem d_Ru_print_17 : decode b_Ru_print 17 = .ok (.iload_n 1, 1) := by decide +kernel
theorem d_Ru_print_18 : decode b_Ru_print 18 = .ok (.iastore, 1) := by decide +kernel
theorem d_Ru_print_19 : decode b_Ru_print 19 = .ok (.aload_n 0, 1) := by decide +kernel
theorem d_Ru_print_20 : decode b_Ru_print 20 = .ok (.dup, 1) := by decide +kernel
theorem d_Ru_print_21 : decode b_Ru_print 21 = .ok (.getfield 47, 3) := by decide +kernel
theorem d_Ru_print_24 : decode b_Ru_print 24 = .ok (.iconst 1, 1) := by decide +kernel
theorem d_Ru_print_25 : decode b_Ru_print 25 = .ok (.iadd, 1) := by decide +kernel
theorem d_Ru_print_26 : decode b_Ru_print 26 = .ok (.putfield 47, 3) := by decide +kernel
theorem d_Ru_print_29 : decode b_Ru_print 29 = .ok (.return_, 1) := by decide +kernel
theorem d_Ru_computed_0 : decode b_Ru_computed 0 = .ok (.iload_n 1, 1) := by decide +kernel
theorem d_Ru_computed_1 : decode b_Ru_computed 1 = .ok (.lookupswitch 95 #[(1, 43), (2, 55), (3, 67), (13, 79)], 43) := by decide +kernel
theorem d_Ru_computed_44 : decode b_Ru_computed 44 = .ok (.aload_n 0, 1) := by decide +kernel
theorem d_Ru_computed_45 : decode b_Ru_computed 45 = .ok (.iload_n 2, 1) := by decide +kernel
theorem d_Ru_computed_46 : decode b_Ru_computed 46 = .ok (.invokevirtual 72, 3) := by decide +kernel
theorem d_Ru_computed_49 : decode b_Ru_computed 49 = .ok (.aload_n 0, 1) := by decide +kernel
theorem d_Ru_computed_50 : decode b_Ru_computed 50 = .ok (.iload_n 2, 1) := by decide +kernel
theorem d_Ru_computed_51 : decode b_Ru_computed 51 = .ok (.invokevirtual 106, 3) := by decide +kernel
theorem d_Ru_computed_54 : decode b_Ru_computed 54 = .ok (.iadd, 1) := by decide +kernel
theorem d_Ru_computed_55 : decode b_Ru_computed 55 = .ok (.ireturn, 1) := by decide +kernel
theorem d_Ru_computed_56 : decode b_Ru_computed 56 = .ok (.aload_n 0, 1) := by decide +kernel
theorem d_Ru_computed_57 : decode b_Ru_computed 57 = .ok (.iload_n 2, 1) := by decide +kernel
theorem d_Ru_computed_58 : decode b_Ru_computed 58 = .ok (.invokevirtual 72, 3) := by decide +kernel
theorem d_Ru_computed_61 : decode b_Ru_computed 61 = .ok (.aload_n 0, 1) := by decide +kernel
theorem d_Ru_computed_62 : decode b_Ru_computed 62 = .ok (.iload_n 2, 1) := by decide +kernel
theorem d_Ru_computed_63 : decode b_Ru_computed 63 = .ok (.invokevirtual 106, 3) := by decide +kernel
theorem d_Ru_computed_66 : decode b_Ru_computed 66 = .ok (.isub, 1) := by decide +kernel
theorem d_Ru_computed_67 : decode b_Ru_computed 67 = .ok (.ireturn, 1) := by decide +kernel
theorem d_Ru_computed_68 : decode b_Ru_computed 68 = .ok (.aload_n 0, 1) := by decide +kernel
theorem d_Ru_computed_69 : decode b_Ru_computed 69 = .ok (.iload_n 2, 1) := by decide +kernel
theorem d_Ru_computed_70 : decode b_Ru_computed 70 = .ok (.invokevirtual 72, 3) := by decide +kernel
theorem d_Ru_computed_73 : decode b_Ru_computed 73 = .ok (.aload_n 0, 1) := by decide +kernel
theorem d_Ru_computed_74 : decode b_Ru_computed 74 = .ok (.iload_n 2, 1) := by decide +kernel
theorem d_Ru_computed_75 : decode b_Ru_computed 75 = .ok (.invokevirtual 106, 3) := by decide +kernel
theorem d_Ru_computed_78 : decode b_Ru_computed 78 = .ok (.imul, 1) := by decide +kernel
theorem d_Ru_computed_79 : decode b_Ru_computed 79 = .ok (.ireturn, 1) := by decide +kernel
theorem d_Ru_computed_80 : decode b_Ru_computed 80 = .ok (.aload_n 0, 1) := by decide +kernel
theorem d_Ru_computed_81 : decode b_Ru_computed 81 = .ok (.iload_n 2, 1) := by decide +kernel
theorem d_Ru_computed_82 : decode b_Ru_computed 82 = .ok (.invokevirtual 72, 3) := by decide +kernel
theorem d_Ru_computed_85 : decode b_Ru_computed 85 = .ok (.aload_n 0, 1) := by decide +kernel
theorem d_Ru_computed_86 : decode b_Ru_computed 86 = .ok (.getfield 18, 3) := by decide +kernel
theorem d_Ru_computed_89 : decode b_Ru_computed 89 = .ok (.getfield 109, 3) := by decide +kernel
theorem d_Ru_computed_92 : decode b_Ru_computed 92 = .ok (.iload_n 2, 1) := by decide +kernel
theorem d_Ru_computed_93 : decode b_Ru_computed 93 = .ok (.iaload, 1) := by decide +kernel
theorem d_Ru_computed_94 : decode b_Ru_computed 94 = .ok (.iadd, 1) := by decide +kernel
theorem d_Ru_computed_95 : decode b_Ru_computed 95 = .ok (.ireturn, 1) := by decide +kernel
theorem d_Ru_computed_96 : decode b_Ru_computed 96 = .ok (.aload_n 0, 1) := by decide +kernel
theorem d_Ru_computed_97 : decode b_Ru_computed 97 = .ok (.getfield 18, 3) := by decide +kernel
theorem d_Ru_computed_100 : decode b_Ru_computed 100 = .ok (.getfield 109, 3) := by decide +kernel
theorem d_Ru_computed_103 : decode b_Ru_computed 103 = .ok (.iload_n 2, 1) := by decide +kernel
theorem d_Ru_computed_104 : decode b_Ru_computed 104 = .ok (.iaload, 1) := by decide +kernel
theorem d_Ru_computed_105 : decode b_Ru_computed 105 = .ok (.ireturn, 1) := by decide +kernel
theorem d_Ru_goOnAt_0 : decode b_Ru_goOnAt 0 = .ok (.iload_n 1, 1) := by decide +kernel
theorem d_Ru_goOnAt_1 : decode b_Ru_goOnAt 1 = .ok (.aload_n 0, 1) := by decide +kernel
theorem d_Ru_goOnAt_2 : decode b_Ru_goOnAt 2 = .ok (.getfield 32, 3) := by decide +kernel
theorem d_Ru_goOnAt_5 : decode b_Ru_goOnAt 5 = .ok (.getfield 103, 3) := by decide +kernel
theorem d_Ru_goOnAt_8 : decode b_Ru_goOnAt 8 = .ok (.if_icmp .lt 11, 3) := by decide +kernel
theorem d_Ru_goOnAt_11 : decode b_Ru_goOnAt 11 = .ok (.aload_n 0, 1) := by decide +kernel
theorem d_Ru_goOnAt_12 : decode b_Ru_goOnAt 12 = .ok (.iconst 2, 1) := by decide +kernel
theorem d_Ru_goOnAt_13 : decode b_Ru_goOnAt 13 = .ok (.putfield 35, 3) := by decide +kernel
theorem d_Ru_goOnAt_16 : decode b_Ru_goOnAt 16 = .ok (.goto 8, 3) := by decide +kernel
theorem d_Ru_goOnAt_19 : decode b_Ru_goOnAt 19 = .ok (.aload_n 0, 1) := by decide +kernel
theorem d_Ru_goOnAt_20 : decode b_Ru_goOnAt 20 = .ok (.iload_n 1, 1) := by decide +kernel
theorem d_Ru_goOnAt_21 : decode b_Ru_goOnAt 21 = .ok (.putfield 50, 3) := by decide +kernel
theorem d_Ru_goOnAt_24 : decode b_Ru_goOnAt 24 = .ok (.return_, 1) := by decide +kernel
theorem d_La_look_0 : decode b_La_look 0 = .ok (.aload_n 2, 1) := by decide +kernel
theorem d_La_look_1 : decode b_La_look 1 = .ok (.iconst 0, 1) := by decide +kernel
theorem d_La_look_2 : decode b_La_look 2 = .ok (.aload_n 0, 1) := by decide +kernel
theorem d_La_look_3 : decode b_La_look 3 = .ok (.iload_n 1, 1) := by decide +kernel
theorem d_La_look_4 : decode b_La_look 4 = .ok (.invokevirtual 35, 3) := by decide +kernel
theorem d_La_look_7 : decode b_La_look 7 = .ok (.i2l, 1) := by decide +kernel
theorem d_La_look_8 : decode b_La_look 8 = .ok (.lastore, 1) := by decide +kernel
theorem d_La_look_9 : decode b_La_look 9 = .ok (.goto 6, 3) := by decide +kernel
theorem d_La_look_12 : decode b_La_look 12 = .ok (.astore_n 3, 1) := by decide +kernel
theorem d_La_look_13 : decode b_La_look 13 = .ok (.iconst 1, 1) := by decide +kernel
theorem d_La_look_14 : decode b_La_look 14 = .ok (.ireturn, 1) := by decide +kernel
theorem d_La_look_15 : decode b_La_look 15 = .ok (.iconst 0, 1) := by decide +kernel
theorem d_La_look_16 : decode b_La_look 16 = .ok (.ireturn, 1) := by decide +kernel
theorem d_S_look_0 : decode b_S_look 0 = .ok (.iload_n 1, 1) := by decide +kernel
theorem d_S_look_1 : decode b_S_look 1 = .ok (.ifCond .lt 8, 3) := by decide +kernel
theorem d_S_look_4 : decode b_S_look 4 = .ok (.iload_n 1, 1) := by decide +kernel
theorem d_S_look_5 : decode b_S_look 5 = .ok (.iconst 5, 1) := by decide +kernel
theorem d_S_look_6 : decode b_S_look 6 = .ok (.if_icmp .le 13, 3) := by decide +kernel
theorem d_S_look_9 : decode b_S_look 9 = .ok (.new 32, 3) := by decide +kernel
theorem d_S_look_12 : decode b_S_look 12 = .ok (.dup, 1) := by decide +kernel
theorem d_S_look_13 : decode b_S_look 13 = .ok (.ldc 110, 2) := by decide +kernel
theorem d_S_look_15 : decode b_S_look 15 = .ok (.invokespecial 36, 3) := by decide +kernel
theorem d_S_look_18 : decode b_S_look 18 = .ok (.athrow, 1) := by decide +kernel
theorem d_S_look_19 : decode b_S_look 19 = .ok (.iload_n 1, 1) := by decide +kernel
theorem d_S_look_20 : decode b_S_look 20 = .ok (.iconst 5, 1) := by decide +kernel
theorem d_S_look_21 : decode b_S_look 21 = .ok (.if_icmp .ne 11, 3) := by decide +kernel
theorem d_S_look_24 : decode b_S_look 24 = .ok (.aload_n 0, 1) := by decide +kernel
theorem d_S_look_25 : decode b_S_look 25 = .ok (.getfield 10, 3) := by decide +kernel
theorem d_S_look_28 : decode b_S_look 28 = .ok (.invokevirtual 45, 3) := by decide +kernel
theorem d_S_look_31 : decode b_S_look 31 = .ok (.ireturn, 1) := by decide +kernel
theorem d_S_look_32 : decode b_S_look 32 = .ok (.aload_n 0, 1) := by decide +kernel
theorem d_S_look_33 : decode b_S_look 33 = .ok (.getfield 28, 3) := by decide +kernel
theorem d_S_look_36 : decode b_S_look 36 = .ok (.getfield 100, 3) := by decide +kernel
theorem d_S_look_39 : decode b_S_look 39 = .ok (.ifCond .ne 5, 3) := by decide +kernel
theorem d_S_look_42 : decode b_S_look 42 = .ok (.iconst 0, 1) := by decide +kernel
theorem d_S_look_43 : decode b_S_look 43 = .ok (.ireturn, 1) := by decide +kernel
theorem d_S_look_44 : decode b_S_look 44 = .ok (.iload_n 1, 1) := by decide +kernel
theorem d_S_look_45 : decode b_S_look 45 = .ok (.tableswitch 63 0 3 #[31, 39, 47, 55], 31) := by decide +kernel
theorem d_S_look_76 : decode b_S_look 76 = .ok (.aload_n 0, 1) := by decide +kernel
theorem d_S_look_77 : decode b_S_look 77 = .ok (.getfield 28, 3) := by decide +kernel
theorem d_S_look_80 : decode b_S_look 80 = .ok (.getfield 100, 3) := by decide +kernel
theorem d_S_look_83 : decode b_S_look 83 = .ok (.ireturn, 1) := by decide +kernel
theorem d_S_look_84 : decode b_S_look 84 = .ok (.aload_n 0, 1) := by decide +kernel
theorem d_S_look_85 : decode b_S_look 85 = .ok (.getfield 28, 3) := by decide +kernel
theorem d_S_look_88 : decode b_S_look 88 = .ok (.getfield 112, 3) := by decide +kernel
theorem d_S_look_91 : decode b_S_look 91 = .ok (.ireturn, 1) := by decide +kernel
theorem d_S_look_92 : decode b_S_look 92 = .ok (.aload_n 0, 1) := by decide +kernel
theorem d_S_look_93 : decode b_S_look 93 = .ok (.getfield 28, 3) := by decide +kernel
theorem d_S_look_96 : decode b_S_look 96 = .ok (.getfield 115, 3) := by decide +kernel
theorem d_S_look_99 : decode b_S_look 99 = .ok (.ireturn, 1) := by decide +kernel
theorem d_S_look_100 : decode b_S_look 100 = .ok (.aload_n 0, 1) := by decide +kernel
theorem d_S_look_101 : decode b_S_look 101 = .ok (.getfield 19, 3) := by decide +kernel
theorem d_S_look_104 : decode b_S_look 104 = .ok (.getfield 118, 3) := by decide +kernel
theorem d_S_look_107 : decode b_S_look 107 = .ok (.ireturn, 1) := by decide +kernel
theorem d_S_look_108 : decode b_S_look 108 = .ok (.aload_n 0, 1) := by decide +kernel
theorem d_S_look_109 : decode b_S_look 109 = .ok (.getfield 19, 3) := by decide +kernel
theorem d_S_look_112 : decode b_S_look 112 = .ok (.getfield 121, 3) := by decide +kernel
theorem d_S_look_115 : decode b_S_look 115 = .ok (.ireturn, 1) := by decide +kernel
theorem d_La_register_0 : decode b_La_register 0 = .ok (.aload_n 2, 1) := by decide +kernel
theorem d_La_register_1 : decode b_La_register 1 = .ok (.iconst 0, 1) := by decide +kernel
theorem d_La_register_2 : decode b_La_register 2 = .ok (.aload_n 0, 1) := by decide +kernel
theorem d_La_register_3 : decode b_La_register 3 = .ok (.iload_n 1, 1) := by decide +kernel
theorem d_La_register_4 : decode b_La_register 4 = .ok (.invokevirtual 38, 3) := by decide +kernel
theorem d_La_register_7 : decode b_La_register 7 = .ok (.i2l, 1) := by decide +kernel
theorem d_La_register_8 : decode b_La_register 8 = .ok (.lastore, 1) := by decide +kernel
theorem d_La_register_9 : decode b_La_register 9 = .ok (.goto 6, 3) := by decide +kernel
theorem d_La_register_12 : decode b_La_register 12 = .ok (.astore_n 3, 1) := by decide +kernel
theorem d_La_register_13 : decode b_La_register 13 = .ok (.iconst 1, 1) := by decide +kernel
theorem d_La_register_14 : decode b_La_register 14 = .ok (.ireturn, 1) := by decide +kernel
theorem d_La_register_15 : decode b_La_register 15 = .ok (.iconst 0, 1) := by decide +kernel
theorem d_La_register_16 : decode b_La_register 16 = .ok (.ireturn, 1) := by decide +kernel
theorem d_S_register_0 : decode b_S_register 0 = .ok (.iload_n 1, 1) := by decide +kernel
theorem d_S_register_1 : decode b_S_register 1 = .ok (.invokestatic 39, 3) := by decide +kernel
theorem d_S_register_4 : decode b_S_register 4 = .ok (.ifCond .ne 13, 3) := by decide +kernel
theorem d_S_register_7 : decode b_S_register 7 = .ok (.new 32, 3) := by decide +kernel
theorem d_S_register_10 : decode b_S_register 10 = .ok (.dup, 1) := by decide +kernel
theorem d_S_register_11 : decode b_S_register 11 = .ok (.ldc 43, 2) := by decide +kernel
theorem d_S_register_13 : decode b_S_register 13 = .ok (.invokespecial 36, 3) := by decide +kernel
theorem d_S_register_16 : decode b_S_register 16 = .ok (.athrow, 1) := by decide +kernel
theorem d_S_register_17 : decode b_S_register 17 = .ok (.aload_n 0, 1) := by decide +kernel
theorem d_S_register_18 : decode b_S_register 18 = .ok (.getfield 28, 3) := by decide +kernel
theorem d_S_register_21 : decode b_S_register 21 = .ok (.getfield 100, 3) := by decide +kernel
theorem d_S_register_24 : decode b_S_register 24 = .ok (.ifCond .ne 7, 3) := by decide +kernel
theorem d_S_register_27 : decode b_S_register 27 = .ok (.iconst 0, 1) := by decide +kernel
theorem d_S_register_28 : decode b_S_register 28 = .ok (.goto 12, 3) := by decide +kernel
theorem d_S_register_31 : decode b_S_register 31 = .ok (.aload_n 0, 1) := by decide +kernel
theorem d_S_register_32 : decode b_S_register 32 = .ok (.getfield 28, 3) := by decide +kernel
theorem d_S_register_35 : decode b_S_register 35 = .ok (.getfield 124, 3) := by decide +kernel
theorem d_S_register_38 : decode b_S_register 38 = .ok (.iload_n 1, 1) := by decide +kernel
theorem d_S_register_39 : decode b_S_register 39 = .ok (.iaload, 1) := by decide +kernel
theorem d_S_register_40 : decode b_S_register 40 = .ok (.ireturn, 1) := by decide +kernel
theorem d_La_printed_0 : decode b_La_printed 0 = .ok (.aload_n 2, 1) := by decide +kernel
theorem d_La_printed_1 : decode b_La_printed 1 = .ok (.iconst 0, 1) := by decide +kernel
theorem d_La_printed_2 : decode b_La_printed 2 = .ok (.aload_n 0, 1) := by decide +kernel
theorem d_La_printed_3 : decode b_La_printed 3 = .ok (.iload_n 1, 1) := by decide +kernel
theorem d_La_printed_4 : decode b_La_printed 4 = .ok (.invokevirtual 41, 3) := by decide +kernel
theorem d_La_printed_7 : decode b_La_printed 7 = .ok (.i2l, 1) := by decide +kernel
theorem d_La_printed_8 : decode b_La_printed 8 = .ok (.lastore, 1) := by decide +kernel
theorem d_La_printed_9 : decode b_La_printed 9 = .ok (.goto 6, 3) := by decide +kernel
theorem d_La_printed_12 : decode b_La_printed 12 = .ok (.astore_n 3, 1) := by decide +kernel
theorem d_La_printed_13 : decode b_La_printed 13 = .ok (.iconst 1, 1) := by decide +kernel
theorem d_La_printed_14 : decode b_La_printed 14 = .ok (.ireturn, 1) := by decide +kernel
theorem d_La_printed_15 : decode b_La_printed 15 = .ok (.iconst 0, 1) := by decide +kernel
theorem d_La_printed_16 : decode b_La_printed 16 = .ok (.ireturn, 1) := by decide +kernel
theorem d_S_printed_0 : decode b_S_printed 0 = .ok (.aload_n 0, 1) := by decide +kernel
theorem d_S_printed_1 : decode b_S_printed 1 = .ok (.getfield 28, 3) := by decide +kernel
theorem d_S_printed_4 : decode b_S_printed 4 = .ok (.getfield 100, 3) := by decide +kernel
theorem d_S_printed_7 : decode b_S_printed 7 = .ok (.ifCond .eq 18, 3) := by decide +kernel
theorem d_S_printed_10 : decode b_S_printed 10 = .ok (.iload_n 1, 1) := by decide +kernel
theorem d_S_printed_11 : decode b_S_printed 11 = .ok (.ifCond .lt 14, 3) := by decide +kernel
theorem d_S_printed_14 : decode b_S_printed 14 = .ok (.iload_n 1, 1) := by decide +kernel
theorem d_S_printed_15 : decode b_S_printed 15 = .ok (.aload_n 0, 1) := by decide +kernel
theorem d_S_printed_16 : decode b_S_printed 16 = .ok (.getfield 28, 3) := by decide +kernel
theorem d_S_printed_19 : decode b_S_printed 19 = .ok (.getfield 115, 3) := by decide +kernel
theorem d_S_printed_22 : decode b_S_printed 22 = .ok (.if_icmp .lt 13, 3) := by decide +kernel
theorem d_S_printed_25 : decode b_S_printed 25 = .ok (.new 49, 3) := by decide +kernel
theorem d_S_printed_28 : decode b_S_printed 28 = .ok (.dup, 1) := by decide +kernel
theorem d_S_printed_29 : decode b_S_printed 29 = .ok (.ldc 127, 2) := by decide +kernel
theorem d_S_printed_31 : decode b_S_printed 31 = .ok (.invokespecial 53, 3) := by decide +kernel
theorem d_S_printed_34 : decode b_S_printed 34 = .ok (.athrow, 1) := by decide +kernel
theorem d_S_printed_35 : decode b_S_printed 35 = .ok (.aload_n 0, 1) := by decide +kernel
theorem d_S_printed_36 : decode b_S_printed 36 = .ok (.getfield 28, 3) := by decide +kernel
theorem d_S_printed_39 : decode b_S_printed 39 = .ok (.getfield 129, 3) := by decide +kernel
theorem d_S_printed_42 : decode b_S_printed 42 = .ok (.iload_n 1, 1) := by decide +kernel
theorem d_S_printed_43 : decode b_S_printed 43 = .ok (.iaload, 1) := by decide +kernel
theorem d_S_printed_44 : decode b_S_printed 44 = .ok (.ireturn, 1) := by decide +kernel
theorem d_La_heap_0 : decode b_La_heap 0 = .ok (.aload_n 2, 1) := by decide +kernel
theorem d_La_heap_1 : decode b_La_heap 1 = .ok (.iconst 0, 1) := by decide +kernel
theorem d_La_heap_2 : decode b_La_heap 2 = .ok (.aload_n 0, 1) := by decide +kernel
theorem d_La_heap_3 : decode b_La_heap 3 = .ok (.iload_n 1, 1) := by decide +kernel
theorem d_La_heap_4 : decode b_La_heap 4 = .ok (.invokevirtual 44, 3) := by decide +kernel
theorem d_La_heap_7 : decode b_La_heap 7 = .ok (.i2l, 1) := by decide +kernel
theorem d_La_heap_8 : decode b_La_heap 8 = .ok (.lastore, 1) := by decide +kernel
theorem d_La_heap_9 : decode b_La_heap 9 = .ok (.goto 6, 3) := by decide +kernel
theorem d_La_heap_12 : decode b_La_heap 12 = .ok (.astore_n 3, 1) := by decide +kernel
theorem d_La_heap_13 : decode b_La_heap 13 = .ok (.iconst 1, 1) := by decide +kernel
theorem d_La_heap_14 : decode b_La_heap 14 = .ok (.ireturn, 1) := by decide +kernel
theorem d_La_heap_15 : decode b_La_heap 15 = .ok (.iconst 0, 1) := by decide +kernel
theorem d_La_heap_16 : decode b_La_heap 16 = .ok (.ireturn, 1) := by decide +kernel
theorem d_S_heap_0 : decode b_S_heap 0 = .ok (.iload_n 1, 1) := by decide +kernel
theorem d_S_heap_1 : decode b_S_heap 1 = .ok (.iconst 1, 1) := by decide +kernel
theorem d_S_heap_2 : decode b_S_heap 2 = .ok (.invokestatic 132, 3) := by decide +kernel
theorem d_S_heap_5 : decode b_S_heap 5 = .ok (.ifCond .ne 13, 3) := by decide +kernel
theorem d_S_heap_8 : decode b_S_heap 8 = .ok (.new 49, 3) := by decide +kernel
theorem d_S_heap_11 : decode b_S_heap 11 = .ok (.dup, 1) := by decide +kernel
theorem d_S_heap_12 : decode b_S_heap 12 = .ok (.ldc 136, 2) := by decide +kernel
theorem d_S_heap_14 : decode b_S_heap 14 = .ok (.invokespecial 53, 3) := by decide +kernel
theorem d_S_heap_17 : decode b_S_heap 17 = .ok (.athrow, 1) := by decide +kernel
theorem d_S_heap_18 : decode b_S_heap 18 = .ok (.aload_n 0, 1) := by decide +kernel
theorem d_S_heap_19 : decode b_S_heap 19 = .ok (.getfield 19, 3) := by decide +kernel
theorem d_S_heap_22 : decode b_S_heap 22 = .ok (.getfield 138, 3) := by decide +kernel
theorem d_S_heap_25 : decode b_S_heap 25 = .ok (.iload_n 1, 1) := by decide +kernel
theorem d_S_heap_26 : decode b_S_heap 26 = .ok (.iaload, 1) := by decide +kernel
theorem d_S_heap_27 : decode b_S_heap 27 = .ok (.ireturn, 1) := by decide +kernel
theorem d_La_shadow_0 : decode b_La_shadow 0 = .ok (.aload_n 2, 1) := by decide +kernel
theorem d_La_shadow_1 : decode b_La_shadow 1 = .ok (.iconst 0, 1) := by decide +kernel
theorem d_La_shadow_2 : decode b_La_shadow 2 = .ok (.aload_n 0, 1) := by decide +kernel
theorem d_La_shadow_3 : decode b_La_shadow 3 = .ok (.iload_n 1, 1) := by decide +kernel
theorem d_La_shadow_4 : decode b_La_shadow 4 = .ok (.invokevirtual 47, 3) := by decide +kernel
theorem d_La_shadow_7 : decode b_La_shadow 7 = .ok (.i2l, 1) := by decide +kernel
theorem d_La_shadow_8 : decode b_La_shadow 8 = .ok (.lastore, 1) := by decide +kernel
theorem d_La_shadow_9 : decode b_La_shadow 9 = .ok (.goto 6, 3) := by decide +kernel
theorem d_La_shadow_12 : decode b_La_shadow 12 = .ok (.astore_n 3, 1) := by decide +kernel
theorem d_La_shadow_13 : decode b_La_shadow 13 = .ok (.iconst 1, 1) := by decide +kernel
theorem d_La_shadow_14 : decode b_La_shadow 14 = .ok (.ireturn, 1) := by decide +kernel
theorem d_La_shadow_15 : decode b_La_shadow 15 = .ok (.iconst 0, 1) := by decide +kernel
theorem d_La_shadow_16 : decode b_La_shadow 16 = .ok (.ireturn, 1) := by decide +kernel
theorem d_S_shadow_0 : decode b_S_shadow 0 = .ok (.iload_n 1, 1) := by decide +kernel
end
section
theorem d_S_shadow_1 : decode b_S_shadow 1 = .ok (.ifCond .lt 9, 3) := by decide +kernel
theorem d_S_shadow_4 : decode b_S_shadow 4 = .ok (.iload_n 1, 1) := by decide +kernel
theorem d_S_shadow_5 : decode b_S_shadow 5 = .ok (.bipush 64, 2) := by decide +kernel
theorem d_S_shadow_7 : decode b_S_shadow 7 = .ok (.if_icmp .lt 13, 3) := by decide +kernel
theorem d_S_shadow_10 : decode b_S_shadow 10 = .ok (.new 49, 3) := by decide +kernel
theorem d_S_shadow_13 : decode b_S_shadow 13 = .ok (.dup, 1) := by decide +kernel
theorem d_S_shadow_14 : decode b_S_shadow 14 = .ok (.ldc 141, 2) := by decide +kernel
theorem d_S_shadow_16 : decode b_S_shadow 16 = .ok (.invokespecial 53, 3) := by decide +kernel
theorem d_S_shadow_19 : decode b_S_shadow 19 = .ok (.athrow, 1) := by decide +kernel
theorem d_S_shadow_20 : decode b_S_shadow 20 = .ok (.aload_n 0, 1) := by decide +kernel
theorem d_S_shadow_21 : decode b_S_shadow 21 = .ok (.getfield 19, 3) := by decide +kernel
theorem d_S_shadow_24 : decode b_S_shadow 24 = .ok (.getfield 143, 3) := by decide +kernel
theorem d_S_shadow_27 : decode b_S_shadow 27 = .ok (.iload_n 1, 1) := by decide +kernel
theorem d_S_shadow_28 : decode b_S_shadow 28 = .ok (.iaload, 1) := by decide +kernel
theorem d_S_shadow_29 : decode b_S_shadow 29 = .ok (.ireturn, 1) := by decide +kernel
theorem d_La_report_0 : decode b_La_report 0 = .ok (.aload_n 2, 1) := by decide +kernel
theorem d_La_report_1 : decode b_La_report 1 = .ok (.iconst 0, 1) := by decide +kernel
theorem d_La_report_2 : decode b_La_report 2 = .ok (.aload_n 0, 1) := by decide +kernel
theorem d_La_report_3 : decode b_La_report 3 = .ok (.iload_n 1, 1) := by decide +kernel
theorem d_La_report_4 : decode b_La_report 4 = .ok (.invokevirtual 50, 3) := by decide +kernel
theorem d_La_report_7 : decode b_La_report 7 = .ok (.i2l, 1) := by decide +kernel
theorem d_La_report_8 : decode b_La_report 8 = .ok (.lastore, 1) := by decide +kernel
theorem d_La_report_9 : decode b_La_report 9 = .ok (.goto 9, 3) := by decide +kernel
theorem d_La_report_12 : decode b_La_report 12 = .ok (.astore_n 3, 1) := by decide +kernel
theorem d_La_report_13 : decode b_La_report 13 = .ok (.iconst 1, 1) := by decide +kernel
theorem d_La_report_14 : decode b_La_report 14 = .ok (.ireturn, 1) := by decide +kernel
theorem d_La_report_15 : decode b_La_report 15 = .ok (.astore_n 3, 1) := by decide +kernel
theorem d_La_report_16 : decode b_La_report 16 = .ok (.iconst 2, 1) := by decide +kernel
theorem d_La_report_17 : decode b_La_report 17 = .ok (.ireturn, 1) := by decide +kernel
theorem d_La_report_18 : decode b_La_report 18 = .ok (.iconst 0, 1) := by decide +kernel
theorem d_La_report_19 : decode b_La_report 19 = .ok (.ireturn, 1) := by decide +kernel
theorem d_S_report_0 : decode b_S_report 0 = .ok (.aload_n 0, 1) := by decide +kernel
theorem d_S_report_1 : decode b_S_report 1 = .ok (.getfield 28, 3) := by decide +kernel
theorem d_S_report_4 : decode b_S_report 4 = .ok (.getfield 100, 3) := by decide +kernel
theorem d_S_report_7 : decode b_S_report 7 = .ok (.iconst 3, 1) := by decide +kernel
theorem d_S_report_8 : decode b_S_report 8 = .ok (.if_icmp .eq 13, 3) := by decide +kernel
theorem d_S_report_11 : decode b_S_report 11 = .ok (.new 91, 3) := by decide +kernel
theorem d_S_report_14 : decode b_S_report 14 = .ok (.dup, 1) := by decide +kernel
theorem d_S_report_15 : decode b_S_report 15 = .ok (.ldc 146, 2) := by decide +kernel
theorem d_S_report_17 : decode b_S_report 17 = .ok (.invokespecial 95, 3) := by decide +kernel
theorem d_S_report_20 : decode b_S_report 20 = .ok (.athrow, 1) := by decide +kernel
theorem d_S_report_21 : decode b_S_report 21 = .ok (.iload_n 1, 1) := by decide +kernel
theorem d_S_report_22 : decode b_S_report 22 = .ok (.tableswitch 61 0 2 #[26, 34, 42], 26) := by decide +kernel
theorem d_S_report_48 : decode b_S_report 48 = .ok (.aload_n 0, 1) := by decide +kernel
theorem d_S_report_49 : decode b_S_report 49 = .ok (.getfield 28, 3) := by decide +kernel
theorem d_S_report_52 : decode b_S_report 52 = .ok (.getfield 148, 3) := by decide +kernel
theorem d_S_report_55 : decode b_S_report 55 = .ok (.ireturn, 1) := by decide +kernel
theorem d_S_report_56 : decode b_S_report 56 = .ok (.aload_n 0, 1) := by decide +kernel
theorem d_S_report_57 : decode b_S_report 57 = .ok (.getfield 28, 3) := by decide +kernel
theorem d_S_report_60 : decode b_S_report 60 = .ok (.getfield 151, 3) := by decide +kernel
theorem d_S_report_63 : decode b_S_report 63 = .ok (.ireturn, 1) := by decide +kernel
theorem d_S_report_64 : decode b_S_report 64 = .ok (.aload_n 0, 1) := by decide +kernel
theorem d_S_report_65 : decode b_S_report 65 = .ok (.getfield 28, 3) := by decide +kernel
theorem d_S_report_68 : decode b_S_report 68 = .ok (.getfield 154, 3) := by decide +kernel
theorem d_S_report_71 : decode b_S_report 71 = .ok (.getfield 82, 3) := by decide +kernel
theorem d_S_report_74 : decode b_S_report 74 = .ok (.aload_n 0, 1) := by decide +kernel
theorem d_S_report_75 : decode b_S_report 75 = .ok (.getfield 28, 3) := by decide +kernel
theorem d_S_report_78 : decode b_S_report 78 = .ok (.getfield 112, 3) := by decide +kernel
theorem d_S_report_81 : decode b_S_report 81 = .ok (.iaload, 1) := by decide +kernel
theorem d_S_report_82 : decode b_S_report 82 = .ok (.ireturn, 1) := by decide +kernel
theorem d_S_report_83 : decode b_S_report 83 = .ok (.new 32, 3) := by decide +kernel
theorem d_S_report_86 : decode b_S_report 86 = .ok (.dup, 1) := by decide +kernel
theorem d_S_report_87 : decode b_S_report 87 = .ok (.ldc 89, 2) := by decide +kernel
theorem d_S_report_89 : decode b_S_report 89 = .ok (.invokespecial 36, 3) := by decide +kernel
theorem d_S_report_92 : decode b_S_report 92 = .ok (.athrow, 1) := by decide +kernel
theorem d_Mo_init_0 : decode b_Mo_init 0 = .ok (.aload_n 0, 1) := by decide +kernel
theorem d_Mo_init_1 : decode b_Mo_init 1 = .ok (.invokespecial 1, 3) := by decide +kernel
theorem d_Mo_init_4 : decode b_Mo_init 4 = .ok (.aload_n 0, 1) := by decide +kernel
theorem d_Mo_init_5 : decode b_Mo_init 5 = .ok (.bipush 40, 2) := by decide +kernel
theorem d_Mo_init_7 : decode b_Mo_init 7 = .ok (.newarray .int, 2) := by decide +kernel
theorem d_Mo_init_9 : decode b_Mo_init 9 = .ok (.putfield 7, 3) := by decide +kernel
theorem d_Mo_init_12 : decode b_Mo_init 12 = .ok (.aload_n 0, 1) := by decide +kernel
theorem d_Mo_init_13 : decode b_Mo_init 13 = .ok (.bipush 40, 2) := by decide +kernel
theorem d_Mo_init_15 : decode b_Mo_init 15 = .ok (.newarray .int, 2) := by decide +kernel
theorem d_Mo_init_17 : decode b_Mo_init 17 = .ok (.putfield 13, 3) := by decide +kernel
theorem d_Mo_init_20 : decode b_Mo_init 20 = .ok (.aload_n 0, 1) := by decide +kernel
theorem d_Mo_init_21 : decode b_Mo_init 21 = .ok (.bipush 40, 2) := by decide +kernel
theorem d_Mo_init_23 : decode b_Mo_init 23 = .ok (.newarray .int, 2) := by decide +kernel
theorem d_Mo_init_25 : decode b_Mo_init 25 = .ok (.putfield 16, 3) := by decide +kernel
theorem d_Mo_init_28 : decode b_Mo_init 28 = .ok (.aload_n 0, 1) := by decide +kernel
theorem d_Mo_init_29 : decode b_Mo_init 29 = .ok (.bipush 40, 2) := by decide +kernel
theorem d_Mo_init_31 : decode b_Mo_init 31 = .ok (.newarray .int, 2) := by decide +kernel
theorem d_Mo_init_33 : decode b_Mo_init 33 = .ok (.putfield 19, 3) := by decide +kernel
theorem d_Mo_init_36 : decode b_Mo_init 36 = .ok (.aload_n 0, 1) := by decide +kernel
theorem d_Mo_init_37 : decode b_Mo_init 37 = .ok (.bipush 40, 2) := by decide +kernel
theorem d_Mo_init_39 : decode b_Mo_init 39 = .ok (.newarray .int, 2) := by decide +kernel
theorem d_Mo_init_41 : decode b_Mo_init 41 = .ok (.putfield 22, 3) := by decide +kernel
theorem d_Mo_init_44 : decode b_Mo_init 44 = .ok (.aload_n 0, 1) := by decide +kernel
theorem d_Mo_init_45 : decode b_Mo_init 45 = .ok (.sipush 512, 3) := by decide +kernel
theorem d_Mo_init_48 : decode b_Mo_init 48 = .ok (.newarray .int, 2) := by decide +kernel
theorem d_Mo_init_50 : decode b_Mo_init 50 = .ok (.putfield 25, 3) := by decide +kernel
theorem d_Mo_init_53 : decode b_Mo_init 53 = .ok (.aload_n 0, 1) := by decide +kernel
theorem d_Mo_init_54 : decode b_Mo_init 54 = .ok (.bipush 64, 2) := by decide +kernel
theorem d_Mo_init_56 : decode b_Mo_init 56 = .ok (.newarray .int, 2) := by decide +kernel
theorem d_Mo_init_58 : decode b_Mo_init 58 = .ok (.putfield 28, 3) := by decide +kernel
theorem d_Mo_init_61 : decode b_Mo_init 61 = .ok (.aload_n 0, 1) := by decide +kernel
theorem d_Mo_init_62 : decode b_Mo_init 62 = .ok (.bipush 64, 2) := by decide +kernel
theorem d_Mo_init_64 : decode b_Mo_init 64 = .ok (.newarray .int, 2) := by decide +kernel
theorem d_Mo_init_66 : decode b_Mo_init 66 = .ok (.putfield 31, 3) := by decide +kernel
theorem d_Mo_init_69 : decode b_Mo_init 69 = .ok (.aload_n 0, 1) := by decide +kernel
theorem d_Mo_init_70 : decode b_Mo_init 70 = .ok (.bipush 64, 2) := by decide +kernel
theorem d_Mo_init_72 : decode b_Mo_init 72 = .ok (.newarray .int, 2) := by decide +kernel
theorem d_Mo_init_74 : decode b_Mo_init 74 = .ok (.putfield 34, 3) := by decide +kernel
theorem d_Mo_init_77 : decode b_Mo_init 77 = .ok (.aload_n 0, 1) := by decide +kernel
theorem d_Mo_init_78 : decode b_Mo_init 78 = .ok (.bipush 32, 2) := by decide +kernel
theorem d_Mo_init_80 : decode b_Mo_init 80 = .ok (.newarray .int, 2) := by decide +kernel
theorem d_Mo_init_82 : decode b_Mo_init 82 = .ok (.putfield 37, 3) := by decide +kernel
theorem d_Mo_init_85 : decode b_Mo_init 85 = .ok (.aload_n 0, 1) := by decide +kernel
theorem d_Mo_init_86 : decode b_Mo_init 86 = .ok (.bipush 8, 2) := by decide +kernel
theorem d_Mo_init_88 : decode b_Mo_init 88 = .ok (.newarray .int, 2) := by decide +kernel
theorem d_Mo_init_90 : decode b_Mo_init 90 = .ok (.putfield 40, 3) := by decide +kernel
theorem d_Mo_init_93 : decode b_Mo_init 93 = .ok (.aload_n 0, 1) := by decide +kernel
theorem d_Mo_init_94 : decode b_Mo_init 94 = .ok (.bipush 60, 2) := by decide +kernel
theorem d_Mo_init_96 : decode b_Mo_init 96 = .ok (.newarray .int, 2) := by decide +kernel
theorem d_Mo_init_98 : decode b_Mo_init 98 = .ok (.putfield 43, 3) := by decide +kernel
theorem d_Mo_init_101 : decode b_Mo_init 101 = .ok (.aload_n 0, 1) := by decide +kernel
theorem d_Mo_init_102 : decode b_Mo_init 102 = .ok (.invokevirtual 46, 3) := by decide +kernel
theorem d_Mo_init_105 : decode b_Mo_init 105 = .ok (.return_, 1) := by decide +kernel
theorem d_Mo_empty_0 : decode b_Mo_empty 0 = .ok (.iconst 0, 1) := by decide +kernel
theorem d_Mo_empty_1 : decode b_Mo_empty 1 = .ok (.istore_n 1, 1) := by decide +kernel
theorem d_Mo_empty_2 : decode b_Mo_empty 2 = .ok (.iload_n 1, 1) := by decide +kernel
theorem d_Mo_empty_3 : decode b_Mo_empty 3 = .ok (.sipush 512, 3) := by decide +kernel
theorem d_Mo_empty_6 : decode b_Mo_empty 6 = .ok (.if_icmp .ge 16, 3) := by decide +kernel
theorem d_Mo_empty_9 : decode b_Mo_empty 9 = .ok (.aload_n 0, 1) := by decide +kernel
theorem d_Mo_empty_10 : decode b_Mo_empty 10 = .ok (.getfield 25, 3) := by decide +kernel
theorem d_Mo_empty_13 : decode b_Mo_empty 13 = .ok (.iload_n 1, 1) := by decide +kernel
theorem d_Mo_empty_14 : decode b_Mo_empty 14 = .ok (.iconst 0, 1) := by decide +kernel
theorem d_Mo_empty_15 : decode b_Mo_empty 15 = .ok (.iastore, 1) := by decide +kernel
theorem d_Mo_empty_16 : decode b_Mo_empty 16 = .ok (.iinc 1 1, 3) := by decide +kernel
theorem d_Mo_empty_19 : decode b_Mo_empty 19 = .ok (.goto (-17), 3) := by decide +kernel
theorem d_Mo_empty_22 : decode b_Mo_empty 22 = .ok (.iconst 0, 1) := by decide +kernel
theorem d_Mo_empty_23 : decode b_Mo_empty 23 = .ok (.istore_n 1, 1) := by decide +kernel
theorem d_Mo_empty_24 : decode b_Mo_empty 24 = .ok (.iload_n 1, 1) := by decide +kernel
theorem d_Mo_empty_25 : decode b_Mo_empty 25 = .ok (.bipush 64, 2) := by decide +kernel
theorem d_Mo_empty_27 : decode b_Mo_empty 27 = .ok (.if_icmp .ge 31, 3) := by decide +kernel
theorem d_Mo_empty_30 : decode b_Mo_empty 30 = .ok (.aload_n 0, 1) := by decide +kernel
theorem d_Mo_empty_31 : decode b_Mo_empty 31 = .ok (.getfield 28, 3) := by decide +kernel
theorem d_Mo_empty_34 : decode b_Mo_empty 34 = .ok (.iload_n 1, 1) := by decide +kernel
theorem d_Mo_empty_35 : decode b_Mo_empty 35 = .ok (.bipush (-3), 2) := by decide +kernel
theorem d_Mo_empty_37 : decode b_Mo_empty 37 = .ok (.iastore, 1) := by decide +kernel
theorem d_Mo_empty_38 : decode b_Mo_empty 38 = .ok (.aload_n 0, 1) := by decide +kernel
theorem d_Mo_empty_39 : decode b_Mo_empty 39 = .ok (.getfield 31, 3) := by decide +kernel
theorem d_Mo_empty_42 : decode b_Mo_empty 42 = .ok (.iload_n 1, 1) := by decide +kernel
theorem d_Mo_empty_43 : decode b_Mo_empty 43 = .ok (.iconst 0, 1) := by decide +kernel
theorem d_Mo_empty_44 : decode b_Mo_empty 44 = .ok (.iastore, 1) := by decide +kernel
theorem d_Mo_empty_45 : decode b_Mo_empty 45 = .ok (.aload_n 0, 1) := by decide +kernel
theorem d_Mo_empty_46 : decode b_Mo_empty 46 = .ok (.getfield 34, 3) := by decide +kernel
theorem d_Mo_empty_49 : decode b_Mo_empty 49 = .ok (.iload_n 1, 1) := by decide +kernel
theorem d_Mo_empty_50 : decode b_Mo_empty 50 = .ok (.iconst 0, 1) := by decide +kernel
theorem d_Mo_empty_51 : decode b_Mo_empty 51 = .ok (.iastore, 1) := by decide +kernel
theorem d_Mo_empty_52 : decode b_Mo_empty 52 = .ok (.iinc 1 1, 3) := by decide +kernel
theorem d_Mo_empty_55 : decode b_Mo_empty 55 = .ok (.goto (-31), 3) := by decide +kernel
theorem d_Mo_empty_58 : decode b_Mo_empty 58 = .ok (.aload_n 0, 1) := by decide +kernel
theorem d_Mo_empty_59 : decode b_Mo_empty 59 = .ok (.iconst 0, 1) := by decide +kernel
theorem d_Mo_empty_60 : decode b_Mo_empty 60 = .ok (.putfield 83, 3) := by decide +kernel
theorem d_Mo_empty_63 : decode b_Mo_empty 63 = .ok (.return_, 1) := by decide +kernel
theorem d_Mo_thrown_0 : decode b_Mo_thrown 0 = .ok (.aload_n 0, 1) := by decide +kernel
theorem d_Mo_thrown_1 : decode b_Mo_thrown 1 = .ok (.getfield 49, 3) := by decide +kernel
theorem d_Mo_thrown_4 : decode b_Mo_thrown 4 = .ok (.ireturn, 1) := by decide +kernel
theorem d_Mo_code_0 : decode b_Mo_code 0 = .ok (.aload_n 0, 1) := by decide +kernel
theorem d_Mo_code_1 : decode b_Mo_code 1 = .ok (.iconst 0, 1) := by decide +kernel
theorem d_Mo_code_2 : decode b_Mo_code 2 = .ok (.putfield 49, 3) := by decide +kernel
theorem d_Mo_code_5 : decode b_Mo_code 5 = .ok (.iload_n 1, 1) := by decide +kernel
theorem d_Mo_code_6 : decode b_Mo_code 6 = .ok (.ifCond .lt 31, 3) := by decide +kernel
theorem d_Mo_code_9 : decode b_Mo_code 9 = .ok (.iload_n 1, 1) := by decide +kernel
theorem d_Mo_code_10 : decode b_Mo_code 10 = .ok (.bipush 14, 2) := by decide +kernel
theorem d_Mo_code_12 : decode b_Mo_code 12 = .ok (.if_icmp .gt 25, 3) := by decide +kernel
theorem d_Mo_code_15 : decode b_Mo_code 15 = .ok (.iload_n 2, 1) := by decide +kernel
theorem d_Mo_code_16 : decode b_Mo_code 16 = .ok (.invokestatic 53, 3) := by decide +kernel
theorem d_Mo_code_19 : decode b_Mo_code 19 = .ok (.ifCond .eq 18, 3) := by decide +kernel
theorem d_Mo_code_22 : decode b_Mo_code 22 = .ok (.iload_n 3, 1) := by decide +kernel
theorem d_Mo_code_23 : decode b_Mo_code 23 = .ok (.invokestatic 53, 3) := by decide +kernel
theorem d_Mo_code_26 : decode b_Mo_code 26 = .ok (.ifCond .eq 11, 3) := by decide +kernel
theorem d_Mo_code_29 : decode b_Mo_code 29 = .ok (.iload 4, 2) := by decide +kernel
theorem d_Mo_code_31 : decode b_Mo_code 31 = .ok (.invokestatic 53, 3) := by decide +kernel
theorem d_Mo_code_34 : decode b_Mo_code 34 = .ok (.ifCond .ne 9, 3) := by decide +kernel
theorem d_Mo_code_37 : decode b_Mo_code 37 = .ok (.aload_n 0, 1) := by decide +kernel
theorem d_Mo_code_38 : decode b_Mo_code 38 = .ok (.iconst 1, 1) := by decide +kernel
theorem d_Mo_code_39 : decode b_Mo_code 39 = .ok (.invokevirtual 57, 3) := by decide +kernel
theorem d_Mo_code_42 : decode b_Mo_code 42 = .ok (.ireturn, 1) := by decide +kernel
theorem d_Mo_code_43 : decode b_Mo_code 43 = .ok (.aload_n 0, 1) := by decide +kernel
theorem d_Mo_code_44 : decode b_Mo_code 44 = .ok (.getfield 61, 3) := by decide +kernel
theorem d_Mo_code_47 : decode b_Mo_code 47 = .ok (.bipush 40, 2) := by decide +kernel
theorem d_Mo_code_49 : decode b_Mo_code 49 = .ok (.if_icmp .ne 9, 3) := by decide +kernel
theorem d_Mo_code_52 : decode b_Mo_code 52 = .ok (.aload_n 0, 1) := by decide +kernel
theorem d_Mo_code_53 : decode b_Mo_code 53 = .ok (.iconst 2, 1) := by decide +kernel
theorem d_Mo_code_54 : decode b_Mo_code 54 = .ok (.invokevirtual 57, 3) := by decide +kernel
theorem d_Mo_code_57 : decode b_Mo_code 57 = .ok (.ireturn, 1) := by decide +kernel
theorem d_Mo_code_58 : decode b_Mo_code 58 = .ok (.aload_n 0, 1) := by decide +kernel
theorem d_Mo_code_59 : decode b_Mo_code 59 = .ok (.getfield 7, 3) := by decide +kernel
theorem d_Mo_code_62 : decode b_Mo_code 62 = .ok (.aload_n 0, 1) := by decide +kernel
theorem d_Mo_code_63 : decode b_Mo_code 63 = .ok (.getfield 61, 3) := by decide +kernel
theorem d_Mo_code_66 : decode b_Mo_code 66 = .ok (.iload_n 1, 1) := by decide +kernel
theorem d_Mo_code_67 : decode b_Mo_code 67 = .ok (.iastore, 1) := by decide +kernel
theorem d_Mo_code_68 : decode b_Mo_code 68 = .ok (.aload_n 0, 1) := by decide +kernel
theorem d_Mo_code_69 : decode b_Mo_code 69 = .ok (.getfield 13, 3) := by decide +kernel
theorem d_Mo_code_72 : decode b_Mo_code 72 = .ok (.aload_n 0, 1) := by decide +kernel
theorem d_Mo_code_73 : decode b_Mo_code 73 = .ok (.getfield 61, 3) := by decide +kernel
theorem d_Mo_code_76 : decode b_Mo_code 76 = .ok (.iload_n 2, 1) := by decide +kernel
theorem d_Mo_code_77 : decode b_Mo_code 77 = .ok (.iastore, 1) := by decide +kernel
theorem d_Mo_code_78 : decode b_Mo_code 78 = .ok (.aload_n 0, 1) := by decide +kernel
theorem d_Mo_code_79 : decode b_Mo_code 79 = .ok (.getfield 16, 3) := by decide +kernel
theorem d_Mo_code_82 : decode b_Mo_code 82 = .ok (.aload_n 0, 1) := by decide +kernel
theorem d_Mo_code_83 : decode b_Mo_code 83 = .ok (.getfield 61, 3) := by decide +kernel
theorem d_Mo_code_86 : decode b_Mo_code 86 = .ok (.iload_n 3, 1) := by decide +kernel
theorem d_Mo_code_87 : decode b_Mo_code 87 = .ok (.iastore, 1) := by decide +kernel
theorem d_Mo_code_88 : decode b_Mo_code 88 = .ok (.aload_n 0, 1) := by decide +kernel
theorem d_Mo_code_89 : decode b_Mo_code 89 = .ok (.getfield 19, 3) := by decide +kernel
theorem d_Mo_code_92 : decode b_Mo_code 92 = .ok (.aload_n 0, 1) := by decide +kernel
theorem d_Mo_code_93 : decode b_Mo_code 93 = .ok (.getfield 61, 3) := by decide +kernel
theorem d_Mo_code_96 : decode b_Mo_code 96 = .ok (.iload 4, 2) := by decide +kernel
theorem d_Mo_code_98 : decode b_Mo_code 98 = .ok (.iastore, 1) := by decide +kernel
theorem d_Mo_code_99 : decode b_Mo_code 99 = .ok (.aload_n 0, 1) := by decide +kernel
theorem d_Mo_code_100 : decode b_Mo_code 100 = .ok (.getfield 22, 3) := by decide +kernel
theorem d_Mo_code_103 : decode b_Mo_code 103 = .ok (.aload_n 0, 1) := by decide +kernel
theorem d_Mo_code_104 : decode b_Mo_code 104 = .ok (.getfield 61, 3) := by decide +kernel
theorem d_Mo_code_107 : decode b_Mo_code 107 = .ok (.iload 5, 2) := by decide +kernel
theorem d_Mo_code_109 : decode b_Mo_code 109 = .ok (.iastore, 1) := by decide +kernel
theorem d_Mo_code_110 : decode b_Mo_code 110 = .ok (.aload_n 0, 1) := by decide +kernel
theorem d_Mo_code_111 : decode b_Mo_code 111 = .ok (.dup, 1) := by decide +kernel
theorem d_Mo_code_112 : decode b_Mo_code 112 = .ok (.getfield 61, 3) := by decide +kernel
theorem d_Mo_code_115 : decode b_Mo_code 115 = .ok (.iconst 1, 1) := by decide +kernel
theorem d_Mo_code_116 : decode b_Mo_code 116 = .ok (.iadd, 1) := by decide +kernel
theorem d_Mo_code_117 : decode b_Mo_code 117 = .ok (.putfield 61, 3) := by decide +kernel
theorem d_Mo_code_120 : decode b_Mo_code 120 = .ok (.aload_n 0, 1) := by decide +kernel
theorem d_Mo_code_121 : decode b_Mo_code 121 = .ok (.iconst 0, 1) := by decide +kernel
theorem d_Mo_code_122 : decode b_Mo_code 122 = .ok (.putfield 64, 3) := by decide +kernel
theorem d_Mo_code_125 : decode b_Mo_code 125 = .ok (.aload_n 0, 1) := by decide +kernel
theorem d_Mo_code_126 : decode b_Mo_code 126 = .ok (.getfield 61, 3) := by decide +kernel
theorem d_Mo_code_129 : decode b_Mo_code 129 = .ok (.iconst 1, 1) := by decide +kernel
theorem d_Mo_code_130 : decode b_Mo_code 130 = .ok (.isub, 1) := by decide +kernel
theorem d_Mo_code_131 : decode b_Mo_code 131 = .ok (.ireturn, 1) := by decide +kernel
theorem d_Mo_isRegister_0 : decode b_Mo_isRegister 0 = .ok (.iload_n 0, 1) := by decide +kernel
theorem d_Mo_isRegister_1 : decode b_Mo_isRegister 1 = .ok (.ifCond .lt 13, 3) := by decide +kernel
theorem d_Mo_isRegister_4 : decode b_Mo_isRegister 4 = .ok (.iload_n 0, 1) := by decide +kernel
theorem d_Mo_isRegister_5 : decode b_Mo_isRegister 5 = .ok (.bipush 8, 2) := by decide +kernel
theorem d_Mo_isRegister_7 : decode b_Mo_isRegister 7 = .ok (.if_icmp .ge 7, 3) := by decide +kernel
theorem d_Mo_isRegister_10 : decode b_Mo_isRegister 10 = .ok (.iconst 1, 1) := by decide +kernel
theorem d_Mo_isRegister_11 : decode b_Mo_isRegister 11 = .ok (.goto 4, 3) := by decide +kernel
theorem d_Mo_isRegister_14 : decode b_Mo_isRegister 14 = .ok (.iconst 0, 1) := by decide +kernel
theorem d_Mo_isRegister_15 : decode b_Mo_isRegister 15 = .ok (.ireturn, 1) := by decide +kernel
theorem d_Mo_refuse_0 : decode b_Mo_refuse 0 = .ok (.aload_n 0, 1) := by decide +kernel
theorem d_Mo_refuse_1 : decode b_Mo_refuse 1 = .ok (.iload_n 1, 1) := by decide +kernel
theorem d_Mo_refuse_2 : decode b_Mo_refuse 2 = .ok (.putfield 49, 3) := by decide +kernel
theorem d_Mo_refuse_5 : decode b_Mo_refuse 5 = .ok (.iconst 0, 1) := by decide +kernel
theorem d_Mo_refuse_6 : decode b_Mo_refuse 6 = .ok (.ireturn, 1) := by decide +kernel
theorem d_Mo_clear_0 : decode b_Mo_clear 0 = .ok (.aload_n 0, 1) := by decide +kernel
theorem d_Mo_clear_1 : decode b_Mo_clear 1 = .ok (.iconst 0, 1) := by decide +kernel
theorem d_Mo_clear_2 : decode b_Mo_clear 2 = .ok (.putfield 49, 3) := by decide +kernel
theorem d_Mo_clear_5 : decode b_Mo_clear 5 = .ok (.aload_n 0, 1) := by decide +kernel
theorem d_Mo_clear_6 : decode b_Mo_clear 6 = .ok (.iconst 0, 1) := by decide +kernel
theorem d_Mo_clear_7 : decode b_Mo_clear 7 = .ok (.putfield 61, 3) := by decide +kernel
theorem d_Mo_clear_10 : decode b_Mo_clear 10 = .ok (.aload_n 0, 1) := by decide +kernel
theorem d_Mo_clear_11 : decode b_Mo_clear 11 = .ok (.iconst 0, 1) := by decide +kernel
theorem d_Mo_clear_12 : decode b_Mo_clear 12 = .ok (.putfield 64, 3) := by decide +kernel
theorem d_Mo_clear_15 : decode b_Mo_clear 15 = .ok (.return_, 1) := by decide +kernel
theorem d_Mo_rewrite_0 : decode b_Mo_rewrite 0 = .ok (.aload_n 0, 1) := by decide +kernel
theorem d_Mo_rewrite_1 : decode b_Mo_rewrite 1 = .ok (.aload_n 0, 1) := by decide +kernel
theorem d_Mo_rewrite_2 : decode b_Mo_rewrite 2 = .ok (.invokevirtual 76, 3) := by decide +kernel
theorem d_Mo_rewrite_5 : decode b_Mo_rewrite 5 = .ok (.ifCond .eq 7, 3) := by decide +kernel
theorem d_Mo_rewrite_8 : decode b_Mo_rewrite 8 = .ok (.iconst 0, 1) := by decide +kernel
theorem d_Mo_rewrite_9 : decode b_Mo_rewrite 9 = .ok (.goto 4, 3) := by decide +kernel
theorem d_Mo_rewrite_12 : decode b_Mo_rewrite 12 = .ok (.iconst 1, 1) := by decide +kernel
theorem d_Mo_rewrite_13 : decode b_Mo_rewrite 13 = .ok (.putfield 49, 3) := by decide +kernel
theorem d_Mo_rewrite_16 : decode b_Mo_rewrite 16 = .ok (.aload_n 0, 1) := by decide +kernel
theorem d_Mo_rewrite_17 : decode b_Mo_rewrite 17 = .ok (.getfield 49, 3) := by decide +kernel
theorem d_Mo_rewrite_20 : decode b_Mo_rewrite 20 = .ok (.ifCond .le 7, 3) := by decide +kernel
theorem d_Mo_rewrite_23 : decode b_Mo_rewrite 23 = .ok (.iconst 0, 1) := by decide +kernel
theorem d_Mo_rewrite_24 : decode b_Mo_rewrite 24 = .ok (.goto 11, 3) := by decide +kernel
theorem d_Mo_rewrite_27 : decode b_Mo_rewrite 27 = .ok (.aload_n 0, 1) := by decide +kernel
theorem d_Mo_rewrite_28 : decode b_Mo_rewrite 28 = .ok (.aload_n 0, 1) := by decide +kernel
theorem d_Mo_rewrite_29 : decode b_Mo_rewrite 29 = .ok (.getfield 61, 3) := by decide +kernel
theorem d_Mo_rewrite_32 : decode b_Mo_rewrite 32 = .ok (.invokevirtual 70, 3) := by decide +kernel
theorem d_Mo_rewrite_35 : decode b_Mo_rewrite 35 = .ok (.ireturn, 1) := by decide +kernel
theorem d_Mo_isSound_0 : decode b_Mo_isSound 0 = .ok (.iconst 1, 1) := by decide +kernel
theorem d_Mo_isSound_1 : decode b_Mo_isSound 1 = .ok (.istore_n 1, 1) := by decide +kernel
theorem d_Mo_isSound_2 : decode b_Mo_isSound 2 = .ok (.iconst 0, 1) := by decide +kernel
theorem d_Mo_isSound_3 : decode b_Mo_isSound 3 = .ok (.istore_n 2, 1) := by decide +kernel
theorem d_Mo_isSound_4 : decode b_Mo_isSound 4 = .ok (.iload_n 2, 1) := by decide +kernel
theorem d_Mo_isSound_5 : decode b_Mo_isSound 5 = .ok (.aload_n 0, 1) := by decide +kernel
theorem d_Mo_isSound_6 : decode b_Mo_isSound 6 = .ok (.getfield 61, 3) := by decide +kernel
theorem d_Mo_isSound_9 : decode b_Mo_isSound 9 = .ok (.if_icmp .ge 63, 3) := by decide +kernel
theorem d_Mo_isSound_12 : decode b_Mo_isSound 12 = .ok (.iload_n 1, 1) := by decide +kernel
theorem d_Mo_isSound_13 : decode b_Mo_isSound 13 = .ok (.ifCond .eq 51, 3) := by decide +kernel
theorem d_Mo_isSound_16 : decode b_Mo_isSound 16 = .ok (.aload_n 0, 1) := by decide +kernel
theorem d_Mo_isSound_17 : decode b_Mo_isSound 17 = .ok (.getfield 7, 3) := by decide +kernel
theorem d_Mo_isSound_20 : decode b_Mo_isSound 20 = .ok (.iload_n 2, 1) := by decide +kernel
theorem d_Mo_isSound_21 : decode b_Mo_isSound 21 = .ok (.iaload, 1) := by decide +kernel
theorem d_Mo_isSound_22 : decode b_Mo_isSound 22 = .ok (.bipush 10, 2) := by decide +kernel
theorem d_Mo_isSound_24 : decode b_Mo_isSound 24 = .ok (.if_icmp .eq 14, 3) := by decide +kernel
theorem d_Mo_isSound_27 : decode b_Mo_isSound 27 = .ok (.aload_n 0, 1) := by decide +kernel
theorem d_Mo_isSound_28 : decode b_Mo_isSound 28 = .ok (.getfield 7, 3) := by decide +kernel
theorem d_Mo_isSound_31 : decode b_Mo_isSound 31 = .ok (.iload_n 2, 1) := by decide +kernel
theorem d_Mo_isSound_32 : decode b_Mo_isSound 32 = .ok (.iaload, 1) := by decide +kernel
theorem d_Mo_isSound_33 : decode b_Mo_isSound 33 = .ok (.bipush 11, 2) := by decide +kernel
theorem d_Mo_isSound_35 : decode b_Mo_isSound 35 = .ok (.if_icmp .ne 25, 3) := by decide +kernel
theorem d_Mo_isSound_38 : decode b_Mo_isSound 38 = .ok (.aload_n 0, 1) := by decide +kernel
theorem d_Mo_isSound_39 : decode b_Mo_isSound 39 = .ok (.getfield 22, 3) := by decide +kernel
theorem d_Mo_isSound_42 : decode b_Mo_isSound 42 = .ok (.iload_n 2, 1) := by decide +kernel
theorem d_Mo_isSound_43 : decode b_Mo_isSound 43 = .ok (.iaload, 1) := by decide +kernel
theorem d_Mo_isSound_44 : decode b_Mo_isSound 44 = .ok (.ifCond .lt 20, 3) := by decide +kernel
theorem d_Mo_isSound_47 : decode b_Mo_isSound 47 = .ok (.aload_n 0, 1) := by decide +kernel
theorem d_Mo_isSound_48 : decode b_Mo_isSound 48 = .ok (.getfield 22, 3) := by decide +kernel
theorem d_Mo_isSound_51 : decode b_Mo_isSound 51 = .ok (.iload_n 2, 1) := by decide +kernel
theorem d_Mo_isSound_52 : decode b_Mo_isSound 52 = .ok (.iaload, 1) := by decide +kernel
theorem d_Mo_isSound_53 : decode b_Mo_isSound 53 = .ok (.aload_n 0, 1) := by decide +kernel
theorem d_Mo_isSound_54 : decode b_Mo_isSound 54 = .ok (.getfield 61, 3) := by decide +kernel
theorem d_Mo_isSound_57 : decode b_Mo_isSound 57 = .ok (.if_icmp .ge 7, 3) := by decide +kernel
theorem d_Mo_isSound_60 : decode b_Mo_isSound 60 = .ok (.iconst 1, 1) := by decide +kernel
theorem d_Mo_isSound_61 : decode b_Mo_isSound 61 = .ok (.goto 4, 3) := by decide +kernel
theorem d_Mo_isSound_64 : decode b_Mo_isSound 64 = .ok (.iconst 0, 1) := by decide +kernel
theorem d_Mo_isSound_65 : decode b_Mo_isSound 65 = .ok (.istore_n 1, 1) := by decide +kernel
theorem d_Mo_isSound_66 : decode b_Mo_isSound 66 = .ok (.iinc 2 1, 3) := by decide +kernel
theorem d_Mo_isSound_69 : decode b_Mo_isSound 69 = .ok (.goto (-65), 3) := by decide +kernel
theorem d_Mo_isSound_72 : decode b_Mo_isSound 72 = .ok (.iload_n 1, 1) := by decide +kernel
theorem d_Mo_isSound_73 : decode b_Mo_isSound 73 = .ok (.ireturn, 1) := by decide +kernel
theorem d_Mo_place_0 : decode b_Mo_place 0 = .ok (.iload_n 1, 1) := by decide +kernel
theorem d_Mo_place_1 : decode b_Mo_place 1 = .ok (.istore_n 2, 1) := by decide +kernel
theorem d_Mo_place_2 : decode b_Mo_place 2 = .ok (.iconst 0, 1) := by decide +kernel
theorem d_Mo_place_3 : decode b_Mo_place 3 = .ok (.istore_n 3, 1) := by decide +kernel
theorem d_Mo_place_4 : decode b_Mo_place 4 = .ok (.iload_n 3, 1) := by decide +kernel
theorem d_Mo_place_5 : decode b_Mo_place 5 = .ok (.iload_n 1, 1) := by decide +kernel
theorem d_Mo_place_6 : decode b_Mo_place 6 = .ok (.if_icmp .ge 25, 3) := by decide +kernel
theorem d_Mo_place_9 : decode b_Mo_place 9 = .ok (.iload_n 2, 1) := by decide +kernel
theorem d_Mo_place_10 : decode b_Mo_place 10 = .ok (.aload_n 0, 1) := by decide +kernel
theorem d_Mo_place_11 : decode b_Mo_place 11 = .ok (.iload_n 3, 1) := by decide +kernel
theorem d_Mo_place_12 : decode b_Mo_place 12 = .ok (.invokevirtual 67, 3) := by decide +kernel
theorem d_Mo_place_15 : decode b_Mo_place 15 = .ok (.ifCond .eq 7, 3) := by decide +kernel
theorem d_Mo_place_18 : decode b_Mo_place 18 = .ok (.iconst 1, 1) := by decide +kernel
theorem d_Mo_place_19 : decode b_Mo_place 19 = .ok (.goto 4, 3) := by decide +kernel
theorem d_Mo_place_22 : decode b_Mo_place 22 = .ok (.iconst 0, 1) := by decide +kernel
theorem d_Mo_place_23 : decode b_Mo_place 23 = .ok (.iadd, 1) := by decide +kernel
theorem d_Mo_place_24 : decode b_Mo_place 24 = .ok (.istore_n 2, 1) := by decide +kernel
theorem d_Mo_place_25 : decode b_Mo_place 25 = .ok (.iinc 3 1, 3) := by decide +kernel
theorem d_Mo_place_28 : decode b_Mo_place 28 = .ok (.goto (-24), 3) := by decide +kernel
theorem d_Mo_place_31 : decode b_Mo_place 31 = .ok (.iload_n 2, 1) := by decide +kernel
theorem d_Mo_place_32 : decode b_Mo_place 32 = .ok (.ireturn, 1) := by decide +kernel
theorem d_Mo_isChecked_0 : decode b_Mo_isChecked 0 = .ok (.aload_n 0, 1) := by decide +kernel
theorem d_Mo_isChecked_1 : decode b_Mo_isChecked 1 = .ok (.getfield 7, 3) := by decide +kernel
theorem d_Mo_isChecked_4 : decode b_Mo_isChecked 4 = .ok (.iload_n 1, 1) := by decide +kernel
theorem d_Mo_isChecked_5 : decode b_Mo_isChecked 5 = .ok (.iaload, 1) := by decide +kernel
theorem d_Mo_isChecked_6 : decode b_Mo_isChecked 6 = .ok (.iconst 4, 1) := by decide +kernel
theorem d_Mo_isChecked_7 : decode b_Mo_isChecked 7 = .ok (.if_icmp .le 18, 3) := by decide +kernel
theorem d_Mo_isChecked_10 : decode b_Mo_isChecked 10 = .ok (.aload_n 0, 1) := by decide +kernel
theorem d_Mo_isChecked_11 : decode b_Mo_isChecked 11 = .ok (.getfield 7, 3) := by decide +kernel
theorem d_Mo_isChecked_14 : decode b_Mo_isChecked 14 = .ok (.iload_n 1, 1) := by decide +kernel
theorem d_Mo_isChecked_15 : decode b_Mo_isChecked 15 = .ok (.iaload, 1) := by decide +kernel
theorem d_Mo_isChecked_16 : decode b_Mo_isChecked 16 = .ok (.bipush 10, 2) := by decide +kernel
theorem d_Mo_isChecked_18 : decode b_Mo_isChecked 18 = .ok (.if_icmp .ge 7, 3) := by decide +kernel
theorem d_Mo_isChecked_21 : decode b_Mo_isChecked 21 = .ok (.iconst 1, 1) := by decide +kernel
theorem d_Mo_isChecked_22 : decode b_Mo_isChecked 22 = .ok (.goto 4, 3) := by decide +kernel
theorem d_Mo_isChecked_25 : decode b_Mo_isChecked 25 = .ok (.iconst 0, 1) := by decide +kernel
theorem d_Mo_isChecked_26 : decode b_Mo_isChecked 26 = .ok (.ireturn, 1) := by decide +kernel
theorem d_Mo_rewritten_0 : decode b_Mo_rewritten 0 = .ok (.aload_n 0, 1) := by decide +kernel
theorem d_Mo_rewritten_1 : decode b_Mo_rewritten 1 = .ok (.aload_n 0, 1) := by decide +kernel
theorem d_Mo_rewritten_2 : decode b_Mo_rewritten 2 = .ok (.invokevirtual 76, 3) := by decide +kernel
theorem d_Mo_rewritten_5 : decode b_Mo_rewritten 5 = .ok (.ifCond .ne 7, 3) := by decide +kernel
theorem d_Mo_rewritten_8 : decode b_Mo_rewritten 8 = .ok (.iconst 1, 1) := by decide +kernel
theorem d_Mo_rewritten_9 : decode b_Mo_rewritten 9 = .ok (.goto 37, 3) := by decide +kernel
theorem d_Mo_rewritten_12 : decode b_Mo_rewritten 12 = .ok (.iload_n 1, 1) := by decide +kernel
theorem d_Mo_rewritten_13 : decode b_Mo_rewritten 13 = .ok (.ifCond .lt 15, 3) := by decide +kernel
theorem d_Mo_rewritten_16 : decode b_Mo_rewritten 16 = .ok (.iload_n 1, 1) := by decide +kernel
theorem d_Mo_rewritten_17 : decode b_Mo_rewritten 17 = .ok (.aload_n 0, 1) := by decide +kernel
theorem d_Mo_rewritten_18 : decode b_Mo_rewritten 18 = .ok (.aload_n 0, 1) := by decide +kernel
theorem d_Mo_rewritten_19 : decode b_Mo_rewritten 19 = .ok (.getfield 61, 3) := by decide +kernel
theorem d_Mo_rewritten_22 : decode b_Mo_rewritten 22 = .ok (.invokevirtual 70, 3) := by decide +kernel
theorem d_Mo_rewritten_25 : decode b_Mo_rewritten 25 = .ok (.if_icmp .lt 7, 3) := by decide +kernel
theorem d_Mo_rewritten_28 : decode b_Mo_rewritten 28 = .ok (.iconst 2, 1) := by decide +kernel
theorem d_Mo_rewritten_29 : decode b_Mo_rewritten 29 = .ok (.goto 17, 3) := by decide +kernel
theorem d_Mo_rewritten_32 : decode b_Mo_rewritten 32 = .ok (.iload_n 2, 1) := by decide +kernel
theorem d_Mo_rewritten_33 : decode b_Mo_rewritten 33 = .ok (.ifCond .lt 8, 3) := by decide +kernel
theorem d_Mo_rewritten_36 : decode b_Mo_rewritten 36 = .ok (.iload_n 2, 1) := by decide +kernel
theorem d_Mo_rewritten_37 : decode b_Mo_rewritten 37 = .ok (.iconst 2, 1) := by decide +kernel
theorem d_Mo_rewritten_38 : decode b_Mo_rewritten 38 = .ok (.if_icmp .le 7, 3) := by decide +kernel
theorem d_Mo_rewritten_41 : decode b_Mo_rewritten 41 = .ok (.iconst 3, 1) := by decide +kernel
theorem d_Mo_rewritten_42 : decode b_Mo_rewritten 42 = .ok (.goto 4, 3) := by decide +kernel
theorem d_Mo_rewritten_45 : decode b_Mo_rewritten 45 = .ok (.iconst 0, 1) := by decide +kernel
theorem d_Mo_rewritten_46 : decode b_Mo_rewritten 46 = .ok (.putfield 49, 3) := by decide +kernel
theorem d_Mo_rewritten_49 : decode b_Mo_rewritten 49 = .ok (.aload_n 0, 1) := by decide +kernel
theorem d_Mo_rewritten_50 : decode b_Mo_rewritten 50 = .ok (.getfield 49, 3) := by decide +kernel
theorem d_Mo_rewritten_53 : decode b_Mo_rewritten 53 = .ok (.ifCond .le 5, 3) := by decide +kernel
theorem d_Mo_rewritten_56 : decode b_Mo_rewritten 56 = .ok (.iconst 0, 1) := by decide +kernel
theorem d_Mo_rewritten_57 : decode b_Mo_rewritten 57 = .ok (.ireturn, 1) := by decide +kernel
theorem d_Mo_rewritten_58 : decode b_Mo_rewritten 58 = .ok (.aload_n 0, 1) := by decide +kernel
theorem d_Mo_rewritten_59 : decode b_Mo_rewritten 59 = .ok (.iload_n 1, 1) := by decide +kernel
theorem d_Mo_rewritten_60 : decode b_Mo_rewritten 60 = .ok (.invokevirtual 73, 3) := by decide +kernel
theorem d_Mo_rewritten_63 : decode b_Mo_rewritten 63 = .ok (.istore_n 3, 1) := by decide +kernel
theorem d_Mo_rewritten_64 : decode b_Mo_rewritten 64 = .ok (.aload_n 0, 1) := by decide +kernel
theorem d_Mo_rewritten_65 : decode b_Mo_rewritten 65 = .ok (.getfield 7, 3) := by decide +kernel
theorem d_Mo_rewritten_68 : decode b_Mo_rewritten 68 = .ok (.iload_n 3, 1) := by decide +kernel
theorem d_Mo_rewritten_69 : decode b_Mo_rewritten 69 = .ok (.iaload, 1) := by decide +kernel
theorem d_Mo_rewritten_70 : decode b_Mo_rewritten 70 = .ok (.istore 4, 2) := by decide +kernel
theorem d_Mo_rewritten_72 : decode b_Mo_rewritten 72 = .ok (.iload_n 2, 1) := by decide +kernel
theorem d_Mo_rewritten_73 : decode b_Mo_rewritten 73 = .ok (.iconst 1, 1) := by decide +kernel
theorem d_Mo_rewritten_74 : decode b_Mo_rewritten 74 = .ok (.if_icmp .ne 5, 3) := by decide +kernel
theorem d_Mo_rewritten_77 : decode b_Mo_rewritten 77 = .ok (.iload_n 3, 1) := by decide +kernel
theorem d_Mo_rewritten_78 : decode b_Mo_rewritten 78 = .ok (.ireturn, 1) := by decide +kernel
theorem d_Mo_rewritten_79 : decode b_Mo_rewritten 79 = .ok (.iload_n 2, 1) := by decide +kernel
theorem d_Mo_rewritten_80 : decode b_Mo_rewritten 80 = .ok (.ifCond .ne 30, 3) := by decide +kernel
theorem d_Mo_rewritten_83 : decode b_Mo_rewritten 83 = .ok (.aload_n 0, 1) := by decide +kernel
end
section
theorem d_Mo_rewritten_84 : decode b_Mo_rewritten 84 = .ok (.iload_n 1, 1) := by decide +kernel
theorem d_Mo_rewritten_85 : decode b_Mo_rewritten 85 = .ok (.invokevirtual 80, 3) := by decide +kernel
theorem d_Mo_rewritten_88 : decode b_Mo_rewritten 88 = .ok (.ifCond .ne 8, 3) := by decide +kernel
theorem d_Mo_rewritten_91 : decode b_Mo_rewritten 91 = .ok (.iload 4, 2) := by decide +kernel
theorem d_Mo_rewritten_93 : decode b_Mo_rewritten 93 = .ok (.goto 16, 3) := by decide +kernel
theorem d_Mo_rewritten_96 : decode b_Mo_rewritten 96 = .ok (.iload 4, 2) := by decide +kernel
theorem d_Mo_rewritten_98 : decode b_Mo_rewritten 98 = .ok (.iconst 5, 1) := by decide +kernel
theorem d_Mo_rewritten_99 : decode b_Mo_rewritten 99 = .ok (.if_icmp .ne 8, 3) := by decide +kernel
theorem d_Mo_rewritten_102 : decode b_Mo_rewritten 102 = .ok (.bipush 16, 2) := by decide +kernel
theorem d_Mo_rewritten_104 : decode b_Mo_rewritten 104 = .ok (.goto 5, 3) := by decide +kernel
theorem d_Mo_rewritten_107 : decode b_Mo_rewritten 107 = .ok (.bipush 15, 2) := by decide +kernel
theorem d_Mo_rewritten_109 : decode b_Mo_rewritten 109 = .ok (.ireturn, 1) := by decide +kernel
theorem d_Mo_rewritten_110 : decode b_Mo_rewritten 110 = .ok (.iload 4, 2) := by decide +kernel
theorem d_Mo_rewritten_112 : decode b_Mo_rewritten 112 = .ok (.bipush 10, 2) := by decide +kernel
theorem d_Mo_rewritten_114 : decode b_Mo_rewritten 114 = .ok (.if_icmp .eq 10, 3) := by decide +kernel
theorem d_Mo_rewritten_117 : decode b_Mo_rewritten 117 = .ok (.iload 4, 2) := by decide +kernel
theorem d_Mo_rewritten_119 : decode b_Mo_rewritten 119 = .ok (.bipush 11, 2) := by decide +kernel
theorem d_Mo_rewritten_121 : decode b_Mo_rewritten 121 = .ok (.if_icmp .ne 16, 3) := by decide +kernel
theorem d_Mo_rewritten_124 : decode b_Mo_rewritten 124 = .ok (.aload_n 0, 1) := by decide +kernel
theorem d_Mo_rewritten_125 : decode b_Mo_rewritten 125 = .ok (.aload_n 0, 1) := by decide +kernel
theorem d_Mo_rewritten_126 : decode b_Mo_rewritten 126 = .ok (.getfield 22, 3) := by decide +kernel
theorem d_Mo_rewritten_129 : decode b_Mo_rewritten 129 = .ok (.iload_n 3, 1) := by decide +kernel
theorem d_Mo_rewritten_130 : decode b_Mo_rewritten 130 = .ok (.iaload, 1) := by decide +kernel
theorem d_Mo_rewritten_131 : decode b_Mo_rewritten 131 = .ok (.invokevirtual 70, 3) := by decide +kernel
theorem d_Mo_rewritten_134 : decode b_Mo_rewritten 134 = .ok (.goto 9, 3) := by decide +kernel
theorem d_Mo_rewritten_137 : decode b_Mo_rewritten 137 = .ok (.aload_n 0, 1) := by decide +kernel
theorem d_Mo_rewritten_138 : decode b_Mo_rewritten 138 = .ok (.getfield 22, 3) := by decide +kernel
theorem d_Mo_rewritten_141 : decode b_Mo_rewritten 141 = .ok (.iload_n 3, 1) := by decide +kernel
theorem d_Mo_rewritten_142 : decode b_Mo_rewritten 142 = .ok (.iaload, 1) := by decide +kernel
theorem d_Mo_rewritten_143 : decode b_Mo_rewritten 143 = .ok (.ireturn, 1) := by decide +kernel
theorem d_Mo_instructionAt_0 : decode b_Mo_instructionAt 0 = .ok (.iconst 0, 1) := by decide +kernel
theorem d_Mo_instructionAt_1 : decode b_Mo_instructionAt 1 = .ok (.istore_n 2, 1) := by decide +kernel
theorem d_Mo_instructionAt_2 : decode b_Mo_instructionAt 2 = .ok (.aload_n 0, 1) := by decide +kernel
theorem d_Mo_instructionAt_3 : decode b_Mo_instructionAt 3 = .ok (.iload_n 2, 1) := by decide +kernel
theorem d_Mo_instructionAt_4 : decode b_Mo_instructionAt 4 = .ok (.iconst 1, 1) := by decide +kernel
theorem d_Mo_instructionAt_5 : decode b_Mo_instructionAt 5 = .ok (.iadd, 1) := by decide +kernel
theorem d_Mo_instructionAt_6 : decode b_Mo_instructionAt 6 = .ok (.invokevirtual 70, 3) := by decide +kernel
theorem d_Mo_instructionAt_9 : decode b_Mo_instructionAt 9 = .ok (.iload_n 1, 1) := by decide +kernel
theorem d_Mo_instructionAt_10 : decode b_Mo_instructionAt 10 = .ok (.if_icmp .gt 9, 3) := by decide +kernel
theorem d_Mo_instructionAt_13 : decode b_Mo_instructionAt 13 = .ok (.iinc 2 1, 3) := by decide +kernel
theorem d_Mo_instructionAt_16 : decode b_Mo_instructionAt 16 = .ok (.goto (-14), 3) := by decide +kernel
theorem d_Mo_instructionAt_19 : decode b_Mo_instructionAt 19 = .ok (.iload_n 2, 1) := by decide +kernel
theorem d_Mo_instructionAt_20 : decode b_Mo_instructionAt 20 = .ok (.ireturn, 1) := by decide +kernel
theorem d_Mo_isCheck_0 : decode b_Mo_isCheck 0 = .ok (.aload_n 0, 1) := by decide +kernel
theorem d_Mo_isCheck_1 : decode b_Mo_isCheck 1 = .ok (.iload_n 1, 1) := by decide +kernel
theorem d_Mo_isCheck_2 : decode b_Mo_isCheck 2 = .ok (.invokevirtual 73, 3) := by decide +kernel
theorem d_Mo_isCheck_5 : decode b_Mo_isCheck 5 = .ok (.istore_n 2, 1) := by decide +kernel
theorem d_Mo_isCheck_6 : decode b_Mo_isCheck 6 = .ok (.aload_n 0, 1) := by decide +kernel
theorem d_Mo_isCheck_7 : decode b_Mo_isCheck 7 = .ok (.iload_n 2, 1) := by decide +kernel
theorem d_Mo_isCheck_8 : decode b_Mo_isCheck 8 = .ok (.invokevirtual 67, 3) := by decide +kernel
theorem d_Mo_isCheck_11 : decode b_Mo_isCheck 11 = .ok (.ifCond .eq 16, 3) := by decide +kernel
theorem d_Mo_isCheck_14 : decode b_Mo_isCheck 14 = .ok (.iload_n 1, 1) := by decide +kernel
theorem d_Mo_isCheck_15 : decode b_Mo_isCheck 15 = .ok (.aload_n 0, 1) := by decide +kernel
theorem d_Mo_isCheck_16 : decode b_Mo_isCheck 16 = .ok (.iload_n 2, 1) := by decide +kernel
theorem d_Mo_isCheck_17 : decode b_Mo_isCheck 17 = .ok (.invokevirtual 70, 3) := by decide +kernel
theorem d_Mo_isCheck_20 : decode b_Mo_isCheck 20 = .ok (.if_icmp .ne 7, 3) := by decide +kernel
theorem d_Mo_isCheck_23 : decode b_Mo_isCheck 23 = .ok (.iconst 1, 1) := by decide +kernel
theorem d_Mo_isCheck_24 : decode b_Mo_isCheck 24 = .ok (.goto 4, 3) := by decide +kernel
theorem d_Mo_isCheck_27 : decode b_Mo_isCheck 27 = .ok (.iconst 0, 1) := by decide +kernel
theorem d_Mo_isCheck_28 : decode b_Mo_isCheck 28 = .ok (.ireturn, 1) := by decide +kernel
theorem d_Mo_start_0 : decode b_Mo_start 0 = .ok (.aload_n 0, 1) := by decide +kernel
theorem d_Mo_start_1 : decode b_Mo_start 1 = .ok (.aload_n 0, 1) := by decide +kernel
theorem d_Mo_start_2 : decode b_Mo_start 2 = .ok (.getfield 61, 3) := by decide +kernel
theorem d_Mo_start_5 : decode b_Mo_start 5 = .ok (.ifCond .le 14, 3) := by decide +kernel
theorem d_Mo_start_8 : decode b_Mo_start 8 = .ok (.aload_n 0, 1) := by decide +kernel
theorem d_Mo_start_9 : decode b_Mo_start 9 = .ok (.invokevirtual 76, 3) := by decide +kernel
theorem d_Mo_start_12 : decode b_Mo_start 12 = .ok (.ifCond .eq 7, 3) := by decide +kernel
theorem d_Mo_start_15 : decode b_Mo_start 15 = .ok (.iconst 0, 1) := by decide +kernel
theorem d_Mo_start_16 : decode b_Mo_start 16 = .ok (.goto 4, 3) := by decide +kernel
theorem d_Mo_start_19 : decode b_Mo_start 19 = .ok (.iconst 1, 1) := by decide +kernel
theorem d_Mo_start_20 : decode b_Mo_start 20 = .ok (.putfield 49, 3) := by decide +kernel
theorem d_Mo_start_23 : decode b_Mo_start 23 = .ok (.aload_n 0, 1) := by decide +kernel
theorem d_Mo_start_24 : decode b_Mo_start 24 = .ok (.getfield 49, 3) := by decide +kernel
theorem d_Mo_start_27 : decode b_Mo_start 27 = .ok (.ifCond .le 4, 3) := by decide +kernel
theorem d_Mo_start_30 : decode b_Mo_start 30 = .ok (.return_, 1) := by decide +kernel
theorem d_Mo_start_31 : decode b_Mo_start 31 = .ok (.aload_n 0, 1) := by decide +kernel
theorem d_Mo_start_32 : decode b_Mo_start 32 = .ok (.invokevirtual 46, 3) := by decide +kernel
theorem d_Mo_start_35 : decode b_Mo_start 35 = .ok (.aload_n 0, 1) := by decide +kernel
theorem d_Mo_start_36 : decode b_Mo_start 36 = .ok (.iconst 1, 1) := by decide +kernel
theorem d_Mo_start_37 : decode b_Mo_start 37 = .ok (.putfield 64, 3) := by decide +kernel
theorem d_Mo_start_40 : decode b_Mo_start 40 = .ok (.aload_n 0, 1) := by decide +kernel
theorem d_Mo_start_41 : decode b_Mo_start 41 = .ok (.iload_n 1, 1) := by decide +kernel
theorem d_Mo_start_42 : decode b_Mo_start 42 = .ok (.putfield 99, 3) := by decide +kernel
theorem d_Mo_start_45 : decode b_Mo_start 45 = .ok (.aload_n 0, 1) := by decide +kernel
theorem d_Mo_start_46 : decode b_Mo_start 46 = .ok (.iconst 0, 1) := by decide +kernel
theorem d_Mo_start_47 : decode b_Mo_start 47 = .ok (.putfield 103, 3) := by decide +kernel
theorem d_Mo_start_50 : decode b_Mo_start 50 = .ok (.aload_n 0, 1) := by decide +kernel
theorem d_Mo_start_51 : decode b_Mo_start 51 = .ok (.iconst 0, 1) := by decide +kernel
theorem d_Mo_start_52 : decode b_Mo_start 52 = .ok (.putfield 106, 3) := by decide +kernel
theorem d_Mo_start_55 : decode b_Mo_start 55 = .ok (.aload_n 0, 1) := by decide +kernel
theorem d_Mo_start_56 : decode b_Mo_start 56 = .ok (.iconst 0, 1) := by decide +kernel
theorem d_Mo_start_57 : decode b_Mo_start 57 = .ok (.putfield 109, 3) := by decide +kernel
theorem d_Mo_start_60 : decode b_Mo_start 60 = .ok (.iconst 0, 1) := by decide +kernel
theorem d_Mo_start_61 : decode b_Mo_start 61 = .ok (.istore 4, 2) := by decide +kernel
theorem d_Mo_start_63 : decode b_Mo_start 63 = .ok (.iload 4, 2) := by decide +kernel
theorem d_Mo_start_65 : decode b_Mo_start 65 = .ok (.bipush 8, 2) := by decide +kernel
theorem d_Mo_start_67 : decode b_Mo_start 67 = .ok (.if_icmp .ge 17, 3) := by decide +kernel
theorem d_Mo_start_70 : decode b_Mo_start 70 = .ok (.aload_n 0, 1) := by decide +kernel
theorem d_Mo_start_71 : decode b_Mo_start 71 = .ok (.getfield 40, 3) := by decide +kernel
theorem d_Mo_start_74 : decode b_Mo_start 74 = .ok (.iload 4, 2) := by decide +kernel
theorem d_Mo_start_76 : decode b_Mo_start 76 = .ok (.iconst 0, 1) := by decide +kernel
theorem d_Mo_start_77 : decode b_Mo_start 77 = .ok (.iastore, 1) := by decide +kernel
theorem d_Mo_start_78 : decode b_Mo_start 78 = .ok (.iinc 4 1, 3) := by decide +kernel
theorem d_Mo_start_81 : decode b_Mo_start 81 = .ok (.goto (-18), 3) := by decide +kernel
theorem d_Mo_start_84 : decode b_Mo_start 84 = .ok (.aload_n 0, 1) := by decide +kernel
theorem d_Mo_start_85 : decode b_Mo_start 85 = .ok (.getfield 40, 3) := by decide +kernel
theorem d_Mo_start_88 : decode b_Mo_start 88 = .ok (.iconst 0, 1) := by decide +kernel
theorem d_Mo_start_89 : decode b_Mo_start 89 = .ok (.iload_n 2, 1) := by decide +kernel
theorem d_Mo_start_90 : decode b_Mo_start 90 = .ok (.iastore, 1) := by decide +kernel
theorem d_Mo_start_91 : decode b_Mo_start 91 = .ok (.aload_n 0, 1) := by decide +kernel
theorem d_Mo_start_92 : decode b_Mo_start 92 = .ok (.getfield 40, 3) := by decide +kernel
theorem d_Mo_start_95 : decode b_Mo_start 95 = .ok (.iconst 1, 1) := by decide +kernel
theorem d_Mo_start_96 : decode b_Mo_start 96 = .ok (.iload_n 3, 1) := by decide +kernel
theorem d_Mo_start_97 : decode b_Mo_start 97 = .ok (.iastore, 1) := by decide +kernel
theorem d_Mo_start_98 : decode b_Mo_start 98 = .ok (.return_, 1) := by decide +kernel
theorem d_Mo_step_0 : decode b_Mo_step 0 = .ok (.aload_n 0, 1) := by decide +kernel
theorem d_Mo_step_1 : decode b_Mo_step 1 = .ok (.aload_n 0, 1) := by decide +kernel
theorem d_Mo_step_2 : decode b_Mo_step 2 = .ok (.getfield 64, 3) := by decide +kernel
theorem d_Mo_step_5 : decode b_Mo_step 5 = .ok (.ifCond .ne 7, 3) := by decide +kernel
theorem d_Mo_step_8 : decode b_Mo_step 8 = .ok (.iconst 1, 1) := by decide +kernel
theorem d_Mo_step_9 : decode b_Mo_step 9 = .ok (.goto 19, 3) := by decide +kernel
theorem d_Mo_step_12 : decode b_Mo_step 12 = .ok (.iload_n 1, 1) := by decide +kernel
theorem d_Mo_step_13 : decode b_Mo_step 13 = .ok (.ifCond .lt 10, 3) := by decide +kernel
theorem d_Mo_step_16 : decode b_Mo_step 16 = .ok (.iload_n 1, 1) := by decide +kernel
theorem d_Mo_step_17 : decode b_Mo_step 17 = .ok (.sipush 1000, 3) := by decide +kernel
theorem d_Mo_step_20 : decode b_Mo_step 20 = .ok (.if_icmp .le 7, 3) := by decide +kernel
theorem d_Mo_step_23 : decode b_Mo_step 23 = .ok (.iconst 2, 1) := by decide +kernel
theorem d_Mo_step_24 : decode b_Mo_step 24 = .ok (.goto 4, 3) := by decide +kernel
theorem d_Mo_step_27 : decode b_Mo_step 27 = .ok (.iconst 0, 1) := by decide +kernel
theorem d_Mo_step_28 : decode b_Mo_step 28 = .ok (.putfield 49, 3) := by decide +kernel
theorem d_Mo_step_31 : decode b_Mo_step 31 = .ok (.iconst 0, 1) := by decide +kernel
theorem d_Mo_step_32 : decode b_Mo_step 32 = .ok (.istore_n 2, 1) := by decide +kernel
theorem d_Mo_step_33 : decode b_Mo_step 33 = .ok (.aload_n 0, 1) := by decide +kernel
theorem d_Mo_step_34 : decode b_Mo_step 34 = .ok (.getfield 49, 3) := by decide +kernel
theorem d_Mo_step_37 : decode b_Mo_step 37 = .ok (.ifCond .ne 26, 3) := by decide +kernel
theorem d_Mo_step_40 : decode b_Mo_step 40 = .ok (.iload_n 2, 1) := by decide +kernel
theorem d_Mo_step_41 : decode b_Mo_step 41 = .ok (.iload_n 1, 1) := by decide +kernel
theorem d_Mo_step_42 : decode b_Mo_step 42 = .ok (.if_icmp .ge 21, 3) := by decide +kernel
theorem d_Mo_step_45 : decode b_Mo_step 45 = .ok (.aload_n 0, 1) := by decide +kernel
theorem d_Mo_step_46 : decode b_Mo_step 46 = .ok (.getfield 64, 3) := by decide +kernel
theorem d_Mo_step_49 : decode b_Mo_step 49 = .ok (.iconst 1, 1) := by decide +kernel
theorem d_Mo_step_50 : decode b_Mo_step 50 = .ok (.if_icmp .ne 13, 3) := by decide +kernel
theorem d_Mo_step_53 : decode b_Mo_step 53 = .ok (.aload_n 0, 1) := by decide +kernel
theorem d_Mo_step_54 : decode b_Mo_step 54 = .ok (.invokevirtual 150, 3) := by decide +kernel
theorem d_Mo_step_57 : decode b_Mo_step 57 = .ok (.iinc 2 1, 3) := by decide +kernel
theorem d_Mo_step_60 : decode b_Mo_step 60 = .ok (.goto (-27), 3) := by decide +kernel
theorem d_Mo_step_63 : decode b_Mo_step 63 = .ok (.iload_n 2, 1) := by decide +kernel
theorem d_Mo_step_64 : decode b_Mo_step 64 = .ok (.ireturn, 1) := by decide +kernel
theorem d_Mo_one_0 : decode b_Mo_one 0 = .ok (.aload_n 0, 1) := by decide +kernel
theorem d_Mo_one_1 : decode b_Mo_one 1 = .ok (.aload_n 0, 1) := by decide +kernel
theorem d_Mo_one_2 : decode b_Mo_one 2 = .ok (.getfield 103, 3) := by decide +kernel
theorem d_Mo_one_5 : decode b_Mo_one 5 = .ok (.putfield 106, 3) := by decide +kernel
theorem d_Mo_one_8 : decode b_Mo_one 8 = .ok (.aload_n 0, 1) := by decide +kernel
theorem d_Mo_one_9 : decode b_Mo_one 9 = .ok (.getfield 99, 3) := by decide +kernel
theorem d_Mo_one_12 : decode b_Mo_one 12 = .ok (.ifCond .eq 14, 3) := by decide +kernel
theorem d_Mo_one_15 : decode b_Mo_one 15 = .ok (.aload_n 0, 1) := by decide +kernel
theorem d_Mo_one_16 : decode b_Mo_one 16 = .ok (.aload_n 0, 1) := by decide +kernel
theorem d_Mo_one_17 : decode b_Mo_one 17 = .ok (.getfield 103, 3) := by decide +kernel
theorem d_Mo_one_20 : decode b_Mo_one 20 = .ok (.invokevirtual 73, 3) := by decide +kernel
theorem d_Mo_one_23 : decode b_Mo_one 23 = .ok (.goto 7, 3) := by decide +kernel
theorem d_Mo_one_26 : decode b_Mo_one 26 = .ok (.aload_n 0, 1) := by decide +kernel
theorem d_Mo_one_27 : decode b_Mo_one 27 = .ok (.getfield 103, 3) := by decide +kernel
theorem d_Mo_one_30 : decode b_Mo_one 30 = .ok (.istore_n 1, 1) := by decide +kernel
theorem d_Mo_one_31 : decode b_Mo_one 31 = .ok (.aload_n 0, 1) := by decide +kernel
theorem d_Mo_one_32 : decode b_Mo_one 32 = .ok (.getfield 99, 3) := by decide +kernel
theorem d_Mo_one_35 : decode b_Mo_one 35 = .ok (.ifCond .eq 30, 3) := by decide +kernel
theorem d_Mo_one_38 : decode b_Mo_one 38 = .ok (.aload_n 0, 1) := by decide +kernel
theorem d_Mo_one_39 : decode b_Mo_one 39 = .ok (.aload_n 0, 1) := by decide +kernel
theorem d_Mo_one_40 : decode b_Mo_one 40 = .ok (.getfield 103, 3) := by decide +kernel
theorem d_Mo_one_43 : decode b_Mo_one 43 = .ok (.invokevirtual 80, 3) := by decide +kernel
theorem d_Mo_one_46 : decode b_Mo_one 46 = .ok (.ifCond .eq 19, 3) := by decide +kernel
theorem d_Mo_one_49 : decode b_Mo_one 49 = .ok (.aload_n 0, 1) := by decide +kernel
theorem d_Mo_one_50 : decode b_Mo_one 50 = .ok (.iload_n 1, 1) := by decide +kernel
theorem d_Mo_one_51 : decode b_Mo_one 51 = .ok (.invokevirtual 144, 3) := by decide +kernel
theorem d_Mo_one_54 : decode b_Mo_one 54 = .ok (.aload_n 0, 1) := by decide +kernel
theorem d_Mo_one_55 : decode b_Mo_one 55 = .ok (.dup, 1) := by decide +kernel
theorem d_Mo_one_56 : decode b_Mo_one 56 = .ok (.getfield 103, 3) := by decide +kernel
theorem d_Mo_one_59 : decode b_Mo_one 59 = .ok (.iconst 1, 1) := by decide +kernel
theorem d_Mo_one_60 : decode b_Mo_one 60 = .ok (.iadd, 1) := by decide +kernel
theorem d_Mo_one_61 : decode b_Mo_one 61 = .ok (.putfield 103, 3) := by decide +kernel
theorem d_Mo_one_64 : decode b_Mo_one 64 = .ok (.return_, 1) := by decide +kernel
theorem d_Mo_one_65 : decode b_Mo_one 65 = .ok (.aload_n 0, 1) := by decide +kernel
theorem d_Mo_one_66 : decode b_Mo_one 66 = .ok (.iload_n 1, 1) := by decide +kernel
theorem d_Mo_one_67 : decode b_Mo_one 67 = .ok (.invokevirtual 147, 3) := by decide +kernel
theorem d_Mo_one_70 : decode b_Mo_one 70 = .ok (.istore_n 2, 1) := by decide +kernel
theorem d_Mo_one_71 : decode b_Mo_one 71 = .ok (.aload_n 0, 1) := by decide +kernel
theorem d_Mo_one_72 : decode b_Mo_one 72 = .ok (.aload_n 0, 1) := by decide +kernel
theorem d_Mo_one_73 : decode b_Mo_one 73 = .ok (.getfield 99, 3) := by decide +kernel
theorem d_Mo_one_76 : decode b_Mo_one 76 = .ok (.ifCond .eq 11, 3) := by decide +kernel
theorem d_Mo_one_79 : decode b_Mo_one 79 = .ok (.aload_n 0, 1) := by decide +kernel
theorem d_Mo_one_80 : decode b_Mo_one 80 = .ok (.iload_n 2, 1) := by decide +kernel
theorem d_Mo_one_81 : decode b_Mo_one 81 = .ok (.invokevirtual 70, 3) := by decide +kernel
theorem d_Mo_one_84 : decode b_Mo_one 84 = .ok (.goto 4, 3) := by decide +kernel
theorem d_Mo_one_87 : decode b_Mo_one 87 = .ok (.iload_n 2, 1) := by decide +kernel
theorem d_Mo_one_88 : decode b_Mo_one 88 = .ok (.putfield 103, 3) := by decide +kernel
theorem d_Mo_one_91 : decode b_Mo_one 91 = .ok (.aload_n 0, 1) := by decide +kernel
theorem d_Mo_one_92 : decode b_Mo_one 92 = .ok (.getfield 64, 3) := by decide +kernel
theorem d_Mo_one_95 : decode b_Mo_one 95 = .ok (.iconst 1, 1) := by decide +kernel
theorem d_Mo_one_96 : decode b_Mo_one 96 = .ok (.if_icmp .ne 16, 3) := by decide +kernel
theorem d_Mo_one_99 : decode b_Mo_one 99 = .ok (.iload_n 2, 1) := by decide +kernel
theorem d_Mo_one_100 : decode b_Mo_one 100 = .ok (.aload_n 0, 1) := by decide +kernel
theorem d_Mo_one_101 : decode b_Mo_one 101 = .ok (.getfield 61, 3) := by decide +kernel
theorem d_Mo_one_104 : decode b_Mo_one 104 = .ok (.if_icmp .ne 8, 3) := by decide +kernel
theorem d_Mo_one_107 : decode b_Mo_one 107 = .ok (.aload_n 0, 1) := by decide +kernel
theorem d_Mo_one_108 : decode b_Mo_one 108 = .ok (.iconst 2, 1) := by decide +kernel
theorem d_Mo_one_109 : decode b_Mo_one 109 = .ok (.putfield 64, 3) := by decide +kernel
theorem d_Mo_one_112 : decode b_Mo_one 112 = .ok (.return_, 1) := by decide +kernel
theorem d_Mo_check_0 : decode b_Mo_check 0 = .ok (.aload_n 0, 1) := by decide +kernel
theorem d_Mo_check_1 : decode b_Mo_check 1 = .ok (.getfield 40, 3) := by decide +kernel
theorem d_Mo_check_4 : decode b_Mo_check 4 = .ok (.aload_n 0, 1) := by decide +kernel
theorem d_Mo_check_5 : decode b_Mo_check 5 = .ok (.getfield 16, 3) := by decide +kernel
theorem d_Mo_check_8 : decode b_Mo_check 8 = .ok (.iload_n 1, 1) := by decide +kernel
theorem d_Mo_check_9 : decode b_Mo_check 9 = .ok (.iaload, 1) := by decide +kernel
theorem d_Mo_check_10 : decode b_Mo_check 10 = .ok (.iaload, 1) := by decide +kernel
theorem d_Mo_check_11 : decode b_Mo_check 11 = .ok (.istore_n 2, 1) := by decide +kernel
theorem d_Mo_check_12 : decode b_Mo_check 12 = .ok (.aload_n 0, 1) := by decide +kernel
theorem d_Mo_check_13 : decode b_Mo_check 13 = .ok (.getfield 7, 3) := by decide +kernel
theorem d_Mo_check_16 : decode b_Mo_check 16 = .ok (.iload_n 1, 1) := by decide +kernel
theorem d_Mo_check_17 : decode b_Mo_check 17 = .ok (.iaload, 1) := by decide +kernel
theorem d_Mo_check_18 : decode b_Mo_check 18 = .ok (.iconst 5, 1) := by decide +kernel
theorem d_Mo_check_19 : decode b_Mo_check 19 = .ok (.if_icmp .ne 23, 3) := by decide +kernel
theorem d_Mo_check_22 : decode b_Mo_check 22 = .ok (.iload_n 2, 1) := by decide +kernel
theorem d_Mo_check_23 : decode b_Mo_check 23 = .ok (.ifCond .eq 18, 3) := by decide +kernel
theorem d_Mo_check_26 : decode b_Mo_check 26 = .ok (.aload_n 0, 1) := by decide +kernel
theorem d_Mo_check_27 : decode b_Mo_check 27 = .ok (.iload_n 2, 1) := by decide +kernel
theorem d_Mo_check_28 : decode b_Mo_check 28 = .ok (.invokevirtual 121, 3) := by decide +kernel
theorem d_Mo_check_31 : decode b_Mo_check 31 = .ok (.ifCond .ne 10, 3) := by decide +kernel
theorem d_Mo_check_34 : decode b_Mo_check 34 = .ok (.aload_n 0, 1) := by decide +kernel
theorem d_Mo_check_35 : decode b_Mo_check 35 = .ok (.iconst 4, 1) := by decide +kernel
theorem d_Mo_check_36 : decode b_Mo_check 36 = .ok (.iload_n 2, 1) := by decide +kernel
theorem d_Mo_check_37 : decode b_Mo_check 37 = .ok (.iload_n 1, 1) := by decide +kernel
theorem d_Mo_check_38 : decode b_Mo_check 38 = .ok (.invokevirtual 124, 3) := by decide +kernel
theorem d_Mo_check_41 : decode b_Mo_check 41 = .ok (.return_, 1) := by decide +kernel
theorem d_Mo_check_42 : decode b_Mo_check 42 = .ok (.aload_n 0, 1) := by decide +kernel
theorem d_Mo_check_43 : decode b_Mo_check 43 = .ok (.getfield 7, 3) := by decide +kernel
theorem d_Mo_check_46 : decode b_Mo_check 46 = .ok (.iload_n 1, 1) := by decide +kernel
theorem d_Mo_check_47 : decode b_Mo_check 47 = .ok (.iaload, 1) := by decide +kernel
theorem d_Mo_check_48 : decode b_Mo_check 48 = .ok (.iconst 2, 1) := by decide +kernel
theorem d_Mo_check_49 : decode b_Mo_check 49 = .ok (.irem, 1) := by decide +kernel
theorem d_Mo_check_50 : decode b_Mo_check 50 = .ok (.ifCond .ne 7, 3) := by decide +kernel
theorem d_Mo_check_53 : decode b_Mo_check 53 = .ok (.iconst 1, 1) := by decide +kernel
theorem d_Mo_check_54 : decode b_Mo_check 54 = .ok (.goto 4, 3) := by decide +kernel
theorem d_Mo_check_57 : decode b_Mo_check 57 = .ok (.iconst 4, 1) := by decide +kernel
theorem d_Mo_check_58 : decode b_Mo_check 58 = .ok (.istore_n 3, 1) := by decide +kernel
theorem d_Mo_check_59 : decode b_Mo_check 59 = .ok (.iload_n 3, 1) := by decide +kernel
theorem d_Mo_check_60 : decode b_Mo_check 60 = .ok (.iconst 1, 1) := by decide +kernel
theorem d_Mo_check_61 : decode b_Mo_check 61 = .ok (.isub, 1) := by decide +kernel
theorem d_Mo_check_62 : decode b_Mo_check 62 = .ok (.istore 4, 2) := by decide +kernel
theorem d_Mo_check_64 : decode b_Mo_check 64 = .ok (.iload 4, 2) := by decide +kernel
theorem d_Mo_check_66 : decode b_Mo_check 66 = .ok (.ifCond .lt 44, 3) := by decide +kernel
theorem d_Mo_check_69 : decode b_Mo_check 69 = .ok (.iload_n 2, 1) := by decide +kernel
theorem d_Mo_check_70 : decode b_Mo_check 70 = .ok (.aload_n 0, 1) := by decide +kernel
theorem d_Mo_check_71 : decode b_Mo_check 71 = .ok (.getfield 22, 3) := by decide +kernel
theorem d_Mo_check_74 : decode b_Mo_check 74 = .ok (.iload_n 1, 1) := by decide +kernel
theorem d_Mo_check_75 : decode b_Mo_check 75 = .ok (.iaload, 1) := by decide +kernel
theorem d_Mo_check_76 : decode b_Mo_check 76 = .ok (.iadd, 1) := by decide +kernel
theorem d_Mo_check_77 : decode b_Mo_check 77 = .ok (.iload 4, 2) := by decide +kernel
theorem d_Mo_check_79 : decode b_Mo_check 79 = .ok (.iadd, 1) := by decide +kernel
theorem d_Mo_check_80 : decode b_Mo_check 80 = .ok (.istore 5, 2) := by decide +kernel
theorem d_Mo_check_82 : decode b_Mo_check 82 = .ok (.aload_n 0, 1) := by decide +kernel
theorem d_Mo_check_83 : decode b_Mo_check 83 = .ok (.iload 5, 2) := by decide +kernel
theorem d_Mo_check_85 : decode b_Mo_check 85 = .ok (.invokevirtual 128, 3) := by decide +kernel
theorem d_Mo_check_88 : decode b_Mo_check 88 = .ok (.ifCond .le 16, 3) := by decide +kernel
theorem d_Mo_check_91 : decode b_Mo_check 91 = .ok (.aload_n 0, 1) := by decide +kernel
theorem d_Mo_check_92 : decode b_Mo_check 92 = .ok (.aload_n 0, 1) := by decide +kernel
theorem d_Mo_check_93 : decode b_Mo_check 93 = .ok (.iload 5, 2) := by decide +kernel
theorem d_Mo_check_95 : decode b_Mo_check 95 = .ok (.invokevirtual 128, 3) := by decide +kernel
theorem d_Mo_check_98 : decode b_Mo_check 98 = .ok (.iload 5, 2) := by decide +kernel
theorem d_Mo_check_100 : decode b_Mo_check 100 = .ok (.iload_n 1, 1) := by decide +kernel
theorem d_Mo_check_101 : decode b_Mo_check 101 = .ok (.invokevirtual 124, 3) := by decide +kernel
theorem d_Mo_check_104 : decode b_Mo_check 104 = .ok (.iinc 4 (-1), 3) := by decide +kernel
theorem d_Mo_check_107 : decode b_Mo_check 107 = .ok (.goto (-43), 3) := by decide +kernel
theorem d_Mo_check_110 : decode b_Mo_check 110 = .ok (.return_, 1) := by decide +kernel
theorem d_Mo_isBlock_0 : decode b_Mo_isBlock 0 = .ok (.iload_n 1, 1) := by decide +kernel
theorem d_Mo_isBlock_1 : decode b_Mo_isBlock 1 = .ok (.bipush 8, 2) := by decide +kernel
theorem d_Mo_isBlock_3 : decode b_Mo_isBlock 3 = .ok (.idiv, 1) := by decide +kernel
theorem d_Mo_isBlock_4 : decode b_Mo_isBlock 4 = .ok (.iconst 1, 1) := by decide +kernel
theorem d_Mo_isBlock_5 : decode b_Mo_isBlock 5 = .ok (.isub, 1) := by decide +kernel
theorem d_Mo_isBlock_6 : decode b_Mo_isBlock 6 = .ok (.istore_n 2, 1) := by decide +kernel
theorem d_Mo_isBlock_7 : decode b_Mo_isBlock 7 = .ok (.iload_n 1, 1) := by decide +kernel
theorem d_Mo_isBlock_8 : decode b_Mo_isBlock 8 = .ok (.ifCond .le 40, 3) := by decide +kernel
theorem d_Mo_isBlock_11 : decode b_Mo_isBlock 11 = .ok (.iload_n 1, 1) := by decide +kernel
theorem d_Mo_isBlock_12 : decode b_Mo_isBlock 12 = .ok (.sipush 512, 3) := by decide +kernel
theorem d_Mo_isBlock_15 : decode b_Mo_isBlock 15 = .ok (.if_icmp .ge 33, 3) := by decide +kernel
theorem d_Mo_isBlock_18 : decode b_Mo_isBlock 18 = .ok (.iload_n 1, 1) := by decide +kernel
theorem d_Mo_isBlock_19 : decode b_Mo_isBlock 19 = .ok (.bipush 8, 2) := by decide +kernel
theorem d_Mo_isBlock_21 : decode b_Mo_isBlock 21 = .ok (.irem, 1) := by decide +kernel
theorem d_Mo_isBlock_22 : decode b_Mo_isBlock 22 = .ok (.ifCond .ne 26, 3) := by decide +kernel
theorem d_Mo_isBlock_25 : decode b_Mo_isBlock 25 = .ok (.aload_n 0, 1) := by decide +kernel
theorem d_Mo_isBlock_26 : decode b_Mo_isBlock 26 = .ok (.getfield 34, 3) := by decide +kernel
theorem d_Mo_isBlock_29 : decode b_Mo_isBlock 29 = .ok (.iload_n 2, 1) := by decide +kernel
theorem d_Mo_isBlock_30 : decode b_Mo_isBlock 30 = .ok (.iaload, 1) := by decide +kernel
theorem d_Mo_isBlock_31 : decode b_Mo_isBlock 31 = .ok (.ifCond .le 17, 3) := by decide +kernel
theorem d_Mo_isBlock_34 : decode b_Mo_isBlock 34 = .ok (.aload_n 0, 1) := by decide +kernel
theorem d_Mo_isBlock_35 : decode b_Mo_isBlock 35 = .ok (.getfield 31, 3) := by decide +kernel
theorem d_Mo_isBlock_38 : decode b_Mo_isBlock 38 = .ok (.iload_n 2, 1) := by decide +kernel
theorem d_Mo_isBlock_39 : decode b_Mo_isBlock 39 = .ok (.iaload, 1) := by decide +kernel
theorem d_Mo_isBlock_40 : decode b_Mo_isBlock 40 = .ok (.iconst 1, 1) := by decide +kernel
theorem d_Mo_isBlock_41 : decode b_Mo_isBlock 41 = .ok (.if_icmp .ne 7, 3) := by decide +kernel
theorem d_Mo_isBlock_44 : decode b_Mo_isBlock 44 = .ok (.iconst 1, 1) := by decide +kernel
theorem d_Mo_isBlock_45 : decode b_Mo_isBlock 45 = .ok (.goto 4, 3) := by decide +kernel
theorem d_Mo_isBlock_48 : decode b_Mo_isBlock 48 = .ok (.iconst 0, 1) := by decide +kernel
theorem d_Mo_isBlock_49 : decode b_Mo_isBlock 49 = .ok (.ireturn, 1) := by decide +kernel
theorem d_Mo_tell_0 : decode b_Mo_tell 0 = .ok (.aload_n 0, 1) := by decide +kernel
theorem d_Mo_tell_1 : decode b_Mo_tell 1 = .ok (.iconst 3, 1) := by decide +kernel
theorem d_Mo_tell_2 : decode b_Mo_tell 2 = .ok (.putfield 64, 3) := by decide +kernel
theorem d_Mo_tell_5 : decode b_Mo_tell 5 = .ok (.aload_n 0, 1) := by decide +kernel
theorem d_Mo_tell_6 : decode b_Mo_tell 6 = .ok (.iload_n 1, 1) := by decide +kernel
theorem d_Mo_tell_7 : decode b_Mo_tell 7 = .ok (.putfield 112, 3) := by decide +kernel
theorem d_Mo_tell_10 : decode b_Mo_tell 10 = .ok (.aload_n 0, 1) := by decide +kernel
theorem d_Mo_tell_11 : decode b_Mo_tell 11 = .ok (.iload_n 2, 1) := by decide +kernel
theorem d_Mo_tell_12 : decode b_Mo_tell 12 = .ok (.putfield 115, 3) := by decide +kernel
theorem d_Mo_tell_15 : decode b_Mo_tell 15 = .ok (.aload_n 0, 1) := by decide +kernel
theorem d_Mo_tell_16 : decode b_Mo_tell 16 = .ok (.iload_n 3, 1) := by decide +kernel
theorem d_Mo_tell_17 : decode b_Mo_tell 17 = .ok (.putfield 118, 3) := by decide +kernel
theorem d_Mo_tell_20 : decode b_Mo_tell 20 = .ok (.return_, 1) := by decide +kernel
theorem d_Mo_wrongByte_0 : decode b_Mo_wrongByte 0 = .ok (.iload_n 1, 1) := by decide +kernel
theorem d_Mo_wrongByte_1 : decode b_Mo_wrongByte 1 = .ok (.invokestatic 96, 3) := by decide +kernel
theorem d_Mo_wrongByte_4 : decode b_Mo_wrongByte 4 = .ok (.ifCond .ne 5, 3) := by decide +kernel
theorem d_Mo_wrongByte_7 : decode b_Mo_wrongByte 7 = .ok (.iconst 5, 1) := by decide +kernel
theorem d_Mo_wrongByte_8 : decode b_Mo_wrongByte 8 = .ok (.ireturn, 1) := by decide +kernel
theorem d_Mo_wrongByte_9 : decode b_Mo_wrongByte 9 = .ok (.aload_n 0, 1) := by decide +kernel
theorem d_Mo_wrongByte_10 : decode b_Mo_wrongByte 10 = .ok (.getfield 28, 3) := by decide +kernel
theorem d_Mo_wrongByte_13 : decode b_Mo_wrongByte 13 = .ok (.iload_n 1, 1) := by decide +kernel
theorem d_Mo_wrongByte_14 : decode b_Mo_wrongByte 14 = .ok (.bipush 8, 2) := by decide +kernel
theorem d_Mo_wrongByte_16 : decode b_Mo_wrongByte 16 = .ok (.idiv, 1) := by decide +kernel
theorem d_Mo_wrongByte_17 : decode b_Mo_wrongByte 17 = .ok (.iaload, 1) := by decide +kernel
theorem d_Mo_wrongByte_18 : decode b_Mo_wrongByte 18 = .ok (.istore_n 2, 1) := by decide +kernel
theorem d_Mo_wrongByte_19 : decode b_Mo_wrongByte 19 = .ok (.iload_n 2, 1) := by decide +kernel
theorem d_Mo_wrongByte_20 : decode b_Mo_wrongByte 20 = .ok (.ifCond .eq 15, 3) := by decide +kernel
theorem d_Mo_wrongByte_23 : decode b_Mo_wrongByte 23 = .ok (.iload_n 2, 1) := by decide +kernel
theorem d_Mo_wrongByte_24 : decode b_Mo_wrongByte 24 = .ok (.ifCond .le 15, 3) := by decide +kernel
theorem d_Mo_wrongByte_27 : decode b_Mo_wrongByte 27 = .ok (.iload_n 1, 1) := by decide +kernel
theorem d_Mo_wrongByte_28 : decode b_Mo_wrongByte 28 = .ok (.bipush 8, 2) := by decide +kernel
theorem d_Mo_wrongByte_30 : decode b_Mo_wrongByte 30 = .ok (.irem, 1) := by decide +kernel
theorem d_Mo_wrongByte_31 : decode b_Mo_wrongByte 31 = .ok (.iload_n 2, 1) := by decide +kernel
theorem d_Mo_wrongByte_32 : decode b_Mo_wrongByte 32 = .ok (.if_icmp .ge 7, 3) := by decide +kernel
theorem d_Mo_wrongByte_35 : decode b_Mo_wrongByte 35 = .ok (.iconst 0, 1) := by decide +kernel
theorem d_Mo_wrongByte_36 : decode b_Mo_wrongByte 36 = .ok (.goto 24, 3) := by decide +kernel
theorem d_Mo_wrongByte_39 : decode b_Mo_wrongByte 39 = .ok (.iload_n 2, 1) := by decide +kernel
theorem d_Mo_wrongByte_40 : decode b_Mo_wrongByte 40 = .ok (.bipush (-2), 2) := by decide +kernel
theorem d_Mo_wrongByte_42 : decode b_Mo_wrongByte 42 = .ok (.if_icmp .ne 7, 3) := by decide +kernel
theorem d_Mo_wrongByte_45 : decode b_Mo_wrongByte 45 = .ok (.iconst 2, 1) := by decide +kernel
theorem d_Mo_wrongByte_46 : decode b_Mo_wrongByte 46 = .ok (.goto 14, 3) := by decide +kernel
theorem d_Mo_wrongByte_49 : decode b_Mo_wrongByte 49 = .ok (.iload_n 2, 1) := by decide +kernel
theorem d_Mo_wrongByte_50 : decode b_Mo_wrongByte 50 = .ok (.bipush (-3), 2) := by decide +kernel
theorem d_Mo_wrongByte_52 : decode b_Mo_wrongByte 52 = .ok (.if_icmp .ne 7, 3) := by decide +kernel
theorem d_Mo_wrongByte_55 : decode b_Mo_wrongByte 55 = .ok (.iconst 3, 1) := by decide +kernel
theorem d_Mo_wrongByte_56 : decode b_Mo_wrongByte 56 = .ok (.goto 4, 3) := by decide +kernel
theorem d_Mo_wrongByte_59 : decode b_Mo_wrongByte 59 = .ok (.iconst 1, 1) := by decide +kernel
theorem d_Mo_wrongByte_60 : decode b_Mo_wrongByte 60 = .ok (.ireturn, 1) := by decide +kernel
theorem d_Mo_isIn_0 : decode b_Mo_isIn 0 = .ok (.iload_n 0, 1) := by decide +kernel
theorem d_Mo_isIn_1 : decode b_Mo_isIn 1 = .ok (.ifCond .lt 14, 3) := by decide +kernel
theorem d_Mo_isIn_4 : decode b_Mo_isIn 4 = .ok (.iload_n 0, 1) := by decide +kernel
theorem d_Mo_isIn_5 : decode b_Mo_isIn 5 = .ok (.sipush 512, 3) := by decide +kernel
theorem d_Mo_isIn_8 : decode b_Mo_isIn 8 = .ok (.if_icmp .ge 7, 3) := by decide +kernel
theorem d_Mo_isIn_11 : decode b_Mo_isIn 11 = .ok (.iconst 1, 1) := by decide +kernel
theorem d_Mo_isIn_12 : decode b_Mo_isIn 12 = .ok (.goto 4, 3) := by decide +kernel
theorem d_Mo_isIn_15 : decode b_Mo_isIn 15 = .ok (.iconst 0, 1) := by decide +kernel
theorem d_Mo_isIn_16 : decode b_Mo_isIn 16 = .ok (.ireturn, 1) := by decide +kernel
theorem d_Mo_perform_0 : decode b_Mo_perform 0 = .ok (.aload_n 0, 1) := by decide +kernel
theorem d_Mo_perform_1 : decode b_Mo_perform 1 = .ok (.getfield 40, 3) := by decide +kernel
theorem d_Mo_perform_4 : decode b_Mo_perform 4 = .ok (.aload_n 0, 1) := by decide +kernel
theorem d_Mo_perform_5 : decode b_Mo_perform 5 = .ok (.getfield 16, 3) := by decide +kernel
theorem d_Mo_perform_8 : decode b_Mo_perform 8 = .ok (.iload_n 1, 1) := by decide +kernel
theorem d_Mo_perform_9 : decode b_Mo_perform 9 = .ok (.iaload, 1) := by decide +kernel
theorem d_Mo_perform_10 : decode b_Mo_perform 10 = .ok (.iaload, 1) := by decide +kernel
theorem d_Mo_perform_11 : decode b_Mo_perform 11 = .ok (.istore_n 2, 1) := by decide +kernel
end
section
theorem d_Mo_perform_12 : decode b_Mo_perform 12 = .ok (.aload_n 0, 1) := by decide +kernel
theorem d_Mo_perform_13 : decode b_Mo_perform 13 = .ok (.getfield 40, 3) := by decide +kernel
theorem d_Mo_perform_16 : decode b_Mo_perform 16 = .ok (.aload_n 0, 1) := by decide +kernel
theorem d_Mo_perform_17 : decode b_Mo_perform 17 = .ok (.getfield 19, 3) := by decide +kernel
theorem d_Mo_perform_20 : decode b_Mo_perform 20 = .ok (.iload_n 1, 1) := by decide +kernel
theorem d_Mo_perform_21 : decode b_Mo_perform 21 = .ok (.iaload, 1) := by decide +kernel
theorem d_Mo_perform_22 : decode b_Mo_perform 22 = .ok (.iaload, 1) := by decide +kernel
theorem d_Mo_perform_23 : decode b_Mo_perform 23 = .ok (.istore_n 3, 1) := by decide +kernel
theorem d_Mo_perform_24 : decode b_Mo_perform 24 = .ok (.aload_n 0, 1) := by decide +kernel
theorem d_Mo_perform_25 : decode b_Mo_perform 25 = .ok (.getfield 13, 3) := by decide +kernel
theorem d_Mo_perform_28 : decode b_Mo_perform 28 = .ok (.iload_n 1, 1) := by decide +kernel
theorem d_Mo_perform_29 : decode b_Mo_perform 29 = .ok (.iaload, 1) := by decide +kernel
theorem d_Mo_perform_30 : decode b_Mo_perform 30 = .ok (.istore 4, 2) := by decide +kernel
theorem d_Mo_perform_32 : decode b_Mo_perform 32 = .ok (.aload_n 0, 1) := by decide +kernel
theorem d_Mo_perform_33 : decode b_Mo_perform 33 = .ok (.getfield 22, 3) := by decide +kernel
theorem d_Mo_perform_36 : decode b_Mo_perform 36 = .ok (.iload_n 1, 1) := by decide +kernel
theorem d_Mo_perform_37 : decode b_Mo_perform 37 = .ok (.iaload, 1) := by decide +kernel
theorem d_Mo_perform_38 : decode b_Mo_perform 38 = .ok (.istore 5, 2) := by decide +kernel
theorem d_Mo_perform_40 : decode b_Mo_perform 40 = .ok (.aload_n 0, 1) := by decide +kernel
theorem d_Mo_perform_41 : decode b_Mo_perform 41 = .ok (.getfield 7, 3) := by decide +kernel
theorem d_Mo_perform_44 : decode b_Mo_perform 44 = .ok (.iload_n 1, 1) := by decide +kernel
theorem d_Mo_perform_45 : decode b_Mo_perform 45 = .ok (.iaload, 1) := by decide +kernel
theorem d_Mo_perform_46 : decode b_Mo_perform 46 = .ok (.tableswitch 245 0 13 #[70, 82, 95, 108, 121, 136, 164, 164, 164, 164, 172, 185, 199, 231], 70) := by decide +kernel
theorem d_Mo_perform_116 : decode b_Mo_perform 116 = .ok (.aload_n 0, 1) := by decide +kernel
theorem d_Mo_perform_117 : decode b_Mo_perform 117 = .ok (.getfield 40, 3) := by decide +kernel
theorem d_Mo_perform_120 : decode b_Mo_perform 120 = .ok (.iload 4, 2) := by decide +kernel
theorem d_Mo_perform_122 : decode b_Mo_perform 122 = .ok (.iload 5, 2) := by decide +kernel
theorem d_Mo_perform_124 : decode b_Mo_perform 124 = .ok (.iastore, 1) := by decide +kernel
theorem d_Mo_perform_125 : decode b_Mo_perform 125 = .ok (.goto 171, 3) := by decide +kernel
theorem d_Mo_perform_128 : decode b_Mo_perform 128 = .ok (.aload_n 0, 1) := by decide +kernel
theorem d_Mo_perform_129 : decode b_Mo_perform 129 = .ok (.getfield 40, 3) := by decide +kernel
theorem d_Mo_perform_132 : decode b_Mo_perform 132 = .ok (.iload 4, 2) := by decide +kernel
theorem d_Mo_perform_134 : decode b_Mo_perform 134 = .ok (.iload_n 2, 1) := by decide +kernel
theorem d_Mo_perform_135 : decode b_Mo_perform 135 = .ok (.iload_n 3, 1) := by decide +kernel
theorem d_Mo_perform_136 : decode b_Mo_perform 136 = .ok (.iadd, 1) := by decide +kernel
theorem d_Mo_perform_137 : decode b_Mo_perform 137 = .ok (.iastore, 1) := by decide +kernel
theorem d_Mo_perform_138 : decode b_Mo_perform 138 = .ok (.goto 158, 3) := by decide +kernel
theorem d_Mo_perform_141 : decode b_Mo_perform 141 = .ok (.aload_n 0, 1) := by decide +kernel
theorem d_Mo_perform_142 : decode b_Mo_perform 142 = .ok (.getfield 40, 3) := by decide +kernel
theorem d_Mo_perform_145 : decode b_Mo_perform 145 = .ok (.iload 4, 2) := by decide +kernel
theorem d_Mo_perform_147 : decode b_Mo_perform 147 = .ok (.iload_n 2, 1) := by decide +kernel
theorem d_Mo_perform_148 : decode b_Mo_perform 148 = .ok (.iload_n 3, 1) := by decide +kernel
theorem d_Mo_perform_149 : decode b_Mo_perform 149 = .ok (.isub, 1) := by decide +kernel
theorem d_Mo_perform_150 : decode b_Mo_perform 150 = .ok (.iastore, 1) := by decide +kernel
theorem d_Mo_perform_151 : decode b_Mo_perform 151 = .ok (.goto 145, 3) := by decide +kernel
theorem d_Mo_perform_154 : decode b_Mo_perform 154 = .ok (.aload_n 0, 1) := by decide +kernel
theorem d_Mo_perform_155 : decode b_Mo_perform 155 = .ok (.getfield 40, 3) := by decide +kernel
theorem d_Mo_perform_158 : decode b_Mo_perform 158 = .ok (.iload 4, 2) := by decide +kernel
theorem d_Mo_perform_160 : decode b_Mo_perform 160 = .ok (.iload_n 2, 1) := by decide +kernel
theorem d_Mo_perform_161 : decode b_Mo_perform 161 = .ok (.iload_n 3, 1) := by decide +kernel
theorem d_Mo_perform_162 : decode b_Mo_perform 162 = .ok (.imul, 1) := by decide +kernel
theorem d_Mo_perform_163 : decode b_Mo_perform 163 = .ok (.iastore, 1) := by decide +kernel
theorem d_Mo_perform_164 : decode b_Mo_perform 164 = .ok (.goto 132, 3) := by decide +kernel
theorem d_Mo_perform_167 : decode b_Mo_perform 167 = .ok (.aload_n 0, 1) := by decide +kernel
theorem d_Mo_perform_168 : decode b_Mo_perform 168 = .ok (.getfield 40, 3) := by decide +kernel
theorem d_Mo_perform_171 : decode b_Mo_perform 171 = .ok (.iload 4, 2) := by decide +kernel
theorem d_Mo_perform_173 : decode b_Mo_perform 173 = .ok (.aload_n 0, 1) := by decide +kernel
theorem d_Mo_perform_174 : decode b_Mo_perform 174 = .ok (.iload_n 2, 1) := by decide +kernel
theorem d_Mo_perform_175 : decode b_Mo_perform 175 = .ok (.invokevirtual 134, 3) := by decide +kernel
theorem d_Mo_perform_178 : decode b_Mo_perform 178 = .ok (.iastore, 1) := by decide +kernel
theorem d_Mo_perform_179 : decode b_Mo_perform 179 = .ok (.goto 117, 3) := by decide +kernel
theorem d_Mo_perform_182 : decode b_Mo_perform 182 = .ok (.aload_n 0, 1) := by decide +kernel
theorem d_Mo_perform_183 : decode b_Mo_perform 183 = .ok (.iload_n 2, 1) := by decide +kernel
theorem d_Mo_perform_184 : decode b_Mo_perform 184 = .ok (.invokevirtual 121, 3) := by decide +kernel
theorem d_Mo_perform_187 : decode b_Mo_perform 187 = .ok (.ifCond .eq 11, 3) := by decide +kernel
theorem d_Mo_perform_190 : decode b_Mo_perform 190 = .ok (.aload_n 0, 1) := by decide +kernel
theorem d_Mo_perform_191 : decode b_Mo_perform 191 = .ok (.iload_n 2, 1) := by decide +kernel
theorem d_Mo_perform_192 : decode b_Mo_perform 192 = .ok (.invokevirtual 137, 3) := by decide +kernel
theorem d_Mo_perform_195 : decode b_Mo_perform 195 = .ok (.goto 101, 3) := by decide +kernel
theorem d_Mo_perform_198 : decode b_Mo_perform 198 = .ok (.iload_n 2, 1) := by decide +kernel
theorem d_Mo_perform_199 : decode b_Mo_perform 199 = .ok (.ifCond .eq 97, 3) := by decide +kernel
theorem d_Mo_perform_202 : decode b_Mo_perform 202 = .ok (.aload_n 0, 1) := by decide +kernel
theorem d_Mo_perform_203 : decode b_Mo_perform 203 = .ok (.iconst 4, 1) := by decide +kernel
theorem d_Mo_perform_204 : decode b_Mo_perform 204 = .ok (.putfield 64, 3) := by decide +kernel
theorem d_Mo_perform_207 : decode b_Mo_perform 207 = .ok (.goto 89, 3) := by decide +kernel
theorem d_Mo_perform_210 : decode b_Mo_perform 210 = .ok (.aload_n 0, 1) := by decide +kernel
theorem d_Mo_perform_211 : decode b_Mo_perform 211 = .ok (.iload_n 1, 1) := by decide +kernel
theorem d_Mo_perform_212 : decode b_Mo_perform 212 = .ok (.invokevirtual 141, 3) := by decide +kernel
theorem d_Mo_perform_215 : decode b_Mo_perform 215 = .ok (.goto 81, 3) := by decide +kernel
theorem d_Mo_perform_218 : decode b_Mo_perform 218 = .ok (.iload_n 2, 1) := by decide +kernel
end
section
theorem d_Mo_perform_219 : decode b_Mo_perform 219 = .ok (.ifCond .ne 8, 3) := by decide +kernel
theorem d_Mo_perform_222 : decode b_Mo_perform 222 = .ok (.iload 5, 2) := by decide +kernel
theorem d_Mo_perform_224 : decode b_Mo_perform 224 = .ok (.goto 6, 3) := by decide +kernel
theorem d_Mo_perform_227 : decode b_Mo_perform 227 = .ok (.iload_n 1, 1) := by decide +kernel
theorem d_Mo_perform_228 : decode b_Mo_perform 228 = .ok (.iconst 1, 1) := by decide +kernel
theorem d_Mo_perform_229 : decode b_Mo_perform 229 = .ok (.iadd, 1) := by decide +kernel
theorem d_Mo_perform_230 : decode b_Mo_perform 230 = .ok (.ireturn, 1) := by decide +kernel
theorem d_Mo_perform_231 : decode b_Mo_perform 231 = .ok (.iload_n 2, 1) := by decide +kernel
theorem d_Mo_perform_232 : decode b_Mo_perform 232 = .ok (.iload_n 3, 1) := by decide +kernel
theorem d_Mo_perform_233 : decode b_Mo_perform 233 = .ok (.if_icmp .ge 8, 3) := by decide +kernel
theorem d_Mo_perform_236 : decode b_Mo_perform 236 = .ok (.iload 5, 2) := by decide +kernel
theorem d_Mo_perform_238 : decode b_Mo_perform 238 = .ok (.goto 6, 3) := by decide +kernel
theorem d_Mo_perform_241 : decode b_Mo_perform 241 = .ok (.iload_n 1, 1) := by decide +kernel
theorem d_Mo_perform_242 : decode b_Mo_perform 242 = .ok (.iconst 1, 1) := by decide +kernel
theorem d_Mo_perform_243 : decode b_Mo_perform 243 = .ok (.iadd, 1) := by decide +kernel
theorem d_Mo_perform_244 : decode b_Mo_perform 244 = .ok (.ireturn, 1) := by decide +kernel
theorem d_Mo_perform_245 : decode b_Mo_perform 245 = .ok (.aload_n 0, 1) := by decide +kernel
theorem d_Mo_perform_246 : decode b_Mo_perform 246 = .ok (.getfield 109, 3) := by decide +kernel
theorem d_Mo_perform_249 : decode b_Mo_perform 249 = .ok (.bipush 60, 2) := by decide +kernel
theorem d_Mo_perform_251 : decode b_Mo_perform 251 = .ok (.if_icmp .ge 45, 3) := by decide +kernel
theorem d_Mo_perform_254 : decode b_Mo_perform 254 = .ok (.aload_n 0, 1) := by decide +kernel
theorem d_Mo_perform_255 : decode b_Mo_perform 255 = .ok (.getfield 43, 3) := by decide +kernel
theorem d_Mo_perform_258 : decode b_Mo_perform 258 = .ok (.aload_n 0, 1) := by decide +kernel
theorem d_Mo_perform_259 : decode b_Mo_perform 259 = .ok (.getfield 109, 3) := by decide +kernel
theorem d_Mo_perform_262 : decode b_Mo_perform 262 = .ok (.iload_n 2, 1) := by decide +kernel
theorem d_Mo_perform_263 : decode b_Mo_perform 263 = .ok (.iastore, 1) := by decide +kernel
theorem d_Mo_perform_264 : decode b_Mo_perform 264 = .ok (.aload_n 0, 1) := by decide +kernel
theorem d_Mo_perform_265 : decode b_Mo_perform 265 = .ok (.dup, 1) := by decide +kernel
theorem d_Mo_perform_266 : decode b_Mo_perform 266 = .ok (.getfield 109, 3) := by decide +kernel
theorem d_Mo_perform_269 : decode b_Mo_perform 269 = .ok (.iconst 1, 1) := by decide +kernel
theorem d_Mo_perform_270 : decode b_Mo_perform 270 = .ok (.iadd, 1) := by decide +kernel
theorem d_Mo_perform_271 : decode b_Mo_perform 271 = .ok (.putfield 109, 3) := by decide +kernel
theorem d_Mo_perform_274 : decode b_Mo_perform 274 = .ok (.goto 22, 3) := by decide +kernel
theorem d_Mo_perform_277 : decode b_Mo_perform 277 = .ok (.aload_n 0, 1) := by decide +kernel
theorem d_Mo_perform_278 : decode b_Mo_perform 278 = .ok (.getfield 40, 3) := by decide +kernel
theorem d_Mo_perform_281 : decode b_Mo_perform 281 = .ok (.iload 4, 2) := by decide +kernel
theorem d_Mo_perform_283 : decode b_Mo_perform 283 = .ok (.iload_n 2, 1) := by decide +kernel
theorem d_Mo_perform_284 : decode b_Mo_perform 284 = .ok (.iload 5, 2) := by decide +kernel
theorem d_Mo_perform_286 : decode b_Mo_perform 286 = .ok (.iadd, 1) := by decide +kernel
theorem d_Mo_perform_287 : decode b_Mo_perform 287 = .ok (.iastore, 1) := by decide +kernel
theorem d_Mo_perform_288 : decode b_Mo_perform 288 = .ok (.goto 8, 3) := by decide +kernel
theorem d_Mo_perform_291 : decode b_Mo_perform 291 = .ok (.aload_n 0, 1) := by decide +kernel
theorem d_Mo_perform_292 : decode b_Mo_perform 292 = .ok (.iconst 2, 1) := by decide +kernel
theorem d_Mo_perform_293 : decode b_Mo_perform 293 = .ok (.putfield 64, 3) := by decide +kernel
theorem d_Mo_perform_296 : decode b_Mo_perform 296 = .ok (.iload_n 1, 1) := by decide +kernel
theorem d_Mo_perform_297 : decode b_Mo_perform 297 = .ok (.iconst 1, 1) := by decide +kernel
theorem d_Mo_perform_298 : decode b_Mo_perform 298 = .ok (.iadd, 1) := by decide +kernel
theorem d_Mo_perform_299 : decode b_Mo_perform 299 = .ok (.ireturn, 1) := by decide +kernel
theorem d_Mo_allocate_0 : decode b_Mo_allocate 0 = .ok (.iload_n 1, 1) := by decide +kernel
theorem d_Mo_allocate_1 : decode b_Mo_allocate 1 = .ok (.iconst 1, 1) := by decide +kernel
theorem d_Mo_allocate_2 : decode b_Mo_allocate 2 = .ok (.if_icmp .lt 9, 3) := by decide +kernel
theorem d_Mo_allocate_5 : decode b_Mo_allocate 5 = .ok (.iload_n 1, 1) := by decide +kernel
theorem d_Mo_allocate_6 : decode b_Mo_allocate 6 = .ok (.bipush 100, 2) := by decide +kernel
theorem d_Mo_allocate_8 : decode b_Mo_allocate 8 = .ok (.if_icmp .le 5, 3) := by decide +kernel
theorem d_Mo_allocate_11 : decode b_Mo_allocate 11 = .ok (.iconst 0, 1) := by decide +kernel
theorem d_Mo_allocate_12 : decode b_Mo_allocate 12 = .ok (.ireturn, 1) := by decide +kernel
theorem d_Mo_allocate_13 : decode b_Mo_allocate 13 = .ok (.iload_n 1, 1) := by decide +kernel
theorem d_Mo_allocate_14 : decode b_Mo_allocate 14 = .ok (.bipush 7, 2) := by decide +kernel
theorem d_Mo_allocate_16 : decode b_Mo_allocate 16 = .ok (.iadd, 1) := by decide +kernel
theorem d_Mo_allocate_17 : decode b_Mo_allocate 17 = .ok (.bipush 8, 2) := by decide +kernel
theorem d_Mo_allocate_19 : decode b_Mo_allocate 19 = .ok (.idiv, 1) := by decide +kernel
theorem d_Mo_allocate_20 : decode b_Mo_allocate 20 = .ok (.istore_n 2, 1) := by decide +kernel
theorem d_Mo_allocate_21 : decode b_Mo_allocate 21 = .ok (.aload_n 0, 1) := by decide +kernel
theorem d_Mo_allocate_22 : decode b_Mo_allocate 22 = .ok (.iload_n 2, 1) := by decide +kernel
theorem d_Mo_allocate_23 : decode b_Mo_allocate 23 = .ok (.iconst 2, 1) := by decide +kernel
theorem d_Mo_allocate_24 : decode b_Mo_allocate 24 = .ok (.iadd, 1) := by decide +kernel
theorem d_Mo_allocate_25 : decode b_Mo_allocate 25 = .ok (.invokevirtual 86, 3) := by decide +kernel
theorem d_Mo_allocate_28 : decode b_Mo_allocate 28 = .ok (.ifCond .ge 17, 3) := by decide +kernel
theorem d_Mo_allocate_31 : decode b_Mo_allocate 31 = .ok (.aload_n 0, 1) := by decide +kernel
theorem d_Mo_allocate_32 : decode b_Mo_allocate 32 = .ok (.getfield 83, 3) := by decide +kernel
theorem d_Mo_allocate_35 : decode b_Mo_allocate 35 = .ok (.ifCond .le 10, 3) := by decide +kernel
theorem d_Mo_allocate_38 : decode b_Mo_allocate 38 = .ok (.aload_n 0, 1) := by decide +kernel
theorem d_Mo_allocate_39 : decode b_Mo_allocate 39 = .ok (.invokevirtual 89, 3) := by decide +kernel
theorem d_Mo_allocate_42 : decode b_Mo_allocate 42 = .ok (.goto (-21), 3) := by decide +kernel
theorem d_Mo_allocate_45 : decode b_Mo_allocate 45 = .ok (.aload_n 0, 1) := by decide +kernel
theorem d_Mo_allocate_46 : decode b_Mo_allocate 46 = .ok (.iload_n 2, 1) := by decide +kernel
theorem d_Mo_allocate_47 : decode b_Mo_allocate 47 = .ok (.iconst 2, 1) := by decide +kernel
theorem d_Mo_allocate_48 : decode b_Mo_allocate 48 = .ok (.iadd, 1) := by decide +kernel
theorem d_Mo_allocate_49 : decode b_Mo_allocate 49 = .ok (.invokevirtual 86, 3) := by decide +kernel
theorem d_Mo_allocate_52 : decode b_Mo_allocate 52 = .ok (.istore_n 3, 1) := by decide +kernel
theorem d_Mo_allocate_53 : decode b_Mo_allocate 53 = .ok (.iload_n 3, 1) := by decide +kernel
theorem d_Mo_allocate_54 : decode b_Mo_allocate 54 = .ok (.ifCond .ge 5, 3) := by decide +kernel
theorem d_Mo_allocate_57 : decode b_Mo_allocate 57 = .ok (.iconst 0, 1) := by decide +kernel
theorem d_Mo_allocate_58 : decode b_Mo_allocate 58 = .ok (.ireturn, 1) := by decide +kernel
theorem d_Mo_allocate_59 : decode b_Mo_allocate 59 = .ok (.aload_n 0, 1) := by decide +kernel
theorem d_Mo_allocate_60 : decode b_Mo_allocate 60 = .ok (.getfield 34, 3) := by decide +kernel
theorem d_Mo_allocate_63 : decode b_Mo_allocate 63 = .ok (.iload_n 3, 1) := by decide +kernel
theorem d_Mo_allocate_64 : decode b_Mo_allocate 64 = .ok (.iload_n 2, 1) := by decide +kernel
theorem d_Mo_allocate_65 : decode b_Mo_allocate 65 = .ok (.iconst 2, 1) := by decide +kernel
theorem d_Mo_allocate_66 : decode b_Mo_allocate 66 = .ok (.iadd, 1) := by decide +kernel
theorem d_Mo_allocate_67 : decode b_Mo_allocate 67 = .ok (.iastore, 1) := by decide +kernel
theorem d_Mo_allocate_68 : decode b_Mo_allocate 68 = .ok (.iload_n 3, 1) := by decide +kernel
theorem d_Mo_allocate_69 : decode b_Mo_allocate 69 = .ok (.istore 4, 2) := by decide +kernel
theorem d_Mo_allocate_71 : decode b_Mo_allocate 71 = .ok (.iload 4, 2) := by decide +kernel
theorem d_Mo_allocate_73 : decode b_Mo_allocate 73 = .ok (.iload_n 3, 1) := by decide +kernel
theorem d_Mo_allocate_74 : decode b_Mo_allocate 74 = .ok (.iload_n 2, 1) := by decide +kernel
theorem d_Mo_allocate_75 : decode b_Mo_allocate 75 = .ok (.iadd, 1) := by decide +kernel
theorem d_Mo_allocate_76 : decode b_Mo_allocate 76 = .ok (.iconst 2, 1) := by decide +kernel
theorem d_Mo_allocate_77 : decode b_Mo_allocate 77 = .ok (.iadd, 1) := by decide +kernel
theorem d_Mo_allocate_78 : decode b_Mo_allocate 78 = .ok (.if_icmp .ge 25, 3) := by decide +kernel
theorem d_Mo_allocate_81 : decode b_Mo_allocate 81 = .ok (.aload_n 0, 1) := by decide +kernel
theorem d_Mo_allocate_82 : decode b_Mo_allocate 82 = .ok (.getfield 31, 3) := by decide +kernel
theorem d_Mo_allocate_85 : decode b_Mo_allocate 85 = .ok (.iload 4, 2) := by decide +kernel
theorem d_Mo_allocate_87 : decode b_Mo_allocate 87 = .ok (.iconst 1, 1) := by decide +kernel
theorem d_Mo_allocate_88 : decode b_Mo_allocate 88 = .ok (.iastore, 1) := by decide +kernel
theorem d_Mo_allocate_89 : decode b_Mo_allocate 89 = .ok (.aload_n 0, 1) := by decide +kernel
theorem d_Mo_allocate_90 : decode b_Mo_allocate 90 = .ok (.getfield 28, 3) := by decide +kernel
theorem d_Mo_allocate_93 : decode b_Mo_allocate 93 = .ok (.iload 4, 2) := by decide +kernel
theorem d_Mo_allocate_95 : decode b_Mo_allocate 95 = .ok (.iconst 0, 1) := by decide +kernel
theorem d_Mo_allocate_96 : decode b_Mo_allocate 96 = .ok (.iastore, 1) := by decide +kernel
theorem d_Mo_allocate_97 : decode b_Mo_allocate 97 = .ok (.iinc 4 1, 3) := by decide +kernel
theorem d_Mo_allocate_100 : decode b_Mo_allocate 100 = .ok (.goto (-29), 3) := by decide +kernel
theorem d_Mo_allocate_103 : decode b_Mo_allocate 103 = .ok (.aload_n 0, 1) := by decide +kernel
theorem d_Mo_allocate_104 : decode b_Mo_allocate 104 = .ok (.getfield 28, 3) := by decide +kernel
theorem d_Mo_allocate_107 : decode b_Mo_allocate 107 = .ok (.iload_n 3, 1) := by decide +kernel
theorem d_Mo_allocate_108 : decode b_Mo_allocate 108 = .ok (.iconst (-1), 1) := by decide +kernel
theorem d_Mo_allocate_109 : decode b_Mo_allocate 109 = .ok (.iastore, 1) := by decide +kernel
theorem d_Mo_allocate_110 : decode b_Mo_allocate 110 = .ok (.aload_n 0, 1) := by decide +kernel
theorem d_Mo_allocate_111 : decode b_Mo_allocate 111 = .ok (.getfield 28, 3) := by decide +kernel
theorem d_Mo_allocate_114 : decode b_Mo_allocate 114 = .ok (.iload_n 3, 1) := by decide +kernel
theorem d_Mo_allocate_115 : decode b_Mo_allocate 115 = .ok (.iload_n 2, 1) := by decide +kernel
theorem d_Mo_allocate_116 : decode b_Mo_allocate 116 = .ok (.iadd, 1) := by decide +kernel
theorem d_Mo_allocate_117 : decode b_Mo_allocate 117 = .ok (.iload_n 1, 1) := by decide +kernel
theorem d_Mo_allocate_118 : decode b_Mo_allocate 118 = .ok (.bipush 8, 2) := by decide +kernel
theorem d_Mo_allocate_120 : decode b_Mo_allocate 120 = .ok (.irem, 1) := by decide +kernel
theorem d_Mo_allocate_121 : decode b_Mo_allocate 121 = .ok (.iastore, 1) := by decide +kernel
theorem d_Mo_allocate_122 : decode b_Mo_allocate 122 = .ok (.aload_n 0, 1) := by decide +kernel
theorem d_Mo_allocate_123 : decode b_Mo_allocate 123 = .ok (.getfield 28, 3) := by decide +kernel
theorem d_Mo_allocate_126 : decode b_Mo_allocate 126 = .ok (.iload_n 3, 1) := by decide +kernel
theorem d_Mo_allocate_127 : decode b_Mo_allocate 127 = .ok (.iload_n 2, 1) := by decide +kernel
theorem d_Mo_allocate_128 : decode b_Mo_allocate 128 = .ok (.iadd, 1) := by decide +kernel
theorem d_Mo_allocate_129 : decode b_Mo_allocate 129 = .ok (.iconst 1, 1) := by decide +kernel
theorem d_Mo_allocate_130 : decode b_Mo_allocate 130 = .ok (.iadd, 1) := by decide +kernel
theorem d_Mo_allocate_131 : decode b_Mo_allocate 131 = .ok (.iconst (-1), 1) := by decide +kernel
theorem d_Mo_allocate_132 : decode b_Mo_allocate 132 = .ok (.iastore, 1) := by decide +kernel
theorem d_Mo_allocate_133 : decode b_Mo_allocate 133 = .ok (.bipush 8, 2) := by decide +kernel
theorem d_Mo_allocate_135 : decode b_Mo_allocate 135 = .ok (.iload_n 3, 1) := by decide +kernel
theorem d_Mo_allocate_136 : decode b_Mo_allocate 136 = .ok (.imul, 1) := by decide +kernel
theorem d_Mo_allocate_137 : decode b_Mo_allocate 137 = .ok (.bipush 8, 2) := by decide +kernel
theorem d_Mo_allocate_139 : decode b_Mo_allocate 139 = .ok (.iadd, 1) := by decide +kernel
theorem d_Mo_allocate_140 : decode b_Mo_allocate 140 = .ok (.istore 4, 2) := by decide +kernel
theorem d_Mo_allocate_142 : decode b_Mo_allocate 142 = .ok (.iload 4, 2) := by decide +kernel
theorem d_Mo_allocate_144 : decode b_Mo_allocate 144 = .ok (.bipush 8, 2) := by decide +kernel
theorem d_Mo_allocate_146 : decode b_Mo_allocate 146 = .ok (.iload_n 3, 1) := by decide +kernel
theorem d_Mo_allocate_147 : decode b_Mo_allocate 147 = .ok (.imul, 1) := by decide +kernel
theorem d_Mo_allocate_148 : decode b_Mo_allocate 148 = .ok (.bipush 8, 2) := by decide +kernel
theorem d_Mo_allocate_150 : decode b_Mo_allocate 150 = .ok (.iadd, 1) := by decide +kernel
theorem d_Mo_allocate_151 : decode b_Mo_allocate 151 = .ok (.bipush 8, 2) := by decide +kernel
theorem d_Mo_allocate_153 : decode b_Mo_allocate 153 = .ok (.iload_n 2, 1) := by decide +kernel
theorem d_Mo_allocate_154 : decode b_Mo_allocate 154 = .ok (.imul, 1) := by decide +kernel
theorem d_Mo_allocate_155 : decode b_Mo_allocate 155 = .ok (.iadd, 1) := by decide +kernel
theorem d_Mo_allocate_156 : decode b_Mo_allocate 156 = .ok (.if_icmp .ge 17, 3) := by decide +kernel
theorem d_Mo_allocate_159 : decode b_Mo_allocate 159 = .ok (.aload_n 0, 1) := by decide +kernel
theorem d_Mo_allocate_160 : decode b_Mo_allocate 160 = .ok (.getfield 25, 3) := by decide +kernel
theorem d_Mo_allocate_163 : decode b_Mo_allocate 163 = .ok (.iload 4, 2) := by decide +kernel
theorem d_Mo_allocate_165 : decode b_Mo_allocate 165 = .ok (.iconst 0, 1) := by decide +kernel
theorem d_Mo_allocate_166 : decode b_Mo_allocate 166 = .ok (.iastore, 1) := by decide +kernel
theorem d_Mo_allocate_167 : decode b_Mo_allocate 167 = .ok (.iinc 4 1, 3) := by decide +kernel
theorem d_Mo_allocate_170 : decode b_Mo_allocate 170 = .ok (.goto (-28), 3) := by decide +kernel
theorem d_Mo_allocate_173 : decode b_Mo_allocate 173 = .ok (.bipush 8, 2) := by decide +kernel
theorem d_Mo_allocate_175 : decode b_Mo_allocate 175 = .ok (.iload_n 3, 1) := by decide +kernel
theorem d_Mo_allocate_176 : decode b_Mo_allocate 176 = .ok (.imul, 1) := by decide +kernel
theorem d_Mo_allocate_177 : decode b_Mo_allocate 177 = .ok (.bipush 8, 2) := by decide +kernel
theorem d_Mo_allocate_179 : decode b_Mo_allocate 179 = .ok (.iadd, 1) := by decide +kernel
theorem d_Mo_allocate_180 : decode b_Mo_allocate 180 = .ok (.ireturn, 1) := by decide +kernel
theorem d_Mo_gap_0 : decode b_Mo_gap 0 = .ok (.iconst 0, 1) := by decide +kernel
theorem d_Mo_gap_1 : decode b_Mo_gap 1 = .ok (.istore_n 2, 1) := by decide +kernel
theorem d_Mo_gap_2 : decode b_Mo_gap 2 = .ok (.iload_n 2, 1) := by decide +kernel
theorem d_Mo_gap_3 : decode b_Mo_gap 3 = .ok (.iload_n 1, 1) := by decide +kernel
theorem d_Mo_gap_4 : decode b_Mo_gap 4 = .ok (.iadd, 1) := by decide +kernel
theorem d_Mo_gap_5 : decode b_Mo_gap 5 = .ok (.bipush 64, 2) := by decide +kernel
theorem d_Mo_gap_7 : decode b_Mo_gap 7 = .ok (.if_icmp .gt 40, 3) := by decide +kernel
theorem d_Mo_gap_10 : decode b_Mo_gap 10 = .ok (.iconst 0, 1) := by decide +kernel
theorem d_Mo_gap_11 : decode b_Mo_gap 11 = .ok (.istore_n 3, 1) := by decide +kernel
theorem d_Mo_gap_12 : decode b_Mo_gap 12 = .ok (.iload_n 3, 1) := by decide +kernel
theorem d_Mo_gap_13 : decode b_Mo_gap 13 = .ok (.iload_n 1, 1) := by decide +kernel
theorem d_Mo_gap_14 : decode b_Mo_gap 14 = .ok (.if_icmp .ge 20, 3) := by decide +kernel
theorem d_Mo_gap_17 : decode b_Mo_gap 17 = .ok (.aload_n 0, 1) := by decide +kernel
theorem d_Mo_gap_18 : decode b_Mo_gap 18 = .ok (.getfield 31, 3) := by decide +kernel
theorem d_Mo_gap_21 : decode b_Mo_gap 21 = .ok (.iload_n 2, 1) := by decide +kernel
theorem d_Mo_gap_22 : decode b_Mo_gap 22 = .ok (.iload_n 3, 1) := by decide +kernel
theorem d_Mo_gap_23 : decode b_Mo_gap 23 = .ok (.iadd, 1) := by decide +kernel
theorem d_Mo_gap_24 : decode b_Mo_gap 24 = .ok (.iaload, 1) := by decide +kernel
theorem d_Mo_gap_25 : decode b_Mo_gap 25 = .ok (.ifCond .ne 9, 3) := by decide +kernel
theorem d_Mo_gap_28 : decode b_Mo_gap 28 = .ok (.iinc 3 1, 3) := by decide +kernel
theorem d_Mo_gap_31 : decode b_Mo_gap 31 = .ok (.goto (-19), 3) := by decide +kernel
theorem d_Mo_gap_34 : decode b_Mo_gap 34 = .ok (.iload_n 3, 1) := by decide +kernel
theorem d_Mo_gap_35 : decode b_Mo_gap 35 = .ok (.iload_n 1, 1) := by decide +kernel
theorem d_Mo_gap_36 : decode b_Mo_gap 36 = .ok (.if_icmp .ne 5, 3) := by decide +kernel
theorem d_Mo_gap_39 : decode b_Mo_gap 39 = .ok (.iload_n 2, 1) := by decide +kernel
theorem d_Mo_gap_40 : decode b_Mo_gap 40 = .ok (.ireturn, 1) := by decide +kernel
theorem d_Mo_gap_41 : decode b_Mo_gap 41 = .ok (.iinc 2 1, 3) := by decide +kernel
theorem d_Mo_gap_44 : decode b_Mo_gap 44 = .ok (.goto (-42), 3) := by decide +kernel
theorem d_Mo_gap_47 : decode b_Mo_gap 47 = .ok (.iconst (-1), 1) := by decide +kernel
theorem d_Mo_gap_48 : decode b_Mo_gap 48 = .ok (.ireturn, 1) := by decide +kernel
theorem d_Mo_release_0 : decode b_Mo_release 0 = .ok (.aload_n 0, 1) := by decide +kernel
theorem d_Mo_release_1 : decode b_Mo_release 1 = .ok (.getfield 37, 3) := by decide +kernel
theorem d_Mo_release_4 : decode b_Mo_release 4 = .ok (.iconst 0, 1) := by decide +kernel
theorem d_Mo_release_5 : decode b_Mo_release 5 = .ok (.iaload, 1) := by decide +kernel
theorem d_Mo_release_6 : decode b_Mo_release 6 = .ok (.istore_n 1, 1) := by decide +kernel
theorem d_Mo_release_7 : decode b_Mo_release 7 = .ok (.aload_n 0, 1) := by decide +kernel
theorem d_Mo_release_8 : decode b_Mo_release 8 = .ok (.dup, 1) := by decide +kernel
theorem d_Mo_release_9 : decode b_Mo_release 9 = .ok (.getfield 83, 3) := by decide +kernel
theorem d_Mo_release_12 : decode b_Mo_release 12 = .ok (.iconst 1, 1) := by decide +kernel
theorem d_Mo_release_13 : decode b_Mo_release 13 = .ok (.isub, 1) := by decide +kernel
theorem d_Mo_release_14 : decode b_Mo_release 14 = .ok (.putfield 83, 3) := by decide +kernel
theorem d_Mo_release_17 : decode b_Mo_release 17 = .ok (.iconst 0, 1) := by decide +kernel
theorem d_Mo_release_18 : decode b_Mo_release 18 = .ok (.istore_n 2, 1) := by decide +kernel
end
section
theorem d_Mo_release_19 : decode b_Mo_release 19 = .ok (.iload_n 2, 1) := by decide +kernel
theorem d_Mo_release_20 : decode b_Mo_release 20 = .ok (.aload_n 0, 1) := by decide +kernel
theorem d_Mo_release_21 : decode b_Mo_release 21 = .ok (.getfield 83, 3) := by decide +kernel
theorem d_Mo_release_24 : decode b_Mo_release 24 = .ok (.if_icmp .ge 23, 3) := by decide +kernel
theorem d_Mo_release_27 : decode b_Mo_release 27 = .ok (.aload_n 0, 1) := by decide +kernel
theorem d_Mo_release_28 : decode b_Mo_release 28 = .ok (.getfield 37, 3) := by decide +kernel
theorem d_Mo_release_31 : decode b_Mo_release 31 = .ok (.iload_n 2, 1) := by decide +kernel
theorem d_Mo_release_32 : decode b_Mo_release 32 = .ok (.aload_n 0, 1) := by decide +kernel
theorem d_Mo_release_33 : decode b_Mo_release 33 = .ok (.getfield 37, 3) := by decide +kernel
theorem d_Mo_release_36 : decode b_Mo_release 36 = .ok (.iload_n 2, 1) := by decide +kernel
theorem d_Mo_release_37 : decode b_Mo_release 37 = .ok (.iconst 1, 1) := by decide +kernel
theorem d_Mo_release_38 : decode b_Mo_release 38 = .ok (.iadd, 1) := by decide +kernel
theorem d_Mo_release_39 : decode b_Mo_release 39 = .ok (.iaload, 1) := by decide +kernel
theorem d_Mo_release_40 : decode b_Mo_release 40 = .ok (.iastore, 1) := by decide +kernel
theorem d_Mo_release_41 : decode b_Mo_release 41 = .ok (.iinc 2 1, 3) := by decide +kernel
theorem d_Mo_release_44 : decode b_Mo_release 44 = .ok (.goto (-25), 3) := by decide +kernel
theorem d_Mo_release_47 : decode b_Mo_release 47 = .ok (.iload_n 1, 1) := by decide +kernel
theorem d_Mo_release_48 : decode b_Mo_release 48 = .ok (.istore_n 2, 1) := by decide +kernel
theorem d_Mo_release_49 : decode b_Mo_release 49 = .ok (.iload_n 2, 1) := by decide +kernel
theorem d_Mo_release_50 : decode b_Mo_release 50 = .ok (.iload_n 1, 1) := by decide +kernel
theorem d_Mo_release_51 : decode b_Mo_release 51 = .ok (.aload_n 0, 1) := by decide +kernel
theorem d_Mo_release_52 : decode b_Mo_release 52 = .ok (.getfield 34, 3) := by decide +kernel
theorem d_Mo_release_55 : decode b_Mo_release 55 = .ok (.iload_n 1, 1) := by decide +kernel
theorem d_Mo_release_56 : decode b_Mo_release 56 = .ok (.iaload, 1) := by decide +kernel
theorem d_Mo_release_57 : decode b_Mo_release 57 = .ok (.iadd, 1) := by decide +kernel
theorem d_Mo_release_58 : decode b_Mo_release 58 = .ok (.if_icmp .ge 24, 3) := by decide +kernel
theorem d_Mo_release_61 : decode b_Mo_release 61 = .ok (.aload_n 0, 1) := by decide +kernel
theorem d_Mo_release_62 : decode b_Mo_release 62 = .ok (.getfield 31, 3) := by decide +kernel
theorem d_Mo_release_65 : decode b_Mo_release 65 = .ok (.iload_n 2, 1) := by decide +kernel
theorem d_Mo_release_66 : decode b_Mo_release 66 = .ok (.iconst 0, 1) := by decide +kernel
theorem d_Mo_release_67 : decode b_Mo_release 67 = .ok (.iastore, 1) := by decide +kernel
theorem d_Mo_release_68 : decode b_Mo_release 68 = .ok (.aload_n 0, 1) := by decide +kernel
theorem d_Mo_release_69 : decode b_Mo_release 69 = .ok (.getfield 28, 3) := by decide +kernel
theorem d_Mo_release_72 : decode b_Mo_release 72 = .ok (.iload_n 2, 1) := by decide +kernel
theorem d_Mo_release_73 : decode b_Mo_release 73 = .ok (.bipush (-3), 2) := by decide +kernel
theorem d_Mo_release_75 : decode b_Mo_release 75 = .ok (.iastore, 1) := by decide +kernel
theorem d_Mo_release_76 : decode b_Mo_release 76 = .ok (.iinc 2 1, 3) := by decide +kernel
theorem d_Mo_release_79 : decode b_Mo_release 79 = .ok (.goto (-30), 3) := by decide +kernel
theorem d_Mo_release_82 : decode b_Mo_release 82 = .ok (.aload_n 0, 1) := by decide +kernel
theorem d_Mo_release_83 : decode b_Mo_release 83 = .ok (.getfield 34, 3) := by decide +kernel
theorem d_Mo_release_86 : decode b_Mo_release 86 = .ok (.iload_n 1, 1) := by decide +kernel
theorem d_Mo_release_87 : decode b_Mo_release 87 = .ok (.iconst 0, 1) := by decide +kernel
theorem d_Mo_release_88 : decode b_Mo_release 88 = .ok (.iastore, 1) := by decide +kernel
theorem d_Mo_release_89 : decode b_Mo_release 89 = .ok (.return_, 1) := by decide +kernel
theorem d_Mo_free_0 : decode b_Mo_free 0 = .ok (.iload_n 1, 1) := by decide +kernel
theorem d_Mo_free_1 : decode b_Mo_free 1 = .ok (.bipush 8, 2) := by decide +kernel
theorem d_Mo_free_3 : decode b_Mo_free 3 = .ok (.idiv, 1) := by decide +kernel
theorem d_Mo_free_4 : decode b_Mo_free 4 = .ok (.iconst 1, 1) := by decide +kernel
theorem d_Mo_free_5 : decode b_Mo_free 5 = .ok (.isub, 1) := by decide +kernel
theorem d_Mo_free_6 : decode b_Mo_free 6 = .ok (.istore_n 2, 1) := by decide +kernel
theorem d_Mo_free_7 : decode b_Mo_free 7 = .ok (.iload_n 2, 1) := by decide +kernel
theorem d_Mo_free_8 : decode b_Mo_free 8 = .ok (.istore_n 3, 1) := by decide +kernel
theorem d_Mo_free_9 : decode b_Mo_free 9 = .ok (.iload_n 3, 1) := by decide +kernel
theorem d_Mo_free_10 : decode b_Mo_free 10 = .ok (.iload_n 2, 1) := by decide +kernel
theorem d_Mo_free_11 : decode b_Mo_free 11 = .ok (.aload_n 0, 1) := by decide +kernel
theorem d_Mo_free_12 : decode b_Mo_free 12 = .ok (.getfield 34, 3) := by decide +kernel
theorem d_Mo_free_15 : decode b_Mo_free 15 = .ok (.iload_n 2, 1) := by decide +kernel
theorem d_Mo_free_16 : decode b_Mo_free 16 = .ok (.iaload, 1) := by decide +kernel
theorem d_Mo_free_17 : decode b_Mo_free 17 = .ok (.iadd, 1) := by decide +kernel
theorem d_Mo_free_18 : decode b_Mo_free 18 = .ok (.if_icmp .ge 16, 3) := by decide +kernel
theorem d_Mo_free_21 : decode b_Mo_free 21 = .ok (.aload_n 0, 1) := by decide +kernel
theorem d_Mo_free_22 : decode b_Mo_free 22 = .ok (.getfield 31, 3) := by decide +kernel
theorem d_Mo_free_25 : decode b_Mo_free 25 = .ok (.iload_n 3, 1) := by decide +kernel
theorem d_Mo_free_26 : decode b_Mo_free 26 = .ok (.iconst 2, 1) := by decide +kernel
theorem d_Mo_free_27 : decode b_Mo_free 27 = .ok (.iastore, 1) := by decide +kernel
theorem d_Mo_free_28 : decode b_Mo_free 28 = .ok (.iinc 3 1, 3) := by decide +kernel
theorem d_Mo_free_31 : decode b_Mo_free 31 = .ok (.goto (-22), 3) := by decide +kernel
theorem d_Mo_free_34 : decode b_Mo_free 34 = .ok (.iload_n 2, 1) := by decide +kernel
theorem d_Mo_free_35 : decode b_Mo_free 35 = .ok (.iconst 1, 1) := by decide +kernel
theorem d_Mo_free_36 : decode b_Mo_free 36 = .ok (.iadd, 1) := by decide +kernel
theorem d_Mo_free_37 : decode b_Mo_free 37 = .ok (.istore_n 3, 1) := by decide +kernel
theorem d_Mo_free_38 : decode b_Mo_free 38 = .ok (.iload_n 3, 1) := by decide +kernel
theorem d_Mo_free_39 : decode b_Mo_free 39 = .ok (.iload_n 2, 1) := by decide +kernel
theorem d_Mo_free_40 : decode b_Mo_free 40 = .ok (.aload_n 0, 1) := by decide +kernel
theorem d_Mo_free_41 : decode b_Mo_free 41 = .ok (.getfield 34, 3) := by decide +kernel
theorem d_Mo_free_44 : decode b_Mo_free 44 = .ok (.iload_n 2, 1) := by decide +kernel
theorem d_Mo_free_45 : decode b_Mo_free 45 = .ok (.iaload, 1) := by decide +kernel
theorem d_Mo_free_46 : decode b_Mo_free 46 = .ok (.iadd, 1) := by decide +kernel
theorem d_Mo_free_47 : decode b_Mo_free 47 = .ok (.iconst 1, 1) := by decide +kernel
theorem d_Mo_free_48 : decode b_Mo_free 48 = .ok (.isub, 1) := by decide +kernel
theorem d_Mo_free_49 : decode b_Mo_free 49 = .ok (.if_icmp .ge 17, 3) := by decide +kernel
theorem d_Mo_free_52 : decode b_Mo_free 52 = .ok (.aload_n 0, 1) := by decide +kernel
theorem d_Mo_free_53 : decode b_Mo_free 53 = .ok (.getfield 28, 3) := by decide +kernel
theorem d_Mo_free_56 : decode b_Mo_free 56 = .ok (.iload_n 3, 1) := by decide +kernel
theorem d_Mo_free_57 : decode b_Mo_free 57 = .ok (.bipush (-2), 2) := by decide +kernel
theorem d_Mo_free_59 : decode b_Mo_free 59 = .ok (.iastore, 1) := by decide +kernel
theorem d_Mo_free_60 : decode b_Mo_free 60 = .ok (.iinc 3 1, 3) := by decide +kernel
theorem d_Mo_free_63 : decode b_Mo_free 63 = .ok (.goto (-25), 3) := by decide +kernel
theorem d_Mo_free_66 : decode b_Mo_free 66 = .ok (.aload_n 0, 1) := by decide +kernel
theorem d_Mo_free_67 : decode b_Mo_free 67 = .ok (.getfield 37, 3) := by decide +kernel
theorem d_Mo_free_70 : decode b_Mo_free 70 = .ok (.aload_n 0, 1) := by decide +kernel
theorem d_Mo_free_71 : decode b_Mo_free 71 = .ok (.getfield 83, 3) := by decide +kernel
theorem d_Mo_free_74 : decode b_Mo_free 74 = .ok (.iload_n 2, 1) := by decide +kernel
theorem d_Mo_free_75 : decode b_Mo_free 75 = .ok (.iastore, 1) := by decide +kernel
theorem d_Mo_free_76 : decode b_Mo_free 76 = .ok (.aload_n 0, 1) := by decide +kernel
theorem d_Mo_free_77 : decode b_Mo_free 77 = .ok (.dup, 1) := by decide +kernel
theorem d_Mo_free_78 : decode b_Mo_free 78 = .ok (.getfield 83, 3) := by decide +kernel
theorem d_Mo_free_81 : decode b_Mo_free 81 = .ok (.iconst 1, 1) := by decide +kernel
theorem d_Mo_free_82 : decode b_Mo_free 82 = .ok (.iadd, 1) := by decide +kernel
theorem d_Mo_free_83 : decode b_Mo_free 83 = .ok (.putfield 83, 3) := by decide +kernel
theorem d_Mo_free_86 : decode b_Mo_free 86 = .ok (.aload_n 0, 1) := by decide +kernel
theorem d_Mo_free_87 : decode b_Mo_free 87 = .ok (.invokevirtual 92, 3) := by decide +kernel
theorem d_Mo_free_90 : decode b_Mo_free 90 = .ok (.sipush 160, 3) := by decide +kernel
theorem d_Mo_free_93 : decode b_Mo_free 93 = .ok (.if_icmp .le 10, 3) := by decide +kernel
theorem d_Mo_free_96 : decode b_Mo_free 96 = .ok (.aload_n 0, 1) := by decide +kernel
theorem d_Mo_free_97 : decode b_Mo_free 97 = .ok (.invokevirtual 89, 3) := by decide +kernel
theorem d_Mo_free_100 : decode b_Mo_free 100 = .ok (.goto (-14), 3) := by decide +kernel
theorem d_Mo_free_103 : decode b_Mo_free 103 = .ok (.return_, 1) := by decide +kernel
theorem d_Mo_quarantined_0 : decode b_Mo_quarantined 0 = .ok (.iconst 0, 1) := by decide +kernel
theorem d_Mo_quarantined_1 : decode b_Mo_quarantined 1 = .ok (.istore_n 1, 1) := by decide +kernel
theorem d_Mo_quarantined_2 : decode b_Mo_quarantined 2 = .ok (.iconst 0, 1) := by decide +kernel
theorem d_Mo_quarantined_3 : decode b_Mo_quarantined 3 = .ok (.istore_n 2, 1) := by decide +kernel
theorem d_Mo_quarantined_4 : decode b_Mo_quarantined 4 = .ok (.iload_n 2, 1) := by decide +kernel
theorem d_Mo_quarantined_5 : decode b_Mo_quarantined 5 = .ok (.aload_n 0, 1) := by decide +kernel
theorem d_Mo_quarantined_6 : decode b_Mo_quarantined 6 = .ok (.getfield 83, 3) := by decide +kernel
theorem d_Mo_quarantined_9 : decode b_Mo_quarantined 9 = .ok (.if_icmp .ge 26, 3) := by decide +kernel
theorem d_Mo_quarantined_12 : decode b_Mo_quarantined 12 = .ok (.iload_n 1, 1) := by decide +kernel
theorem d_Mo_quarantined_13 : decode b_Mo_quarantined 13 = .ok (.bipush 8, 2) := by decide +kernel
theorem d_Mo_quarantined_15 : decode b_Mo_quarantined 15 = .ok (.aload_n 0, 1) := by decide +kernel
theorem d_Mo_quarantined_16 : decode b_Mo_quarantined 16 = .ok (.getfield 34, 3) := by decide +kernel
theorem d_Mo_quarantined_19 : decode b_Mo_quarantined 19 = .ok (.aload_n 0, 1) := by decide +kernel
theorem d_Mo_quarantined_20 : decode b_Mo_quarantined 20 = .ok (.getfield 37, 3) := by decide +kernel
theorem d_Mo_quarantined_23 : decode b_Mo_quarantined 23 = .ok (.iload_n 2, 1) := by decide +kernel
theorem d_Mo_quarantined_24 : decode b_Mo_quarantined 24 = .ok (.iaload, 1) := by decide +kernel
theorem d_Mo_quarantined_25 : decode b_Mo_quarantined 25 = .ok (.iaload, 1) := by decide +kernel
theorem d_Mo_quarantined_26 : decode b_Mo_quarantined 26 = .ok (.imul, 1) := by decide +kernel
theorem d_Mo_quarantined_27 : decode b_Mo_quarantined 27 = .ok (.iadd, 1) := by decide +kernel
theorem d_Mo_quarantined_28 : decode b_Mo_quarantined 28 = .ok (.istore_n 1, 1) := by decide +kernel
theorem d_Mo_quarantined_29 : decode b_Mo_quarantined 29 = .ok (.iinc 2 1, 3) := by decide +kernel
theorem d_Mo_quarantined_32 : decode b_Mo_quarantined 32 = .ok (.goto (-28), 3) := by decide +kernel
theorem d_Mo_quarantined_35 : decode b_Mo_quarantined 35 = .ok (.iload_n 1, 1) := by decide +kernel
theorem d_Mo_quarantined_36 : decode b_Mo_quarantined 36 = .ok (.ireturn, 1) := by decide +kernel
theorem d_Mo_touch_0 : decode b_Mo_touch 0 = .ok (.aload_n 0, 1) := by decide +kernel
theorem d_Mo_touch_1 : decode b_Mo_touch 1 = .ok (.getfield 40, 3) := by decide +kernel
theorem d_Mo_touch_4 : decode b_Mo_touch 4 = .ok (.aload_n 0, 1) := by decide +kernel
theorem d_Mo_touch_5 : decode b_Mo_touch 5 = .ok (.getfield 16, 3) := by decide +kernel
theorem d_Mo_touch_8 : decode b_Mo_touch 8 = .ok (.iload_n 1, 1) := by decide +kernel
theorem d_Mo_touch_9 : decode b_Mo_touch 9 = .ok (.iaload, 1) := by decide +kernel
theorem d_Mo_touch_10 : decode b_Mo_touch 10 = .ok (.iaload, 1) := by decide +kernel
theorem d_Mo_touch_11 : decode b_Mo_touch 11 = .ok (.aload_n 0, 1) := by decide +kernel
theorem d_Mo_touch_12 : decode b_Mo_touch 12 = .ok (.getfield 22, 3) := by decide +kernel
theorem d_Mo_touch_15 : decode b_Mo_touch 15 = .ok (.iload_n 1, 1) := by decide +kernel
theorem d_Mo_touch_16 : decode b_Mo_touch 16 = .ok (.iaload, 1) := by decide +kernel
theorem d_Mo_touch_17 : decode b_Mo_touch 17 = .ok (.iadd, 1) := by decide +kernel
theorem d_Mo_touch_18 : decode b_Mo_touch 18 = .ok (.istore_n 2, 1) := by decide +kernel
theorem d_Mo_touch_19 : decode b_Mo_touch 19 = .ok (.aload_n 0, 1) := by decide +kernel
theorem d_Mo_touch_20 : decode b_Mo_touch 20 = .ok (.getfield 7, 3) := by decide +kernel
theorem d_Mo_touch_23 : decode b_Mo_touch 23 = .ok (.iload_n 1, 1) := by decide +kernel
theorem d_Mo_touch_24 : decode b_Mo_touch 24 = .ok (.iaload, 1) := by decide +kernel
theorem d_Mo_touch_25 : decode b_Mo_touch 25 = .ok (.iconst 2, 1) := by decide +kernel
theorem d_Mo_touch_26 : decode b_Mo_touch 26 = .ok (.irem, 1) := by decide +kernel
theorem d_Mo_touch_27 : decode b_Mo_touch 27 = .ok (.ifCond .ne 7, 3) := by decide +kernel
theorem d_Mo_touch_30 : decode b_Mo_touch 30 = .ok (.iconst 1, 1) := by decide +kernel
theorem d_Mo_touch_31 : decode b_Mo_touch 31 = .ok (.goto 4, 3) := by decide +kernel
theorem d_Mo_touch_34 : decode b_Mo_touch 34 = .ok (.iconst 4, 1) := by decide +kernel
theorem d_Mo_touch_35 : decode b_Mo_touch 35 = .ok (.istore_n 3, 1) := by decide +kernel
theorem d_Mo_touch_36 : decode b_Mo_touch 36 = .ok (.iload_n 2, 1) := by decide +kernel
theorem d_Mo_touch_37 : decode b_Mo_touch 37 = .ok (.invokestatic 96, 3) := by decide +kernel
theorem d_Mo_touch_40 : decode b_Mo_touch 40 = .ok (.ifCond .eq 14, 3) := by decide +kernel
theorem d_Mo_touch_43 : decode b_Mo_touch 43 = .ok (.iload_n 2, 1) := by decide +kernel
theorem d_Mo_touch_44 : decode b_Mo_touch 44 = .ok (.iload_n 3, 1) := by decide +kernel
theorem d_Mo_touch_45 : decode b_Mo_touch 45 = .ok (.iadd, 1) := by decide +kernel
theorem d_Mo_touch_46 : decode b_Mo_touch 46 = .ok (.iconst 1, 1) := by decide +kernel
theorem d_Mo_touch_47 : decode b_Mo_touch 47 = .ok (.isub, 1) := by decide +kernel
theorem d_Mo_touch_48 : decode b_Mo_touch 48 = .ok (.invokestatic 96, 3) := by decide +kernel
theorem d_Mo_touch_51 : decode b_Mo_touch 51 = .ok (.ifCond .ne 9, 3) := by decide +kernel
theorem d_Mo_touch_54 : decode b_Mo_touch 54 = .ok (.aload_n 0, 1) := by decide +kernel
theorem d_Mo_touch_55 : decode b_Mo_touch 55 = .ok (.iconst 4, 1) := by decide +kernel
theorem d_Mo_touch_56 : decode b_Mo_touch 56 = .ok (.putfield 64, 3) := by decide +kernel
theorem d_Mo_touch_59 : decode b_Mo_touch 59 = .ok (.return_, 1) := by decide +kernel
theorem d_Mo_touch_60 : decode b_Mo_touch 60 = .ok (.aload_n 0, 1) := by decide +kernel
theorem d_Mo_touch_61 : decode b_Mo_touch 61 = .ok (.getfield 7, 3) := by decide +kernel
theorem d_Mo_touch_64 : decode b_Mo_touch 64 = .ok (.iload_n 1, 1) := by decide +kernel
theorem d_Mo_touch_65 : decode b_Mo_touch 65 = .ok (.iaload, 1) := by decide +kernel
theorem d_Mo_touch_66 : decode b_Mo_touch 66 = .ok (.bipush 6, 2) := by decide +kernel
theorem d_Mo_touch_68 : decode b_Mo_touch 68 = .ok (.if_icmp .ne 23, 3) := by decide +kernel
theorem d_Mo_touch_71 : decode b_Mo_touch 71 = .ok (.aload_n 0, 1) := by decide +kernel
theorem d_Mo_touch_72 : decode b_Mo_touch 72 = .ok (.getfield 40, 3) := by decide +kernel
theorem d_Mo_touch_75 : decode b_Mo_touch 75 = .ok (.aload_n 0, 1) := by decide +kernel
theorem d_Mo_touch_76 : decode b_Mo_touch 76 = .ok (.getfield 13, 3) := by decide +kernel
theorem d_Mo_touch_79 : decode b_Mo_touch 79 = .ok (.iload_n 1, 1) := by decide +kernel
theorem d_Mo_touch_80 : decode b_Mo_touch 80 = .ok (.iaload, 1) := by decide +kernel
theorem d_Mo_touch_81 : decode b_Mo_touch 81 = .ok (.aload_n 0, 1) := by decide +kernel
theorem d_Mo_touch_82 : decode b_Mo_touch 82 = .ok (.getfield 25, 3) := by decide +kernel
theorem d_Mo_touch_85 : decode b_Mo_touch 85 = .ok (.iload_n 2, 1) := by decide +kernel
theorem d_Mo_touch_86 : decode b_Mo_touch 86 = .ok (.iaload, 1) := by decide +kernel
theorem d_Mo_touch_87 : decode b_Mo_touch 87 = .ok (.iastore, 1) := by decide +kernel
theorem d_Mo_touch_88 : decode b_Mo_touch 88 = .ok (.goto 78, 3) := by decide +kernel
theorem d_Mo_touch_91 : decode b_Mo_touch 91 = .ok (.aload_n 0, 1) := by decide +kernel
theorem d_Mo_touch_92 : decode b_Mo_touch 92 = .ok (.getfield 7, 3) := by decide +kernel
theorem d_Mo_touch_95 : decode b_Mo_touch 95 = .ok (.iload_n 1, 1) := by decide +kernel
theorem d_Mo_touch_96 : decode b_Mo_touch 96 = .ok (.iaload, 1) := by decide +kernel
theorem d_Mo_touch_97 : decode b_Mo_touch 97 = .ok (.bipush 7, 2) := by decide +kernel
theorem d_Mo_touch_99 : decode b_Mo_touch 99 = .ok (.if_icmp .ne 22, 3) := by decide +kernel
theorem d_Mo_touch_102 : decode b_Mo_touch 102 = .ok (.aload_n 0, 1) := by decide +kernel
theorem d_Mo_touch_103 : decode b_Mo_touch 103 = .ok (.getfield 40, 3) := by decide +kernel
theorem d_Mo_touch_106 : decode b_Mo_touch 106 = .ok (.aload_n 0, 1) := by decide +kernel
theorem d_Mo_touch_107 : decode b_Mo_touch 107 = .ok (.getfield 13, 3) := by decide +kernel
theorem d_Mo_touch_110 : decode b_Mo_touch 110 = .ok (.iload_n 1, 1) := by decide +kernel
theorem d_Mo_touch_111 : decode b_Mo_touch 111 = .ok (.iaload, 1) := by decide +kernel
theorem d_Mo_touch_112 : decode b_Mo_touch 112 = .ok (.aload_n 0, 1) := by decide +kernel
theorem d_Mo_touch_113 : decode b_Mo_touch 113 = .ok (.iload_n 2, 1) := by decide +kernel
theorem d_Mo_touch_114 : decode b_Mo_touch 114 = .ok (.invokevirtual 131, 3) := by decide +kernel
theorem d_Mo_touch_117 : decode b_Mo_touch 117 = .ok (.iastore, 1) := by decide +kernel
theorem d_Mo_touch_118 : decode b_Mo_touch 118 = .ok (.goto 48, 3) := by decide +kernel
theorem d_Mo_touch_121 : decode b_Mo_touch 121 = .ok (.iconst 0, 1) := by decide +kernel
theorem d_Mo_touch_122 : decode b_Mo_touch 122 = .ok (.istore 4, 2) := by decide +kernel
theorem d_Mo_touch_124 : decode b_Mo_touch 124 = .ok (.iload 4, 2) := by decide +kernel
theorem d_Mo_touch_126 : decode b_Mo_touch 126 = .ok (.iload_n 3, 1) := by decide +kernel
theorem d_Mo_touch_127 : decode b_Mo_touch 127 = .ok (.if_icmp .ge 39, 3) := by decide +kernel
theorem d_Mo_touch_130 : decode b_Mo_touch 130 = .ok (.aload_n 0, 1) := by decide +kernel
theorem d_Mo_touch_131 : decode b_Mo_touch 131 = .ok (.getfield 25, 3) := by decide +kernel
theorem d_Mo_touch_134 : decode b_Mo_touch 134 = .ok (.iload_n 2, 1) := by decide +kernel
theorem d_Mo_touch_135 : decode b_Mo_touch 135 = .ok (.iload 4, 2) := by decide +kernel
theorem d_Mo_touch_137 : decode b_Mo_touch 137 = .ok (.iadd, 1) := by decide +kernel
theorem d_Mo_touch_138 : decode b_Mo_touch 138 = .ok (.aload_n 0, 1) := by decide +kernel
theorem d_Mo_touch_139 : decode b_Mo_touch 139 = .ok (.getfield 40, 3) := by decide +kernel
theorem d_Mo_touch_142 : decode b_Mo_touch 142 = .ok (.aload_n 0, 1) := by decide +kernel
theorem d_Mo_touch_143 : decode b_Mo_touch 143 = .ok (.getfield 19, 3) := by decide +kernel
theorem d_Mo_touch_146 : decode b_Mo_touch 146 = .ok (.iload_n 1, 1) := by decide +kernel
theorem d_Mo_touch_147 : decode b_Mo_touch 147 = .ok (.iaload, 1) := by decide +kernel
theorem d_Mo_touch_148 : decode b_Mo_touch 148 = .ok (.iaload, 1) := by decide +kernel
theorem d_Mo_touch_149 : decode b_Mo_touch 149 = .ok (.bipush 8, 2) := by decide +kernel
theorem d_Mo_touch_151 : decode b_Mo_touch 151 = .ok (.iload 4, 2) := by decide +kernel
theorem d_Mo_touch_153 : decode b_Mo_touch 153 = .ok (.imul, 1) := by decide +kernel
theorem d_Mo_touch_154 : decode b_Mo_touch 154 = .ok (.ishr, 1) := by decide +kernel
theorem d_Mo_touch_155 : decode b_Mo_touch 155 = .ok (.sipush 255, 3) := by decide +kernel
theorem d_Mo_touch_158 : decode b_Mo_touch 158 = .ok (.iand, 1) := by decide +kernel
theorem d_Mo_touch_159 : decode b_Mo_touch 159 = .ok (.iastore, 1) := by decide +kernel
theorem d_Mo_touch_160 : decode b_Mo_touch 160 = .ok (.iinc 4 1, 3) := by decide +kernel
theorem d_Mo_touch_163 : decode b_Mo_touch 163 = .ok (.goto (-39), 3) := by decide +kernel
theorem d_Mo_touch_166 : decode b_Mo_touch 166 = .ok (.return_, 1) := by decide +kernel
theorem d_Mo_load_0 : decode b_Mo_load 0 = .ok (.iconst 0, 1) := by decide +kernel
theorem d_Mo_load_1 : decode b_Mo_load 1 = .ok (.istore_n 2, 1) := by decide +kernel
theorem d_Mo_load_2 : decode b_Mo_load 2 = .ok (.iconst 3, 1) := by decide +kernel
theorem d_Mo_load_3 : decode b_Mo_load 3 = .ok (.istore_n 3, 1) := by decide +kernel
theorem d_Mo_load_4 : decode b_Mo_load 4 = .ok (.iload_n 3, 1) := by decide +kernel
theorem d_Mo_load_5 : decode b_Mo_load 5 = .ok (.ifCond .lt 23, 3) := by decide +kernel
theorem d_Mo_load_8 : decode b_Mo_load 8 = .ok (.iload_n 2, 1) := by decide +kernel
theorem d_Mo_load_9 : decode b_Mo_load 9 = .ok (.bipush 8, 2) := by decide +kernel
theorem d_Mo_load_11 : decode b_Mo_load 11 = .ok (.ishl, 1) := by decide +kernel
theorem d_Mo_load_12 : decode b_Mo_load 12 = .ok (.aload_n 0, 1) := by decide +kernel
theorem d_Mo_load_13 : decode b_Mo_load 13 = .ok (.getfield 25, 3) := by decide +kernel
theorem d_Mo_load_16 : decode b_Mo_load 16 = .ok (.iload_n 1, 1) := by decide +kernel
theorem d_Mo_load_17 : decode b_Mo_load 17 = .ok (.iload_n 3, 1) := by decide +kernel
theorem d_Mo_load_18 : decode b_Mo_load 18 = .ok (.iadd, 1) := by decide +kernel
theorem d_Mo_load_19 : decode b_Mo_load 19 = .ok (.iaload, 1) := by decide +kernel
theorem d_Mo_load_20 : decode b_Mo_load 20 = .ok (.ior, 1) := by decide +kernel
theorem d_Mo_load_21 : decode b_Mo_load 21 = .ok (.istore_n 2, 1) := by decide +kernel
theorem d_Mo_load_22 : decode b_Mo_load 22 = .ok (.iinc 3 (-1), 3) := by decide +kernel
theorem d_Mo_load_25 : decode b_Mo_load 25 = .ok (.goto (-21), 3) := by decide +kernel
theorem d_Mo_load_28 : decode b_Mo_load 28 = .ok (.iload_n 2, 1) := by decide +kernel
theorem d_Mo_load_29 : decode b_Mo_load 29 = .ok (.ireturn, 1) := by decide +kernel
theorem d_Mo_look_0 : decode b_Mo_look 0 = .ok (.aload_n 0, 1) := by decide +kernel
theorem d_Mo_look_1 : decode b_Mo_look 1 = .ok (.iload_n 1, 1) := by decide +kernel
theorem d_Mo_look_2 : decode b_Mo_look 2 = .ok (.ifCond .lt 8, 3) := by decide +kernel
theorem d_Mo_look_5 : decode b_Mo_look 5 = .ok (.iload_n 1, 1) := by decide +kernel
theorem d_Mo_look_6 : decode b_Mo_look 6 = .ok (.iconst 5, 1) := by decide +kernel
theorem d_Mo_look_7 : decode b_Mo_look 7 = .ok (.if_icmp .le 7, 3) := by decide +kernel
theorem d_Mo_look_10 : decode b_Mo_look 10 = .ok (.iconst 1, 1) := by decide +kernel
theorem d_Mo_look_11 : decode b_Mo_look 11 = .ok (.goto 4, 3) := by decide +kernel
theorem d_Mo_look_14 : decode b_Mo_look 14 = .ok (.iconst 0, 1) := by decide +kernel
theorem d_Mo_look_15 : decode b_Mo_look 15 = .ok (.putfield 49, 3) := by decide +kernel
theorem d_Mo_look_18 : decode b_Mo_look 18 = .ok (.aload_n 0, 1) := by decide +kernel
theorem d_Mo_look_19 : decode b_Mo_look 19 = .ok (.getfield 49, 3) := by decide +kernel
theorem d_Mo_look_22 : decode b_Mo_look 22 = .ok (.ifCond .le 5, 3) := by decide +kernel
theorem d_Mo_look_25 : decode b_Mo_look 25 = .ok (.iconst 0, 1) := by decide +kernel
theorem d_Mo_look_26 : decode b_Mo_look 26 = .ok (.ireturn, 1) := by decide +kernel
theorem d_Mo_look_27 : decode b_Mo_look 27 = .ok (.iload_n 1, 1) := by decide +kernel
theorem d_Mo_look_28 : decode b_Mo_look 28 = .ok (.ifCond .ne 8, 3) := by decide +kernel
theorem d_Mo_look_31 : decode b_Mo_look 31 = .ok (.aload_n 0, 1) := by decide +kernel
theorem d_Mo_look_32 : decode b_Mo_look 32 = .ok (.getfield 64, 3) := by decide +kernel
theorem d_Mo_look_35 : decode b_Mo_look 35 = .ok (.ireturn, 1) := by decide +kernel
theorem d_Mo_look_36 : decode b_Mo_look 36 = .ok (.iload_n 1, 1) := by decide +kernel
theorem d_Mo_look_37 : decode b_Mo_look 37 = .ok (.iconst 5, 1) := by decide +kernel
theorem d_Mo_look_38 : decode b_Mo_look 38 = .ok (.if_icmp .ne 8, 3) := by decide +kernel
theorem d_Mo_look_41 : decode b_Mo_look 41 = .ok (.aload_n 0, 1) := by decide +kernel
theorem d_Mo_look_42 : decode b_Mo_look 42 = .ok (.getfield 61, 3) := by decide +kernel
theorem d_Mo_look_45 : decode b_Mo_look 45 = .ok (.ireturn, 1) := by decide +kernel
theorem d_Mo_look_46 : decode b_Mo_look 46 = .ok (.aload_n 0, 1) := by decide +kernel
theorem d_Mo_look_47 : decode b_Mo_look 47 = .ok (.getfield 64, 3) := by decide +kernel
theorem d_Mo_look_50 : decode b_Mo_look 50 = .ok (.ifCond .ne 5, 3) := by decide +kernel
theorem d_Mo_look_53 : decode b_Mo_look 53 = .ok (.iconst 0, 1) := by decide +kernel
theorem d_Mo_look_54 : decode b_Mo_look 54 = .ok (.ireturn, 1) := by decide +kernel
theorem d_Mo_look_55 : decode b_Mo_look 55 = .ok (.iload_n 1, 1) := by decide +kernel
theorem d_Mo_look_56 : decode b_Mo_look 56 = .ok (.iconst 1, 1) := by decide +kernel
theorem d_Mo_look_57 : decode b_Mo_look 57 = .ok (.if_icmp .ne 25, 3) := by decide +kernel
theorem d_Mo_look_60 : decode b_Mo_look 60 = .ok (.aload_n 0, 1) := by decide +kernel
theorem d_Mo_look_61 : decode b_Mo_look 61 = .ok (.getfield 64, 3) := by decide +kernel
theorem d_Mo_look_64 : decode b_Mo_look 64 = .ok (.iconst 1, 1) := by decide +kernel
theorem d_Mo_look_65 : decode b_Mo_look 65 = .ok (.if_icmp .ne 10, 3) := by decide +kernel
theorem d_Mo_look_68 : decode b_Mo_look 68 = .ok (.aload_n 0, 1) := by decide +kernel
theorem d_Mo_look_69 : decode b_Mo_look 69 = .ok (.getfield 103, 3) := by decide +kernel
theorem d_Mo_look_72 : decode b_Mo_look 72 = .ok (.goto 36, 3) := by decide +kernel
theorem d_Mo_look_75 : decode b_Mo_look 75 = .ok (.aload_n 0, 1) := by decide +kernel
theorem d_Mo_look_76 : decode b_Mo_look 76 = .ok (.getfield 106, 3) := by decide +kernel
theorem d_Mo_look_79 : decode b_Mo_look 79 = .ok (.goto 29, 3) := by decide +kernel
theorem d_Mo_look_82 : decode b_Mo_look 82 = .ok (.iload_n 1, 1) := by decide +kernel
theorem d_Mo_look_83 : decode b_Mo_look 83 = .ok (.iconst 2, 1) := by decide +kernel
theorem d_Mo_look_84 : decode b_Mo_look 84 = .ok (.if_icmp .ne 10, 3) := by decide +kernel
theorem d_Mo_look_87 : decode b_Mo_look 87 = .ok (.aload_n 0, 1) := by decide +kernel
theorem d_Mo_look_88 : decode b_Mo_look 88 = .ok (.getfield 109, 3) := by decide +kernel
theorem d_Mo_look_91 : decode b_Mo_look 91 = .ok (.goto 17, 3) := by decide +kernel
theorem d_Mo_look_94 : decode b_Mo_look 94 = .ok (.aload_n 0, 1) := by decide +kernel
theorem d_Mo_look_95 : decode b_Mo_look 95 = .ok (.iload_n 1, 1) := by decide +kernel
theorem d_Mo_look_96 : decode b_Mo_look 96 = .ok (.iconst 4, 1) := by decide +kernel
theorem d_Mo_look_97 : decode b_Mo_look 97 = .ok (.if_icmp .ne 7, 3) := by decide +kernel
theorem d_Mo_look_100 : decode b_Mo_look 100 = .ok (.iconst 1, 1) := by decide +kernel
theorem d_Mo_look_101 : decode b_Mo_look 101 = .ok (.goto 4, 3) := by decide +kernel
theorem d_Mo_look_104 : decode b_Mo_look 104 = .ok (.iconst 0, 1) := by decide +kernel
theorem d_Mo_look_105 : decode b_Mo_look 105 = .ok (.invokevirtual 153, 3) := by decide +kernel
theorem d_Mo_look_108 : decode b_Mo_look 108 = .ok (.ireturn, 1) := by decide +kernel
theorem d_Mo_blocks_0 : decode b_Mo_blocks 0 = .ok (.iconst 0, 1) := by decide +kernel
theorem d_Mo_blocks_1 : decode b_Mo_blocks 1 = .ok (.istore_n 2, 1) := by decide +kernel
theorem d_Mo_blocks_2 : decode b_Mo_blocks 2 = .ok (.iconst 0, 1) := by decide +kernel
theorem d_Mo_blocks_3 : decode b_Mo_blocks 3 = .ok (.istore_n 3, 1) := by decide +kernel
theorem d_Mo_blocks_4 : decode b_Mo_blocks 4 = .ok (.iload_n 3, 1) := by decide +kernel
theorem d_Mo_blocks_5 : decode b_Mo_blocks 5 = .ok (.bipush 64, 2) := by decide +kernel
theorem d_Mo_blocks_7 : decode b_Mo_blocks 7 = .ok (.if_icmp .ge 45, 3) := by decide +kernel
theorem d_Mo_blocks_10 : decode b_Mo_blocks 10 = .ok (.iload_n 2, 1) := by decide +kernel
theorem d_Mo_blocks_11 : decode b_Mo_blocks 11 = .ok (.aload_n 0, 1) := by decide +kernel
theorem d_Mo_blocks_12 : decode b_Mo_blocks 12 = .ok (.getfield 34, 3) := by decide +kernel
theorem d_Mo_blocks_15 : decode b_Mo_blocks 15 = .ok (.iload_n 3, 1) := by decide +kernel
theorem d_Mo_blocks_16 : decode b_Mo_blocks 16 = .ok (.iaload, 1) := by decide +kernel
theorem d_Mo_blocks_17 : decode b_Mo_blocks 17 = .ok (.ifCond .le 26, 3) := by decide +kernel
theorem d_Mo_blocks_20 : decode b_Mo_blocks 20 = .ok (.aload_n 0, 1) := by decide +kernel
theorem d_Mo_blocks_21 : decode b_Mo_blocks 21 = .ok (.getfield 31, 3) := by decide +kernel
theorem d_Mo_blocks_24 : decode b_Mo_blocks 24 = .ok (.iload_n 3, 1) := by decide +kernel
theorem d_Mo_blocks_25 : decode b_Mo_blocks 25 = .ok (.iaload, 1) := by decide +kernel
theorem d_Mo_blocks_26 : decode b_Mo_blocks 26 = .ok (.iconst 2, 1) := by decide +kernel
theorem d_Mo_blocks_27 : decode b_Mo_blocks 27 = .ok (.if_icmp .ne 7, 3) := by decide +kernel
theorem d_Mo_blocks_30 : decode b_Mo_blocks 30 = .ok (.iconst 1, 1) := by decide +kernel
theorem d_Mo_blocks_31 : decode b_Mo_blocks 31 = .ok (.goto 4, 3) := by decide +kernel
theorem d_Mo_blocks_34 : decode b_Mo_blocks 34 = .ok (.iconst 0, 1) := by decide +kernel
theorem d_Mo_blocks_35 : decode b_Mo_blocks 35 = .ok (.iload_n 1, 1) := by decide +kernel
theorem d_Mo_blocks_36 : decode b_Mo_blocks 36 = .ok (.if_icmp .ne 7, 3) := by decide +kernel
theorem d_Mo_blocks_39 : decode b_Mo_blocks 39 = .ok (.iconst 1, 1) := by decide +kernel
theorem d_Mo_blocks_40 : decode b_Mo_blocks 40 = .ok (.goto 4, 3) := by decide +kernel
theorem d_Mo_blocks_43 : decode b_Mo_blocks 43 = .ok (.iconst 0, 1) := by decide +kernel
theorem d_Mo_blocks_44 : decode b_Mo_blocks 44 = .ok (.iadd, 1) := by decide +kernel
theorem d_Mo_blocks_45 : decode b_Mo_blocks 45 = .ok (.istore_n 2, 1) := by decide +kernel
theorem d_Mo_blocks_46 : decode b_Mo_blocks 46 = .ok (.iinc 3 1, 3) := by decide +kernel
theorem d_Mo_blocks_49 : decode b_Mo_blocks 49 = .ok (.goto (-45), 3) := by decide +kernel
theorem d_Mo_blocks_52 : decode b_Mo_blocks 52 = .ok (.iload_n 2, 1) := by decide +kernel
theorem d_Mo_blocks_53 : decode b_Mo_blocks 53 = .ok (.ireturn, 1) := by decide +kernel
theorem d_Mo_register_0 : decode b_Mo_register 0 = .ok (.aload_n 0, 1) := by decide +kernel
theorem d_Mo_register_1 : decode b_Mo_register 1 = .ok (.iload_n 1, 1) := by decide +kernel
theorem d_Mo_register_2 : decode b_Mo_register 2 = .ok (.invokestatic 53, 3) := by decide +kernel
theorem d_Mo_register_5 : decode b_Mo_register 5 = .ok (.ifCond .eq 7, 3) := by decide +kernel
theorem d_Mo_register_8 : decode b_Mo_register 8 = .ok (.iconst 0, 1) := by decide +kernel
theorem d_Mo_register_9 : decode b_Mo_register 9 = .ok (.goto 4, 3) := by decide +kernel
theorem d_Mo_register_12 : decode b_Mo_register 12 = .ok (.iconst 1, 1) := by decide +kernel
theorem d_Mo_register_13 : decode b_Mo_register 13 = .ok (.putfield 49, 3) := by decide +kernel
theorem d_Mo_register_16 : decode b_Mo_register 16 = .ok (.aload_n 0, 1) := by decide +kernel
theorem d_Mo_register_17 : decode b_Mo_register 17 = .ok (.getfield 49, 3) := by decide +kernel
theorem d_Mo_register_20 : decode b_Mo_register 20 = .ok (.ifCond .gt 10, 3) := by decide +kernel
theorem d_Mo_register_23 : decode b_Mo_register 23 = .ok (.aload_n 0, 1) := by decide +kernel
theorem d_Mo_register_24 : decode b_Mo_register 24 = .ok (.getfield 64, 3) := by decide +kernel
theorem d_Mo_register_27 : decode b_Mo_register 27 = .ok (.ifCond .ne 7, 3) := by decide +kernel
theorem d_Mo_register_30 : decode b_Mo_register 30 = .ok (.iconst 0, 1) := by decide +kernel
theorem d_Mo_register_31 : decode b_Mo_register 31 = .ok (.goto 9, 3) := by decide +kernel
theorem d_Mo_register_34 : decode b_Mo_register 34 = .ok (.aload_n 0, 1) := by decide +kernel
theorem d_Mo_register_35 : decode b_Mo_register 35 = .ok (.getfield 40, 3) := by decide +kernel
theorem d_Mo_register_38 : decode b_Mo_register 38 = .ok (.iload_n 1, 1) := by decide +kernel
theorem d_Mo_register_39 : decode b_Mo_register 39 = .ok (.iaload, 1) := by decide +kernel
theorem d_Mo_register_40 : decode b_Mo_register 40 = .ok (.ireturn, 1) := by decide +kernel
theorem d_Mo_printed_0 : decode b_Mo_printed 0 = .ok (.aload_n 0, 1) := by decide +kernel
theorem d_Mo_printed_1 : decode b_Mo_printed 1 = .ok (.aload_n 0, 1) := by decide +kernel
theorem d_Mo_printed_2 : decode b_Mo_printed 2 = .ok (.getfield 64, 3) := by decide +kernel
theorem d_Mo_printed_5 : decode b_Mo_printed 5 = .ok (.ifCond .eq 15, 3) := by decide +kernel
theorem d_Mo_printed_8 : decode b_Mo_printed 8 = .ok (.iload_n 1, 1) := by decide +kernel
theorem d_Mo_printed_9 : decode b_Mo_printed 9 = .ok (.ifCond .lt 11, 3) := by decide +kernel
theorem d_Mo_printed_12 : decode b_Mo_printed 12 = .ok (.iload_n 1, 1) := by decide +kernel
theorem d_Mo_printed_13 : decode b_Mo_printed 13 = .ok (.aload_n 0, 1) := by decide +kernel
theorem d_Mo_printed_14 : decode b_Mo_printed 14 = .ok (.getfield 109, 3) := by decide +kernel
theorem d_Mo_printed_17 : decode b_Mo_printed 17 = .ok (.if_icmp .lt 7, 3) := by decide +kernel
theorem d_Mo_printed_20 : decode b_Mo_printed 20 = .ok (.iconst 1, 1) := by decide +kernel
theorem d_Mo_printed_21 : decode b_Mo_printed 21 = .ok (.goto 4, 3) := by decide +kernel
theorem d_Mo_printed_24 : decode b_Mo_printed 24 = .ok (.iconst 0, 1) := by decide +kernel
theorem d_Mo_printed_25 : decode b_Mo_printed 25 = .ok (.putfield 49, 3) := by decide +kernel
theorem d_Mo_printed_28 : decode b_Mo_printed 28 = .ok (.aload_n 0, 1) := by decide +kernel
theorem d_Mo_printed_29 : decode b_Mo_printed 29 = .ok (.getfield 49, 3) := by decide +kernel
theorem d_Mo_printed_32 : decode b_Mo_printed 32 = .ok (.ifCond .le 7, 3) := by decide +kernel
theorem d_Mo_printed_35 : decode b_Mo_printed 35 = .ok (.iconst 0, 1) := by decide +kernel
theorem d_Mo_printed_36 : decode b_Mo_printed 36 = .ok (.goto 9, 3) := by decide +kernel
theorem d_Mo_printed_39 : decode b_Mo_printed 39 = .ok (.aload_n 0, 1) := by decide +kernel
theorem d_Mo_printed_40 : decode b_Mo_printed 40 = .ok (.getfield 43, 3) := by decide +kernel
theorem d_Mo_printed_43 : decode b_Mo_printed 43 = .ok (.iload_n 1, 1) := by decide +kernel
theorem d_Mo_printed_44 : decode b_Mo_printed 44 = .ok (.iaload, 1) := by decide +kernel
theorem d_Mo_printed_45 : decode b_Mo_printed 45 = .ok (.ireturn, 1) := by decide +kernel
theorem d_Mo_heap_0 : decode b_Mo_heap 0 = .ok (.aload_n 0, 1) := by decide +kernel
theorem d_Mo_heap_1 : decode b_Mo_heap 1 = .ok (.iload_n 1, 1) := by decide +kernel
theorem d_Mo_heap_2 : decode b_Mo_heap 2 = .ok (.invokestatic 96, 3) := by decide +kernel
theorem d_Mo_heap_5 : decode b_Mo_heap 5 = .ok (.ifCond .eq 7, 3) := by decide +kernel
theorem d_Mo_heap_8 : decode b_Mo_heap 8 = .ok (.iconst 0, 1) := by decide +kernel
theorem d_Mo_heap_9 : decode b_Mo_heap 9 = .ok (.goto 4, 3) := by decide +kernel
theorem d_Mo_heap_12 : decode b_Mo_heap 12 = .ok (.iconst 1, 1) := by decide +kernel
theorem d_Mo_heap_13 : decode b_Mo_heap 13 = .ok (.putfield 49, 3) := by decide +kernel
theorem d_Mo_heap_16 : decode b_Mo_heap 16 = .ok (.aload_n 0, 1) := by decide +kernel
theorem d_Mo_heap_17 : decode b_Mo_heap 17 = .ok (.getfield 49, 3) := by decide +kernel
end
section
theorem d_Mo_heap_20 : decode b_Mo_heap 20 = .ok (.ifCond .le 7, 3) := by decide +kernel
theorem d_Mo_heap_23 : decode b_Mo_heap 23 = .ok (.iconst 0, 1) := by decide +kernel
theorem d_Mo_heap_24 : decode b_Mo_heap 24 = .ok (.goto 9, 3) := by decide +kernel
theorem d_Mo_heap_27 : decode b_Mo_heap 27 = .ok (.aload_n 0, 1) := by decide +kernel
theorem d_Mo_heap_28 : decode b_Mo_heap 28 = .ok (.getfield 25, 3) := by decide +kernel
theorem d_Mo_heap_31 : decode b_Mo_heap 31 = .ok (.iload_n 1, 1) := by decide +kernel
theorem d_Mo_heap_32 : decode b_Mo_heap 32 = .ok (.iaload, 1) := by decide +kernel
theorem d_Mo_heap_33 : decode b_Mo_heap 33 = .ok (.ireturn, 1) := by decide +kernel
theorem d_Mo_shadow_0 : decode b_Mo_shadow 0 = .ok (.aload_n 0, 1) := by decide +kernel
theorem d_Mo_shadow_1 : decode b_Mo_shadow 1 = .ok (.iload_n 1, 1) := by decide +kernel
theorem d_Mo_shadow_2 : decode b_Mo_shadow 2 = .ok (.ifCond .lt 9, 3) := by decide +kernel
theorem d_Mo_shadow_5 : decode b_Mo_shadow 5 = .ok (.iload_n 1, 1) := by decide +kernel
theorem d_Mo_shadow_6 : decode b_Mo_shadow 6 = .ok (.bipush 63, 2) := by decide +kernel
theorem d_Mo_shadow_8 : decode b_Mo_shadow 8 = .ok (.if_icmp .le 7, 3) := by decide +kernel
theorem d_Mo_shadow_11 : decode b_Mo_shadow 11 = .ok (.iconst 1, 1) := by decide +kernel
theorem d_Mo_shadow_12 : decode b_Mo_shadow 12 = .ok (.goto 4, 3) := by decide +kernel
theorem d_Mo_shadow_15 : decode b_Mo_shadow 15 = .ok (.iconst 0, 1) := by decide +kernel
theorem d_Mo_shadow_16 : decode b_Mo_shadow 16 = .ok (.putfield 49, 3) := by decide +kernel
theorem d_Mo_shadow_19 : decode b_Mo_shadow 19 = .ok (.aload_n 0, 1) := by decide +kernel
theorem d_Mo_shadow_20 : decode b_Mo_shadow 20 = .ok (.getfield 49, 3) := by decide +kernel
theorem d_Mo_shadow_23 : decode b_Mo_shadow 23 = .ok (.ifCond .le 7, 3) := by decide +kernel
theorem d_Mo_shadow_26 : decode b_Mo_shadow 26 = .ok (.iconst 0, 1) := by decide +kernel
theorem d_Mo_shadow_27 : decode b_Mo_shadow 27 = .ok (.goto 9, 3) := by decide +kernel
theorem d_Mo_shadow_30 : decode b_Mo_shadow 30 = .ok (.aload_n 0, 1) := by decide +kernel
theorem d_Mo_shadow_31 : decode b_Mo_shadow 31 = .ok (.getfield 28, 3) := by decide +kernel
theorem d_Mo_shadow_34 : decode b_Mo_shadow 34 = .ok (.iload_n 1, 1) := by decide +kernel
theorem d_Mo_shadow_35 : decode b_Mo_shadow 35 = .ok (.iaload, 1) := by decide +kernel
theorem d_Mo_shadow_36 : decode b_Mo_shadow 36 = .ok (.ireturn, 1) := by decide +kernel
theorem d_Mo_report_0 : decode b_Mo_report 0 = .ok (.aload_n 0, 1) := by decide +kernel
theorem d_Mo_report_1 : decode b_Mo_report 1 = .ok (.aload_n 0, 1) := by decide +kernel
theorem d_Mo_report_2 : decode b_Mo_report 2 = .ok (.getfield 64, 3) := by decide +kernel
theorem d_Mo_report_5 : decode b_Mo_report 5 = .ok (.iconst 3, 1) := by decide +kernel
theorem d_Mo_report_6 : decode b_Mo_report 6 = .ok (.if_icmp .eq 7, 3) := by decide +kernel
theorem d_Mo_report_9 : decode b_Mo_report 9 = .ok (.iconst 1, 1) := by decide +kernel
theorem d_Mo_report_10 : decode b_Mo_report 10 = .ok (.goto 17, 3) := by decide +kernel
theorem d_Mo_report_13 : decode b_Mo_report 13 = .ok (.iload_n 1, 1) := by decide +kernel
theorem d_Mo_report_14 : decode b_Mo_report 14 = .ok (.ifCond .lt 8, 3) := by decide +kernel
theorem d_Mo_report_17 : decode b_Mo_report 17 = .ok (.iload_n 1, 1) := by decide +kernel
theorem d_Mo_report_18 : decode b_Mo_report 18 = .ok (.iconst 2, 1) := by decide +kernel
theorem d_Mo_report_19 : decode b_Mo_report 19 = .ok (.if_icmp .le 7, 3) := by decide +kernel
theorem d_Mo_report_22 : decode b_Mo_report 22 = .ok (.iconst 2, 1) := by decide +kernel
theorem d_Mo_report_23 : decode b_Mo_report 23 = .ok (.goto 4, 3) := by decide +kernel
theorem d_Mo_report_26 : decode b_Mo_report 26 = .ok (.iconst 0, 1) := by decide +kernel
theorem d_Mo_report_27 : decode b_Mo_report 27 = .ok (.putfield 49, 3) := by decide +kernel
theorem d_Mo_report_30 : decode b_Mo_report 30 = .ok (.aload_n 0, 1) := by decide +kernel
theorem d_Mo_report_31 : decode b_Mo_report 31 = .ok (.getfield 49, 3) := by decide +kernel
theorem d_Mo_report_34 : decode b_Mo_report 34 = .ok (.ifCond .le 5, 3) := by decide +kernel
theorem d_Mo_report_37 : decode b_Mo_report 37 = .ok (.iconst 0, 1) := by decide +kernel
theorem d_Mo_report_38 : decode b_Mo_report 38 = .ok (.ireturn, 1) := by decide +kernel
theorem d_Mo_report_39 : decode b_Mo_report 39 = .ok (.iload_n 1, 1) := by decide +kernel
theorem d_Mo_report_40 : decode b_Mo_report 40 = .ok (.ifCond .ne 10, 3) := by decide +kernel
theorem d_Mo_report_43 : decode b_Mo_report 43 = .ok (.aload_n 0, 1) := by decide +kernel
theorem d_Mo_report_44 : decode b_Mo_report 44 = .ok (.getfield 112, 3) := by decide +kernel
theorem d_Mo_report_47 : decode b_Mo_report 47 = .ok (.goto 19, 3) := by decide +kernel
theorem d_Mo_report_50 : decode b_Mo_report 50 = .ok (.iload_n 1, 1) := by decide +kernel
theorem d_Mo_report_51 : decode b_Mo_report 51 = .ok (.iconst 1, 1) := by decide +kernel
theorem d_Mo_report_52 : decode b_Mo_report 52 = .ok (.if_icmp .ne 10, 3) := by decide +kernel
theorem d_Mo_report_55 : decode b_Mo_report 55 = .ok (.aload_n 0, 1) := by decide +kernel
theorem d_Mo_report_56 : decode b_Mo_report 56 = .ok (.getfield 115, 3) := by decide +kernel
theorem d_Mo_report_59 : decode b_Mo_report 59 = .ok (.goto 7, 3) := by decide +kernel
theorem d_Mo_report_62 : decode b_Mo_report 62 = .ok (.aload_n 0, 1) := by decide +kernel
theorem d_Mo_report_63 : decode b_Mo_report 63 = .ok (.getfield 118, 3) := by decide +kernel
theorem d_Mo_report_66 : decode b_Mo_report 66 = .ok (.ireturn, 1) := by decide +kernel
theorem d_La_law_0 : decode b_La_law 0 = .ok (.new 8, 3) := by decide +kernel
theorem d_La_law_3 : decode b_La_law 3 = .ok (.dup, 1) := by decide +kernel
theorem d_La_law_4 : decode b_La_law 4 = .ok (.invokespecial 53, 3) := by decide +kernel
theorem d_La_law_7 : decode b_La_law 7 = .ok (.astore_n 1, 1) := by decide +kernel
theorem d_La_law_8 : decode b_La_law 8 = .ok (.new 54, 3) := by decide +kernel
theorem d_La_law_11 : decode b_La_law 11 = .ok (.dup, 1) := by decide +kernel
theorem d_La_law_12 : decode b_La_law 12 = .ok (.invokespecial 56, 3) := by decide +kernel
theorem d_La_law_15 : decode b_La_law 15 = .ok (.astore_n 2, 1) := by decide +kernel
theorem d_La_law_16 : decode b_La_law 16 = .ok (.iconst 1, 1) := by decide +kernel
theorem d_La_law_17 : decode b_La_law 17 = .ok (.newarray .long, 2) := by decide +kernel
theorem d_La_law_19 : decode b_La_law 19 = .ok (.astore_n 3, 1) := by decide +kernel
theorem d_La_law_20 : decode b_La_law 20 = .ok (.iconst 0, 1) := by decide +kernel
theorem d_La_law_21 : decode b_La_law 21 = .ok (.istore 4, 2) := by decide +kernel
theorem d_La_law_23 : decode b_La_law 23 = .ok (.iload 4, 2) := by decide +kernel
theorem d_La_law_25 : decode b_La_law 25 = .ok (.aload_n 0, 1) := by decide +kernel
theorem d_La_law_26 : decode b_La_law 26 = .ok (.arraylength, 1) := by decide +kernel
theorem d_La_law_27 : decode b_La_law 27 = .ok (.bipush 6, 2) := by decide +kernel
theorem d_La_law_29 : decode b_La_law 29 = .ok (.isub, 1) := by decide +kernel
theorem d_La_law_30 : decode b_La_law 30 = .ok (.if_icmp .gt 775, 3) := by decide +kernel
theorem d_La_law_33 : decode b_La_law 33 = .ok (.aload_n 0, 1) := by decide +kernel
theorem d_La_law_34 : decode b_La_law 34 = .ok (.iload 4, 2) := by decide +kernel
theorem d_La_law_36 : decode b_La_law 36 = .ok (.iaload, 1) := by decide +kernel
theorem d_La_law_37 : decode b_La_law 37 = .ok (.bipush 15, 2) := by decide +kernel
theorem d_La_law_39 : decode b_La_law 39 = .ok (.iand, 1) := by decide +kernel
theorem d_La_law_40 : decode b_La_law 40 = .ok (.tableswitch 759 0 11 #[64, 168, 179, 223, 291, 367, 423, 479, 535, 591, 647, 703], 64) := by decide +kernel
theorem d_La_law_104 : decode b_La_law 104 = .ok (.aload_n 1, 1) := by decide +kernel
theorem d_La_law_105 : decode b_La_law 105 = .ok (.aload_n 0, 1) := by decide +kernel
theorem d_La_law_106 : decode b_La_law 106 = .ok (.iload 4, 2) := by decide +kernel
theorem d_La_law_108 : decode b_La_law 108 = .ok (.iconst 1, 1) := by decide +kernel
theorem d_La_law_109 : decode b_La_law 109 = .ok (.iadd, 1) := by decide +kernel
theorem d_La_law_110 : decode b_La_law 110 = .ok (.iaload, 1) := by decide +kernel
theorem d_La_law_111 : decode b_La_law 111 = .ok (.aload_n 0, 1) := by decide +kernel
theorem d_La_law_112 : decode b_La_law 112 = .ok (.iload 4, 2) := by decide +kernel
theorem d_La_law_114 : decode b_La_law 114 = .ok (.iconst 2, 1) := by decide +kernel
theorem d_La_law_115 : decode b_La_law 115 = .ok (.iadd, 1) := by decide +kernel
theorem d_La_law_116 : decode b_La_law 116 = .ok (.iaload, 1) := by decide +kernel
theorem d_La_law_117 : decode b_La_law 117 = .ok (.aload_n 0, 1) := by decide +kernel
theorem d_La_law_118 : decode b_La_law 118 = .ok (.iload 4, 2) := by decide +kernel
theorem d_La_law_120 : decode b_La_law 120 = .ok (.iconst 3, 1) := by decide +kernel
theorem d_La_law_121 : decode b_La_law 121 = .ok (.iadd, 1) := by decide +kernel
theorem d_La_law_122 : decode b_La_law 122 = .ok (.iaload, 1) := by decide +kernel
theorem d_La_law_123 : decode b_La_law 123 = .ok (.aload_n 0, 1) := by decide +kernel
theorem d_La_law_124 : decode b_La_law 124 = .ok (.iload 4, 2) := by decide +kernel
theorem d_La_law_126 : decode b_La_law 126 = .ok (.iconst 4, 1) := by decide +kernel
theorem d_La_law_127 : decode b_La_law 127 = .ok (.iadd, 1) := by decide +kernel
theorem d_La_law_128 : decode b_La_law 128 = .ok (.iaload, 1) := by decide +kernel
theorem d_La_law_129 : decode b_La_law 129 = .ok (.aload_n 0, 1) := by decide +kernel
theorem d_La_law_130 : decode b_La_law 130 = .ok (.iload 4, 2) := by decide +kernel
theorem d_La_law_132 : decode b_La_law 132 = .ok (.iconst 5, 1) := by decide +kernel
theorem d_La_law_133 : decode b_La_law 133 = .ok (.iadd, 1) := by decide +kernel
theorem d_La_law_134 : decode b_La_law 134 = .ok (.iaload, 1) := by decide +kernel
theorem d_La_law_135 : decode b_La_law 135 = .ok (.aload_n 3, 1) := by decide +kernel
theorem d_La_law_136 : decode b_La_law 136 = .ok (.invokestatic 57, 3) := by decide +kernel
theorem d_La_law_139 : decode b_La_law 139 = .ok (.istore 5, 2) := by decide +kernel
theorem d_La_law_141 : decode b_La_law 141 = .ok (.aload_n 2, 1) := by decide +kernel
theorem d_La_law_142 : decode b_La_law 142 = .ok (.aload_n 0, 1) := by decide +kernel
theorem d_La_law_143 : decode b_La_law 143 = .ok (.iload 4, 2) := by decide +kernel
theorem d_La_law_145 : decode b_La_law 145 = .ok (.iconst 1, 1) := by decide +kernel
theorem d_La_law_146 : decode b_La_law 146 = .ok (.iadd, 1) := by decide +kernel
theorem d_La_law_147 : decode b_La_law 147 = .ok (.iaload, 1) := by decide +kernel
theorem d_La_law_148 : decode b_La_law 148 = .ok (.aload_n 0, 1) := by decide +kernel
theorem d_La_law_149 : decode b_La_law 149 = .ok (.iload 4, 2) := by decide +kernel
theorem d_La_law_151 : decode b_La_law 151 = .ok (.iconst 2, 1) := by decide +kernel
theorem d_La_law_152 : decode b_La_law 152 = .ok (.iadd, 1) := by decide +kernel
theorem d_La_law_153 : decode b_La_law 153 = .ok (.iaload, 1) := by decide +kernel
theorem d_La_law_154 : decode b_La_law 154 = .ok (.aload_n 0, 1) := by decide +kernel
theorem d_La_law_155 : decode b_La_law 155 = .ok (.iload 4, 2) := by decide +kernel
end
section
theorem d_La_law_157 : decode b_La_law 157 = .ok (.iconst 3, 1) := by decide +kernel
theorem d_La_law_158 : decode b_La_law 158 = .ok (.iadd, 1) := by decide +kernel
theorem d_La_law_159 : decode b_La_law 159 = .ok (.iaload, 1) := by decide +kernel
theorem d_La_law_160 : decode b_La_law 160 = .ok (.aload_n 0, 1) := by decide +kernel
theorem d_La_law_161 : decode b_La_law 161 = .ok (.iload 4, 2) := by decide +kernel
theorem d_La_law_163 : decode b_La_law 163 = .ok (.iconst 4, 1) := by decide +kernel
theorem d_La_law_164 : decode b_La_law 164 = .ok (.iadd, 1) := by decide +kernel
theorem d_La_law_165 : decode b_La_law 165 = .ok (.iaload, 1) := by decide +kernel
theorem d_La_law_166 : decode b_La_law 166 = .ok (.aload_n 0, 1) := by decide +kernel
theorem d_La_law_167 : decode b_La_law 167 = .ok (.iload 4, 2) := by decide +kernel
theorem d_La_law_169 : decode b_La_law 169 = .ok (.iconst 5, 1) := by decide +kernel
theorem d_La_law_170 : decode b_La_law 170 = .ok (.iadd, 1) := by decide +kernel
theorem d_La_law_171 : decode b_La_law 171 = .ok (.iaload, 1) := by decide +kernel
theorem d_La_law_172 : decode b_La_law 172 = .ok (.invokevirtual 62, 3) := by decide +kernel
theorem d_La_law_175 : decode b_La_law 175 = .ok (.istore 6, 2) := by decide +kernel
theorem d_La_law_177 : decode b_La_law 177 = .ok (.aload_n 2, 1) := by decide +kernel
theorem d_La_law_178 : decode b_La_law 178 = .ok (.invokevirtual 63, 3) := by decide +kernel
theorem d_La_law_181 : decode b_La_law 181 = .ok (.iload 5, 2) := by decide +kernel
theorem d_La_law_183 : decode b_La_law 183 = .ok (.if_icmp .eq 5, 3) := by decide +kernel
theorem d_La_law_186 : decode b_La_law 186 = .ok (.iconst 0, 1) := by decide +kernel
theorem d_La_law_187 : decode b_La_law 187 = .ok (.ireturn, 1) := by decide +kernel
theorem d_La_law_188 : decode b_La_law 188 = .ok (.iload 5, 2) := by decide +kernel
theorem d_La_law_190 : decode b_La_law 190 = .ok (.ifCond .ne 15, 3) := by decide +kernel
theorem d_La_law_193 : decode b_La_law 193 = .ok (.aload_n 3, 1) := by decide +kernel
theorem d_La_law_194 : decode b_La_law 194 = .ok (.iconst 0, 1) := by decide +kernel
theorem d_La_law_195 : decode b_La_law 195 = .ok (.laload, 1) := by decide +kernel
theorem d_La_law_196 : decode b_La_law 196 = .ok (.iload 6, 2) := by decide +kernel
theorem d_La_law_198 : decode b_La_law 198 = .ok (.i2l, 1) := by decide +kernel
theorem d_La_law_199 : decode b_La_law 199 = .ok (.lcmp, 1) := by decide +kernel
theorem d_La_law_200 : decode b_La_law 200 = .ok (.ifCond .eq 5, 3) := by decide +kernel
theorem d_La_law_203 : decode b_La_law 203 = .ok (.iconst 0, 1) := by decide +kernel
theorem d_La_law_204 : decode b_La_law 204 = .ok (.ireturn, 1) := by decide +kernel
theorem d_La_law_205 : decode b_La_law 205 = .ok (.goto 594, 3) := by decide +kernel
theorem d_La_law_208 : decode b_La_law 208 = .ok (.aload_n 1, 1) := by decide +kernel
theorem d_La_law_209 : decode b_La_law 209 = .ok (.invokevirtual 66, 3) := by decide +kernel
theorem d_La_law_212 : decode b_La_law 212 = .ok (.aload_n 2, 1) := by decide +kernel
theorem d_La_law_213 : decode b_La_law 213 = .ok (.invokevirtual 69, 3) := by decide +kernel
theorem d_La_law_216 : decode b_La_law 216 = .ok (.goto 583, 3) := by decide +kernel
theorem d_La_law_219 : decode b_La_law 219 = .ok (.aload_n 1, 1) := by decide +kernel
theorem d_La_law_220 : decode b_La_law 220 = .ok (.aload_n 3, 1) := by decide +kernel
theorem d_La_law_221 : decode b_La_law 221 = .ok (.invokestatic 70, 3) := by decide +kernel
theorem d_La_law_224 : decode b_La_law 224 = .ok (.istore 5, 2) := by decide +kernel
theorem d_La_law_226 : decode b_La_law 226 = .ok (.aload_n 2, 1) := by decide +kernel
theorem d_La_law_227 : decode b_La_law 227 = .ok (.invokevirtual 73, 3) := by decide +kernel
theorem d_La_law_230 : decode b_La_law 230 = .ok (.istore 6, 2) := by decide +kernel
theorem d_La_law_232 : decode b_La_law 232 = .ok (.aload_n 2, 1) := by decide +kernel
theorem d_La_law_233 : decode b_La_law 233 = .ok (.invokevirtual 63, 3) := by decide +kernel
theorem d_La_law_236 : decode b_La_law 236 = .ok (.iload 5, 2) := by decide +kernel
theorem d_La_law_238 : decode b_La_law 238 = .ok (.if_icmp .eq 5, 3) := by decide +kernel
theorem d_La_law_241 : decode b_La_law 241 = .ok (.iconst 0, 1) := by decide +kernel
theorem d_La_law_242 : decode b_La_law 242 = .ok (.ireturn, 1) := by decide +kernel
theorem d_La_law_243 : decode b_La_law 243 = .ok (.iload 5, 2) := by decide +kernel
theorem d_La_law_245 : decode b_La_law 245 = .ok (.ifCond .ne 15, 3) := by decide +kernel
theorem d_La_law_248 : decode b_La_law 248 = .ok (.aload_n 3, 1) := by decide +kernel
theorem d_La_law_249 : decode b_La_law 249 = .ok (.iconst 0, 1) := by decide +kernel
theorem d_La_law_250 : decode b_La_law 250 = .ok (.laload, 1) := by decide +kernel
theorem d_La_law_251 : decode b_La_law 251 = .ok (.iload 6, 2) := by decide +kernel
theorem d_La_law_253 : decode b_La_law 253 = .ok (.i2l, 1) := by decide +kernel
theorem d_La_law_254 : decode b_La_law 254 = .ok (.lcmp, 1) := by decide +kernel
theorem d_La_law_255 : decode b_La_law 255 = .ok (.ifCond .eq 5, 3) := by decide +kernel
theorem d_La_law_258 : decode b_La_law 258 = .ok (.iconst 0, 1) := by decide +kernel
theorem d_La_law_259 : decode b_La_law 259 = .ok (.ireturn, 1) := by decide +kernel
theorem d_La_law_260 : decode b_La_law 260 = .ok (.goto 539, 3) := by decide +kernel
theorem d_La_law_263 : decode b_La_law 263 = .ok (.aload_n 1, 1) := by decide +kernel
theorem d_La_law_264 : decode b_La_law 264 = .ok (.aload_n 0, 1) := by decide +kernel
theorem d_La_law_265 : decode b_La_law 265 = .ok (.iload 4, 2) := by decide +kernel
theorem d_La_law_267 : decode b_La_law 267 = .ok (.iconst 1, 1) := by decide +kernel
theorem d_La_law_268 : decode b_La_law 268 = .ok (.iadd, 1) := by decide +kernel
theorem d_La_law_269 : decode b_La_law 269 = .ok (.iaload, 1) := by decide +kernel
theorem d_La_law_270 : decode b_La_law 270 = .ok (.aload_n 0, 1) := by decide +kernel
theorem d_La_law_271 : decode b_La_law 271 = .ok (.iload 4, 2) := by decide +kernel
theorem d_La_law_273 : decode b_La_law 273 = .ok (.iconst 2, 1) := by decide +kernel
theorem d_La_law_274 : decode b_La_law 274 = .ok (.iadd, 1) := by decide +kernel
theorem d_La_law_275 : decode b_La_law 275 = .ok (.iaload, 1) := by decide +kernel
theorem d_La_law_276 : decode b_La_law 276 = .ok (.aload_n 3, 1) := by decide +kernel
theorem d_La_law_277 : decode b_La_law 277 = .ok (.invokestatic 74, 3) := by decide +kernel
theorem d_La_law_280 : decode b_La_law 280 = .ok (.istore 5, 2) := by decide +kernel
theorem d_La_law_282 : decode b_La_law 282 = .ok (.aload_n 2, 1) := by decide +kernel
theorem d_La_law_283 : decode b_La_law 283 = .ok (.aload_n 0, 1) := by decide +kernel
theorem d_La_law_284 : decode b_La_law 284 = .ok (.iload 4, 2) := by decide +kernel
end
section
theorem d_La_law_286 : decode b_La_law 286 = .ok (.iconst 1, 1) := by decide +kernel
theorem d_La_law_287 : decode b_La_law 287 = .ok (.iadd, 1) := by decide +kernel
theorem d_La_law_288 : decode b_La_law 288 = .ok (.iaload, 1) := by decide +kernel
theorem d_La_law_289 : decode b_La_law 289 = .ok (.aload_n 0, 1) := by decide +kernel
theorem d_La_law_290 : decode b_La_law 290 = .ok (.iload 4, 2) := by decide +kernel
theorem d_La_law_292 : decode b_La_law 292 = .ok (.iconst 2, 1) := by decide +kernel
theorem d_La_law_293 : decode b_La_law 293 = .ok (.iadd, 1) := by decide +kernel
theorem d_La_law_294 : decode b_La_law 294 = .ok (.iaload, 1) := by decide +kernel
theorem d_La_law_295 : decode b_La_law 295 = .ok (.invokevirtual 77, 3) := by decide +kernel
theorem d_La_law_298 : decode b_La_law 298 = .ok (.istore 6, 2) := by decide +kernel
theorem d_La_law_300 : decode b_La_law 300 = .ok (.aload_n 2, 1) := by decide +kernel
theorem d_La_law_301 : decode b_La_law 301 = .ok (.invokevirtual 63, 3) := by decide +kernel
theorem d_La_law_304 : decode b_La_law 304 = .ok (.iload 5, 2) := by decide +kernel
theorem d_La_law_306 : decode b_La_law 306 = .ok (.if_icmp .eq 5, 3) := by decide +kernel
theorem d_La_law_309 : decode b_La_law 309 = .ok (.iconst 0, 1) := by decide +kernel
theorem d_La_law_310 : decode b_La_law 310 = .ok (.ireturn, 1) := by decide +kernel
theorem d_La_law_311 : decode b_La_law 311 = .ok (.iload 5, 2) := by decide +kernel
theorem d_La_law_313 : decode b_La_law 313 = .ok (.ifCond .ne 15, 3) := by decide +kernel
theorem d_La_law_316 : decode b_La_law 316 = .ok (.aload_n 3, 1) := by decide +kernel
theorem d_La_law_317 : decode b_La_law 317 = .ok (.iconst 0, 1) := by decide +kernel
theorem d_La_law_318 : decode b_La_law 318 = .ok (.laload, 1) := by decide +kernel
theorem d_La_law_319 : decode b_La_law 319 = .ok (.iload 6, 2) := by decide +kernel
theorem d_La_law_321 : decode b_La_law 321 = .ok (.i2l, 1) := by decide +kernel
theorem d_La_law_322 : decode b_La_law 322 = .ok (.lcmp, 1) := by decide +kernel
theorem d_La_law_323 : decode b_La_law 323 = .ok (.ifCond .eq 5, 3) := by decide +kernel
theorem d_La_law_326 : decode b_La_law 326 = .ok (.iconst 0, 1) := by decide +kernel
theorem d_La_law_327 : decode b_La_law 327 = .ok (.ireturn, 1) := by decide +kernel
theorem d_La_law_328 : decode b_La_law 328 = .ok (.goto 471, 3) := by decide +kernel
theorem d_La_law_331 : decode b_La_law 331 = .ok (.aload_n 1, 1) := by decide +kernel
theorem d_La_law_332 : decode b_La_law 332 = .ok (.aload_n 0, 1) := by decide +kernel
theorem d_La_law_333 : decode b_La_law 333 = .ok (.iload 4, 2) := by decide +kernel
theorem d_La_law_335 : decode b_La_law 335 = .ok (.iconst 1, 1) := by decide +kernel
theorem d_La_law_336 : decode b_La_law 336 = .ok (.iadd, 1) := by decide +kernel
theorem d_La_law_337 : decode b_La_law 337 = .ok (.iaload, 1) := by decide +kernel
theorem d_La_law_338 : decode b_La_law 338 = .ok (.ifCond .eq 7, 3) := by decide +kernel
theorem d_La_law_341 : decode b_La_law 341 = .ok (.iconst 1, 1) := by decide +kernel
theorem d_La_law_342 : decode b_La_law 342 = .ok (.goto 4, 3) := by decide +kernel
theorem d_La_law_345 : decode b_La_law 345 = .ok (.iconst 0, 1) := by decide +kernel
theorem d_La_law_346 : decode b_La_law 346 = .ok (.aload_n 0, 1) := by decide +kernel
theorem d_La_law_347 : decode b_La_law 347 = .ok (.iload 4, 2) := by decide +kernel
theorem d_La_law_349 : decode b_La_law 349 = .ok (.iconst 2, 1) := by decide +kernel
theorem d_La_law_350 : decode b_La_law 350 = .ok (.iadd, 1) := by decide +kernel
theorem d_La_law_351 : decode b_La_law 351 = .ok (.iaload, 1) := by decide +kernel
theorem d_La_law_352 : decode b_La_law 352 = .ok (.aload_n 0, 1) := by decide +kernel
theorem d_La_law_353 : decode b_La_law 353 = .ok (.iload 4, 2) := by decide +kernel
theorem d_La_law_355 : decode b_La_law 355 = .ok (.iconst 3, 1) := by decide +kernel
theorem d_La_law_356 : decode b_La_law 356 = .ok (.iadd, 1) := by decide +kernel
theorem d_La_law_357 : decode b_La_law 357 = .ok (.iaload, 1) := by decide +kernel
theorem d_La_law_358 : decode b_La_law 358 = .ok (.invokestatic 78, 3) := by decide +kernel
theorem d_La_law_361 : decode b_La_law 361 = .ok (.istore 5, 2) := by decide +kernel
theorem d_La_law_363 : decode b_La_law 363 = .ok (.aload_n 2, 1) := by decide +kernel
theorem d_La_law_364 : decode b_La_law 364 = .ok (.aload_n 0, 1) := by decide +kernel
theorem d_La_law_365 : decode b_La_law 365 = .ok (.iload 4, 2) := by decide +kernel
theorem d_La_law_367 : decode b_La_law 367 = .ok (.iconst 1, 1) := by decide +kernel
theorem d_La_law_368 : decode b_La_law 368 = .ok (.iadd, 1) := by decide +kernel
theorem d_La_law_369 : decode b_La_law 369 = .ok (.iaload, 1) := by decide +kernel
theorem d_La_law_370 : decode b_La_law 370 = .ok (.ifCond .eq 7, 3) := by decide +kernel
theorem d_La_law_373 : decode b_La_law 373 = .ok (.iconst 1, 1) := by decide +kernel
theorem d_La_law_374 : decode b_La_law 374 = .ok (.goto 4, 3) := by decide +kernel
theorem d_La_law_377 : decode b_La_law 377 = .ok (.iconst 0, 1) := by decide +kernel
theorem d_La_law_378 : decode b_La_law 378 = .ok (.aload_n 0, 1) := by decide +kernel
theorem d_La_law_379 : decode b_La_law 379 = .ok (.iload 4, 2) := by decide +kernel
theorem d_La_law_381 : decode b_La_law 381 = .ok (.iconst 2, 1) := by decide +kernel
theorem d_La_law_382 : decode b_La_law 382 = .ok (.iadd, 1) := by decide +kernel
theorem d_La_law_383 : decode b_La_law 383 = .ok (.iaload, 1) := by decide +kernel
theorem d_La_law_384 : decode b_La_law 384 = .ok (.aload_n 0, 1) := by decide +kernel
theorem d_La_law_385 : decode b_La_law 385 = .ok (.iload 4, 2) := by decide +kernel
theorem d_La_law_387 : decode b_La_law 387 = .ok (.iconst 3, 1) := by decide +kernel
theorem d_La_law_388 : decode b_La_law 388 = .ok (.iadd, 1) := by decide +kernel
theorem d_La_law_389 : decode b_La_law 389 = .ok (.iaload, 1) := by decide +kernel
theorem d_La_law_390 : decode b_La_law 390 = .ok (.invokevirtual 81, 3) := by decide +kernel
theorem d_La_law_393 : decode b_La_law 393 = .ok (.aload_n 2, 1) := by decide +kernel
theorem d_La_law_394 : decode b_La_law 394 = .ok (.invokevirtual 63, 3) := by decide +kernel
theorem d_La_law_397 : decode b_La_law 397 = .ok (.iload 5, 2) := by decide +kernel
theorem d_La_law_399 : decode b_La_law 399 = .ok (.if_icmp .eq 5, 3) := by decide +kernel
theorem d_La_law_402 : decode b_La_law 402 = .ok (.iconst 0, 1) := by decide +kernel
theorem d_La_law_403 : decode b_La_law 403 = .ok (.ireturn, 1) := by decide +kernel
theorem d_La_law_404 : decode b_La_law 404 = .ok (.goto 395, 3) := by decide +kernel
theorem d_La_law_407 : decode b_La_law 407 = .ok (.aload_n 1, 1) := by decide +kernel
theorem d_La_law_408 : decode b_La_law 408 = .ok (.aload_n 0, 1) := by decide +kernel
end
section
theorem d_La_law_409 : decode b_La_law 409 = .ok (.iload 4, 2) := by decide +kernel
theorem d_La_law_411 : decode b_La_law 411 = .ok (.iconst 1, 1) := by decide +kernel
theorem d_La_law_412 : decode b_La_law 412 = .ok (.iadd, 1) := by decide +kernel
theorem d_La_law_413 : decode b_La_law 413 = .ok (.iaload, 1) := by decide +kernel
theorem d_La_law_414 : decode b_La_law 414 = .ok (.aload_n 3, 1) := by decide +kernel
theorem d_La_law_415 : decode b_La_law 415 = .ok (.invokestatic 82, 3) := by decide +kernel
theorem d_La_law_418 : decode b_La_law 418 = .ok (.istore 5, 2) := by decide +kernel
theorem d_La_law_420 : decode b_La_law 420 = .ok (.aload_n 2, 1) := by decide +kernel
theorem d_La_law_421 : decode b_La_law 421 = .ok (.aload_n 0, 1) := by decide +kernel
theorem d_La_law_422 : decode b_La_law 422 = .ok (.iload 4, 2) := by decide +kernel
theorem d_La_law_424 : decode b_La_law 424 = .ok (.iconst 1, 1) := by decide +kernel
theorem d_La_law_425 : decode b_La_law 425 = .ok (.iadd, 1) := by decide +kernel
theorem d_La_law_426 : decode b_La_law 426 = .ok (.iaload, 1) := by decide +kernel
theorem d_La_law_427 : decode b_La_law 427 = .ok (.invokevirtual 85, 3) := by decide +kernel
theorem d_La_law_430 : decode b_La_law 430 = .ok (.istore 6, 2) := by decide +kernel
theorem d_La_law_432 : decode b_La_law 432 = .ok (.aload_n 2, 1) := by decide +kernel
theorem d_La_law_433 : decode b_La_law 433 = .ok (.invokevirtual 63, 3) := by decide +kernel
theorem d_La_law_436 : decode b_La_law 436 = .ok (.iload 5, 2) := by decide +kernel
theorem d_La_law_438 : decode b_La_law 438 = .ok (.if_icmp .eq 5, 3) := by decide +kernel
theorem d_La_law_441 : decode b_La_law 441 = .ok (.iconst 0, 1) := by decide +kernel
theorem d_La_law_442 : decode b_La_law 442 = .ok (.ireturn, 1) := by decide +kernel
theorem d_La_law_443 : decode b_La_law 443 = .ok (.iload 5, 2) := by decide +kernel
theorem d_La_law_445 : decode b_La_law 445 = .ok (.ifCond .ne 15, 3) := by decide +kernel
theorem d_La_law_448 : decode b_La_law 448 = .ok (.aload_n 3, 1) := by decide +kernel
theorem d_La_law_449 : decode b_La_law 449 = .ok (.iconst 0, 1) := by decide +kernel
theorem d_La_law_450 : decode b_La_law 450 = .ok (.laload, 1) := by decide +kernel
theorem d_La_law_451 : decode b_La_law 451 = .ok (.iload 6, 2) := by decide +kernel
theorem d_La_law_453 : decode b_La_law 453 = .ok (.i2l, 1) := by decide +kernel
theorem d_La_law_454 : decode b_La_law 454 = .ok (.lcmp, 1) := by decide +kernel
theorem d_La_law_455 : decode b_La_law 455 = .ok (.ifCond .eq 5, 3) := by decide +kernel
theorem d_La_law_458 : decode b_La_law 458 = .ok (.iconst 0, 1) := by decide +kernel
theorem d_La_law_459 : decode b_La_law 459 = .ok (.ireturn, 1) := by decide +kernel
theorem d_La_law_460 : decode b_La_law 460 = .ok (.goto 339, 3) := by decide +kernel
theorem d_La_law_463 : decode b_La_law 463 = .ok (.aload_n 1, 1) := by decide +kernel
theorem d_La_law_464 : decode b_La_law 464 = .ok (.aload_n 0, 1) := by decide +kernel
theorem d_La_law_465 : decode b_La_law 465 = .ok (.iload 4, 2) := by decide +kernel
theorem d_La_law_467 : decode b_La_law 467 = .ok (.iconst 1, 1) := by decide +kernel
theorem d_La_law_468 : decode b_La_law 468 = .ok (.iadd, 1) := by decide +kernel
theorem d_La_law_469 : decode b_La_law 469 = .ok (.iaload, 1) := by decide +kernel
theorem d_La_law_470 : decode b_La_law 470 = .ok (.aload_n 3, 1) := by decide +kernel
theorem d_La_law_471 : decode b_La_law 471 = .ok (.invokestatic 86, 3) := by decide +kernel
theorem d_La_law_474 : decode b_La_law 474 = .ok (.istore 5, 2) := by decide +kernel
theorem d_La_law_476 : decode b_La_law 476 = .ok (.aload_n 2, 1) := by decide +kernel
theorem d_La_law_477 : decode b_La_law 477 = .ok (.aload_n 0, 1) := by decide +kernel
theorem d_La_law_478 : decode b_La_law 478 = .ok (.iload 4, 2) := by decide +kernel
theorem d_La_law_480 : decode b_La_law 480 = .ok (.iconst 1, 1) := by decide +kernel
theorem d_La_law_481 : decode b_La_law 481 = .ok (.iadd, 1) := by decide +kernel
theorem d_La_law_482 : decode b_La_law 482 = .ok (.iaload, 1) := by decide +kernel
theorem d_La_law_483 : decode b_La_law 483 = .ok (.invokevirtual 88, 3) := by decide +kernel
theorem d_La_law_486 : decode b_La_law 486 = .ok (.istore 6, 2) := by decide +kernel
theorem d_La_law_488 : decode b_La_law 488 = .ok (.aload_n 2, 1) := by decide +kernel
theorem d_La_law_489 : decode b_La_law 489 = .ok (.invokevirtual 63, 3) := by decide +kernel
theorem d_La_law_492 : decode b_La_law 492 = .ok (.iload 5, 2) := by decide +kernel
theorem d_La_law_494 : decode b_La_law 494 = .ok (.if_icmp .eq 5, 3) := by decide +kernel
theorem d_La_law_497 : decode b_La_law 497 = .ok (.iconst 0, 1) := by decide +kernel
theorem d_La_law_498 : decode b_La_law 498 = .ok (.ireturn, 1) := by decide +kernel
theorem d_La_law_499 : decode b_La_law 499 = .ok (.iload 5, 2) := by decide +kernel
theorem d_La_law_501 : decode b_La_law 501 = .ok (.ifCond .ne 15, 3) := by decide +kernel
theorem d_La_law_504 : decode b_La_law 504 = .ok (.aload_n 3, 1) := by decide +kernel
theorem d_La_law_505 : decode b_La_law 505 = .ok (.iconst 0, 1) := by decide +kernel
theorem d_La_law_506 : decode b_La_law 506 = .ok (.laload, 1) := by decide +kernel
theorem d_La_law_507 : decode b_La_law 507 = .ok (.iload 6, 2) := by decide +kernel
theorem d_La_law_509 : decode b_La_law 509 = .ok (.i2l, 1) := by decide +kernel
theorem d_La_law_510 : decode b_La_law 510 = .ok (.lcmp, 1) := by decide +kernel
theorem d_La_law_511 : decode b_La_law 511 = .ok (.ifCond .eq 5, 3) := by decide +kernel
theorem d_La_law_514 : decode b_La_law 514 = .ok (.iconst 0, 1) := by decide +kernel
theorem d_La_law_515 : decode b_La_law 515 = .ok (.ireturn, 1) := by decide +kernel
theorem d_La_law_516 : decode b_La_law 516 = .ok (.goto 283, 3) := by decide +kernel
theorem d_La_law_519 : decode b_La_law 519 = .ok (.aload_n 1, 1) := by decide +kernel
theorem d_La_law_520 : decode b_La_law 520 = .ok (.aload_n 0, 1) := by decide +kernel
theorem d_La_law_521 : decode b_La_law 521 = .ok (.iload 4, 2) := by decide +kernel
theorem d_La_law_523 : decode b_La_law 523 = .ok (.iconst 1, 1) := by decide +kernel
theorem d_La_law_524 : decode b_La_law 524 = .ok (.iadd, 1) := by decide +kernel
theorem d_La_law_525 : decode b_La_law 525 = .ok (.iaload, 1) := by decide +kernel
theorem d_La_law_526 : decode b_La_law 526 = .ok (.aload_n 3, 1) := by decide +kernel
theorem d_La_law_527 : decode b_La_law 527 = .ok (.invokestatic 89, 3) := by decide +kernel
theorem d_La_law_530 : decode b_La_law 530 = .ok (.istore 5, 2) := by decide +kernel
theorem d_La_law_532 : decode b_La_law 532 = .ok (.aload_n 2, 1) := by decide +kernel
theorem d_La_law_533 : decode b_La_law 533 = .ok (.aload_n 0, 1) := by decide +kernel
theorem d_La_law_534 : decode b_La_law 534 = .ok (.iload 4, 2) := by decide +kernel
end
section
theorem d_La_law_536 : decode b_La_law 536 = .ok (.iconst 1, 1) := by decide +kernel
theorem d_La_law_537 : decode b_La_law 537 = .ok (.iadd, 1) := by decide +kernel
theorem d_La_law_538 : decode b_La_law 538 = .ok (.iaload, 1) := by decide +kernel
theorem d_La_law_539 : decode b_La_law 539 = .ok (.invokevirtual 91, 3) := by decide +kernel
theorem d_La_law_542 : decode b_La_law 542 = .ok (.istore 6, 2) := by decide +kernel
theorem d_La_law_544 : decode b_La_law 544 = .ok (.aload_n 2, 1) := by decide +kernel
theorem d_La_law_545 : decode b_La_law 545 = .ok (.invokevirtual 63, 3) := by decide +kernel
theorem d_La_law_548 : decode b_La_law 548 = .ok (.iload 5, 2) := by decide +kernel
theorem d_La_law_550 : decode b_La_law 550 = .ok (.if_icmp .eq 5, 3) := by decide +kernel
theorem d_La_law_553 : decode b_La_law 553 = .ok (.iconst 0, 1) := by decide +kernel
theorem d_La_law_554 : decode b_La_law 554 = .ok (.ireturn, 1) := by decide +kernel
theorem d_La_law_555 : decode b_La_law 555 = .ok (.iload 5, 2) := by decide +kernel
theorem d_La_law_557 : decode b_La_law 557 = .ok (.ifCond .ne 15, 3) := by decide +kernel
theorem d_La_law_560 : decode b_La_law 560 = .ok (.aload_n 3, 1) := by decide +kernel
theorem d_La_law_561 : decode b_La_law 561 = .ok (.iconst 0, 1) := by decide +kernel
theorem d_La_law_562 : decode b_La_law 562 = .ok (.laload, 1) := by decide +kernel
theorem d_La_law_563 : decode b_La_law 563 = .ok (.iload 6, 2) := by decide +kernel
theorem d_La_law_565 : decode b_La_law 565 = .ok (.i2l, 1) := by decide +kernel
theorem d_La_law_566 : decode b_La_law 566 = .ok (.lcmp, 1) := by decide +kernel
theorem d_La_law_567 : decode b_La_law 567 = .ok (.ifCond .eq 5, 3) := by decide +kernel
theorem d_La_law_570 : decode b_La_law 570 = .ok (.iconst 0, 1) := by decide +kernel
theorem d_La_law_571 : decode b_La_law 571 = .ok (.ireturn, 1) := by decide +kernel
theorem d_La_law_572 : decode b_La_law 572 = .ok (.goto 227, 3) := by decide +kernel
theorem d_La_law_575 : decode b_La_law 575 = .ok (.aload_n 1, 1) := by decide +kernel
theorem d_La_law_576 : decode b_La_law 576 = .ok (.aload_n 0, 1) := by decide +kernel
theorem d_La_law_577 : decode b_La_law 577 = .ok (.iload 4, 2) := by decide +kernel
theorem d_La_law_579 : decode b_La_law 579 = .ok (.iconst 1, 1) := by decide +kernel
theorem d_La_law_580 : decode b_La_law 580 = .ok (.iadd, 1) := by decide +kernel
theorem d_La_law_581 : decode b_La_law 581 = .ok (.iaload, 1) := by decide +kernel
theorem d_La_law_582 : decode b_La_law 582 = .ok (.aload_n 3, 1) := by decide +kernel
theorem d_La_law_583 : decode b_La_law 583 = .ok (.invokestatic 92, 3) := by decide +kernel
theorem d_La_law_586 : decode b_La_law 586 = .ok (.istore 5, 2) := by decide +kernel
theorem d_La_law_588 : decode b_La_law 588 = .ok (.aload_n 2, 1) := by decide +kernel
theorem d_La_law_589 : decode b_La_law 589 = .ok (.aload_n 0, 1) := by decide +kernel
theorem d_La_law_590 : decode b_La_law 590 = .ok (.iload 4, 2) := by decide +kernel
theorem d_La_law_592 : decode b_La_law 592 = .ok (.iconst 1, 1) := by decide +kernel
theorem d_La_law_593 : decode b_La_law 593 = .ok (.iadd, 1) := by decide +kernel
theorem d_La_law_594 : decode b_La_law 594 = .ok (.iaload, 1) := by decide +kernel
theorem d_La_law_595 : decode b_La_law 595 = .ok (.invokevirtual 94, 3) := by decide +kernel
theorem d_La_law_598 : decode b_La_law 598 = .ok (.istore 6, 2) := by decide +kernel
theorem d_La_law_600 : decode b_La_law 600 = .ok (.aload_n 2, 1) := by decide +kernel
theorem d_La_law_601 : decode b_La_law 601 = .ok (.invokevirtual 63, 3) := by decide +kernel
theorem d_La_law_604 : decode b_La_law 604 = .ok (.iload 5, 2) := by decide +kernel
theorem d_La_law_606 : decode b_La_law 606 = .ok (.if_icmp .eq 5, 3) := by decide +kernel
theorem d_La_law_609 : decode b_La_law 609 = .ok (.iconst 0, 1) := by decide +kernel
theorem d_La_law_610 : decode b_La_law 610 = .ok (.ireturn, 1) := by decide +kernel
theorem d_La_law_611 : decode b_La_law 611 = .ok (.iload 5, 2) := by decide +kernel
theorem d_La_law_613 : decode b_La_law 613 = .ok (.ifCond .ne 15, 3) := by decide +kernel
theorem d_La_law_616 : decode b_La_law 616 = .ok (.aload_n 3, 1) := by decide +kernel
theorem d_La_law_617 : decode b_La_law 617 = .ok (.iconst 0, 1) := by decide +kernel
theorem d_La_law_618 : decode b_La_law 618 = .ok (.laload, 1) := by decide +kernel
theorem d_La_law_619 : decode b_La_law 619 = .ok (.iload 6, 2) := by decide +kernel
theorem d_La_law_621 : decode b_La_law 621 = .ok (.i2l, 1) := by decide +kernel
theorem d_La_law_622 : decode b_La_law 622 = .ok (.lcmp, 1) := by decide +kernel
theorem d_La_law_623 : decode b_La_law 623 = .ok (.ifCond .eq 5, 3) := by decide +kernel
theorem d_La_law_626 : decode b_La_law 626 = .ok (.iconst 0, 1) := by decide +kernel
theorem d_La_law_627 : decode b_La_law 627 = .ok (.ireturn, 1) := by decide +kernel
theorem d_La_law_628 : decode b_La_law 628 = .ok (.goto 171, 3) := by decide +kernel
theorem d_La_law_631 : decode b_La_law 631 = .ok (.aload_n 1, 1) := by decide +kernel
theorem d_La_law_632 : decode b_La_law 632 = .ok (.aload_n 0, 1) := by decide +kernel
theorem d_La_law_633 : decode b_La_law 633 = .ok (.iload 4, 2) := by decide +kernel
theorem d_La_law_635 : decode b_La_law 635 = .ok (.iconst 1, 1) := by decide +kernel
theorem d_La_law_636 : decode b_La_law 636 = .ok (.iadd, 1) := by decide +kernel
theorem d_La_law_637 : decode b_La_law 637 = .ok (.iaload, 1) := by decide +kernel
theorem d_La_law_638 : decode b_La_law 638 = .ok (.aload_n 3, 1) := by decide +kernel
theorem d_La_law_639 : decode b_La_law 639 = .ok (.invokestatic 95, 3) := by decide +kernel
theorem d_La_law_642 : decode b_La_law 642 = .ok (.istore 5, 2) := by decide +kernel
theorem d_La_law_644 : decode b_La_law 644 = .ok (.aload_n 2, 1) := by decide +kernel
theorem d_La_law_645 : decode b_La_law 645 = .ok (.aload_n 0, 1) := by decide +kernel
theorem d_La_law_646 : decode b_La_law 646 = .ok (.iload 4, 2) := by decide +kernel
theorem d_La_law_648 : decode b_La_law 648 = .ok (.iconst 1, 1) := by decide +kernel
theorem d_La_law_649 : decode b_La_law 649 = .ok (.iadd, 1) := by decide +kernel
theorem d_La_law_650 : decode b_La_law 650 = .ok (.iaload, 1) := by decide +kernel
theorem d_La_law_651 : decode b_La_law 651 = .ok (.invokevirtual 97, 3) := by decide +kernel
theorem d_La_law_654 : decode b_La_law 654 = .ok (.istore 6, 2) := by decide +kernel
theorem d_La_law_656 : decode b_La_law 656 = .ok (.aload_n 2, 1) := by decide +kernel
theorem d_La_law_657 : decode b_La_law 657 = .ok (.invokevirtual 63, 3) := by decide +kernel
theorem d_La_law_660 : decode b_La_law 660 = .ok (.iload 5, 2) := by decide +kernel
theorem d_La_law_662 : decode b_La_law 662 = .ok (.if_icmp .eq 5, 3) := by decide +kernel
theorem d_La_law_665 : decode b_La_law 665 = .ok (.iconst 0, 1) := by decide +kernel
end
section
theorem d_La_law_666 : decode b_La_law 666 = .ok (.ireturn, 1) := by decide +kernel
theorem d_La_law_667 : decode b_La_law 667 = .ok (.iload 5, 2) := by decide +kernel
theorem d_La_law_669 : decode b_La_law 669 = .ok (.ifCond .ne 15, 3) := by decide +kernel
theorem d_La_law_672 : decode b_La_law 672 = .ok (.aload_n 3, 1) := by decide +kernel
theorem d_La_law_673 : decode b_La_law 673 = .ok (.iconst 0, 1) := by decide +kernel
theorem d_La_law_674 : decode b_La_law 674 = .ok (.laload, 1) := by decide +kernel
theorem d_La_law_675 : decode b_La_law 675 = .ok (.iload 6, 2) := by decide +kernel
theorem d_La_law_677 : decode b_La_law 677 = .ok (.i2l, 1) := by decide +kernel
theorem d_La_law_678 : decode b_La_law 678 = .ok (.lcmp, 1) := by decide +kernel
theorem d_La_law_679 : decode b_La_law 679 = .ok (.ifCond .eq 5, 3) := by decide +kernel
theorem d_La_law_682 : decode b_La_law 682 = .ok (.iconst 0, 1) := by decide +kernel
theorem d_La_law_683 : decode b_La_law 683 = .ok (.ireturn, 1) := by decide +kernel
theorem d_La_law_684 : decode b_La_law 684 = .ok (.goto 115, 3) := by decide +kernel
theorem d_La_law_687 : decode b_La_law 687 = .ok (.aload_n 1, 1) := by decide +kernel
theorem d_La_law_688 : decode b_La_law 688 = .ok (.aload_n 0, 1) := by decide +kernel
theorem d_La_law_689 : decode b_La_law 689 = .ok (.iload 4, 2) := by decide +kernel
theorem d_La_law_691 : decode b_La_law 691 = .ok (.iconst 1, 1) := by decide +kernel
theorem d_La_law_692 : decode b_La_law 692 = .ok (.iadd, 1) := by decide +kernel
theorem d_La_law_693 : decode b_La_law 693 = .ok (.iaload, 1) := by decide +kernel
theorem d_La_law_694 : decode b_La_law 694 = .ok (.aload_n 3, 1) := by decide +kernel
theorem d_La_law_695 : decode b_La_law 695 = .ok (.invokestatic 98, 3) := by decide +kernel
theorem d_La_law_698 : decode b_La_law 698 = .ok (.istore 5, 2) := by decide +kernel
theorem d_La_law_700 : decode b_La_law 700 = .ok (.aload_n 2, 1) := by decide +kernel
theorem d_La_law_701 : decode b_La_law 701 = .ok (.aload_n 0, 1) := by decide +kernel
theorem d_La_law_702 : decode b_La_law 702 = .ok (.iload 4, 2) := by decide +kernel
theorem d_La_law_704 : decode b_La_law 704 = .ok (.iconst 1, 1) := by decide +kernel
theorem d_La_law_705 : decode b_La_law 705 = .ok (.iadd, 1) := by decide +kernel
theorem d_La_law_706 : decode b_La_law 706 = .ok (.iaload, 1) := by decide +kernel
theorem d_La_law_707 : decode b_La_law 707 = .ok (.invokevirtual 100, 3) := by decide +kernel
theorem d_La_law_710 : decode b_La_law 710 = .ok (.istore 6, 2) := by decide +kernel
theorem d_La_law_712 : decode b_La_law 712 = .ok (.aload_n 2, 1) := by decide +kernel
theorem d_La_law_713 : decode b_La_law 713 = .ok (.invokevirtual 63, 3) := by decide +kernel
theorem d_La_law_716 : decode b_La_law 716 = .ok (.iload 5, 2) := by decide +kernel
theorem d_La_law_718 : decode b_La_law 718 = .ok (.if_icmp .eq 5, 3) := by decide +kernel
theorem d_La_law_721 : decode b_La_law 721 = .ok (.iconst 0, 1) := by decide +kernel
theorem d_La_law_722 : decode b_La_law 722 = .ok (.ireturn, 1) := by decide +kernel
theorem d_La_law_723 : decode b_La_law 723 = .ok (.iload 5, 2) := by decide +kernel
theorem d_La_law_725 : decode b_La_law 725 = .ok (.ifCond .ne 15, 3) := by decide +kernel
theorem d_La_law_728 : decode b_La_law 728 = .ok (.aload_n 3, 1) := by decide +kernel
theorem d_La_law_729 : decode b_La_law 729 = .ok (.iconst 0, 1) := by decide +kernel
theorem d_La_law_730 : decode b_La_law 730 = .ok (.laload, 1) := by decide +kernel
theorem d_La_law_731 : decode b_La_law 731 = .ok (.iload 6, 2) := by decide +kernel
theorem d_La_law_733 : decode b_La_law 733 = .ok (.i2l, 1) := by decide +kernel
theorem d_La_law_734 : decode b_La_law 734 = .ok (.lcmp, 1) := by decide +kernel
theorem d_La_law_735 : decode b_La_law 735 = .ok (.ifCond .eq 5, 3) := by decide +kernel
theorem d_La_law_738 : decode b_La_law 738 = .ok (.iconst 0, 1) := by decide +kernel
theorem d_La_law_739 : decode b_La_law 739 = .ok (.ireturn, 1) := by decide +kernel
theorem d_La_law_740 : decode b_La_law 740 = .ok (.goto 59, 3) := by decide +kernel
theorem d_La_law_743 : decode b_La_law 743 = .ok (.aload_n 1, 1) := by decide +kernel
theorem d_La_law_744 : decode b_La_law 744 = .ok (.aload_n 0, 1) := by decide +kernel
theorem d_La_law_745 : decode b_La_law 745 = .ok (.iload 4, 2) := by decide +kernel
theorem d_La_law_747 : decode b_La_law 747 = .ok (.iconst 1, 1) := by decide +kernel
theorem d_La_law_748 : decode b_La_law 748 = .ok (.iadd, 1) := by decide +kernel
theorem d_La_law_749 : decode b_La_law 749 = .ok (.iaload, 1) := by decide +kernel
theorem d_La_law_750 : decode b_La_law 750 = .ok (.aload_n 3, 1) := by decide +kernel
theorem d_La_law_751 : decode b_La_law 751 = .ok (.invokestatic 101, 3) := by decide +kernel
theorem d_La_law_754 : decode b_La_law 754 = .ok (.istore 5, 2) := by decide +kernel
theorem d_La_law_756 : decode b_La_law 756 = .ok (.aload_n 2, 1) := by decide +kernel
theorem d_La_law_757 : decode b_La_law 757 = .ok (.aload_n 0, 1) := by decide +kernel
theorem d_La_law_758 : decode b_La_law 758 = .ok (.iload 4, 2) := by decide +kernel
theorem d_La_law_760 : decode b_La_law 760 = .ok (.iconst 1, 1) := by decide +kernel
theorem d_La_law_761 : decode b_La_law 761 = .ok (.iadd, 1) := by decide +kernel
theorem d_La_law_762 : decode b_La_law 762 = .ok (.iaload, 1) := by decide +kernel
theorem d_La_law_763 : decode b_La_law 763 = .ok (.invokevirtual 103, 3) := by decide +kernel
theorem d_La_law_766 : decode b_La_law 766 = .ok (.istore 6, 2) := by decide +kernel
theorem d_La_law_768 : decode b_La_law 768 = .ok (.aload_n 2, 1) := by decide +kernel
theorem d_La_law_769 : decode b_La_law 769 = .ok (.invokevirtual 63, 3) := by decide +kernel
theorem d_La_law_772 : decode b_La_law 772 = .ok (.iload 5, 2) := by decide +kernel
theorem d_La_law_774 : decode b_La_law 774 = .ok (.if_icmp .eq 5, 3) := by decide +kernel
theorem d_La_law_777 : decode b_La_law 777 = .ok (.iconst 0, 1) := by decide +kernel
theorem d_La_law_778 : decode b_La_law 778 = .ok (.ireturn, 1) := by decide +kernel
theorem d_La_law_779 : decode b_La_law 779 = .ok (.iload 5, 2) := by decide +kernel
theorem d_La_law_781 : decode b_La_law 781 = .ok (.ifCond .ne 15, 3) := by decide +kernel
theorem d_La_law_784 : decode b_La_law 784 = .ok (.aload_n 3, 1) := by decide +kernel
theorem d_La_law_785 : decode b_La_law 785 = .ok (.iconst 0, 1) := by decide +kernel
theorem d_La_law_786 : decode b_La_law 786 = .ok (.laload, 1) := by decide +kernel
theorem d_La_law_787 : decode b_La_law 787 = .ok (.iload 6, 2) := by decide +kernel
theorem d_La_law_789 : decode b_La_law 789 = .ok (.i2l, 1) := by decide +kernel
theorem d_La_law_790 : decode b_La_law 790 = .ok (.lcmp, 1) := by decide +kernel
theorem d_La_law_791 : decode b_La_law 791 = .ok (.ifCond .eq 5, 3) := by decide +kernel
end
section
theorem d_La_law_794 : decode b_La_law 794 = .ok (.iconst 0, 1) := by decide +kernel
theorem d_La_law_795 : decode b_La_law 795 = .ok (.ireturn, 1) := by decide +kernel
theorem d_La_law_796 : decode b_La_law 796 = .ok (.goto 3, 3) := by decide +kernel
theorem d_La_law_799 : decode b_La_law 799 = .ok (.iinc 4 6, 3) := by decide +kernel
theorem d_La_law_802 : decode b_La_law 802 = .ok (.goto (-779), 3) := by decide +kernel
theorem d_La_law_805 : decode b_La_law 805 = .ok (.iconst 1, 1) := by decide +kernel
theorem d_La_law_806 : decode b_La_law 806 = .ok (.ireturn, 1) := by decide +kernel
end
section
abbrev k_S_init : Cond := .code y_S_init b_S_init 1 none
abbrev k_Pr_init : Cond := .code y_Pr_init b_Pr_init 1 none
abbrev k_Li_init : Cond := .code y_Li_init b_Li_init 2 none
abbrev k_Me_init : Cond := .code y_Me_init b_Me_init 1 none
abbrev k_Me_reset : Cond := .code y_Me_reset b_Me_reset 2 none
abbrev k_Ru_init : Cond := .code y_Ru_init b_Ru_init 3 none
abbrev k_S_clear : Cond := .code y_S_clear b_S_clear 1 none
abbrev k_Ru_drop : Cond := .code y_Ru_drop b_Ru_drop 1 none
abbrev k_Pr_removeAll : Cond := .code y_Pr_removeAll b_Pr_removeAll 1 none
abbrev k_La_code : Cond := .codeWith y_La_code b_La_code 8 (some .int) [(0, 16, 19, 13), (0, 16, 23, 15)]
abbrev k_S_code : Cond := .code y_S_code b_S_code 6 (some .int)
abbrev k_S_isRegister : Cond := .code y_S_isRegister b_S_isRegister 1 (some .boolean)
abbrev k_Pr_size : Cond := .code y_Pr_size b_Pr_size 1 (some .int)
abbrev k_Pr_add : Cond := .code y_Pr_add b_Pr_add 7 (some .int)
abbrev k_Li_beginInstruction : Cond := .code y_Li_beginInstruction b_Li_beginInstruction 2 none
abbrev k_Li_append : Cond := .code y_Li_append b_Li_append 3 none
abbrev k_La_rewrite : Cond := .codeWith y_La_rewrite b_La_rewrite 3 (some .int) [(0, 8, 11, 21)]
abbrev k_S_rewrite : Cond := .code y_S_rewrite b_S_rewrite 1 (some .int)
abbrev k_S_refuseGoingOutside : Cond := .code y_S_refuseGoingOutside b_S_refuseGoingOutside 1 none
abbrev k_Pr_goesOnWithin : Cond := .code y_Pr_goesOnWithin b_Pr_goesOnWithin 2 (some .boolean)
abbrev k_Pr_goesOnElsewhere : Cond := .code y_Pr_goesOnElsewhere b_Pr_goesOnElsewhere 1 (some .boolean)
abbrev k_La_rewritten : Cond := .codeWith y_La_rewritten b_La_rewritten 5 (some .int) [(0, 10, 13, 21), (0, 10, 17, 15), (0, 10, 21, 13)]
abbrev k_S_rewritten : Cond := .code y_S_rewritten b_S_rewritten 3 (some .int)
abbrev k_Pr_numberAt : Cond := .code y_Pr_numberAt b_Pr_numberAt 4 (some .int)
abbrev k_La_start : Cond := .codeWith y_La_start b_La_start 5 (some .int) [(0, 7, 10, 21)]
abbrev k_S_start : Cond := .code y_S_start b_S_start 4 none
abbrev k_Ru_begin : Cond := .code y_Ru_begin b_Ru_begin 5 none
abbrev k_La_step : Cond := .codeWith y_La_step b_La_step 4 (some .int) [(0, 9, 12, 21), (0, 9, 15, 13)]
abbrev k_S_step : Cond := .code y_S_step b_S_step 3 (some .int)
abbrev k_Ru_doLine : Cond := .code y_Ru_doLine b_Ru_doLine 4 none
abbrev k_Ru_addressOf : Cond := .code y_Ru_addressOf b_Ru_addressOf 2 (some .int)
abbrev k_Ru_aOf : Cond := .code y_Ru_aOf b_Ru_aOf 2 (some .int)
abbrev k_Pr_widthOf : Cond := .code y_Pr_widthOf b_Pr_widthOf 3 (some .int)
abbrev k_Ru_checkBytes : Cond := .code y_Ru_checkBytes b_Ru_checkBytes 5 none
abbrev k_Me_kindOfTouch : Cond := .code y_Me_kindOfTouch b_Me_kindOfTouch 2 (some .int)
abbrev k_Me_holds : Cond := .code y_Me_holds b_Me_holds 2 (some .boolean)
abbrev k_Ru_endWithReport : Cond := .code y_Ru_endWithReport b_Ru_endWithReport 3 none
abbrev k_Ru_checkFree : Cond := .code y_Ru_checkFree b_Ru_checkFree 2 none
abbrev k_Me_mayFree : Cond := .code y_Me_mayFree b_Me_mayFree 3 (some .boolean)
abbrev k_Ru_goesOn : Cond := .code y_Ru_goesOn b_Ru_goesOn 3 (some .boolean)
abbrev k_Ru_bOf : Cond := .code y_Ru_bOf b_Ru_bOf 2 (some .int)
abbrev k_Ru_useHeap : Cond := .code y_Ru_useHeap b_Ru_useHeap 3 none
abbrev k_Me_allocate : Cond := .code y_Me_allocate b_Me_allocate 5 (some .int)
abbrev k_Me_lowestGap : Cond := .code y_Me_lowestGap b_Me_lowestGap 4 (some .int)
abbrev k_Me_releaseOldest : Cond := .code y_Me_releaseOldest b_Me_releaseOldest 4 none
abbrev k_Me_paint : Cond := .code y_Me_paint b_Me_paint 5 none
abbrev k_Me_placeBlock : Cond := .code y_Me_placeBlock b_Me_placeBlock 6 none
abbrev k_Ru_freeOrCrash : Cond := .code y_Ru_freeOrCrash b_Ru_freeOrCrash 2 none
abbrev k_Me_free : Cond := .code y_Me_free b_Me_free 5 none
abbrev k_Ru_touchOrCrash : Cond := .code y_Ru_touchOrCrash b_Ru_touchOrCrash 5 none
abbrev k_Me_load : Cond := .code y_Me_load b_Me_load 5 (some .int)
abbrev k_Me_store : Cond := .code y_Me_store b_Me_store 5 none
abbrev k_Ru_print : Cond := .code y_Ru_print b_Ru_print 2 none
abbrev k_Ru_computed : Cond := .code y_Ru_computed b_Ru_computed 3 (some .int)
abbrev k_Ru_goOnAt : Cond := .code y_Ru_goOnAt b_Ru_goOnAt 2 none
abbrev k_La_look : Cond := .codeWith y_La_look b_La_look 4 (some .int) [(0, 9, 12, 13)]
abbrev k_S_look : Cond := .code y_S_look b_S_look 2 (some .int)
abbrev k_La_register : Cond := .codeWith y_La_register b_La_register 4 (some .int) [(0, 9, 12, 13)]
abbrev k_S_register : Cond := .code y_S_register b_S_register 2 (some .int)
abbrev k_La_printed : Cond := .codeWith y_La_printed b_La_printed 4 (some .int) [(0, 9, 12, 15)]
abbrev k_S_printed : Cond := .code y_S_printed b_S_printed 2 (some .int)
abbrev k_La_heap : Cond := .codeWith y_La_heap b_La_heap 4 (some .int) [(0, 9, 12, 15)]
abbrev k_S_heap : Cond := .code y_S_heap b_S_heap 2 (some .int)
abbrev k_La_shadow : Cond := .codeWith y_La_shadow b_La_shadow 4 (some .int) [(0, 9, 12, 15)]
abbrev k_S_shadow : Cond := .code y_S_shadow b_S_shadow 2 (some .int)
abbrev k_La_report : Cond := .codeWith y_La_report b_La_report 4 (some .int) [(0, 9, 12, 21), (0, 9, 15, 13)]
abbrev k_S_report : Cond := .code y_S_report b_S_report 2 (some .int)
abbrev k_Mo_init : Cond := .code y_Mo_init b_Mo_init 1 none
abbrev k_Mo_empty : Cond := .code y_Mo_empty b_Mo_empty 2 none
abbrev k_Mo_thrown : Cond := .code y_Mo_thrown b_Mo_thrown 1 (some .int)
abbrev k_Mo_code : Cond := .code y_Mo_code b_Mo_code 6 (some .int)
abbrev k_Mo_isRegister : Cond := .code y_Mo_isRegister b_Mo_isRegister 1 (some .boolean)
abbrev k_Mo_refuse : Cond := .code y_Mo_refuse b_Mo_refuse 2 (some .int)
abbrev k_Mo_clear : Cond := .code y_Mo_clear b_Mo_clear 1 none
abbrev k_Mo_rewrite : Cond := .code y_Mo_rewrite b_Mo_rewrite 1 (some .int)
abbrev k_Mo_isSound : Cond := .code y_Mo_isSound b_Mo_isSound 3 (some .boolean)
abbrev k_Mo_place : Cond := .code y_Mo_place b_Mo_place 4 (some .int)
abbrev k_Mo_isChecked : Cond := .code y_Mo_isChecked b_Mo_isChecked 2 (some .boolean)
abbrev k_Mo_rewritten : Cond := .code y_Mo_rewritten b_Mo_rewritten 5 (some .int)
abbrev k_Mo_instructionAt : Cond := .code y_Mo_instructionAt b_Mo_instructionAt 3 (some .int)
abbrev k_Mo_isCheck : Cond := .code y_Mo_isCheck b_Mo_isCheck 3 (some .boolean)
abbrev k_Mo_start : Cond := .code y_Mo_start b_Mo_start 5 none
abbrev k_Mo_step : Cond := .code y_Mo_step b_Mo_step 3 (some .int)
abbrev k_Mo_one : Cond := .code y_Mo_one b_Mo_one 3 none
abbrev k_Mo_check : Cond := .code y_Mo_check b_Mo_check 6 none
abbrev k_Mo_isBlock : Cond := .code y_Mo_isBlock b_Mo_isBlock 3 (some .boolean)
abbrev k_Mo_tell : Cond := .code y_Mo_tell b_Mo_tell 4 none
abbrev k_Mo_wrongByte : Cond := .code y_Mo_wrongByte b_Mo_wrongByte 3 (some .int)
abbrev k_Mo_isIn : Cond := .code y_Mo_isIn b_Mo_isIn 1 (some .boolean)
abbrev k_Mo_perform : Cond := .code y_Mo_perform b_Mo_perform 6 (some .int)
abbrev k_Mo_allocate : Cond := .code y_Mo_allocate b_Mo_allocate 5 (some .int)
abbrev k_Mo_gap : Cond := .code y_Mo_gap b_Mo_gap 4 (some .int)
abbrev k_Mo_release : Cond := .code y_Mo_release b_Mo_release 3 none
abbrev k_Mo_free : Cond := .code y_Mo_free b_Mo_free 4 none
abbrev k_Mo_quarantined : Cond := .code y_Mo_quarantined b_Mo_quarantined 3 (some .int)
abbrev k_Mo_touch : Cond := .code y_Mo_touch b_Mo_touch 5 none
abbrev k_Mo_load : Cond := .code y_Mo_load b_Mo_load 4 (some .int)
abbrev k_Mo_look : Cond := .code y_Mo_look b_Mo_look 2 (some .int)
abbrev k_Mo_blocks : Cond := .code y_Mo_blocks b_Mo_blocks 4 (some .int)
abbrev k_Mo_register : Cond := .code y_Mo_register b_Mo_register 2 (some .int)
abbrev k_Mo_printed : Cond := .code y_Mo_printed b_Mo_printed 2 (some .int)
abbrev k_Mo_heap : Cond := .code y_Mo_heap b_Mo_heap 2 (some .int)
abbrev k_Mo_shadow : Cond := .code y_Mo_shadow b_Mo_shadow 2 (some .int)
abbrev k_Mo_report : Cond := .code y_Mo_report b_Mo_report 2 (some .int)
end
section
/-! pure rows: updates, painted rows, counts, sums; the memory as one value -/
def zI (b : Bool) : Int32 := if b then 1 else 0
def xu {α : Type} (f : Nat → α) (k : Nat) (x : α) : Nat → α := fun j => if j = k then x else f j
def xp {α : Type} (f : Nat → α) (a b : Nat) (x : α) : Nat → α := fun k => if a ≤ k ∧ k < b then x else f k
theorem xu_s {α : Type} {f : Nat → α} {k : Nat} {x : α} : xu f k x k = x := if_pos rfl
theorem xu_n {α : Type} {f : Nat → α} {k j : Nat} {x : α} (h : j ≠ k) : xu f k x j = f j := if_neg h
theorem xu_upd {f : Nat → Int32} {k : Nat} {x : Int32} : upd f k x = xu f k x := rfl
theorem xu_nI {g : Nat → Nat} {k x : Nat} : upd (fun i => nI (g i)) k (nI x) = fun i => nI (xu g k x i) := by
  funext j; unfold upd xu; split <;> rfl
theorem xp_in {α : Type} {f : Nat → α} {a b k : Nat} {x : α} (h1 : a ≤ k) (h2 : k < b) : xp f a b x k = x := if_pos ⟨h1, h2⟩
theorem xp_out {α : Type} {f : Nat → α} {a b k : Nat} {x : α} (h : ¬ (a ≤ k ∧ k < b)) : xp f a b x k = f k := if_neg h
theorem xp_0 {α : Type} (f : Nat → α) (a : Nat) (x : α) : xp f a a x = f := by
  funext k; exact xp_out (by omega)
theorem xp_s {α : Type} {f : Nat → α} {a i : Nat} {x : α} (h : a ≤ i) : xu (xp f a i x) i x = xp f a (i + 1) x := by
  funext k
  by_cases hk : k = i
  · subst hk; rw [xu_s, xp_in h (by omega)]
  · rw [xu_n hk]
    by_cases h1 : a ≤ k ∧ k < i
    · rw [xp_in h1.1 h1.2, xp_in h1.1 (by omega)]
    · rw [xp_out h1, xp_out (by omega)]
/-- how many places below n have P -/
def xc (P : Nat → Bool) : Nat → Nat
  | 0 => 0
  | n + 1 => xc P n + if P n then 1 else 0
/-- the sum of f below n -/
def xs (f : Nat → Nat) : Nat → Nat
  | 0 => 0
  | n + 1 => xs f n + f n
theorem xc_le (P : Nat → Bool) (n : Nat) : xc P n ≤ n := by
  induction n with
  | zero => exact Nat.le_refl _
  | succ n ih => unfold xc; split <;> omega
theorem xc_ext {P R : Nat → Bool} {n : Nat} (h : ∀ k, k < n → P k = R k) : xc P n = xc R n := by
  induction n with
  | zero => rfl
  | succ n ih => unfold xc; rw [ih (fun k hk => h k (by omega)), h n (by omega)]
/-- one place more -/
theorem xc_on {P R : Nat → Bool} {n s : Nat} (hs : s < n) (h : ∀ k, k < n → k ≠ s → P k = R k) (h0 : P s = false) (h1 : R s = true) : xc R n = xc P n + 1 := by
  induction n with
  | zero => omega
  | succ n ih =>
    unfold xc
    by_cases hn : s = n
    · subst hn
      rw [xc_ext (P := R) (R := P) (fun k hk => (h k (by omega) (by omega)).symm), h0, h1]
      simp
    · rw [ih (by omega) (fun k hk => h k (by omega)), h n (by omega) (fun e => hn e.symm)]
      omega
theorem xs_ext {f g : Nat → Nat} {n : Nat} (h : ∀ k, k < n → f k = g k) : xs f n = xs g n := by
  induction n with
  | zero => rfl
  | succ n ih => unfold xs; rw [ih (fun k hk => h k (by omega)), h n (by omega)]
/-- the first summand taken out -/
theorem xs_0 (f : Nat → Nat) (n : Nat) : xs f (n + 1) = f 0 + xs (fun i => f (i + 1)) n := by
  induction n with
  | zero => simp [xs]
  | succ n ih => rw [xs, ih, xs]; omega
theorem xs_ge {f : Nat → Nat} {n c : Nat} (h : ∀ k, k < n → c ≤ f k) : c * n ≤ xs f n := by
  induction n with
  | zero => simp
  | succ n ih =>
    have h1 := ih (fun k hk => h k (by omega))
    have h2 := h n (by omega)
    rw [xs, Nat.mul_succ]; omega
theorem xs_le {f : Nat → Nat} {n k : Nat} (h : k < n) : f k ≤ xs f n := by
  induction n with
  | zero => omega
  | succ n ih =>
    rw [xs]
    by_cases hk : k = n
    · subst hk; omega
    · have := ih (by omega); omega
theorem xs_mul (f : Nat → Nat) (c n : Nat) : xs (fun i => c * f i) n = c * xs f n := by
  induction n with
  | zero => rfl
  | succ n ih => rw [xs, ih, xs, Nat.mul_add]
/-! the memory: bytes, shadow, owner, size of a block at its beginning, how many wait, the queue -/
abbrev xMem : Type := (Nat → Int32) × (Nat → Int32) × (Nat → Nat) × (Nat → Nat) × Nat × (Nat → Nat)
abbrev mHp (M : xMem) : Nat → Int32 := M.1
abbrev mSh (M : xMem) : Nat → Int32 := M.2.1
abbrev mOw (M : xMem) : Nat → Nat := M.2.2.1
abbrev mSz (M : xMem) : Nat → Nat := M.2.2.2.1
abbrev mQn (M : xMem) : Nat := M.2.2.2.2.1
abbrev mQf (M : xMem) : Nat → Nat := M.2.2.2.2.2
/-- is a block of owner w -/
abbrev mIs (M : xMem) (w : Nat) : Nat → Bool := fun s => decide (0 < mSz M s ∧ mOw M s = w)
/-- the cells in the queue -/
abbrev mSum (M : xMem) : Nat := xs (fun i => mSz M (mQf M i)) (mQn M)
/-- what holds of the memory; B bounds the queue's cells -/
def mOk (B : Nat) (M : xMem) : Prop :=
  (∀ s, 0 < mSz M s → 3 ≤ mSz M s ∧ s + mSz M s ≤ 64 ∧ (mOw M s = 1 ∨ mOw M s = 2) ∧ ∀ k, s ≤ k → k < s + mSz M s → mOw M k = mOw M s) ∧
  (∀ k, k < 64 → mOw M k ≠ 0 → ∃ s, 0 < mSz M s ∧ s ≤ k ∧ k < s + mSz M s) ∧
  (∀ s t, 0 < mSz M s → 0 < mSz M t → s < t → s + mSz M s ≤ t) ∧
  (∀ i, i < mQn M → 0 < mSz M (mQf M i) ∧ mOw M (mQf M i) = 2) ∧
  (∀ i j, i < mQn M → j < mQn M → i ≠ j → mQf M i ≠ mQf M j) ∧
  xc (mIs M 2) 64 = mQn M ∧ mSum M ≤ B
theorem mOk_qn {B : Nat} {M : xMem} (h : mOk B M) : 3 * mQn M ≤ B := by
  obtain ⟨h1, -, -, h4, -, -, h7⟩ := h
  exact Nat.le_trans (xs_ge (fun k hk => (h1 _ (h4 k hk).1).1)) h7
theorem mOk_mono {B C : Nat} {M : xMem} (h : mOk B M) (hBC : mSum M ≤ C) : mOk C M := by
  obtain ⟨h1, h2, h3, h4, h5, h6, h7⟩ := h
  exact ⟨h1, h2, h3, h4, h5, h6, hBC⟩
/-- the memory when a run begins -/
def mNew (M : xMem) : xMem := (xp (mHp M) 0 512 0, xp (mSh M) 0 64 (-3), xp (mOw M) 0 64 0, xp (mSz M) 0 64 0, 0, mQf M)
/-- no size beyond the row: so that a block's beginning lies within it -/
def mZ (M : xMem) : Prop := ∀ s, 64 ≤ s → mSz M s = 0
theorem mNew_ok {M : xMem} (hz : mZ M) : mOk 20 (mNew M) := by
  have h0 : ∀ s, mSz (mNew M) s = 0 := by
    intro s
    by_cases h : s < 64
    · exact xp_in (Nat.zero_le _) h
    · show xp (mSz M) 0 64 0 s = 0
      rw [xp_out (by omega)]; exact hz s (by omega)
  have hw : ∀ k, k < 64 → mOw (mNew M) k = 0 := fun k hk => xp_in (Nat.zero_le _) hk
  refine ⟨fun s h => ?_, fun k hk h => absurd (hw k hk) h, fun s t h => ?_, fun i h => absurd h (Nat.not_lt_zero _), fun i j h => absurd h (Nat.not_lt_zero _), ?_, Nat.zero_le _⟩
  · rw [h0] at h; omega
  · rw [h0] at h; omega
  · rw [xc_ext (R := fun _ => false) (fun k _ => by simp [mIs, h0])]; show xc (fun _ => false) 64 = 0; decide
/-- the oldest block leaves the queue -/
def mRel (M : xMem) : xMem :=
  let s := mQf M 0
  (mHp M, xp (mSh M) s (s + mSz M s) (-3), xp (mOw M) s (s + mSz M s) 0, xu (mSz M) s 0, mQn M - 1, fun i => if i < mQn M - 1 then mQf M (i + 1) else mQf M i)
theorem mRel_sum {B : Nat} {M : xMem} (h : mOk B M) (hq : 0 < mQn M) : mSum M = mSz M (mQf M 0) + mSum (mRel M) := by
  obtain ⟨h1, h2, h3, h4, h5, h6, h7⟩ := h
  obtain ⟨n, hn⟩ : ∃ n, mQn M = n + 1 := ⟨mQn M - 1, by omega⟩
  show xs (fun i => mSz M (mQf M i)) (mQn M) = _ + xs (fun i => mSz (mRel M) (mQf (mRel M) i)) (mQn M - 1)
  rw [hn, xs_0, show n + 1 - 1 = n by omega]
  congr 1
  refine xs_ext (fun k hk => ?_)
  show mSz M (mQf M (k + 1)) = xu (mSz M) (mQf M 0) 0 (if k < mQn M - 1 then mQf M (k + 1) else mQf M k)
  rw [if_pos (by omega), xu_n (h5 (k + 1) 0 (by omega) (by omega) (by omega))]
theorem mRel_ok {B : Nat} {M : xMem} (h : mOk B M) (hq : 0 < mQn M) : mOk B (mRel M) := by
  have hsum := mRel_sum h hq
  obtain ⟨h1, h2, h3, h4, h5, h6, h7⟩ := id h
  have hq0 := h4 0 hq
  have hs := h1 _ hq0.1
  generalize hS : mQf M 0 = s at hq0 hs hsum
  have eSz : mSz (mRel M) = xu (mSz M) s 0 := by rw [← hS]; rfl
  have eOw : mOw (mRel M) = xp (mOw M) s (s + mSz M s) 0 := by rw [← hS]; rfl
  have eQn : mQn (mRel M) = mQn M - 1 := rfl
  have eQf : ∀ i, i < mQn M - 1 → mQf (mRel M) i = mQf M (i + 1) := fun i hi => if_pos hi
  have hne : ∀ t, 0 < mSz (mRel M) t → t ≠ s ∧ mSz (mRel M) t = mSz M t ∧ 0 < mSz M t := by
    intro t ht
    rw [eSz] at ht ⊢
    by_cases e : t = s
    · subst e; rw [xu_s] at ht; omega
    · rw [xu_n e] at ht ⊢; exact ⟨e, rfl, ht⟩
  -- other blocks keep their owner
  have hok : ∀ t k, t ≠ s → 0 < mSz M t → t ≤ k → k < t + mSz M t → mOw (mRel M) k = mOw M k := by
    intro t k hts ht h4' h5'
    rw [eOw, xp_out]
    intro hk
    rcases Nat.lt_or_gt_of_ne hts with g | g
    · have := h3 t s ht hq0.1 g; omega
    · have := h3 s t hq0.1 ht g; omega
  refine ⟨fun t ht => ?_, fun k hk hw => ?_, fun t u ht hu hlt => ?_, fun i hi => ?_, fun i j hi hj hij => ?_, ?_, by omega⟩
  · obtain ⟨hts, e, ht'⟩ := hne t ht
    obtain ⟨g1, g2, g3, g4⟩ := h1 t ht'
    rw [e, hok t t hts ht' (Nat.le_refl _) (by omega)]
    exact ⟨g1, g2, g3, fun k hk1 hk2 => by rw [hok t k hts ht' hk1 hk2]; exact g4 k hk1 hk2⟩
  · rw [eOw] at hw
    by_cases hin : s ≤ k ∧ k < s + mSz M s
    · rw [xp_in hin.1 hin.2] at hw; exact absurd rfl hw
    · rw [xp_out hin] at hw
      obtain ⟨t, ht, g1, g2⟩ := h2 k hk hw
      have hts : t ≠ s := fun e => hin (by rw [← e]; exact ⟨g1, g2⟩)
      exact ⟨t, by rw [eSz, xu_n hts]; exact ⟨ht, g1, g2⟩⟩
  · obtain ⟨hts, e, ht'⟩ := hne t ht
    obtain ⟨hus, e', hu'⟩ := hne u hu
    rw [e]; exact h3 t u ht' hu' hlt
  · rw [eQn] at hi
    rw [eQf i hi]
    have g := h4 (i + 1) (by omega)
    have gs : mQf M (i + 1) ≠ s := by rw [← hS]; exact h5 (i + 1) 0 (by omega) hq (by omega)
    have := (h1 _ g.1).1
    rw [eSz, xu_n gs, hok _ _ gs g.1 (Nat.le_refl _) (by omega)]
    exact g
  · rw [eQn] at hi hj
    rw [eQf i hi, eQf j hj]
    exact h5 (i + 1) (j + 1) (by omega) (by omega) (by omega)
  · have := xc_on (P := mIs (mRel M) 2) (R := mIs M 2) (n := 64) (s := s) (by omega) (fun k hk hks => ?_) ?_ ?_
    · rw [eQn]; omega
    · simp only [mIs, eSz, xu_n hks]
      by_cases hz : 0 < mSz M k
      · have := (h1 k hz).1
        rw [hok k k hks hz (Nat.le_refl _) (by omega)]
      · simp [hz]
    · simp [mIs, eSz, xu_s]
    · simp [mIs, hq0.1, hq0.2]
theorem mRel_z {M : xMem} (hz : mZ M) : mZ (mRel M) := by
  intro t ht
  show xu (mSz M) (mQf M 0) 0 t = 0
  by_cases e : t = mQf M 0
  · rw [e, xu_s]
  · rw [xu_n e]; exact hz t ht
theorem mRel_live {B : Nat} {M : xMem} (h : mOk B M) (hq : 0 < mQn M) : xc (mIs (mRel M) 1) 64 = xc (mIs M 1) 64 := by
  obtain ⟨h1, h2, h3, h4, h5, h6, h7⟩ := id h
  have hq0 := h4 0 hq
  refine xc_ext (fun k hk => ?_)
  have eSz : mSz (mRel M) = xu (mSz M) (mQf M 0) 0 := rfl
  have eOw : mOw (mRel M) = xp (mOw M) (mQf M 0) (mQf M 0 + mSz M (mQf M 0)) 0 := rfl
  simp only [mIs, eSz, eOw]
  by_cases e : k = mQf M 0
  · rw [e, xu_s]; simp [hq0.2]
  · rw [xu_n e]
    by_cases hz : 0 < mSz M k
    · rw [xp_out]
      intro hc
      rcases Nat.lt_or_gt_of_ne e with g | g
      · have := h3 k _ hz hq0.1 g; have := (h1 k hz).1; omega
      · have := h3 _ k hq0.1 hz g; omega
    · simp [hz]
end
section
theorem mOk_z {B : Nat} {M : xMem} (h : mOk B M) : mZ M := by
  intro s hs
  by_cases h0 : 0 < mSz M s
  · have := h.1 s h0; omega
  · omega
theorem mRel_is {B : Nat} {M : xMem} (h : mOk B M) (hq : 0 < mQn M) (w k : Nat) (hk : k ≠ mQf M 0) : mIs (mRel M) w k = mIs M w k := by
  obtain ⟨h1, h2, h3, h4, h5, h6, h7⟩ := id h
  have hq0 := h4 0 hq
  have eSz : mSz (mRel M) = xu (mSz M) (mQf M 0) 0 := rfl
  have eOw : mOw (mRel M) = xp (mOw M) (mQf M 0) (mQf M 0 + mSz M (mQf M 0)) 0 := rfl
  simp only [mIs, eSz, eOw]
  rw [xu_n hk]
  by_cases hz : 0 < mSz M k
  · rw [xp_out]
    intro hc
    rcases Nat.lt_or_gt_of_ne hk with g | g
    · have := h3 k _ hz hq0.1 g; have := (h1 k hz).1; omega
    · have := h3 _ k hq0.1 hz g; omega
  · simp [hz]
theorem mRel_is0 {M : xMem} (w : Nat) : mIs (mRel M) w (mQf M 0) = false := by
  have eSz : mSz (mRel M) = xu (mSz M) (mQf M 0) 0 := rfl
  simp [mIs, eSz, xu_s]
/-! the least place -/
def xl (P : Nat → Bool) : Nat → Option Nat
  | 0 => none
  | n + 1 => match xl P n with
    | some s => some s
    | none => if P n then some n else none
theorem xl_none {P : Nat → Bool} {n : Nat} (h : ∀ t, t < n → P t = false) : xl P n = none := by
  induction n with
  | zero => rfl
  | succ n ih => rw [xl, ih (fun t ht => h t (by omega))]; simp [h n (by omega)]
theorem xl_some {P : Nat → Bool} {n s : Nat} (hs : s < n) (h1 : P s = true) (h : ∀ t, t < s → P t = false) : xl P n = some s := by
  induction n with
  | zero => omega
  | succ n ih =>
    rw [xl]
    by_cases e : s = n
    · subst e; rw [xl_none h]; simp [h1]
    · rw [ih (by omega)]
theorem xl_inv {P : Nat → Bool} {n s : Nat} (h : xl P n = some s) : s < n ∧ P s = true ∧ ∀ t, t < s → P t = false := by
  induction n with
  | zero => rw [xl] at h; cases h
  | succ n ih =>
    rw [xl] at h
    cases e : xl P n with
    | some t =>
      rw [e] at h; cases h
      have := ih e
      exact ⟨by omega, this.2⟩
    | none =>
      rw [e] at h
      simp only at h
      split at h
      · rename_i hp
        cases h
        refine ⟨by omega, hp, fun t ht => ?_⟩
        cases ht' : P t with
        | false => rfl
        | true =>
          exfalso
          have hx : ∀ (m : Nat), xl P m = none → ∀ t, t < m → P t = false := by
            intro m
            induction m with
            | zero => intro _ t ht; omega
            | succ m ihm =>
              intro hm t ht
              rw [xl] at hm
              cases e2 : xl P m with
              | some z => rw [e2] at hm; cases hm
              | none =>
                rw [e2] at hm
                simp only at hm
                split at hm
                · cases hm
                · rename_i hp'
                  by_cases em : t = m
                  · subst em; simpa using hp'
                  · exact ihm e2 t (by omega)
          rw [hx _ e t ht] at ht'; cases ht'
      · cases h
theorem xl_inv0 {P : Nat → Bool} {n : Nat} (h : xl P n = none) : ∀ t, t < n → P t = false := by
  induction n with
  | zero => intro t ht; omega
  | succ n ih =>
    intro t ht
    rw [xl] at h
    cases e : xl P n with
    | some z => rw [e] at h; cases h
    | none =>
      rw [e] at h
      simp only at h
      split at h
      · cases h
      · rename_i hp
        by_cases em : t = n
        · subst em; simpa using hp
        · exact ih e t (by omega)
/-- need cells are free from s on -/
abbrev mFits (M : xMem) (need s : Nat) : Bool := decide (s + need ≤ 64 ∧ ∀ k, k < need → mOw M (s + k) = 0)
theorem mGap_ex (M : xMem) (need : Nat) : ∃ o : Option Nat, o = xl (mFits M need) 65 := ⟨_, rfl⟩
noncomputable def mGap (M : xMem) (need : Nat) : Option Nat := Classical.choose (mGap_ex M need)
theorem mGap_def (M : xMem) (need : Nat) : mGap M need = xl (mFits M need) 65 := Classical.choose_spec (mGap_ex M need)
def oI (o : Option Nat) : Int32 := match o with
  | some s => nI s
  | none => -1
theorem mGap_s {M : xMem} {need s : Nat} (h1 : s + need ≤ 64) (h2 : ∀ k, k < need → mOw M (s + k) = 0) (h3 : ∀ t, t < s → ∃ k, k < need ∧ mOw M (t + k) ≠ 0) : mGap M need = some s := by
  rw [mGap_def]
  refine xl_some (by omega) (by simp only [mFits, decide_eq_true_eq]; exact ⟨h1, h2⟩) (fun t ht => ?_)
  simp only [mFits, decide_eq_false_iff_not]
  intro hc
  obtain ⟨k, hk, hw⟩ := h3 t ht
  exact hw (hc.2 k hk)
theorem mGap_n {M : xMem} {need : Nat} (h3 : ∀ t, t + need ≤ 64 → ∃ k, k < need ∧ mOw M (t + k) ≠ 0) : mGap M need = none := by
  rw [mGap_def]
  refine xl_none (fun t ht => ?_)
  simp only [mFits, decide_eq_false_iff_not]
  intro hc
  obtain ⟨k, hk, hw⟩ := h3 t hc.1
  exact hw (hc.2 k hk)
theorem mGap_inv {M : xMem} {need s : Nat} (h : mGap M need = some s) : s + need ≤ 64 ∧ ∀ k, s ≤ k → k < s + need → mOw M k = 0 := by
  rw [mGap_def] at h
  have := (xl_inv h).2.1
  simp only [mFits, decide_eq_true_eq] at this
  exact ⟨this.1, fun k h1 h2 => by have := this.2 (k - s) (by omega); rwa [show s + (k - s) = k by omega] at this⟩
/-- a new block of b + 2 cells at s, for n bytes -/
def mPut (M : xMem) (s b n : Nat) : xMem :=
  (xp (mHp M) (8 * s + 8) (8 * s + 8 + 8 * b) 0,
   xu (xu (xu (xp (mSh M) s (s + b + 2) 0) s (-1)) (s + b) (nI (n % 8))) (s + b + 1) (-1),
   xp (mOw M) s (s + b + 2) 1, xu (mSz M) s (b + 2), mQn M, mQf M)
theorem mPut_sh {f : Nat → Int32} {s b : Nat} {x : Int32} (h : 1 ≤ b) : xu (xu (xp (xu f s (-1)) (s + 1) (s + b + 1) 0) (s + b) x) (s + b + 1) (-1) = xu (xu (xu (xp f s (s + b + 2) 0) s (-1)) (s + b) x) (s + b + 1) (-1) := by
  funext k
  simp only [xu, xp]
  by_cases c1 : k = s + b + 1
  · simp [c1]
  · by_cases c2 : k = s + b
    · rw [if_neg c1, if_pos c2, if_neg c1, if_pos c2]
    · rw [if_neg c1, if_neg c2, if_neg c1, if_neg c2]
      by_cases c3 : k = s
      · rw [if_neg (by omega), if_pos c3, if_pos c3]
      · rw [if_neg c3, if_neg c3]
        by_cases c4 : s + 1 ≤ k ∧ k < s + b + 1
        · rw [if_pos c4, if_pos (by omega)]
        · rw [if_neg c4, if_neg (by omega)]
theorem mPut_free {B : Nat} {M : xMem} {s need : Nat} (h : mOk B M) (hn : 3 ≤ need) (hf : ∀ k, s ≤ k → k < s + need → mOw M k = 0) {t : Nat} (ht : 0 < mSz M t) : t + mSz M t ≤ s ∨ s + need ≤ t := by
  obtain ⟨h1, -, -, -, -, -, -⟩ := h
  obtain ⟨g1, g2, g3, g4⟩ := h1 t ht
  by_cases c : t + mSz M t ≤ s
  · exact Or.inl c
  · by_cases c2 : s + need ≤ t
    · exact Or.inr c2
    · exfalso
      by_cases c3 : t ≤ s
      · have e1 := g4 s c3 (by omega)
        have e2 := hf s (Nat.le_refl _) (by omega)
        omega
      · have e2 := hf t (by omega) (by omega)
        omega
theorem mPut_is {B : Nat} {M : xMem} {s b n : Nat} (h : mOk B M) (hn : 1 ≤ b) (hf : ∀ k, s ≤ k → k < s + b + 2 → mOw M k = 0) (w k : Nat) (hk : k ≠ s) : mIs (mPut M s b n) w k = mIs M w k := by
  have eSz : mSz (mPut M s b n) = xu (mSz M) s (b + 2) := rfl
  have eOw : mOw (mPut M s b n) = xp (mOw M) s (s + b + 2) 1 := rfl
  simp only [mIs, eSz, eOw, xu_n hk]
  by_cases hz : 0 < mSz M k
  · have := mPut_free h (need := b + 2) (by omega) hf hz
    have := (h.1 k hz).1
    rw [xp_out (by omega)]
  · simp [hz]
theorem mPut_is0 {B : Nat} {M : xMem} {s need : Nat} (h : mOk B M) (hn : 3 ≤ need) (hf : ∀ k, s ≤ k → k < s + need → mOw M k = 0) (w : Nat) : mIs M w s = false := by
  have h0 := hf s (Nat.le_refl _) (by omega)
  simp only [mIs, decide_eq_false_iff_not]
  intro hc
  have := (h.1 s hc.1).2.2.1
  omega
theorem mPut_is1 {M : xMem} {s b n : Nat} (hn : 1 ≤ b) (w : Nat) : mIs (mPut M s b n) w s = decide (w = 1) := by
  have eSz : mSz (mPut M s b n) = xu (mSz M) s (b + 2) := rfl
  have eOw : mOw (mPut M s b n) = xp (mOw M) s (s + b + 2) 1 := rfl
  simp only [mIs, eSz, eOw, xu_s, xp_in (Nat.le_refl s) (show s < s + b + 2 by omega)]
  have : 0 < b + 2 := by omega
  simp [this, eq_comm]
theorem mPut_live {B : Nat} {M : xMem} {s b n : Nat} (h : mOk B M) (hn : 1 ≤ b) (hs : s + b + 2 ≤ 64) (hf : ∀ k, s ≤ k → k < s + b + 2 → mOw M k = 0) : xc (mIs (mPut M s b n) 1) 64 = xc (mIs M 1) 64 + 1 :=
  xc_on (s := s) (by omega) (fun k _ hk => (mPut_is h hn hf 1 k hk).symm) (mPut_is0 h (need := b + 2) (by omega) hf 1) (mPut_is1 hn 1)
theorem mPut_ok {B : Nat} {M : xMem} {s b n : Nat} (h : mOk B M) (hn : 1 ≤ b) (hs : s + b + 2 ≤ 64) (hf : ∀ k, s ≤ k → k < s + b + 2 → mOw M k = 0) : mOk B (mPut M s b n) := by
  have hfr := fun {t : Nat} (ht : 0 < mSz M t) => mPut_free h (need := b + 2) (by omega) hf ht
  have his := mPut_is (n := n) h hn hf 2
  have his0 := mPut_is0 h (need := b + 2) (by omega) hf 2
  obtain ⟨h1, h2, h3, h4, h5, h6, h7⟩ := id h
  have eSz : mSz (mPut M s b n) = xu (mSz M) s (b + 2) := rfl
  have eOw : mOw (mPut M s b n) = xp (mOw M) s (s + b + 2) 1 := rfl
  have eQn : mQn (mPut M s b n) = mQn M := rfl
  have eQf : mQf (mPut M s b n) = mQf M := rfl
  have hne : ∀ i, i < mQn M → mQf M i ≠ s := by
    intro i hi e
    have := h4 i hi
    rw [e] at this
    have := hf s (Nat.le_refl _) (by omega)
    omega
  refine ⟨fun t ht => ?_, fun k hk hw => ?_, fun t u ht hu hlt => ?_, fun i hi => ?_, fun i j hi hj hij => h5 i j hi hj hij, ?_, ?_⟩
  · rw [eSz] at ht ⊢
    by_cases e : t = s
    · subst e
      rw [xu_s, eOw, xp_in (Nat.le_refl _) (by omega)]
      exact ⟨by omega, hs, Or.inl rfl, fun k g1 g2 => xp_in g1 g2⟩
    · rw [xu_n e] at ht ⊢
      obtain ⟨g1, g2, g3, g4⟩ := h1 t ht
      have := hfr ht
      rw [eOw, xp_out (by omega)]
      exact ⟨g1, g2, g3, fun k k1 k2 => by rw [xp_out (by omega)]; exact g4 k k1 k2⟩
  · rw [eOw] at hw
    by_cases hin : s ≤ k ∧ k < s + b + 2
    · exact ⟨s, by rw [eSz, xu_s]; exact ⟨by omega, hin⟩⟩
    · rw [xp_out hin] at hw
      obtain ⟨t, ht, g1, g2⟩ := h2 k hk hw
      have : t ≠ s := by
        intro e; rw [e] at ht
        have a1 := hf s (Nat.le_refl _) (by omega)
        have a2 := (h1 s ht).2.2.1
        omega
      exact ⟨t, by rw [eSz, xu_n this]; exact ⟨ht, g1, g2⟩⟩
  · rw [eSz] at ht hu ⊢
    by_cases e : t = s
    · subst e
      rw [xu_s]
      rw [xu_n (by omega)] at hu
      have := hfr hu
      have := (h1 u hu).1
      omega
    · rw [xu_n e] at ht ⊢
      by_cases e2 : u = s
      · subst e2
        have := hfr ht
        omega
      · rw [xu_n e2] at hu; exact h3 t u ht hu hlt
  · rw [eQf, eSz, eOw, xu_n (hne i hi)]
    have g := h4 i hi
    have := hfr g.1
    have := (h1 _ g.1).1
    rw [xp_out (by omega)]; exact g
  · rw [eQn, ← h6]
    refine xc_ext (fun k hk => ?_)
    by_cases e : k = s
    · subst e; rw [mPut_is1 hn 2, his0]; rfl
    · exact his k e
  · show xs (fun i => xu (mSz M) s (b + 2) (mQf M i)) (mQn M) ≤ B
    rw [xs_ext (g := fun i => mSz M (mQf M i)) (fun k hk => xu_n (hne k hk))]
    exact h7
/-- a block goes into the queue -/
def mFre (M : xMem) (s : Nat) : xMem :=
  (mHp M, xp (mSh M) (s + 1) (s + mSz M s - 1) (-2), xp (mOw M) s (s + mSz M s) 2, mSz M, mQn M + 1, xu (mQf M) (mQn M) s)
theorem mFre_out {B : Nat} {M : xMem} {s : Nat} (h : mOk B M) (hs : 0 < mSz M s) {t k : Nat} (hts : t ≠ s) (ht : 0 < mSz M t) (h1 : t ≤ k) (h2 : k < t + mSz M t) : mOw (mFre M s) k = mOw M k := by
  show xp (mOw M) s (s + mSz M s) 2 k = _
  rw [xp_out]
  intro hc
  rcases Nat.lt_or_gt_of_ne hts with g | g
  · have := h.2.2.1 t s ht hs g; omega
  · have := h.2.2.1 s t hs ht g; omega
theorem mFre_is {B : Nat} {M : xMem} {s : Nat} (h : mOk B M) (hs : 0 < mSz M s) (w k : Nat) (hk : k ≠ s) : mIs (mFre M s) w k = mIs M w k := by
  have eSz : mSz (mFre M s) = mSz M := rfl
  simp only [mIs, eSz]
  by_cases hz : 0 < mSz M k
  · rw [mFre_out h hs hk hz (Nat.le_refl _) (by omega)]
  · simp [hz]
theorem mFre_is1 {M : xMem} {s : Nat} (hs : 0 < mSz M s) (w : Nat) : mIs (mFre M s) w s = decide (w = 2) := by
  have eSz : mSz (mFre M s) = mSz M := rfl
  have eOw : mOw (mFre M s) = xp (mOw M) s (s + mSz M s) 2 := rfl
  simp only [mIs, eSz, eOw, xp_in (Nat.le_refl s) (show s < s + mSz M s by omega)]
  simp [hs, eq_comm]
theorem mFre_live {B : Nat} {M : xMem} {s : Nat} (h : mOk B M) (hs : 0 < mSz M s) (hw : mOw M s = 1) : xc (mIs M 1) 64 = xc (mIs (mFre M s) 1) 64 + 1 :=
  xc_on (s := s) (by have := (h.1 s hs).2.1; omega) (fun k _ hk => mFre_is h hs 1 k hk) (mFre_is1 hs 1) (by simp [mIs, hs, hw])
theorem mFre_sum {M : xMem} {s : Nat} : mSum (mFre M s) = mSum M + mSz M s := by
  show xs (fun i => mSz M (xu (mQf M) (mQn M) s i)) (mQn M + 1) = _
  rw [xs, xu_s, xs_ext (g := fun i => mSz M (mQf M i)) (fun k hk => by rw [xu_n (by omega)])]
theorem mFre_ok {B : Nat} {M : xMem} {s : Nat} (h : mOk B M) (hs : 0 < mSz M s) (hw : mOw M s = 1) : mOk (B + 64) (mFre M s) := by
  have hsum := mFre_sum (M := M) (s := s)
  have hout := fun {t k : Nat} => mFre_out (t := t) (k := k) h hs
  have his := mFre_is h hs 2
  obtain ⟨h1, h2, h3, h4, h5, h6, h7⟩ := id h
  have hs1 := h1 s hs
  have eSz : mSz (mFre M s) = mSz M := rfl
  have eOw : mOw (mFre M s) = xp (mOw M) s (s + mSz M s) 2 := rfl
  have eQn : mQn (mFre M s) = mQn M + 1 := rfl
  have eQf : mQf (mFre M s) = xu (mQf M) (mQn M) s := rfl
  have hne : ∀ i, i < mQn M → mQf M i ≠ s := by
    intro i hi e
    have := (h4 i hi).2
    rw [e, hw] at this
    omega
  refine ⟨fun t ht => ?_, fun k hk hw' => ?_, fun t u ht hu hlt => h3 t u ht hu hlt, fun i hi => ?_, fun i j hi hj hij => ?_, ?_, by omega⟩
  · rw [eSz] at ht ⊢
    obtain ⟨g1, g2, g3, g4⟩ := h1 t ht
    by_cases e : t = s
    · subst e
      rw [eOw, xp_in (Nat.le_refl _) (by omega)]
      exact ⟨g1, g2, Or.inr rfl, fun k k1 k2 => xp_in k1 k2⟩
    · rw [hout e ht (Nat.le_refl _) (by omega)]
      exact ⟨g1, g2, g3, fun k k1 k2 => by rw [hout e ht k1 k2]; exact g4 k k1 k2⟩
  · rw [eSz]
    rw [eOw] at hw'
    by_cases hin : s ≤ k ∧ k < s + mSz M s
    · exact ⟨s, hs, hin.1, hin.2⟩
    · rw [xp_out hin] at hw'; exact h2 k hk hw'
  · rw [eQn] at hi
    rw [eSz, eQf]
    by_cases e : i = mQn M
    · subst e; rw [xu_s, eOw, xp_in (Nat.le_refl _) (by omega)]; exact ⟨hs, rfl⟩
    · have g := h4 i (by omega)
      rw [xu_n e, hout (hne i (by omega)) g.1 (Nat.le_refl _) (by omega)]; exact g
  · rw [eQn] at hi hj
    rw [eQf]
    by_cases e : i = mQn M
    · subst e; rw [xu_s, xu_n (by omega)]; exact fun x => hne j (by omega) x.symm
    · rw [xu_n e]
      by_cases e2 : j = mQn M
      · subst e2; rw [xu_s]; exact hne i (by omega)
      · rw [xu_n e2]; exact h5 i j (by omega) (by omega) hij
  · rw [eQn, ← h6]
    exact xc_on (s := s) (by omega) (fun k _ hk => (his k hk).symm) (by simp [mIs, hw]) (mFre_is1 hs 2)
/-- the queue shrinks until its cells are at most 20 -/
def mTrF : Nat → xMem → xMem
  | 0, M => M
  | f + 1, M => if mSum M ≤ 20 then M else mTrF f (mRel M)
def mTr (M : xMem) : xMem := mTrF (mQn M) M
theorem mTr_le {M : xMem} (h : mSum M ≤ 20) : mTr M = M := by
  unfold mTr
  cases mQn M with
  | zero => rfl
  | succ n => exact if_pos h
theorem mSum_pos {M : xMem} (h : 0 < mSum M) : 0 < mQn M := by
  apply Nat.pos_of_ne_zero
  intro e
  unfold mSum at h
  rw [e] at h
  exact absurd h (Nat.not_lt_zero _)
theorem mTr_gt {M : xMem} (h : 20 < mSum M) : mTr M = mTr (mRel M) := by
  have hq := mSum_pos (M := M) (by omega)
  unfold mTr
  have e : mQn (mRel M) = mQn M - 1 := rfl
  rw [e]
  obtain ⟨n, hn⟩ : ∃ n, mQn M = n + 1 := ⟨mQn M - 1, by omega⟩
  rw [hn]
  exact if_neg (by omega)
/-- blocks leave the queue until need cells are free, or none waits -/
noncomputable def mMkF (need : Nat) : Nat → xMem → xMem
  | 0, M => M
  | f + 1, M => match mGap M need with
    | some _ => M
    | none => mMkF need f (mRel M)
noncomputable def mMk (need : Nat) (M : xMem) : xMem := mMkF need (mQn M) M
theorem mMk_0 {need : Nat} {M : xMem} (h : mQn M = 0) : mMk need M = M := by
  unfold mMk; rw [h]; rfl
theorem mMk_s {need s : Nat} {M : xMem} (h : mGap M need = some s) : mMk need M = M := by
  unfold mMk
  cases mQn M with
  | zero => rfl
  | succ n => simp only [mMkF, h]
theorem mMk_n {need : Nat} {M : xMem} (h : mGap M need = none) (hq : 0 < mQn M) : mMk need M = mMk need (mRel M) := by
  unfold mMk
  have e : mQn (mRel M) = mQn M - 1 := rfl
  rw [e]
  obtain ⟨n, hn⟩ : ∃ n, mQn M = n + 1 := ⟨mQn M - 1, by omega⟩
  rw [hn]
  simp only [mMkF, h]
  rw [Nat.add_sub_cancel]
theorem mTr_ok {B : Nat} : ∀ {n : Nat} {M : xMem}, mQn M = n → mOk B M → mOk 20 (mTr M) := by
  intro n
  induction n with
  | zero =>
    intro M hn h
    have : mSum M = 0 := by unfold mSum; rw [hn]; rfl
    rw [mTr_le (by omega)]; exact mOk_mono h (by omega)
  | succ n ih =>
    intro M hn h
    by_cases c : mSum M ≤ 20
    · rw [mTr_le c]; exact mOk_mono h c
    · rw [mTr_gt (by omega)]
      exact ih (by show mQn M - 1 = n; omega) (mRel_ok h (by omega))
theorem mMk_ok {B need : Nat} : ∀ {n : Nat} {M : xMem}, mQn M = n → mOk B M → mOk B (mMk need M) := by
  intro n
  induction n with
  | zero => intro M hn h; rw [mMk_0 hn]; exact h
  | succ n ih =>
    intro M hn h
    cases c : mGap M need with
    | some s => rw [mMk_s c]; exact h
    | none =>
      rw [mMk_n c (by omega)]
      exact ih (by show mQn M - 1 = n; omega) (mRel_ok h (by omega))
/-- a block for a bytes: the memory behind it, and its address -/
noncomputable def mAl (M : xMem) (a : Int32) : xMem × Int32 :=
  if a < 1 ∨ 100 < a then (M, 0)
  else
    let n := a.toNatClampNeg
    let need := (n + 7) / 8 + 2
    match mGap (mMk need M) need with
    | some s => (mPut (mMk need M) s ((n + 7) / 8) n, nI (8 * s + 8))
    | none => (mMk need M, 0)
theorem mAl_ok {M : xMem} (a : Int32) (h : mOk 20 M) : mOk 20 (mAl M a).1 := by
  unfold mAl
  split
  · exact h
  · simp only
    have hk := mMk_ok (need := (a.toNatClampNeg + 7) / 8 + 2) rfl h
    rename_i hc
    have h1 : 1 ≤ a.toNatClampNeg := by
      have : ¬ a < 1 := fun x => hc (Or.inl x)
      rw [Int32.lt_iff_toInt_lt] at this
      have e : (1 : Int32).toInt = 1 := by decide
      rw [e] at this
      unfold Int32.toNatClampNeg
      omega
    split
    · rename_i s hs
      have := mGap_inv hs
      exact mPut_ok hk (by omega) this.1 this.2
    · exact hk
/-- a block is freed -/
def mFr (M : xMem) (s : Nat) : xMem := mTr (mFre M s)
theorem mFr_ok {M : xMem} {s : Nat} (h : mOk 20 M) (hs : 0 < mSz M s) (hw : mOw M s = 1) : mOk 20 (mFr M s) := mTr_ok rfl (mFre_ok h hs hw)
end
section
/-! the program: n, operation, r, a, b, k -/
abbrev xPg : Type := Nat × (Nat → Nat) × (Nat → Nat) × (Nat → Nat) × (Nat → Nat) × (Nat → Int32)
abbrev pN (P : xPg) : Nat := P.1
abbrev pO (P : xPg) : Nat → Nat := P.2.1
abbrev pR (P : xPg) : Nat → Nat := P.2.2.1
abbrev pA (P : xPg) : Nat → Nat := P.2.2.2.1
abbrev pB (P : xPg) : Nat → Nat := P.2.2.2.2.1
abbrev pK (P : xPg) : Nat → Int32 := P.2.2.2.2.2
def pOk (P : xPg) : Prop := pN P ≤ 40 ∧ ∀ i, i < pN P → pO P i ≤ 14 ∧ pR P i < 8 ∧ pA P i < 8 ∧ pB P i < 8
/-- has a check ahead of it -/
abbrev pC (P : xPg) : Nat → Bool := fun i => decide (4 < pO P i ∧ pO P i < 10)
/-- where an instruction's lines begin in the rewritten program -/
def pl (P : xPg) (i : Nat) : Nat := i + xc (pC P) i
theorem pl_0 (P : xPg) : pl P 0 = 0 := rfl
theorem pl_s (P : xPg) (i : Nat) : pl P (i + 1) = pl P i + 1 + (if pC P i then 1 else 0) := by
  unfold pl; rw [xc]; omega
theorem pl_ge (P : xPg) (i : Nat) : i ≤ pl P i := Nat.le_add_right _ _
theorem pl_le (P : xPg) (i : Nat) : pl P i ≤ 2 * i := by
  have := xc_le (pC P) i
  unfold pl; omega
theorem pl_lt {P : xPg} {i j : Nat} (h : i < j) : pl P i < pl P j := by
  induction j with
  | zero => omega
  | succ j ih =>
    rw [pl_s]
    by_cases e : i = j
    · subst e; omega
    · have := ih (by omega); omega
theorem pl_mono {P : xPg} {i j : Nat} (h : i ≤ j) : pl P i ≤ pl P j := by
  by_cases e : i = j
  · subst e; exact Nat.le_refl _
  · exact Nat.le_of_lt (pl_lt (by omega))
theorem pl_inj {P : xPg} {i j : Nat} (h : pl P i = pl P j) : i = j := by
  rcases Nat.lt_trichotomy i j with g | g | g
  · have := pl_lt (P := P) g; omega
  · exact g
  · have := pl_lt (P := P) g; omega
theorem pl_ex {P : xPg} {n p : Nat} (h : p < pl P n) : ∃ i, i < n ∧ pl P i ≤ p ∧ p < pl P (i + 1) := by
  induction n with
  | zero => rw [pl_0] at h; omega
  | succ n ih =>
    by_cases c : p < pl P n
    · obtain ⟨i, h1, h2⟩ := ih c; exact ⟨i, by omega, h2⟩
    · exact ⟨n, by omega, by omega, h⟩
/-- the instruction whose line it is -/
def pI (P : xPg) (p : Nat) : Nat := xc (fun i => decide (pl P (i + 1) ≤ p)) p
theorem xc_cut {P : Nat → Bool} {i n : Nat} (h : i ≤ n) (h1 : ∀ j, j < i → P j = true) (h2 : ∀ j, i ≤ j → P j = false) : xc P n = i := by
  induction n with
  | zero => rw [xc]; omega
  | succ n ih =>
    rw [xc]
    by_cases e : i = n + 1
    · have : ∀ m, m ≤ i → xc P m = m := by
        intro m
        induction m with
        | zero => intro _; rfl
        | succ m ihm => intro hm; rw [xc, ihm (by omega), h1 m (by omega)]; rfl
      rw [this n (by omega), h1 n (by omega), e]; rfl
    · rw [ih (by omega), h2 n (by omega)]; rfl
theorem pI_eq {P : xPg} {p i : Nat} (h1 : pl P i ≤ p) (h2 : p < pl P (i + 1)) : pI P p = i := by
  refine xc_cut (Nat.le_trans (pl_ge P i) h1) (fun j hj => ?_) (fun j hj => ?_)
  · have := pl_mono (P := P) (show j + 1 ≤ i by omega)
    simp only [decide_eq_true_eq]; omega
  · have := pl_mono (P := P) (show i + 1 ≤ j + 1 by omega)
    simp only [decide_eq_false_iff_not]; omega
theorem pI_sp {P : xPg} {n p : Nat} (h : p < pl P n) : pI P p < n ∧ pl P (pI P p) ≤ p ∧ p < pl P (pI P p + 1) := by
  obtain ⟨i, h1, h2, h3⟩ := pl_ex h
  rw [pI_eq h2 h3]; exact ⟨h1, h2, h3⟩
/-- is the line a check -/
def pH (P : xPg) (p : Nat) : Bool := pC P (pI P p) && decide (p = pl P (pI P p))
/-- the operation of a line -/
def pOp (P : xPg) (p : Nat) : Nat := if pH P p then (if pO P (pI P p) = 5 then 16 else 15) else pO P (pI P p)
/-- goes on elsewhere -/
abbrev pJ (P : xPg) (i : Nat) : Bool := decide (pO P i = 10 ∨ pO P i = 11)
/-- every instruction goes on within -/
def pSd (P : xPg) : Prop := ∀ i, i < pN P → (pO P i = 10 ∨ pO P i = 11) → 0 ≤ pK P i ∧ pK P i < nI (pN P)
/-- an instruction more -/
def pAdd (P : xPg) (o r a b : Nat) (k : Int32) : xPg := (pN P + 1, xu (pO P) (pN P) o, xu (pR P) (pN P) r, xu (pA P) (pN P) a, xu (pB P) (pN P) b, xu (pK P) (pN P) k)
theorem pAdd_ok {P : xPg} {o r a b : Nat} {k : Int32} (h : pOk P) (hn : pN P < 40) (ho : o ≤ 14) (hr : r < 8) (ha : a < 8) (hb : b < 8) : pOk (pAdd P o r a b k) := by
  refine ⟨?_, fun i hi => ?_⟩
  · show pN P + 1 ≤ 40; omega
  · have hi' : i < pN P + 1 := hi
    show xu (pO P) (pN P) o i ≤ 14 ∧ xu (pR P) (pN P) r i < 8 ∧ xu (pA P) (pN P) a i < 8 ∧ xu (pB P) (pN P) b i < 8
    by_cases e : i = pN P
    · subst e; rw [xu_s, xu_s, xu_s, xu_s]; exact ⟨ho, hr, ha, hb⟩
    · rw [xu_n e, xu_n e, xu_n e, xu_n e]; exact h.2 i (by omega)
theorem pAdd_pl {P : xPg} {o r a b : Nat} {k : Int32} {i : Nat} (h : i ≤ pN P) : pl (pAdd P o r a b k) i = pl P i := by
  unfold pl
  rw [xc_ext (R := pC P) (fun j hj => ?_)]
  show decide (4 < xu (pO P) (pN P) o j ∧ xu (pO P) (pN P) o j < 10) = _
  rw [xu_n (by omega)]
theorem pAdd_pls {P : xPg} {o r a b : Nat} {k : Int32} : pl (pAdd P o r a b k) (pN P + 1) = pl P (pN P) + 1 + if 4 < o ∧ o < 10 then 1 else 0 := by
  rw [pl_s, pAdd_pl (Nat.le_refl _)]
  congr 1
  have : pC (pAdd P o r a b k) (pN P) = decide (4 < o ∧ o < 10) := by
    show decide (4 < xu (pO P) (pN P) o (pN P) ∧ xu (pO P) (pN P) o (pN P) < 10) = _
    rw [xu_s]
  rw [this]; simp
theorem pAdd_pI {P : xPg} {o r a b : Nat} {k : Int32} {p : Nat} (h : p < pl P (pN P)) : pI (pAdd P o r a b k) p = pI P p := by
  obtain ⟨h1, h2, h3⟩ := pI_sp h
  refine pI_eq ?_ ?_
  · rw [pAdd_pl (by omega)]; exact h2
  · rw [pAdd_pl (by omega)]; exact h3
theorem pAdd_pI1 {P : xPg} {o r a b : Nat} {k : Int32} {p : Nat} (h1 : pl P (pN P) ≤ p) (h2 : p < pl (pAdd P o r a b k) (pN P + 1)) : pI (pAdd P o r a b k) p = pN P :=
  pI_eq (by rw [pAdd_pl (Nat.le_refl _)]; exact h1) h2
theorem pAdd_o {P : xPg} {o r a b : Nat} {k : Int32} {i : Nat} (h : i < pN P) : pO (pAdd P o r a b k) i = pO P i := xu_n (by omega)
theorem pAdd_o1 {P : xPg} {o r a b : Nat} {k : Int32} : pO (pAdd P o r a b k) (pN P) = o := xu_s
theorem pAdd_op {P : xPg} {o r a b : Nat} {k : Int32} {p : Nat} (h : p < pl P (pN P)) : pOp (pAdd P o r a b k) p = pOp P p := by
  obtain ⟨h1, h2, h3⟩ := pI_sp h
  unfold pOp pH
  rw [pAdd_pI h, pAdd_o h1, pAdd_pl (by omega)]
  have : pC (pAdd P o r a b k) (pI P p) = pC P (pI P p) := by
    show decide (4 < pO (pAdd P o r a b k) _ ∧ pO (pAdd P o r a b k) _ < 10) = _
    rw [pAdd_o h1]
  rw [this]
/-- the two listings: origins and first lines of the plain one; operations, origins, first lines of the rewritten one -/
abbrev xLs : Type := (Nat → Nat) × (Nat → Nat) × (Nat → Nat) × (Nat → Nat) × (Nat → Nat)
def lOk (P : xPg) (L : xLs) : Prop := (∀ i, i < pN P → L.1 i = i ∧ L.2.1 i = i ∧ L.2.2.2.2 i = pl P i) ∧ ∀ p, p < pl P (pN P) → L.2.2.1 p = pOp P p ∧ L.2.2.2.1 p = pI P p
theorem lOk_0 {P : xPg} (L : xLs) (h : pN P = 0) : lOk P L := by
  refine ⟨fun i hi => ?_, fun p hp => ?_⟩
  · omega
  · rw [h, pl_0] at hp; omega
/-- behind an instruction without a check -/
def lAdd1 (P : xPg) (L : xLs) (o : Nat) : xLs := (xu L.1 (pN P) (pN P), xu L.2.1 (pN P) (pN P), xu L.2.2.1 (pl P (pN P)) o, xu L.2.2.2.1 (pl P (pN P)) (pN P), xu L.2.2.2.2 (pN P) (pl P (pN P)))
/-- behind one with the check c -/
def lAdd2 (P : xPg) (L : xLs) (c o : Nat) : xLs := (xu L.1 (pN P) (pN P), xu L.2.1 (pN P) (pN P), xu (xu L.2.2.1 (pl P (pN P)) c) (pl P (pN P) + 1) o, xu (xu L.2.2.2.1 (pl P (pN P)) (pN P)) (pl P (pN P) + 1) (pN P), xu L.2.2.2.2 (pN P) (pl P (pN P)))
theorem lAdd1_ok {P : xPg} {L : xLs} {o r a b : Nat} {k : Int32} (h : lOk P L) (ho : ¬ (4 < o ∧ o < 10)) : lOk (pAdd P o r a b k) (lAdd1 P L o) := by
  have hpls := pAdd_pls (P := P) (o := o) (r := r) (a := a) (b := b) (k := k)
  rw [if_neg ho] at hpls
  have hN : pN (pAdd P o r a b k) = pN P + 1 := rfl
  refine ⟨fun i hi => ?_, fun p hp => ?_⟩
  · rw [hN] at hi
    show xu L.1 (pN P) (pN P) i = i ∧ xu L.2.1 (pN P) (pN P) i = i ∧ xu L.2.2.2.2 (pN P) (pl P (pN P)) i = _
    rw [pAdd_pl (by omega)]
    by_cases e : i = pN P
    · subst e; rw [xu_s, xu_s, xu_s]; exact ⟨rfl, rfl, rfl⟩
    · rw [xu_n e, xu_n e, xu_n e]; exact h.1 i (by omega)
  · rw [hN] at hp
    show xu L.2.2.1 (pl P (pN P)) o p = _ ∧ xu L.2.2.2.1 (pl P (pN P)) (pN P) p = _
    by_cases e : p = pl P (pN P)
    · have hI := pAdd_pI1 (r := r) (a := a) (b := b) (k := k) (Nat.le_of_eq e.symm) hp
      rw [hI]
      rw [e, xu_s, xu_s]
      refine ⟨?_, rfl⟩
      rw [← e]
      unfold pOp pH
      rw [hI]
      have hc : pC (pAdd P o r a b k) (pN P) = false := by
        show decide (4 < pO (pAdd P o r a b k) _ ∧ pO (pAdd P o r a b k) _ < 10) = _
        rw [pAdd_o1]; simpa using ho
      rw [hc, pAdd_o1]; rfl
    · have hp' : p < pl P (pN P) := by omega
      rw [xu_n e, xu_n e, pAdd_op hp', pAdd_pI hp']; exact h.2 p hp'
theorem lAdd2_ok {P : xPg} {L : xLs} {c o r a b : Nat} {k : Int32} (h : lOk P L) (ho : 4 < o ∧ o < 10) (hc : c = if o = 5 then 16 else 15) : lOk (pAdd P o r a b k) (lAdd2 P L c o) := by
  have hpls := pAdd_pls (P := P) (o := o) (r := r) (a := a) (b := b) (k := k)
  rw [if_pos ho] at hpls
  have hN : pN (pAdd P o r a b k) = pN P + 1 := rfl
  have hC : pC (pAdd P o r a b k) (pN P) = true := by
    show decide (4 < pO (pAdd P o r a b k) _ ∧ pO (pAdd P o r a b k) _ < 10) = _
    rw [pAdd_o1]; simpa using ho
  refine ⟨fun i hi => ?_, fun p hp => ?_⟩
  · rw [hN] at hi
    show xu L.1 (pN P) (pN P) i = i ∧ xu L.2.1 (pN P) (pN P) i = i ∧ xu L.2.2.2.2 (pN P) (pl P (pN P)) i = _
    rw [pAdd_pl (by omega)]
    by_cases e : i = pN P
    · subst e; rw [xu_s, xu_s, xu_s]; exact ⟨rfl, rfl, rfl⟩
    · rw [xu_n e, xu_n e, xu_n e]; exact h.1 i (by omega)
  · rw [hN] at hp
    show xu (xu L.2.2.1 (pl P (pN P)) c) (pl P (pN P) + 1) o p = _ ∧ xu (xu L.2.2.2.1 (pl P (pN P)) (pN P)) (pl P (pN P) + 1) (pN P) p = _
    by_cases e : p = pl P (pN P)
    · have hI := pAdd_pI1 (r := r) (a := a) (b := b) (k := k) (Nat.le_of_eq e.symm) hp
      have e3 : p ≠ pl P (pN P) + 1 := by omega
      rw [hI, xu_n e3, xu_n e3]
      rw [e, xu_s, xu_s]
      refine ⟨?_, rfl⟩
      rw [← e]
      unfold pOp pH
      rw [hI, hC, pAdd_o1, pAdd_pl (Nat.le_refl _), hc]
      simp [e]
    · by_cases e2 : p = pl P (pN P) + 1
      · have hI := pAdd_pI1 (P := P) (o := o) (r := r) (a := a) (b := b) (k := k) (p := p) (by omega) hp
        rw [hI]
        rw [e2, xu_s, xu_s]
        refine ⟨?_, rfl⟩
        rw [← e2]
        unfold pOp pH
        rw [hI, hC, pAdd_o1, pAdd_pl (Nat.le_refl _)]
        simp [e]
      · have hp' : p < pl P (pN P) := by omega
        rw [xu_n e2, xu_n e2, xu_n e, xu_n e, pAdd_op hp', pAdd_pI hp']; exact h.2 p hp'
end
section
/-! the run: state, checked, at, last done, registers, how many prints, prints, kind, where, whose -/
abbrev xRn : Type := Nat × Bool × Nat × Nat × (Nat → Int32) × Nat × (Nat → Int32) × Nat × Int32 × Nat
abbrev rSt (R : xRn) : Nat := R.1
abbrev rCk (R : xRn) : Bool := R.2.1
abbrev rAt (R : xRn) : Nat := R.2.2.1
abbrev rLd (R : xRn) : Nat := R.2.2.2.1
abbrev rRg (R : xRn) : Nat → Int32 := R.2.2.2.2.1
abbrev rPn (R : xRn) : Nat := R.2.2.2.2.2.1
abbrev rPr (R : xRn) : Nat → Int32 := R.2.2.2.2.2.2.1
abbrev rKd (R : xRn) : Nat := R.2.2.2.2.2.2.2.1
abbrev rWh (R : xRn) : Int32 := R.2.2.2.2.2.2.2.2.1
abbrev rWo (R : xRn) : Nat := R.2.2.2.2.2.2.2.2.2
abbrev rSetS (R : xRn) (s : Nat) : xRn := (s, rCk R, rAt R, rLd R, rRg R, rPn R, rPr R, rKd R, rWh R, rWo R)
abbrev rSetA (R : xRn) (a : Nat) : xRn := (rSt R, rCk R, a, rLd R, rRg R, rPn R, rPr R, rKd R, rWh R, rWo R)
abbrev rSetL (R : xRn) (a : Nat) : xRn := (rSt R, rCk R, rAt R, a, rRg R, rPn R, rPr R, rKd R, rWh R, rWo R)
abbrev rSetR (R : xRn) (r : Nat) (v : Int32) : xRn := (rSt R, rCk R, rAt R, rLd R, xu (rRg R) r v, rPn R, rPr R, rKd R, rWh R, rWo R)
abbrev rTell (R : xRn) (k : Nat) (a : Int32) (i : Nat) : xRn := (3, rCk R, rAt R, rLd R, rRg R, rPn R, rPr R, k, a, i)
abbrev rPrint (R : xRn) (v : Int32) : xRn := if rPn R < 60 then (rSt R, rCk R, rAt R, rLd R, rRg R, rPn R + 1, xu (rPr R) (rPn R) v, rKd R, rWh R, rWo R) else R
abbrev rLim (P : xPg) (R : xRn) : Nat := if rCk R then pl P (pN P) else pN P
def rOk (P : xPg) (R : xRn) : Prop := rSt R ≤ 4 ∧ rPn R ≤ 60 ∧ (rSt R ≠ 0 → pSd P ∧ 0 < pN P) ∧ (rSt R = 1 → rAt R < rLim P R) ∧ (rSt R = 3 → rCk R = true ∧ rLd R < pl P (pN P) ∧ rWo R = pI P (rLd R))
/-- x is one of the numbers below n -/
def xr (x : Int32) (n : Nat) : Bool := decide (0 ≤ x ∧ x < nI n)
/-- why the byte at x may not be touched; 0: it may -/
def mTc (s : Int32) (j : Nat) : Nat := if s = 0 ∨ (0 < s ∧ nI j < s) then 0 else if s = -2 then 2 else if s = -3 then 3 else 1
def mWr (M : xMem) (x : Int32) : Nat := if xr x 512 = true then mTc (mSh M (x.toNatClampNeg / 8)) (x.toNatClampNeg % 8) else 5
/-- a block that is not in the queue has its address there -/
def mBl (M : xMem) (x : Int32) : Bool := xr x 512 && decide (0 < x.toNatClampNeg ∧ x.toNatClampNeg % 8 = 0 ∧ 0 < mSz M (x.toNatClampNeg / 8 - 1) ∧ mOw M (x.toNatClampNeg / 8 - 1) = 1)
/-- the first of m places from k on -/
def xf (P : Nat → Bool) : Nat → Nat → Option Nat
  | 0, _ => none
  | m + 1, k => if P k then some k else xf P m (k + 1)
def rMany (P : xPg) (i : Nat) : Nat := if pO P i % 2 = 0 then 1 else 4
abbrev rX (P : xPg) (R : xRn) (i : Nat) : Int32 := rRg R (pA P i) + pK P i
def rBad (P : xPg) (M : xMem) (R : xRn) (i : Nat) : Nat → Bool := fun j => decide (mWr M (rX P R i + nI j) ≠ 0)
def rTo (P : xPg) (M : xMem) (R : xRn) (i : Nat) (o : Option Nat) : xRn := match o with
  | some j => rTell R (mWr M (rX P R i + nI j)) (rX P R i + nI j) i
  | none => R
def rChk (P : xPg) (M : xMem) (R : xRn) (i : Nat) : xRn :=
  if pO P i = 5 then (if rRg R (pA P i) ≠ 0 ∧ mBl M (rRg R (pA P i)) = false then rTell R 4 (rRg R (pA P i)) i else R)
  else rTo P M R i (xf (rBad P M R i) (rMany P i) 0)
/-- w bytes from x on, the first j of them from above read -/
def xld (hp : Nat → Int32) (x w : Nat) : Nat → Int32
  | 0 => 0
  | j + 1 => (xld hp x w j <<< (nI 8 &&& 31)) ||| hp (x + (w - 1 - j))
def xbt (v : Int32) (j : Nat) : Int32 := (v >>> (nI (8 * j) &&& 31)) &&& nI 255
def xst (hp : Nat → Int32) (x : Nat) (v : Int32) : Nat → Nat → Int32
  | 0 => hp
  | j + 1 => xu (xst hp x v j) (x + j) (xbt v j)
/-- w bytes from x on lie in the heap -/
def xIn (x : Int32) (w : Nat) : Prop := xr x 512 = true ∧ x.toNatClampNeg + w ≤ 512
theorem xIn_dec (x : Int32) (w : Nat) : ∃ b : Bool, b = true ↔ xIn x w := by
  by_cases h : xIn x w
  · exact ⟨true, by simp [h]⟩
  · exact ⟨false, by simp [h]⟩
noncomputable def xInb (x : Int32) (w : Nat) : Bool := Classical.choose (xIn_dec x w)
theorem xInb_i (x : Int32) (w : Nat) : xInb x w = true ↔ xIn x w := Classical.choose_spec (xIn_dec x w)
noncomputable def rTch (P : xPg) (M : xMem) (R : xRn) (i : Nat) : xMem × xRn :=
  if xInb (rX P R i) (rMany P i) = true then
    (if pO P i = 6 then (M, rSetR R (pR P i) (mHp M (rX P R i).toNatClampNeg))
    else if pO P i = 7 then (M, rSetR R (pR P i) (xld (mHp M) (rX P R i).toNatClampNeg 4 4))
    else ((xst (mHp M) (rX P R i).toNatClampNeg (rRg R (pB P i)) (rMany P i), mSh M, mOw M, mSz M, mQn M, mQf M), R))
  else (M, rSetS R 4)
abbrev rA (P : xPg) (R : xRn) (i : Nat) : Int32 := rRg R (pA P i)
abbrev rB (P : xPg) (R : xRn) (i : Nat) : Int32 := rRg R (pB P i)
/-- where an instruction that goes on elsewhere goes on -/
def rNx (P : xPg) (R : xRn) (i : Nat) : Nat := if (pO P i = 10 ∧ rA P R i = 0) ∨ (pO P i = 11 ∧ rA P R i < rB P R i) then (pK P i).toNatClampNeg else i + 1
noncomputable def rPf (P : xPg) (M : xMem) (R : xRn) (i : Nat) : xMem × xRn :=
  if pO P i = 0 then (M, rSetR R (pR P i) (pK P i))
  else if pO P i = 1 then (M, rSetR R (pR P i) (rA P R i + rB P R i))
  else if pO P i = 2 then (M, rSetR R (pR P i) (rA P R i - rB P R i))
  else if pO P i = 3 then (M, rSetR R (pR P i) (rA P R i * rB P R i))
  else if pO P i = 4 then ((mAl M (rA P R i)).1, rSetR R (pR P i) (mAl M (rA P R i)).2)
  else if pO P i = 5 then (if mBl M (rA P R i) = true then (mFr M ((rA P R i).toNatClampNeg / 8 - 1), R) else if rA P R i ≠ 0 then (M, rSetS R 4) else (M, R))
  else if pO P i ≤ 9 then rTch P M R i
  else if pO P i ≤ 11 then (M, R)
  else if pO P i = 12 then (M, rPrint R (rA P R i))
  else if pO P i = 13 then (M, rSetR R (pR P i) (rA P R i + pK P i))
  else (M, rSetS R 2)
/-- the instruction at which the run is -/
abbrev rI (P : xPg) (R : xRn) : Nat := if rCk R then pI P (rAt R) else rAt R
abbrev rH (P : xPg) (R : xRn) : Bool := rCk R && pH P (rAt R)
def rEnd (P : xPg) (R : xRn) (nx : Nat) : xRn := if rSt R = 1 ∧ nx = pN P then rSetS (rSetA R (if rCk R then pl P nx else nx)) 2 else rSetA R (if rCk R then pl P nx else nx)
noncomputable def rOne (P : xPg) (M : xMem) (R : xRn) : xMem × xRn :=
  if rH P R = true then (M, rSetA (rChk P M (rSetL R (rAt R)) (rI P R)) (rAt R + 1))
  else ((rPf P M (rSetL R (rAt R)) (rI P R)).1, rEnd P (rPf P M (rSetL R (rAt R)) (rI P R)).2 (rNx P R (rI P R)))
/-- n steps, and how many were done -/
noncomputable def rGo (P : xPg) : Nat → xMem × xRn → xMem × xRn
  | 0, V => V
  | n + 1, V => if rSt V.2 = 1 then rGo P n (rOne P V.1 V.2) else V
noncomputable def rCnt (P : xPg) : Nat → xMem × xRn → Nat
  | 0, _ => 0
  | n + 1, V => if rSt V.2 = 1 then rCnt P n (rOne P V.1 V.2) + 1 else 0
/-! what holds stays so -/
theorem xI_toInt {n : Nat} (h : n < 2 ^ 31) : (nI n).toInt = (n : Int) := Int32.toInt_ofNat_of_lt h
theorem nI_clampS {x : Int32} (h : 0 ≤ x) : nI x.toNatClampNeg = x := by
  rw [Int32.le_iff_toInt_le] at h
  have e : (0 : Int32).toInt = 0 := by decide
  rw [e] at h
  have h2 := Int32.toInt_lt x
  have h3 : x.toNatClampNeg < 2 ^ 31 := by unfold Int32.toNatClampNeg; omega
  apply Int32.toInt_inj.mp
  rw [xI_toInt h3]
  unfold Int32.toNatClampNeg; omega
theorem nI_clampLt {x : Int32} {n : Nat} (h : x < nI n) (hn : n < 2 ^ 31) (h0 : 0 ≤ x) : x.toNatClampNeg < n := by
  rw [Int32.lt_iff_toInt_lt, xI_toInt hn] at h
  rw [Int32.le_iff_toInt_le] at h0
  have e : (0 : Int32).toInt = 0 := by decide
  rw [e] at h0
  unfold Int32.toNatClampNeg
  omega
theorem rI_lt {P : xPg} {R : xRn} (h : rAt R < rLim P R) : rI P R < pN P := by
  unfold rI
  unfold rLim at h
  split
  · rename_i hc; rw [if_pos hc] at h; exact (pI_sp h).1
  · rename_i hc; rw [if_neg hc] at h; exact h
theorem rNx_le {P : xPg} {R : xRn} {i : Nat} (hp : pOk P) (hs : pSd P) (hi : i < pN P) : rNx P R i ≤ pN P := by
  unfold rNx
  split
  · rename_i hc
    have := hs i hi (by omega)
    exact Nat.le_of_lt (nI_clampLt this.2 (by have := hp.1; omega) this.1)
  · omega
theorem rPf_ind {P : xPg} {M : xMem} {R : xRn} {i : Nat} {C : xMem × xRn → Prop} (h0 : ∀ r v, C (M, rSetR R r v)) (h1 : C ((mAl M (rA P R i)).1, rSetR R (pR P i) (mAl M (rA P R i)).2)) (h2 : mBl M (rA P R i) = true → C (mFr M ((rA P R i).toNatClampNeg / 8 - 1), R)) (h3 : C (M, rSetS R 4)) (h4 : C (M, R)) (h5 : ∀ hp, C ((hp, mSh M, mOw M, mSz M, mQn M, mQf M), R)) (h6 : ∀ v, C (M, rPrint R v)) (h7 : C (M, rSetS R 2)) : C (rPf P M R i) := by
  unfold rPf rTch
  by_cases c0 : pO P i = 0
  · rw [if_pos c0]; exact h0 _ _
  rw [if_neg c0]
  by_cases c1 : pO P i = 1
  · rw [if_pos c1]; exact h0 _ _
  rw [if_neg c1]
  by_cases c2 : pO P i = 2
  · rw [if_pos c2]; exact h0 _ _
  rw [if_neg c2]
  by_cases c3 : pO P i = 3
  · rw [if_pos c3]; exact h0 _ _
  rw [if_neg c3]
  by_cases c4 : pO P i = 4
  · rw [if_pos c4]; exact h1
  rw [if_neg c4]
  by_cases c5 : pO P i = 5
  · rw [if_pos c5]
    by_cases d1 : mBl M (rA P R i) = true
    · rw [if_pos d1]; exact h2 d1
    rw [if_neg d1]
    by_cases d2 : rA P R i ≠ 0
    · rw [if_pos d2]; exact h3
    rw [if_neg d2]; exact h4
  rw [if_neg c5]
  by_cases c6 : pO P i ≤ 9
  · rw [if_pos c6]
    by_cases d1 : xInb (rX P R i) (rMany P i) = true
    · rw [if_pos d1]
      by_cases d2 : pO P i = 6
      · rw [if_pos d2]; exact h0 _ _
      rw [if_neg d2]
      by_cases d3 : pO P i = 7
      · rw [if_pos d3]; exact h0 _ _
      rw [if_neg d3]; exact h5 _
    rw [if_neg d1]; exact h3
  rw [if_neg c6]
  by_cases c7 : pO P i ≤ 11
  · rw [if_pos c7]; exact h4
  rw [if_neg c7]
  by_cases c8 : pO P i = 12
  · rw [if_pos c8]; exact h6 _
  rw [if_neg c8]
  by_cases c9 : pO P i = 13
  · rw [if_pos c9]; exact h0 _ _
  rw [if_neg c9]; exact h7
theorem rPrint_k {R : xRn} {v : Int32} {C : xRn → Prop} (h0 : C R) (h1 : rPn R < 60 → C (rSt R, rCk R, rAt R, rLd R, rRg R, rPn R + 1, xu (rPr R) (rPn R) v, rKd R, rWh R, rWo R)) : C (rPrint R v) := by
  unfold rPrint
  by_cases c : rPn R < 60
  · rw [if_pos c]; exact h1 c
  · rw [if_neg c]; exact h0
theorem rPf_st {P : xPg} {M : xMem} {R : xRn} {i : Nat} : rSt (rPf P M R i).2 = rSt R ∨ rSt (rPf P M R i).2 = 2 ∨ rSt (rPf P M R i).2 = 4 :=
  rPf_ind (C := fun V => rSt V.2 = rSt R ∨ rSt V.2 = 2 ∨ rSt V.2 = 4) (fun _ _ => Or.inl rfl) (Or.inl rfl) (fun _ => Or.inl rfl) (Or.inr (Or.inr rfl)) (Or.inl rfl) (fun _ => Or.inl rfl) (fun _ => Or.inl (rPrint_k (C := fun X => rSt X = rSt R) rfl (fun _ => rfl))) (Or.inr (Or.inl rfl))
theorem rPf_keep {P : xPg} {M : xMem} {R : xRn} {i : Nat} (h : rPn R ≤ 60) : rCk (rPf P M R i).2 = rCk R ∧ rPn (rPf P M R i).2 ≤ 60 ∧ rLd (rPf P M R i).2 = rLd R ∧ rWo (rPf P M R i).2 = rWo R ∧ rAt (rPf P M R i).2 = rAt R :=
  rPf_ind (C := fun V => rCk V.2 = rCk R ∧ rPn V.2 ≤ 60 ∧ rLd V.2 = rLd R ∧ rWo V.2 = rWo R ∧ rAt V.2 = rAt R) (fun _ _ => ⟨rfl, h, rfl, rfl, rfl⟩) ⟨rfl, h, rfl, rfl, rfl⟩ (fun _ => ⟨rfl, h, rfl, rfl, rfl⟩) ⟨rfl, h, rfl, rfl, rfl⟩ ⟨rfl, h, rfl, rfl, rfl⟩ (fun _ => ⟨rfl, h, rfl, rfl, rfl⟩)
    (fun v => rPrint_k (C := fun X => rCk X = rCk R ∧ rPn X ≤ 60 ∧ rLd X = rLd R ∧ rWo X = rWo R ∧ rAt X = rAt R) ⟨rfl, h, rfl, rfl, rfl⟩ (fun hc => ⟨rfl, hc, rfl, rfl, rfl⟩)) ⟨rfl, h, rfl, rfl, rfl⟩
theorem mOk_hp {B : Nat} {M : xMem} (h : mOk B M) (hp : Nat → Int32) : mOk B (hp, mSh M, mOw M, mSz M, mQn M, mQf M) := h
theorem rPf_mok {P : xPg} {M : xMem} {R : xRn} {i : Nat} (h : mOk 20 M) : mOk 20 (rPf P M R i).1 :=
  rPf_ind (C := fun V => mOk 20 V.1) (fun _ _ => h) (mAl_ok _ h) (fun hb => by simp only [mBl, Bool.and_eq_true, decide_eq_true_eq] at hb; exact mFr_ok h hb.2.2.2.1 hb.2.2.2.2) h h (fun hp => mOk_hp h hp) (fun _ => h) h
theorem rChk_keep {P : xPg} {M : xMem} {R : xRn} {i : Nat} : rChk P M R i = R ∨ ∃ (k : Nat) (a : Int32), rChk P M R i = rTell R k a i := by
  unfold rChk rTo
  repeat' split
  all_goals first | exact Or.inl rfl | exact Or.inr ⟨_, _, rfl⟩
theorem rOne_ok {P : xPg} {M : xMem} {R : xRn} (hp : pOk P) (hm : mOk 20 M) (hr : rOk P R) (h1 : rSt R = 1) : mOk 20 (rOne P M R).1 ∧ rOk P (rOne P M R).2 := by
  obtain ⟨g1, g2, g3, g4, g5⟩ := id hr
  have hat := g4 h1
  have hsd := g3 (by omega)
  have hI := rI_lt hat
  unfold rOne
  split
  · rename_i hH
    refine ⟨hm, ?_⟩
    simp only [rH, Bool.and_eq_true] at hH
    have hck := hH.1
    have hL : rLim P R = pl P (pN P) := by unfold rLim; rw [if_pos hck]
    rw [hL] at hat
    have hII : rI P R = pI P (rAt R) := by unfold rI; rw [if_pos hck]
    rcases rChk_keep (P := P) (M := M) (R := rSetL R (rAt R)) (i := rI P R) with e | ⟨k, a, e⟩
    · rw [e]
      refine ⟨g1, g2, g3, fun _ => ?_, fun h3 => absurd (h1.symm.trans h3) (by omega)⟩
      show rAt R + 1 < rLim P R
      rw [hL]
      have hh := hH.2
      simp only [pH, Bool.and_eq_true, decide_eq_true_eq] at hh
      obtain ⟨s1, s2, s3⟩ := pI_sp hat
      have hps := pl_s P (pI P (rAt R))
      rw [if_pos (by simpa using hh.1)] at hps
      have := pl_mono (P := P) (show pI P (rAt R) + 1 ≤ pN P by omega)
      omega
    · rw [e]
      refine ⟨?_, g2, fun _ => hsd, fun h => absurd h ?_, fun _ => ⟨hck, hat, hII⟩⟩
      · show 3 ≤ 4; omega
      · show ¬ (3 = 1); omega
  · have hk := rPf_keep (P := P) (M := M) (R := rSetL R (rAt R)) (i := rI P R) g2
    have hst := rPf_st (P := P) (M := M) (R := rSetL R (rAt R)) (i := rI P R)
    refine ⟨rPf_mok hm, ?_⟩
    have hnx := rNx_le (R := R) hp hsd.1 hI
    generalize rPf P M (rSetL R (rAt R)) (rI P R) = V at hk hst
    obtain ⟨k1, k2, k3, k4, k5⟩ := hk
    have hst' : rSt V.2 = 1 ∨ rSt V.2 = 2 ∨ rSt V.2 = 4 := by
      rcases hst with e | e | e
      · left; rw [e]; exact h1
      · right; left; exact e
      · right; right; exact e
    generalize rNx P R (rI P R) = nx at hnx
    unfold rEnd
    split
    · refine ⟨?_, k2, fun _ => hsd, fun h => absurd h ?_, fun h => absurd h ?_⟩
      · show 2 ≤ 4; omega
      · show ¬ 2 = 1; omega
      · show ¬ 2 = 3; omega
    · rename_i hc
      refine ⟨?_, k2, fun _ => hsd, fun h => ?_, fun h => ?_⟩
      · show rSt V.2 ≤ 4; omega
      · have h' : rSt V.2 = 1 := h
        have hne : nx ≠ pN P := fun e => hc ⟨h', e⟩
        show (if rCk V.2 then pl P nx else nx) < if rCk V.2 then pl P (pN P) else pN P
        split
        · exact pl_lt (by omega)
        · omega
      · have h' : rSt V.2 = 3 := h
        omega
end
section
abbrev xT (cI cZ cJ : ClassId) : List (ClassId × FieldType) := [(cI, .int), (cZ, .boolean), (cJ, .long)]
abbrev xP (D : va_G) (tys : List (ClassId × FieldType)) (ws : va_W) (sz : Nat) (av : List Value) : Array Value → State → Prop :=
  va_Pc av (fun U => U.heap.size = sz ∧ va_P D vwCl ws U.heap ∧ va_K D vwCl tys U ∧ va_D (fun _ => True) ws)
abbrev xB {S : Type} (D : va_G) (tys : List (ClassId × FieldType)) (A : Nat → Prop) (W1 : S → va_W) : S → State → Prop := fun u t =>
  va_P D vwCl (W1 u) t.heap ∧ va_K D vwCl tys t ∧ va_D A (W1 u)
abbrev xCi (l : Launch) (D : va_G) (tys : List (ClassId × FieldType)) (y : MethodName) (k : Cond) (rm : Room) (sz : Nat) (ws0 : va_W) (av : List Value) (r : Int32) (ws1 : va_W) (mc ms : Nat) : Prop :=
  Met l y (k :: bw) rm (xP D tys ws0 sz av) (va_Qi (fun (v : Int32) (_ : Unit) => v = r) (xB D tys (va_A ws0 sz) (fun _ => ws1)) (va_A ws0 sz)) mc ms (va_A ws0 sz)
abbrev xCv (l : Launch) (D : va_G) (tys : List (ClassId × FieldType)) (y : MethodName) (k : Cond) (rm : Room) (sz : Nat) (ws0 : va_W) (av : List Value) (ws1 : va_W) (mc ms : Nat) : Prop :=
  Met l y (k :: bw) rm (xP D tys ws0 sz av) (va_Qv (fun (_ : Unit) => True) (xB D tys (va_A ws0 sz) (fun _ => ws1)) (va_A ws0 sz)) mc ms (va_A ws0 sz)
theorem x_dec {n : Nat} (h : 0 < n) : nI n + Int32.ofInt (-1) = nI (n - 1) := by
  rw [show Int32.ofInt (-1) = -1 by decide]; exact sb_m1 h
theorem x_zn (b : Bool) : narrow .boolean (.int (zI b)) = .int (zI b) := by cases b <;> decide
theorem x_zf (b : Bool) : fits .boolean (.int (zI b)) = true := by cases b <;> decide
theorem x_z1 {b : Bool} (h : b = true) : nI 1 = zI b := by rw [h]; rfl
theorem x_z0 {b : Bool} (h : b = false) : nI 0 = zI b := by rw [h]; rfl
theorem x_tlo {x : Nat} (h : x < 2 ^ 31) : ¬ (nI x).toInt < 0 := by rw [xI_toInt h]; omega
theorem x_thi {x n : Nat} (h : x < 2 ^ 31) (h2 : x ≤ n) : ¬ ((n : Nat) : Int) < (nI x).toInt := by rw [xI_toInt h]; omega
theorem x_tout {x n : Nat} (h : x < 2 ^ 31) (h2 : n < x) : ((n : Nat) : Int) < (nI x).toInt := by rw [xI_toInt h]; omega
def xM (p : Program) (s : State) (m : MethodId) (args : Array Value) (meth : Method) (c : Code) (cc : ByteArray) (nL : Nat) (ret : Option FieldType) (own nm : String) (Ts : List Cond) : Prop :=
  p.tables.exec = Jvm.exec ∧ c.code = cc ∧ meth.sig.returnType = ret ∧ c.maxLocals = nL ∧ s.vm.findClass own = some m.cls ∧ (∀ w ∈ Ts, w.before args s = true) ∧ meth.locks = false ∧ meth.name = nm
section XO
variable {l : Launch} {cc : ByteArray} {D : va_G} {tys : List (ClassId × FieldType)} {y : MethodName} {k : Cond} {rm : Room} {nL mc ms sz : Nat} {ret : Option FieldType} {ws0 ws1 : va_W} {av : List Value}
theorem x_ofi {r : Int32} (hy : plainName y.cls = true) (hk : k = .code y cc nL ret) (hlen : (lg_sl av).length ≤ nL)
    (body : ∀ (p : Program) (e : Env) (s : State) (m : MethodId) (args : Array Value) (below : List Frame) (meth : Method) (c : Code) (ls : Array Slot) (A : Nat → Prop) (Q : State → Prop), Q = MQ below (va_Qi (fun (v : Int32) (_ : Unit) => v = r) (xB D tys A (fun _ => ws1)) A) args s mc ms A → xM p s m args meth c cc nL ret y.cls y.name (k :: bw) → s.heap.size = sz → va_P D vwCl ws0 s.heap → va_K D vwCl tys s → va_D A ws0 → (∀ q, s.heap.size ≤ q → A q) → lv_has ls nL (lv_args 0 av) →
      W p l e rm s m args below meth c s.heap [] 0 0 Q (F0 m 0 ls [])) :
    xCi l D tys y k rm sz ws0 av r ws1 mc ms := by
  refine Met.ofW (cc := cc) (maxL := nL) (ret := ret) (ws' := bw) hy (by rw [hk]) ?_
  intro p e s m args below meth c s₁ B hml hv
  obtain ⟨rfl, hsz, hP, hK, hD0⟩ := hv
  subst hsz
  have hl := lv_entry av hlen
  rw [lg_entry_eq]
  exact body p e s m _ below meth c _ (va_A ws0 s.heap.size) _ rfl ⟨B.exec, B.bytes, B.returns, hml, findClass_of_methodNamed B.named, atoms_spec (ws := k :: bw) B.pre, B.notSynchronized, (name_of_methodNamed B.named B.method).1⟩ rfl hP hK hD0.self (fun q h => Or.inr h) hl
theorem x_ofv (hy : plainName y.cls = true) (hk : k = .code y cc nL ret) (hlen : (lg_sl av).length ≤ nL)
    (body : ∀ (p : Program) (e : Env) (s : State) (m : MethodId) (args : Array Value) (below : List Frame) (meth : Method) (c : Code) (ls : Array Slot) (A : Nat → Prop) (Q : State → Prop), Q = MQ below (va_Qv (fun (_ : Unit) => True) (xB D tys A (fun _ => ws1)) A) args s mc ms A → xM p s m args meth c cc nL ret y.cls y.name (k :: bw) → s.heap.size = sz → va_P D vwCl ws0 s.heap → va_K D vwCl tys s → va_D A ws0 → (∀ q, s.heap.size ≤ q → A q) → lv_has ls nL (lv_args 0 av) →
      W p l e rm s m args below meth c s.heap [] 0 0 Q (F0 m 0 ls [])) :
    xCv l D tys y k rm sz ws0 av ws1 mc ms := by
  refine Met.ofW (cc := cc) (maxL := nL) (ret := ret) (ws' := bw) hy (by rw [hk]) ?_
  intro p e s m args below meth c s₁ B hml hv
  obtain ⟨rfl, hsz, hP, hK, hD0⟩ := hv
  subst hsz
  have hl := lv_entry av hlen
  rw [lg_entry_eq]
  exact body p e s m _ below meth c _ (va_A ws0 s.heap.size) _ rfl ⟨B.exec, B.bytes, B.returns, hml, findClass_of_methodNamed B.named, atoms_spec (ws := k :: bw) B.pre, B.notSynchronized, (name_of_methodNamed B.named B.method).1⟩ rfl hP hK hD0.self (fun q h => Or.inr h) hl
end XO
section XR
variable {p : Program} {l : Launch} {e : Env} {R : Room} {s : State} {m : MethodId} {args : Array Value} {below : List Frame} {meth : Method} {c : Code} {H : Heap} {locs : List Loc} {cells slots : Nat} {Q : State → Prop}
variable {cc : ByteArray} {pc nL : Nat} {ls : Array Slot} {rest : List Value} {D : va_G} {A : Nat → Prop} {a : Nat} {tys : List (ClassId × FieldType)} {ws : va_W} {H0 : Heap} {ret : Option FieldType} {own nm : String} {k0 : Cond}
theorem x_iret {r v : Int32} {ws1 : va_W} (M : xM p s m args meth c cc nL (some .int) own nm (k0 :: bw)) (hQ : Q = MQ below (va_Qi (fun (v : Int32) (_ : Unit) => v = r) (xB D tys A (fun _ => ws1)) A) args s cells slots A) (hv : v = r) (hw : ws = ws1) (hP : va_P D vwCl ws H) (hK : va_K D vwCl tys s) (hD : va_D A ws) (hS : va_S A s.heap H locs) (hd : decode cc pc = .ok (.ireturn, 1)) :
    W p l e R s m args below meth c H locs cells slots Q (F0 m pc ls [.int v]) := by
  subst hw; subst hQ
  exact W.iret M.1 M.2.1 M.2.2.1 (fun t ht hW => ⟨⟨v, (), rfl, hv, by rw [ht]; exact hP, va_K.moved hW.alike hK, hD⟩, hS.F ht⟩) hS.2.2 hd M.2.2.2.2.2.2.1
theorem x_zret {r v : Int32} {ws1 : va_W} (M : xM p s m args meth c cc nL (some .boolean) own nm (k0 :: bw)) (hQ : Q = MQ below (va_Qi (fun (v : Int32) (_ : Unit) => v = r) (xB D tys A (fun _ => ws1)) A) args s cells slots A) (hn : narrow .boolean (.int v) = .int v) (hv : v = r) (hw : ws = ws1) (hP : va_P D vwCl ws H) (hK : va_K D vwCl tys s) (hD : va_D A ws) (hS : va_S A s.heap H locs) (hd : decode cc pc = .ok (.ireturn, 1)) :
    W p l e R s m args below meth c H locs cells slots Q (F0 m pc ls [.int v]) := by
  subst hw; subst hQ
  exact W.zret M.1 M.2.1 M.2.2.1 hn (fun t ht hW => ⟨⟨v, (), rfl, hv, by rw [ht]; exact hP, va_K.moved hW.alike hK, hD⟩, hS.F ht⟩) hS.2.2 hd M.2.2.2.2.2.2.1
theorem x_vret {ws1 : va_W} (M : xM p s m args meth c cc nL none own nm (k0 :: bw)) (hQ : Q = MQ below (va_Qv (fun (_ : Unit) => True) (xB D tys A (fun _ => ws1)) A) args s cells slots A) (hw : ws = ws1) (hP : va_P D vwCl ws H) (hK : va_K D vwCl tys s) (hD : va_D A ws) (hS : va_S A s.heap H locs) (hd : decode cc pc = .ok (.return_, 1)) :
    W p l e R s m args below meth c H locs cells slots Q (F0 m pc ls []) := by
  subst hw; subst hQ
  exact W.vret M.1 M.2.1 M.2.2.1 (fun t ht hW => ⟨⟨(), rfl, trivial, by rw [ht]; exact hP, va_K.moved hW.alike hK, hD⟩, hS.F ht⟩) hS.2.2 hd M.2.2.2.2.2.2.1
theorem x_iadd {x y : Nat} (M : xM p s m args meth c cc nL ret own nm (k0 :: bw)) (hd : decode cc pc = .ok (.iadd, 1)) (k : W p l e R s m args below meth c H locs cells slots Q (F0 m (pc + 1) ls (.int (nI (x + y)) :: rest))) :
    W p l e R s m args below meth c H locs cells slots Q (F0 m pc ls (.int (nI y) :: .int (nI x) :: rest)) := lv_iadd M.1 M.2.1 hd (by rw [nI_add]; exact k)
theorem x_isub {x y : Nat} (M : xM p s m args meth c cc nL ret own nm (k0 :: bw)) (h : y ≤ x) (hd : decode cc pc = .ok (.isub, 1)) (k : W p l e R s m args below meth c H locs cells slots Q (F0 m (pc + 1) ls (.int (nI (x - y)) :: rest))) :
    W p l e R s m args below meth c H locs cells slots Q (F0 m pc ls (.int (nI y) :: .int (nI x) :: rest)) := lv_isub M.1 M.2.1 hd (by rw [pk_sub h]; exact k)
theorem x_imul {x y : Nat} (M : xM p s m args meth c cc nL ret own nm (k0 :: bw)) (hd : decode cc pc = .ok (.imul, 1)) (k : W p l e R s m args below meth c H locs cells slots Q (F0 m (pc + 1) ls (.int (nI (x * y)) :: rest))) :
    W p l e R s m args below meth c H locs cells slots Q (F0 m pc ls (.int (nI y) :: .int (nI x) :: rest)) := lv_imul M.1 M.2.1 hd (by rw [pk_mul]; exact k)
theorem x_idiv {x y : Nat} (M : xM p s m args meth c cc nL ret own nm (k0 :: bw)) (hx : x < 2 ^ 31) (h0 : 0 < y) (hy : y < 2 ^ 31) (hd : decode cc pc = .ok (.idiv, 1)) (k : W p l e R s m args below meth c H locs cells slots Q (F0 m (pc + 1) ls (.int (nI (x / y)) :: rest))) :
    W p l e R s m args below meth c H locs cells slots Q (F0 m pc ls (.int (nI y) :: .int (nI x) :: rest)) := lv_idiv M.1 M.2.1 hd (nI_ne0 h0 hy) (by rw [pk_div hx h0 hy]; exact k)
theorem x_irem {x y : Nat} (M : xM p s m args meth c cc nL ret own nm (k0 :: bw)) (hx : x < 2 ^ 31) (h0 : 0 < y) (hy : y < 2 ^ 31) (hd : decode cc pc = .ok (.irem, 1)) (k : W p l e R s m args below meth c H locs cells slots Q (F0 m (pc + 1) ls (.int (nI (x % y)) :: rest))) :
    W p l e R s m args below meth c H locs cells slots Q (F0 m pc ls (.int (nI y) :: .int (nI x) :: rest)) := lv_irem M.1 M.2.1 hd (nI_ne0 h0 hy) (by rw [pk_rem hx h0 hy]; exact k)
theorem x_icmp_ge {x y : Nat} {off : Int} {tgt : Nat} (M : xM p s m args meth c cc nL ret own nm (k0 :: bw)) (hx : x < 2 ^ 31) (hy : y < 2 ^ 31) (hd : decode cc pc = .ok (.if_icmp .ge off, 3)) (ht : (pc : Int) + off = (tgt : Int)) (kt : y ≤ x → W p l e R s m args below meth c H locs cells slots Q (F0 m tgt ls rest)) (kf : x < y → W p l e R s m args below meth c H locs cells slots Q (F0 m (pc + 3) ls rest)) :
    W p l e R s m args below meth c H locs cells slots Q (F0 m pc ls (.int (nI y) :: .int (nI x) :: rest)) := lv_icmp_ge M.1 M.2.1 hd ht (fun h => kt ((nI_leI hy hx).mp h)) (fun h => kf (Nat.lt_of_not_le fun h' => h ((nI_leI hy hx).mpr h')))
theorem x_icmp_lt {x y : Nat} {off : Int} {tgt : Nat} (M : xM p s m args meth c cc nL ret own nm (k0 :: bw)) (hx : x < 2 ^ 31) (hy : y < 2 ^ 31) (hd : decode cc pc = .ok (.if_icmp .lt off, 3)) (ht : (pc : Int) + off = (tgt : Int)) (kt : x < y → W p l e R s m args below meth c H locs cells slots Q (F0 m tgt ls rest)) (kf : y ≤ x → W p l e R s m args below meth c H locs cells slots Q (F0 m (pc + 3) ls rest)) :
    W p l e R s m args below meth c H locs cells slots Q (F0 m pc ls (.int (nI y) :: .int (nI x) :: rest)) := lv_icmp_lt M.1 M.2.1 hd ht (fun h => kt ((nI_ltI hx hy).mp h)) (fun h => kf (Nat.le_of_not_lt fun h' => h ((nI_ltI hx hy).mpr h')))
theorem x_icmp_gt {x y : Nat} {off : Int} {tgt : Nat} (M : xM p s m args meth c cc nL ret own nm (k0 :: bw)) (hx : x < 2 ^ 31) (hy : y < 2 ^ 31) (hd : decode cc pc = .ok (.if_icmp .gt off, 3)) (ht : (pc : Int) + off = (tgt : Int)) (kt : y < x → W p l e R s m args below meth c H locs cells slots Q (F0 m tgt ls rest)) (kf : x ≤ y → W p l e R s m args below meth c H locs cells slots Q (F0 m (pc + 3) ls rest)) :
    W p l e R s m args below meth c H locs cells slots Q (F0 m pc ls (.int (nI y) :: .int (nI x) :: rest)) := lv_icmp_gt M.1 M.2.1 hd ht (fun h => kt ((nI_ltI hy hx).mp h)) (fun h => kf (Nat.le_of_not_lt fun h' => h ((nI_ltI hy hx).mpr h')))
theorem x_icmp_le {x y : Nat} {off : Int} {tgt : Nat} (M : xM p s m args meth c cc nL ret own nm (k0 :: bw)) (hx : x < 2 ^ 31) (hy : y < 2 ^ 31) (hd : decode cc pc = .ok (.if_icmp .le off, 3)) (ht : (pc : Int) + off = (tgt : Int)) (kt : x ≤ y → W p l e R s m args below meth c H locs cells slots Q (F0 m tgt ls rest)) (kf : y < x → W p l e R s m args below meth c H locs cells slots Q (F0 m (pc + 3) ls rest)) :
    W p l e R s m args below meth c H locs cells slots Q (F0 m pc ls (.int (nI y) :: .int (nI x) :: rest)) := lv_icmp_le M.1 M.2.1 hd ht (fun h => kt ((nI_leI hx hy).mp h)) (fun h => kf (Nat.lt_of_not_le fun h' => h ((nI_leI hx hy).mpr h')))
theorem x_icmp_eq {x y : Nat} {off : Int} {tgt : Nat} (M : xM p s m args meth c cc nL ret own nm (k0 :: bw)) (hx : x < 2 ^ 31) (hy : y < 2 ^ 31) (hd : decode cc pc = .ok (.if_icmp .eq off, 3)) (ht : (pc : Int) + off = (tgt : Int)) (kt : x = y → W p l e R s m args below meth c H locs cells slots Q (F0 m tgt ls rest)) (kf : x ≠ y → W p l e R s m args below meth c H locs cells slots Q (F0 m (pc + 3) ls rest)) :
    W p l e R s m args below meth c H locs cells slots Q (F0 m pc ls (.int (nI y) :: .int (nI x) :: rest)) := lv_icmp_eq M.1 M.2.1 hd ht (fun h => kt ((nI_eq hx hy).mp h)) (fun h => kf fun h' => h ((nI_eq hx hy).mpr h'))
theorem x_icmp_ne {x y : Nat} {off : Int} {tgt : Nat} (M : xM p s m args meth c cc nL ret own nm (k0 :: bw)) (hx : x < 2 ^ 31) (hy : y < 2 ^ 31) (hd : decode cc pc = .ok (.if_icmp .ne off, 3)) (ht : (pc : Int) + off = (tgt : Int)) (kt : x ≠ y → W p l e R s m args below meth c H locs cells slots Q (F0 m tgt ls rest)) (kf : x = y → W p l e R s m args below meth c H locs cells slots Q (F0 m (pc + 3) ls rest)) :
    W p l e R s m args below meth c H locs cells slots Q (F0 m pc ls (.int (nI y) :: .int (nI x) :: rest)) := lv_icmp_ne M.1 M.2.1 hd ht (fun h => kt fun h' => h ((nI_eq hx hy).mpr h')) (fun h => kf ((nI_eq hx hy).mp h))
theorem x_if_eq {x : Nat} {off : Int} {tgt : Nat} (M : xM p s m args meth c cc nL ret own nm (k0 :: bw)) (hx : x < 2 ^ 31) (hd : decode cc pc = .ok (.ifCond .eq off, 3)) (ht : (pc : Int) + off = (tgt : Int)) (kt : x = 0 → W p l e R s m args below meth c H locs cells slots Q (F0 m tgt ls rest)) (kf : x ≠ 0 → W p l e R s m args below meth c H locs cells slots Q (F0 m (pc + 3) ls rest)) :
    W p l e R s m args below meth c H locs cells slots Q (F0 m pc ls (.int (nI x) :: rest)) := lv_if_eq M.1 M.2.1 hd ht (fun h => kt ((nI_eq hx (by decide)).mp h)) (fun h => kf fun h' => h (by rw [h']; rfl))
theorem x_if_ne {x : Nat} {off : Int} {tgt : Nat} (M : xM p s m args meth c cc nL ret own nm (k0 :: bw)) (hx : x < 2 ^ 31) (hd : decode cc pc = .ok (.ifCond .ne off, 3)) (ht : (pc : Int) + off = (tgt : Int)) (kt : x ≠ 0 → W p l e R s m args below meth c H locs cells slots Q (F0 m tgt ls rest)) (kf : x = 0 → W p l e R s m args below meth c H locs cells slots Q (F0 m (pc + 3) ls rest)) :
    W p l e R s m args below meth c H locs cells slots Q (F0 m pc ls (.int (nI x) :: rest)) := lv_if_ne M.1 M.2.1 hd ht (fun h => kt fun h' => h (by rw [h']; rfl)) (fun h => kf ((nI_eq hx (by decide)).mp h))
theorem x_if_le {x : Nat} {off : Int} {tgt : Nat} (M : xM p s m args meth c cc nL ret own nm (k0 :: bw)) (hx : x < 2 ^ 31) (hd : decode cc pc = .ok (.ifCond .le off, 3)) (ht : (pc : Int) + off = (tgt : Int)) (kt : x = 0 → W p l e R s m args below meth c H locs cells slots Q (F0 m tgt ls rest)) (kf : 0 < x → W p l e R s m args below meth c H locs cells slots Q (F0 m (pc + 3) ls rest)) :
    W p l e R s m args below meth c H locs cells slots Q (F0 m pc ls (.int (nI x) :: rest)) := lv_if_le M.1 M.2.1 hd ht (fun h => kt (Nat.eq_zero_of_not_pos fun h' => nI_nle h' hx h)) (fun h => kf (Nat.pos_of_ne_zero fun h' => h (by rw [h']; exact nI_pos' (n := 0) (by decide))))
theorem x_if_gt {x : Nat} {off : Int} {tgt : Nat} (M : xM p s m args meth c cc nL ret own nm (k0 :: bw)) (hx : x < 2 ^ 31) (hd : decode cc pc = .ok (.ifCond .gt off, 3)) (ht : (pc : Int) + off = (tgt : Int)) (kt : 0 < x → W p l e R s m args below meth c H locs cells slots Q (F0 m tgt ls rest)) (kf : x = 0 → W p l e R s m args below meth c H locs cells slots Q (F0 m (pc + 3) ls rest)) :
    W p l e R s m args below meth c H locs cells slots Q (F0 m pc ls (.int (nI x) :: rest)) := lv_if_gt M.1 M.2.1 hd ht (fun h => kt (Nat.pos_of_ne_zero fun h' => by rw [h'] at h; exact absurd h (by decide))) (fun h => kf (Nat.eq_zero_of_not_pos fun h' => h ((nI_ltI (a := 0) (by decide) hx).mpr h')))
theorem x_if_lt {x : Nat} {off : Int} {tgt : Nat} (M : xM p s m args meth c cc nL ret own nm (k0 :: bw)) (hx : x < 2 ^ 31) (hd : decode cc pc = .ok (.ifCond .lt off, 3)) (ht : (pc : Int) + off = (tgt : Int)) (kf : W p l e R s m args below meth c H locs cells slots Q (F0 m (pc + 3) ls rest)) :
    W p l e R s m args below meth c H locs cells slots Q (F0 m pc ls (.int (nI x) :: rest)) := lv_if_lt M.1 M.2.1 hd ht (fun h => absurd h (nI_pos hx)) (fun _ => kf)
theorem x_if_ge {x : Nat} {off : Int} {tgt : Nat} (M : xM p s m args meth c cc nL ret own nm (k0 :: bw)) (hx : x < 2 ^ 31) (hd : decode cc pc = .ok (.ifCond .ge off, 3)) (ht : (pc : Int) + off = (tgt : Int)) (kt : W p l e R s m args below meth c H locs cells slots Q (F0 m tgt ls rest)) :
    W p l e R s m args below meth c H locs cells slots Q (F0 m pc ls (.int (nI x) :: rest)) := lv_if_ge M.1 M.2.1 hd ht (fun _ => kt) (fun h => absurd (nI_pos' hx) h)
theorem x_iald {cA : ClassId} {n j : Nat} {f : Nat → Int32} (M : xM p s m args meth c cc nL ret own nm (k0 :: bw)) (hK : va_K D vwCl tys s) (hP : va_P D vwCl ws H) (q0 t0 : Nat) (ha : ws[q0]? = some (a, .inl (cA, n, .inl f))) (ht : tys[t0]? = some (cA, .int)) (hj : j < n) (hn : n < 2 ^ 31) (hd : decode cc pc = .ok (.iaload, 1))
    (kk : W p l e R s m args below meth c H locs cells slots Q (F0 m (pc + 1) ls (.int (f j) :: rest))) : W p l e R s m args below meth c H locs cells slots Q (F0 m pc ls (.int (nI j) :: .ref a :: rest)) :=
  va_iald M.1 M.2.1 hK hP q0 t0 ha ht (vp_in_nI hj hn) hd (by rw [nI_clamp (Nat.lt_trans hj hn)]; exact kk)
theorem x_zald {cA : ClassId} {n j : Nat} {f : Nat → Int32} (M : xM p s m args meth c cc nL ret own nm (k0 :: bw)) (hK : va_K D vwCl tys s) (hP : va_P D vwCl ws H) (q0 t0 : Nat) (ha : ws[q0]? = some (a, .inl (cA, n, .inl f))) (ht : tys[t0]? = some (cA, .boolean)) (hj : j < n) (hn : n < 2 ^ 31) (hd : decode cc pc = .ok (.baload, 1))
    (kk : W p l e R s m args below meth c H locs cells slots Q (F0 m (pc + 1) ls (.int (f j) :: rest))) : W p l e R s m args below meth c H locs cells slots Q (F0 m pc ls (.int (nI j) :: .ref a :: rest)) :=
  va_zald M.1 M.2.1 hK hP q0 t0 ha ht (vp_in_nI hj hn) hd (by rw [nI_clamp (Nat.lt_trans hj hn)]; exact kk)
theorem x_iast {cA : ClassId} {n j : Nat} {f : Nat → Int32} {x : Int32} (M : xM p s m args meth c cc nL ret own nm (k0 :: bw)) (hK : va_K D vwCl tys s) (hP : va_P D vwCl ws H) (hD : va_D A ws) (hS : va_S A H0 H locs) (q0 t0 : Nat) (ha : ws[q0]? = some (a, .inl (cA, n, .inl f))) (ht : tys[t0]? = some (cA, .int)) (hj : j < n) (hn : n < 2 ^ 31) (hd : decode cc pc = .ok (.iastore, 1))
    (kk : ∀ (H1 : Heap) (locs1 : List Loc), va_P D vwCl (ws.set q0 (a, .inl (cA, n, .inl (upd f j x)))) H1 → va_D A (ws.set q0 (a, .inl (cA, n, .inl (upd f j x)))) → va_S A H0 H1 locs1 → W p l e R s m args below meth c H1 locs1 cells slots Q (F0 m (pc + 1) ls rest)) :
    W p l e R s m args below meth c H locs cells slots Q (F0 m pc ls (.int x :: .int (nI j) :: .ref a :: rest)) :=
  va_iast M.1 M.2.1 hK hP hD hS q0 t0 ha ht (vp_in_nI hj hn) hd (fun H1 l1 h1 h2 h3 => by rw [nI_clamp (Nat.lt_trans hj hn)] at h1 h2; exact kk H1 l1 h1 h2 h3)
theorem x_zast {cA : ClassId} {n j : Nat} {f : Nat → Int32} {x : Int32} (M : xM p s m args meth c cc nL ret own nm (k0 :: bw)) (hK : va_K D vwCl tys s) (hP : va_P D vwCl ws H) (hD : va_D A ws) (hS : va_S A H0 H locs) (q0 t0 : Nat) (ha : ws[q0]? = some (a, .inl (cA, n, .inl f))) (ht : tys[t0]? = some (cA, .boolean)) (hj : j < n) (hn : n < 2 ^ 31) (hx : vp_nar .boolean x = x) (hd : decode cc pc = .ok (.bastore, 1))
    (kk : ∀ (H1 : Heap) (locs1 : List Loc), va_P D vwCl (ws.set q0 (a, .inl (cA, n, .inl (upd f j x)))) H1 → va_D A (ws.set q0 (a, .inl (cA, n, .inl (upd f j x)))) → va_S A H0 H1 locs1 → W p l e R s m args below meth c H1 locs1 cells slots Q (F0 m (pc + 1) ls rest)) :
    W p l e R s m args below meth c H locs cells slots Q (F0 m pc ls (.int x :: .int (nI j) :: .ref a :: rest)) :=
  va_zast M.1 M.2.1 hK hP hD hS q0 t0 ha ht (vp_in_nI hj hn) hd (fun H1 l1 h1 h2 h3 => by rw [nI_clamp (Nat.lt_trans hj hn), hx] at h1 h2; exact kk H1 l1 h1 h2 h3)
theorem x_get {C : String} {T : u_T} {N idx : Nat} (M : xM p s m args meth c cc nL ret own nm (k0 :: bw)) (hK : va_K D vwCl tys s) (hP : va_P D vwCl ws H) (q0 ci k : Nat) (hin : ∀ w ∈ u_ws C T N, w ∈ bw) {fs : List Value} (he : ws[q0]? = some (a, .inr (ci, fs))) (hc : vwCl[ci]? = some (C, T, N)) (hk : k < N) (hq : Cond.fieldLink own idx (T k).1 (T k).2.1 (T k).2.2.1 ∈ bw) {v : Value} (hv : fs[k]? = some v) (hd : decode cc pc = .ok (.getfield idx, 3))
    (kk : W p l e R s m args below meth c H locs cells slots Q (F0 m (pc + 3) ls (v :: rest))) : W p l e R s m args below meth c H locs cells slots Q (F0 m pc ls (.ref a :: rest)) :=
  va_get M.1 M.2.1 M.2.2.2.2.2.1 (fun w h => List.mem_cons_of_mem _ (hin w h)) M.2.2.2.2.1 hK hP q0 he hc k hk (M.2.2.2.2.2.1 _ (List.mem_cons_of_mem _ hq)) (fun _ h => h) hv hd kk
theorem x_put {C : String} {T : u_T} {N idx : Nat} (M : xM p s m args meth c cc nL ret own nm (k0 :: bw)) (hK : va_K D vwCl tys s) (hP : va_P D vwCl ws H) (hD : va_D A ws) (hS : va_S A H0 H locs) (q0 ci k : Nat) (hin : ∀ w ∈ u_ws C T N, w ∈ bw) (ty0 : Nat → FieldType) (hty : ∀ k, k < N → parseFieldDescriptor (T k).2.2.1 = some (ty0 k)) (hnm : ∀ a, a < N → ∀ b, b < N → a ≠ b → (T a).2.1 ≠ (T b).2.1) {fs : List Value} (he : ws[q0]? = some (a, .inr (ci, fs))) (hc : vwCl[ci]? = some (C, T, N)) (hk : k < N) (hq : Cond.fieldLink own idx (T k).1 (T k).2.1 (T k).2.2.1 ∈ bw) (hfin : (T k).2.2.2 = false) {v : Value} (hn : narrow (ty0 k) v = v) (hfit : fits (ty0 k) v = true) (hl : k < fs.length) (hd : decode cc pc = .ok (.putfield idx, 3))
    (kk : ∀ (H1 : Heap) (locs1 : List Loc), va_P D vwCl (ws.set q0 (a, .inr (ci, fs.set k v))) H1 → va_D A (ws.set q0 (a, .inr (ci, fs.set k v))) → va_S A H0 H1 locs1 → W p l e R s m args below meth c H1 locs1 cells slots Q (F0 m (pc + 3) ls rest)) :
    W p l e R s m args below meth c H locs cells slots Q (F0 m pc ls (v :: .ref a :: rest)) :=
  va_put M.1 M.2.1 M.2.2.2.2.2.1 (fun w h => List.mem_cons_of_mem _ (hin w h)) ty0 hty hnm M.2.2.2.2.1 hK hP hD hS q0 he hc k hk (M.2.2.2.2.2.1 _ (List.mem_cons_of_mem _ hq)) (fun _ h => h) hfin (hty k hk) hn hfit hl hd kk
theorem x_putF {C : String} {T : u_T} {N idx : Nat} (M : xM p s m args meth c cc nL ret own "<init>" (k0 :: bw)) (hK : va_K D vwCl tys s) (hP : va_P D vwCl ws H) (hD : va_D A ws) (hS : va_S A H0 H locs) (q0 ci k : Nat) (hin : ∀ w ∈ u_ws C T N, w ∈ bw) (ty0 : Nat → FieldType) (hty : ∀ k, k < N → parseFieldDescriptor (T k).2.2.1 = some (ty0 k)) (hnm : ∀ a, a < N → ∀ b, b < N → a ≠ b → (T a).2.1 ≠ (T b).2.1) {fs : List Value} (he : ws[q0]? = some (a, .inr (ci, fs))) (hc : vwCl[ci]? = some (C, T, N)) (hk : k < N) (hq : Cond.fieldLink own idx (T k).1 (T k).2.1 (T k).2.2.1 ∈ bw) (hfin : (T k).2.2.2 = true) (hdecl : (T k).1 = own) {v : Value} (hn : narrow (ty0 k) v = v) (hfit : fits (ty0 k) v = true) (hl : k < fs.length) (hd : decode cc pc = .ok (.putfield idx, 3))
    (kk : ∀ (H1 : Heap) (locs1 : List Loc), va_P D vwCl (ws.set q0 (a, .inr (ci, fs.set k v))) H1 → va_D A (ws.set q0 (a, .inr (ci, fs.set k v))) → va_S A H0 H1 locs1 → W p l e R s m args below meth c H1 locs1 cells slots Q (F0 m (pc + 3) ls rest)) :
    W p l e R s m args below meth c H locs cells slots Q (F0 m pc ls (v :: .ref a :: rest)) :=
  va_putF M.1 M.2.1 M.2.2.2.2.2.1 (fun w h => List.mem_cons_of_mem _ (hin w h)) ty0 hty hnm M.2.2.2.2.1 hK hP hD hS q0 he hc k hk (M.2.2.2.2.2.1 _ (List.mem_cons_of_mem _ hq)) (fun _ h => h) hfin M.2.2.2.2.2.2.2 hdecl (hty k hk) hn hfit hl hd kk
theorem x_iastN {cA : ClassId} {n j : Nat} {f : Nat → Nat} {x : Nat} (M : xM p s m args meth c cc nL ret own nm (k0 :: bw)) (hK : va_K D vwCl tys s) (hP : va_P D vwCl ws H) (hD : va_D A ws) (hS : va_S A H0 H locs) (q0 t0 : Nat) (ha : ws[q0]? = some (a, .inl (cA, n, .inl (fun i => nI (f i))))) (ht : tys[t0]? = some (cA, .int)) (hj : j < n) (hn : n < 2 ^ 31) (hd : decode cc pc = .ok (.iastore, 1))
    (kk : ∀ (H1 : Heap) (locs1 : List Loc), va_P D vwCl (ws.set q0 (a, .inl (cA, n, .inl (fun i => nI (xu f j x i))))) H1 → va_D A (ws.set q0 (a, .inl (cA, n, .inl (fun i => nI (xu f j x i))))) → va_S A H0 H1 locs1 → W p l e R s m args below meth c H1 locs1 cells slots Q (F0 m (pc + 1) ls rest)) :
    W p l e R s m args below meth c H locs cells slots Q (F0 m pc ls (.int (nI x) :: .int (nI j) :: .ref a :: rest)) :=
  x_iast M hK hP hD hS q0 t0 ha ht hj hn hd (fun H1 l1 h1 h2 h3 => by rw [xu_nI] at h1 h2; exact kk H1 l1 h1 h2 h3)
theorem x_if_eqZ {b : Bool} {off : Int} {tgt : Nat} (M : xM p s m args meth c cc nL ret own nm (k0 :: bw)) (hd : decode cc pc = .ok (.ifCond .eq off, 3)) (ht : (pc : Int) + off = (tgt : Int)) (kt : b = false → W p l e R s m args below meth c H locs cells slots Q (F0 m tgt ls rest)) (kf : b = true → W p l e R s m args below meth c H locs cells slots Q (F0 m (pc + 3) ls rest)) :
    W p l e R s m args below meth c H locs cells slots Q (F0 m pc ls (.int (zI b) :: rest)) := lv_if_eq M.1 M.2.1 hd ht (fun h => kt (by cases b with
      | false => rfl
      | true => exact absurd h (by decide))) (fun h => kf (by cases b with
      | false => exact absurd rfl h
      | true => rfl))
theorem x_if_neZ {b : Bool} {off : Int} {tgt : Nat} (M : xM p s m args meth c cc nL ret own nm (k0 :: bw)) (hd : decode cc pc = .ok (.ifCond .ne off, 3)) (ht : (pc : Int) + off = (tgt : Int)) (kt : b = true → W p l e R s m args below meth c H locs cells slots Q (F0 m tgt ls rest)) (kf : b = false → W p l e R s m args below meth c H locs cells slots Q (F0 m (pc + 3) ls rest)) :
    W p l e R s m args below meth c H locs cells slots Q (F0 m pc ls (.int (zI b) :: rest)) := lv_if_ne M.1 M.2.1 hd ht (fun h => kt (by cases b with
      | false => exact absurd rfl h
      | true => rfl)) (fun h => kf (by cases b with
      | false => rfl
      | true => exact absurd h (show ¬ zI true = 0 by decide)))
theorem x_zastB {cA : ClassId} {n j : Nat} {f : Nat → Bool} {b : Bool} {x : Int32} (hx : x = zI b) (M : xM p s m args meth c cc nL ret own nm (k0 :: bw)) (hK : va_K D vwCl tys s) (hP : va_P D vwCl ws H) (hD : va_D A ws) (hS : va_S A H0 H locs) (q0 t0 : Nat) (ha : ws[q0]? = some (a, .inl (cA, n, .inl (fun i => zI (f i))))) (ht : tys[t0]? = some (cA, .boolean)) (hj : j < n) (hn : n < 2 ^ 31) (hd : decode cc pc = .ok (.bastore, 1))
    (kk : ∀ (H1 : Heap) (locs1 : List Loc), va_P D vwCl (ws.set q0 (a, .inl (cA, n, .inl (fun i => zI (xu f j b i))))) H1 → va_D A (ws.set q0 (a, .inl (cA, n, .inl (fun i => zI (xu f j b i))))) → va_S A H0 H1 locs1 → W p l e R s m args below meth c H1 locs1 cells slots Q (F0 m (pc + 1) ls rest)) :
    W p l e R s m args below meth c H locs cells slots Q (F0 m pc ls (.int x :: .int (nI j) :: .ref a :: rest)) := by
  subst hx
  have e : upd (fun i => zI (f i)) j (zI b) = fun i => zI (xu f j b i) := by
    funext k; unfold upd xu; split <;> rfl
  exact x_zast M hK hP hD hS q0 t0 ha ht hj hn (by cases b <;> decide) hd (fun H1 l1 h1 h2 h3 => by rw [e] at h1 h2; exact kk H1 l1 h1 h2 h3)
variable {wc wr : va_W} {mc ms : Nat} {st0 : List Value} {av : Array Value}
theorem x_calli {r : Int32} {ws1 : va_W} (hr : va_Run p l e R s m args below meth c H locs cells slots mc ms (F0 m pc ls st0) rest (va_Qi (fun (v : Int32) (_ : Unit) => v = r) (xB D tys (va_A wc H.size) (fun _ => ws1)) (va_A wc H.size) av) (va_A wc H.size)) (hP : va_P D vwCl ws H) (hD : va_D A ws) (hS : va_S A H0 H locs) (hA : ∀ q, H0.size ≤ q → A q) (isC isR : List Nat) (hC : isC.map (fun i => ws[i]?) = wc.map some) (hR : isR.map (fun i => ws[i]?) = wr.map some) (hn : va_nd isR = true) (hdis : ∀ i ∈ isR, i ∉ isC)
    (kk : ∀ (H1 : Heap) (locs1 : List Loc), va_P D vwCl (wr ++ ws1) H1 → va_D A (wr ++ ws1) → va_S A H0 H1 locs1 → W p l e R s m args below meth c H1 locs1 (cells + mc) (slots + ms) Q (F0 m (pc + 3) ls (.int r :: rest))) :
    W p l e R s m args below meth c H locs cells slots Q (F0 m pc ls st0) := by
  have hF := va_free (wc := wc) hD hS hA isC hC
  refine va_calli hr hS (fun q _ h => hF q h) hF (fun r' u t H1 locs1 ht hvm hp hB hz hk hS1 => ?_)
  subst hp
  obtain ⟨hP1, hK1, hD1⟩ := hB
  rw [ht] at hP1
  obtain ⟨hP2, hD2⟩ := va_join (wr := wr) (w1 := ws1) hP hD isC isR hC hR hn hdis hk hF hP1 hD1
  exact kk H1 locs1 hP2 hD2 hS1
theorem x_callv {ws1 : va_W} (hr : va_Run p l e R s m args below meth c H locs cells slots mc ms (F0 m pc ls st0) rest (va_Qv (fun (_ : Unit) => True) (xB D tys (va_A wc H.size) (fun _ => ws1)) (va_A wc H.size) av) (va_A wc H.size)) (hP : va_P D vwCl ws H) (hD : va_D A ws) (hS : va_S A H0 H locs) (hA : ∀ q, H0.size ≤ q → A q) (isC isR : List Nat) (hC : isC.map (fun i => ws[i]?) = wc.map some) (hR : isR.map (fun i => ws[i]?) = wr.map some) (hn : va_nd isR = true) (hdis : ∀ i ∈ isR, i ∉ isC)
    (kk : ∀ (H1 : Heap) (locs1 : List Loc), va_P D vwCl (wr ++ ws1) H1 → va_D A (wr ++ ws1) → va_S A H0 H1 locs1 → W p l e R s m args below meth c H1 locs1 (cells + mc) (slots + ms) Q (F0 m (pc + 3) ls rest)) :
    W p l e R s m args below meth c H locs cells slots Q (F0 m pc ls st0) := by
  have hF := va_free (wc := wc) hD hS hA isC hC
  refine va_callv hr hS (fun q _ h => hF q h) hF (fun u t H1 locs1 ht hvm hp hB hz hk hS1 => ?_)
  obtain ⟨hP1, hK1, hD1⟩ := hB
  rw [ht] at hP1
  obtain ⟨hP2, hD2⟩ := va_join (wr := wr) (w1 := ws1) hP hD isC isR hC hR hn hdis hk hF hP1 hD1
  exact kk H1 locs1 hP2 hD2 hS1
theorem x_pre {vs : List Value} (hP : va_P D vwCl ws H) (hD : va_D A ws) (hK : va_K D vwCl tys s) (isC : List Nat) (hC : isC.map (fun i => ws[i]?) = wc.map some) (hd : va_nd isC = true) : PreS s H (xP D tys wc H.size vs) vs :=
  ⟨fun a U g mk q => by obtain ⟨q0, q1, qP, qK, qD⟩ := q; exact ⟨q0, q1, qP, va_K.moved (u := U) (U := U.calling g mk a) (Vm.Alike.refl U.vm) qK, qD⟩,
   fun U hU hW => ⟨rfl, by rw [hU], by rw [hU]; exact hP.sub isC (by
      have h : ∀ (l : List Nat) (w : va_W), l.map (fun i => ws[i]?) = w.map some → l.filterMap (fun i => ws[i]?) = w := by
        intro l
        induction l with
        | nil => intro w hw; cases w with
          | nil => rfl
          | cons x t => cases hw
        | cons i t ih => intro w hw; cases w with
          | nil => cases hw
          | cons x t' =>
            simp only [List.map_cons, List.cons.injEq] at hw
            rw [List.filterMap_cons, hw.1]
            simp only
            rw [ih t' hw.2]
      exact h isC wc hC), va_K.moved hW.alike hK, (hD.sub isC hd hC).weaken (fun _ _ _ _ => trivial)⟩⟩
end XR
end
section
/-! rows for the walks -/
theorem xr_t {x : Int32} {n : Nat} (h1 : ¬ x < 0) (h2 : ¬ nI n ≤ x) : xr x n = true := by
  unfold xr
  rw [decide_eq_true_eq]
  exact ⟨Int32.not_lt.mp h1, Int32.not_le.mp h2⟩
theorem xr_f1 {x : Int32} {n : Nat} (h1 : x < 0) : xr x n = false := by
  unfold xr
  rw [decide_eq_false_iff_not]
  exact fun h => absurd h1 (Int32.not_lt.mpr h.1)
theorem xr_f2 {x : Int32} {n : Nat} (h1 : nI n ≤ x) : xr x n = false := by
  unfold xr
  rw [decide_eq_false_iff_not]
  exact fun h => absurd h.2 (Int32.not_lt.mpr h1)
theorem xr_nat {x : Int32} {n : Nat} (h : xr x n = true) (hn : n < 2 ^ 31) : ∃ j, j < n ∧ x = nI j := by
  unfold xr at h
  rw [decide_eq_true_eq] at h
  exact ⟨x.toNatClampNeg, nI_clampLt h.2 hn h.1, (nI_clampS h.1).symm⟩
theorem xr_n {j n : Nat} (h : j < n) (hn : n < 2 ^ 31) : xr (nI j) n = true := by
  unfold xr
  rw [decide_eq_true_eq, Int32.le_iff_toInt_le, Int32.lt_iff_toInt_lt, xI_toInt (by omega), xI_toInt hn]
  have e : (0 : Int32).toInt = 0 := by decide
  rw [e]; omega
theorem nI_cl {n : Nat} (h : n < 2 ^ 31) : (nI n).toNatClampNeg = n := by
  unfold Int32.toNatClampNeg; rw [xI_toInt h]; omega
theorem mOk_ow {B : Nat} {M : xMem} (h : mOk B M) {k : Nat} (hk : k < 64) : mOw M k ≤ 2 := by
  by_cases c : mOw M k = 0
  · omega
  · obtain ⟨s, h1, h2, h3⟩ := h.2.1 k hk c
    have := h.1 s h1
    have := this.2.2.2 k h2 h3
    omega
theorem mOk_sz {B : Nat} {M : xMem} (h : mOk B M) (k : Nat) : mSz M k ≤ 64 := by
  by_cases c : 0 < mSz M k
  · have := h.1 k c; omega
  · omega
theorem mOk_q {B : Nat} {M : xMem} (h : mOk B M) {i : Nat} (hi : i < mQn M) : mQf M i + mSz M (mQf M i) ≤ 64 ∧ 3 ≤ mSz M (mQf M i) := by
  have := h.1 _ (h.2.2.2.1 i hi).1
  omega
theorem xsh_0 (q : Nat → Nat) : q = fun i => if i < 0 then q (i + 1) else q i := by
  funext i; rw [if_neg (by omega)]
theorem xsh_s {q f : Nat → Nat} {j : Nat} (hf : f = fun i => if i < j then q (i + 1) else q i) : xu f j (f (j + 1)) = fun i => if i < j + 1 then q (i + 1) else q i := by
  funext k
  by_cases e : k = j
  · subst e
    rw [xu_s, if_pos (by omega), hf]
    exact if_neg (by omega)
  · rw [xu_n e, hf]
    show (if k < j then q (k + 1) else q k) = _
    by_cases c : k < j
    · rw [if_pos c, if_pos (by omega)]
    · rw [if_neg c, if_neg (by omega)]
/-- one below a Nat, from 0 on -1 -/
def xm (t : Nat) : Int32 := nI t - 1
theorem xm_s (j : Nat) : xm (j + 1) = nI j := by
  unfold xm
  have : nI (j + 1) = nI j + 1 := Int32.ofNat_add j 1
  rw [this, Int32.add_sub_cancel]
theorem xm_0 : xm 0 < 0 := by decide
theorem xm_n {j : Nat} (h : j < 2 ^ 31) : ¬ xm (j + 1) < 0 := by
  rw [xm_s, Int32.lt_iff_toInt_lt, xI_toInt h]
  have e : (0 : Int32).toInt = 0 := by decide
  rw [e]; omega
theorem xm_d (j : Nat) : nI j + Int32.ofInt (-1) = xm j := by
  unfold xm
  rw [Int32.sub_eq_add_neg]
  congr 1
theorem mBl_n {M : xMem} {n : Nat} (h : n < 512) : mBl M (nI n) = decide (0 < n ∧ n % 8 = 0 ∧ 0 < mSz M (n / 8 - 1) ∧ mOw M (n / 8 - 1) = 1) := by
  unfold mBl
  rw [xr_n h (by omega), nI_cl (by omega), Bool.true_and]
theorem mBl_o {M : xMem} {x : Int32} (h : xr x 512 = false) : mBl M x = false := by
  unfold mBl
  rw [h]; rfl
theorem mWr_n {M : xMem} {n : Nat} (h : n < 512) : mWr M (nI n) = mTc (mSh M (n / 8)) (n % 8) := by
  unfold mWr
  rw [if_pos (xr_n h (by omega)), nI_cl (by omega)]
theorem mWr_o {M : xMem} {x : Int32} (h : xr x 512 = false) : mWr M x = 5 := by
  unfold mWr
  rw [h]; rfl
theorem mTc_le (x : Int32) (j : Nat) : mTc x j ≤ 3 := by
  unfold mTc
  repeat' split
  all_goals omega
theorem mWr_le (M : xMem) (x : Int32) : mWr M x ≤ 5 := by
  unfold mWr
  split
  · have := mTc_le (mSh M (x.toNatClampNeg / 8)) (x.toNatClampNeg % 8); omega
  · omega
theorem zI_1 {b : Bool} (h : nI 1 = zI b) : b = true := by cases b with
  | true => rfl
  | false => exact absurd h (by decide)
theorem zI_1n {b : Bool} (h : ¬ nI 1 = zI b) : b = false := by cases b with
  | true => exact absurd rfl h
  | false => rfl
theorem zI_0 {b : Bool} (h : nI 0 = zI b) : b = false := by cases b with
  | true => exact absurd h (by decide)
  | false => rfl
theorem zI_0n {b : Bool} (h : ¬ nI 0 = zI b) : b = true := by cases b with
  | true => rfl
  | false => exact absurd rfl h
/-- the blocks, those in the queue or the others -/
abbrev mQb (M : xMem) (b : Bool) : Nat → Bool := fun k => decide (0 < mSz M k) && (decide (mOw M k = 2) == b)
theorem mQb_t (M : xMem) : mQb M true = mIs M 2 := by
  funext k
  simp only [mQb, mIs]
  by_cases h1 : 0 < mSz M k <;> by_cases h2 : mOw M k = 2 <;> simp [h1, h2]
theorem mQb_f {B : Nat} {M : xMem} (h : mOk B M) : mQb M false = mIs M 1 := by
  funext k
  simp only [mQb, mIs]
  by_cases h1 : 0 < mSz M k
  · have := (h.1 k h1).2.2.1
    by_cases h2 : mOw M k = 2
    · simp [h1, h2]
    · have : mOw M k = 1 := by omega
      simp [h1, this]
  · simp [h1]
theorem mBl_le {M : xMem} {x : Int32} (h : x ≤ 0) : mBl M x = false := by
  by_cases c : xr x 512 = true
  · obtain ⟨j, hj, rfl⟩ := xr_nat c (by decide)
    rw [mBl_n hj]
    rw [Int32.le_iff_toInt_le, xI_toInt (by omega)] at h
    have e : (0 : Int32).toInt = 0 := by decide
    rw [e] at h
    exact decide_eq_false (by omega)
  · exact mBl_o (by simpa using c)
theorem mTc_0 {x : Int32} {j : Nat} (h : x = 0) : mTc x j = 0 := if_pos (Or.inl h)
theorem mTc_p {x : Int32} {j : Nat} (h1 : ¬ x ≤ 0) (h2 : ¬ x ≤ nI j) : mTc x j = 0 := if_pos (Or.inr ⟨Int32.not_le.mp h1, Int32.not_le.mp h2⟩)
theorem mTc_2 {x : Int32} {j : Nat} (h : x = -2) : mTc x j = 2 := by
  subst h
  unfold mTc
  rw [if_neg (fun h => h.elim (by decide) (fun h => absurd h.1 (by decide))), if_pos rfl]
theorem mTc_3 {x : Int32} {j : Nat} (h : x = -3) : mTc x j = 3 := by
  subst h
  unfold mTc
  rw [if_neg (fun h => h.elim (by decide) (fun h => absurd h.1 (by decide))), if_neg (by decide), if_pos rfl]
theorem mTc_1 {x : Int32} {j : Nat} (h0 : ¬ x = 0) (h1 : x ≤ 0 ∨ x ≤ nI j) (h2 : ¬ x = -2) (h3 : ¬ x = -3) : mTc x j = 1 := by
  unfold mTc
  rw [if_neg, if_neg h2, if_neg h3]
  rintro (h | ⟨h, h'⟩)
  · exact h0 h
  · rcases h1 with g | g
    · exact absurd h (Int32.not_lt.mpr g)
    · exact absurd h' (Int32.not_lt.mpr g)
theorem x_nat2 {x : Int32} (h1 : ¬ x < nI 1) (h2 : x ≤ nI 100) : ∃ n, 1 ≤ n ∧ n ≤ 100 ∧ x = nI n := by
  have h0 : 0 ≤ x := by
    rw [Int32.lt_iff_toInt_lt, xI_toInt (by decide)] at h1
    rw [Int32.le_iff_toInt_le, show (0 : Int32).toInt = 0 by decide]; omega
  have e := nI_clampS h0
  refine ⟨x.toNatClampNeg, ?_, ?_, e.symm⟩
  · rw [Int32.lt_iff_toInt_lt, xI_toInt (by decide)] at h1
    unfold Int32.toNatClampNeg; omega
  · rw [Int32.le_iff_toInt_le, xI_toInt (by decide)] at h2
    unfold Int32.toNatClampNeg; omega
theorem oI_nn {o : Option Nat} (h : 0 ≤ oI o) : ∃ g, o = some g := by
  cases o with
  | some g => exact ⟨g, rfl⟩
  | none => exact absurd h (by decide)
theorem oI_n {o : Option Nat} (h : ¬ 0 ≤ oI o) (hb : ∀ g, o = some g → g < 2 ^ 31) : o = none := by
  cases o with
  | some g =>
    exfalso; apply h
    rw [Int32.le_iff_toInt_le]
    show (0 : Int32).toInt ≤ (nI g).toInt
    rw [xI_toInt (hb g rfl), show (0 : Int32).toInt = 0 by decide]; omega
  | none => rfl
theorem mAl_0 {M : xMem} {x : Int32} (h : x < nI 1 ∨ nI 100 < x) : mAl M x = (M, 0) := if_pos h
theorem mAl_n {M : xMem} {n : Nat} (h1 : 1 ≤ n) (h2 : n ≤ 100) : mAl M (nI n) = match mGap (mMk ((n + 7) / 8 + 2) M) ((n + 7) / 8 + 2) with
    | some s => (mPut (mMk ((n + 7) / 8 + 2) M) s ((n + 7) / 8) n, nI (8 * s + 8))
    | none => (mMk ((n + 7) / 8 + 2) M, 0) := by
  unfold mAl
  rw [if_neg]
  · simp only [nI_cl (show n < 2 ^ 31 by omega)]
    cases mGap (mMk ((n + 7) / 8 + 2) M) ((n + 7) / 8 + 2) <;> rfl
  · rintro (h | h)
    · rw [Int32.lt_iff_toInt_lt, xI_toInt (by omega), show (1 : Int32).toInt = 1 by decide] at h; omega
    · rw [Int32.lt_iff_toInt_lt, xI_toInt (by omega), show (100 : Int32).toInt = 100 by decide] at h; omega
theorem mAl_s {M V : xMem} {n g : Nat} (h1 : 1 ≤ n) (h2 : n ≤ 100) (hV : mMk ((n + 7) / 8 + 2) M = V) (hg : mGap V ((n + 7) / 8 + 2) = some g) : mAl M (nI n) = (mPut V g ((n + 7) / 8) n, nI (8 * g + 8)) := by
  rw [mAl_n h1 h2, hV, hg]
theorem mAl_f {M V : xMem} {n : Nat} (h1 : 1 ≤ n) (h2 : n ≤ 100) (hV : mMk ((n + 7) / 8 + 2) M = V) (hg : mGap V ((n + 7) / 8 + 2) = none) : mAl M (nI n) = (V, 0) := by
  rw [mAl_n h1 h2, hV, hg]
theorem rTo_t (P : xPg) (M : xMem) (R : xRn) (i : Nat) (o : Option Nat) (k : Nat) (x : Int32) : rTell (rTo P M R i o) k x i = rTell R k x i := by
  cases o <;> rfl
theorem rChk_a {P : xPg} {M : xMem} {R : xRn} {i : Nat} (h : pO P i = 5) (h2 : rRg R (pA P i) = 0 ∨ mBl M (rRg R (pA P i)) = true) : rChk P M R i = R := by
  unfold rChk
  rw [if_pos h, if_neg]
  rintro ⟨g1, g2⟩
  rcases h2 with g | g
  · exact g1 g
  · rw [g] at g2; cases g2
theorem rChk_b {P : xPg} {M : xMem} {R : xRn} {i : Nat} (h : pO P i = 5) (h2 : ¬ rRg R (pA P i) = 0) (h3 : mBl M (rRg R (pA P i)) = false) : rChk P M R i = rTell R 4 (rRg R (pA P i)) i := by
  unfold rChk
  rw [if_pos h, if_pos ⟨h2, h3⟩]
theorem rChk_c {P : xPg} {M : xMem} {R : xRn} {i : Nat} (h : pO P i ≠ 5) : rChk P M R i = rTo P M R i (xf (rBad P M R i) (rMany P i) 0) := by
  unfold rChk
  rw [if_neg h]
theorem rTo_0 {P : xPg} {M : xMem} {R V : xRn} {i w j : Nat} (hj : j < w) (hV : V = rTo P M R i (xf (rBad P M R i) (w - (j + 1)) (j + 1))) (h : mWr M (rX P R i + nI j) = 0) : V = rTo P M R i (xf (rBad P M R i) (w - j) j) := by
  rw [show w - j = (w - (j + 1)) + 1 by omega, xf, if_neg (by unfold rBad; simp [h])]; exact hV
theorem rTo_1 {P : xPg} {M : xMem} {R V : xRn} {i w j : Nat} (hj : j < w) (hV : V = rTo P M R i (xf (rBad P M R i) (w - (j + 1)) (j + 1))) (h : 0 < mWr M (rX P R i + nI j)) : rTell V (mWr M (rX P R i + nI j)) (rX P R i + nI j) i = rTo P M R i (xf (rBad P M R i) (w - j) j) := by
  rw [show w - j = (w - (j + 1)) + 1 by omega, xf, if_pos (by unfold rBad; exact decide_eq_true (by omega)), hV, rTo_t]; rfl
theorem rMany_1 {P : xPg} {i : Nat} (h : pO P i % 2 = 0) : rMany P i = 1 := if_pos h
theorem rMany_4 {P : xPg} {i : Nat} (h : ¬ pO P i % 2 = 0) : rMany P i = 4 := if_neg h
theorem rTch_c {P : xPg} {M : xMem} {R : xRn} {i : Nat} (h : ¬ xIn (rX P R i) (rMany P i)) : rTch P M R i = (M, rSetS R 4) := by
  unfold rTch
  rw [if_neg (fun g => h ((xInb_i _ _).mp g))]
theorem rTch_6 {P : xPg} {M : xMem} {R : xRn} {i : Nat} (h : xIn (rX P R i) (rMany P i)) (h6 : pO P i = 6) : rTch P M R i = (M, rSetR R (pR P i) (mHp M (rX P R i).toNatClampNeg)) := by
  unfold rTch
  rw [if_pos ((xInb_i _ _).mpr h), if_pos h6]
theorem rTch_7 {P : xPg} {M : xMem} {R : xRn} {i : Nat} (h : xIn (rX P R i) (rMany P i)) (h6 : pO P i = 7) : rTch P M R i = (M, rSetR R (pR P i) (xld (mHp M) (rX P R i).toNatClampNeg 4 4)) := by
  unfold rTch
  rw [if_pos ((xInb_i _ _).mpr h), if_neg (by omega), if_pos h6]
theorem rTch_8 {P : xPg} {M : xMem} {R : xRn} {i : Nat} (h : xIn (rX P R i) (rMany P i)) (h6 : pO P i ≠ 6) (h7 : pO P i ≠ 7) : rTch P M R i = ((xst (mHp M) (rX P R i).toNatClampNeg (rRg R (pB P i)) (rMany P i), mSh M, mOw M, mSz M, mQn M, mQf M), R) := by
  unfold rTch
  rw [if_pos ((xInb_i _ _).mpr h), if_neg h6, if_neg h7]
theorem xbt_b (b : BitVec 32) (k : Nat) (h : k ≤ 24) : (b >>> k) &&& 255#32 = (b.sshiftRight k) &&& 255#32 := by
  apply BitVec.eq_of_getLsbD_eq
  intro i hi
  have e : (255#32).getLsbD i = decide (i < 8) := by
    have : ∀ i, i < 32 → (255#32).getLsbD i = decide (i < 8) := by decide
    exact this i hi
  rw [BitVec.getLsbD_and, BitVec.getLsbD_and, e]
  by_cases c : i < 8
  · simp only [c, decide_true, Bool.and_true, BitVec.getLsbD_ushiftRight, BitVec.getLsbD_sshiftRight]
    have h1 : k + i < 32 := by omega
    simp [h1, hi]
  · simp [c]
theorem xbt_eq (v : Int32) {j : Nat} (h : j < 4) : (v.toUInt32 >>> ((nI (8 * j)).toUInt32 &&& Int32.toUInt32 31)).toInt32 &&& nI 255 = xbt v j := by
  apply Int32.toBitVec_inj.mp
  have hj : j = 0 ∨ j = 1 ∨ j = 2 ∨ j = 3 := by omega
  rcases hj with rfl | rfl | rfl | rfl
  · exact xbt_b v.toBitVec 0 (by omega)
  · exact xbt_b v.toBitVec 8 (by omega)
  · exact xbt_b v.toBitVec 16 (by omega)
  · exact xbt_b v.toBitVec 24 (by omega)
theorem rPf_0 {P : xPg} {M : xMem} {R : xRn} {i : Nat} (h : pO P i = 0) : rPf P M R i = (M, rSetR R (pR P i) (pK P i)) := by
  unfold rPf
  rw [if_pos h]
theorem rPf_1 {P : xPg} {M : xMem} {R : xRn} {i : Nat} (h : pO P i = 1) : rPf P M R i = (M, rSetR R (pR P i) (rA P R i + rB P R i)) := by
  unfold rPf
  rw [if_neg (show ¬ pO P i = 0 by omega), if_pos h]
theorem rPf_2 {P : xPg} {M : xMem} {R : xRn} {i : Nat} (h : pO P i = 2) : rPf P M R i = (M, rSetR R (pR P i) (rA P R i - rB P R i)) := by
  unfold rPf
  rw [if_neg (show ¬ pO P i = 0 by omega), if_neg (show ¬ pO P i = 1 by omega), if_pos h]
theorem rPf_3 {P : xPg} {M : xMem} {R : xRn} {i : Nat} (h : pO P i = 3) : rPf P M R i = (M, rSetR R (pR P i) (rA P R i * rB P R i)) := by
  unfold rPf
  rw [if_neg (show ¬ pO P i = 0 by omega), if_neg (show ¬ pO P i = 1 by omega), if_neg (show ¬ pO P i = 2 by omega), if_pos h]
theorem rPf_4 {P : xPg} {M : xMem} {R : xRn} {i : Nat} (h : pO P i = 4) : rPf P M R i = ((mAl M (rA P R i)).1, rSetR R (pR P i) (mAl M (rA P R i)).2) := by
  unfold rPf
  rw [if_neg (show ¬ pO P i = 0 by omega), if_neg (show ¬ pO P i = 1 by omega), if_neg (show ¬ pO P i = 2 by omega), if_neg (show ¬ pO P i = 3 by omega), if_pos h]
theorem rPf_12 {P : xPg} {M : xMem} {R : xRn} {i : Nat} (h : pO P i = 12) : rPf P M R i = (M, rPrint R (rA P R i)) := by
  unfold rPf
  rw [if_neg (show ¬ pO P i = 0 by omega), if_neg (show ¬ pO P i = 1 by omega), if_neg (show ¬ pO P i = 2 by omega), if_neg (show ¬ pO P i = 3 by omega), if_neg (show ¬ pO P i = 4 by omega), if_neg (show ¬ pO P i = 5 by omega), if_neg (show ¬ pO P i ≤ 9 by omega), if_neg (show ¬ pO P i ≤ 11 by omega), if_pos h]
theorem rPf_13 {P : xPg} {M : xMem} {R : xRn} {i : Nat} (h : pO P i = 13) : rPf P M R i = (M, rSetR R (pR P i) (rA P R i + pK P i)) := by
  unfold rPf
  rw [if_neg (show ¬ pO P i = 0 by omega), if_neg (show ¬ pO P i = 1 by omega), if_neg (show ¬ pO P i = 2 by omega), if_neg (show ¬ pO P i = 3 by omega), if_neg (show ¬ pO P i = 4 by omega), if_neg (show ¬ pO P i = 5 by omega), if_neg (show ¬ pO P i ≤ 9 by omega), if_neg (show ¬ pO P i ≤ 11 by omega), if_neg (show ¬ pO P i = 12 by omega), if_pos h]
theorem rPf_5a {P : xPg} {M : xMem} {R : xRn} {i : Nat} (h : pO P i = 5) (h2 : mBl M (rA P R i) = true) : rPf P M R i = (mFr M ((rA P R i).toNatClampNeg / 8 - 1), R) := by
  unfold rPf
  rw [if_neg (show ¬ pO P i = 0 by omega), if_neg (show ¬ pO P i = 1 by omega), if_neg (show ¬ pO P i = 2 by omega), if_neg (show ¬ pO P i = 3 by omega), if_neg (show ¬ pO P i = 4 by omega), if_pos h, if_pos h2]
theorem rPf_5b {P : xPg} {M : xMem} {R : xRn} {i : Nat} (h : pO P i = 5) (h2 : mBl M (rA P R i) = false) (h3 : ¬ rA P R i = 0) : rPf P M R i = (M, rSetS R 4) := by
  unfold rPf
  rw [if_neg (show ¬ pO P i = 0 by omega), if_neg (show ¬ pO P i = 1 by omega), if_neg (show ¬ pO P i = 2 by omega), if_neg (show ¬ pO P i = 3 by omega), if_neg (show ¬ pO P i = 4 by omega), if_pos h, if_neg (by rw [h2]; decide), if_pos h3]
theorem rPf_5c {P : xPg} {M : xMem} {R : xRn} {i : Nat} (h : pO P i = 5) (h2 : mBl M (rA P R i) = false) (h3 : rA P R i = 0) : rPf P M R i = (M, R) := by
  unfold rPf
  rw [if_neg (show ¬ pO P i = 0 by omega), if_neg (show ¬ pO P i = 1 by omega), if_neg (show ¬ pO P i = 2 by omega), if_neg (show ¬ pO P i = 3 by omega), if_neg (show ¬ pO P i = 4 by omega), if_pos h, if_neg (by rw [h2]; decide), if_neg (fun g => g h3)]
theorem rPf_6 {P : xPg} {M : xMem} {R : xRn} {i : Nat} (h : 6 ≤ pO P i) (h2 : pO P i ≤ 9) : rPf P M R i = rTch P M R i := by
  unfold rPf
  rw [if_neg (show ¬ pO P i = 0 by omega), if_neg (show ¬ pO P i = 1 by omega), if_neg (show ¬ pO P i = 2 by omega), if_neg (show ¬ pO P i = 3 by omega), if_neg (show ¬ pO P i = 4 by omega), if_neg (show ¬ pO P i = 5 by omega), if_pos h2]
theorem rPf_10 {P : xPg} {M : xMem} {R : xRn} {i : Nat} (h : 10 ≤ pO P i) (h2 : pO P i ≤ 11) : rPf P M R i = (M, R) := by
  unfold rPf
  rw [if_neg (show ¬ pO P i = 0 by omega), if_neg (show ¬ pO P i = 1 by omega), if_neg (show ¬ pO P i = 2 by omega), if_neg (show ¬ pO P i = 3 by omega), if_neg (show ¬ pO P i = 4 by omega), if_neg (show ¬ pO P i = 5 by omega), if_neg (show ¬ pO P i ≤ 9 by omega), if_pos h2]
theorem rPf_14 {P : xPg} {M : xMem} {R : xRn} {i : Nat} (h : 14 ≤ pO P i) : rPf P M R i = (M, rSetS R 2) := by
  unfold rPf
  rw [if_neg (show ¬ pO P i = 0 by omega), if_neg (show ¬ pO P i = 1 by omega), if_neg (show ¬ pO P i = 2 by omega), if_neg (show ¬ pO P i = 3 by omega), if_neg (show ¬ pO P i = 4 by omega), if_neg (show ¬ pO P i = 5 by omega), if_neg (show ¬ pO P i ≤ 9 by omega), if_neg (show ¬ pO P i ≤ 11 by omega), if_neg (show ¬ pO P i = 12 by omega), if_neg (show ¬ pO P i = 13 by omega)]
theorem rPrint_1 {R : xRn} {v : Int32} (h : rPn R < 60) : rPrint R v = (rSt R, rCk R, rAt R, rLd R, rRg R, rPn R + 1, xu (rPr R) (rPn R) v, rKd R, rWh R, rWo R) := if_pos h
theorem rPrint_0 {R : xRn} {v : Int32} (h : 60 ≤ rPn R) : rPrint R v = R := if_neg (by omega)
theorem rNx_s {P : xPg} {R : xRn} {i : Nat} (h : ¬ ((pO P i = 10 ∧ rA P R i = 0) ∨ (pO P i = 11 ∧ rA P R i < rB P R i))) : rNx P R i = i + 1 := if_neg h
theorem rNx_j {P : xPg} {R : xRn} {i : Nat} (hs : pSd P) (hi : i < pN P) (h : (pO P i = 10 ∧ rA P R i = 0) ∨ (pO P i = 11 ∧ rA P R i < rB P R i)) : nI (rNx P R i) = pK P i := by
  unfold rNx
  rw [if_pos h]
  exact nI_clampS (hs i hi (by omega)).1
end
section
theorem xm_z {t : Nat} (h : t < 2 ^ 31) (hc : xm t < 0) : t = 0 := by
  apply Nat.eq_zero_of_not_pos
  intro h0
  obtain ⟨j, rfl⟩ : ∃ j, t = j + 1 := ⟨t - 1, by omega⟩
  exact xm_n (by omega) hc
theorem xr_lt {j n : Nat} (h : xr (nI j) n = true) (hj : j < 2 ^ 31) (hn : n < 2 ^ 31) : j < n := by
  unfold xr at h
  rw [decide_eq_true_eq, Int32.lt_iff_toInt_lt, xI_toInt hj, xI_toInt hn] at h
  omega
theorem xr_nlt {j n : Nat} (h : xr (nI j) n = false) (hn : n < 2 ^ 31) : n ≤ j := by
  apply Nat.le_of_not_lt
  intro g
  rw [xr_n g hn] at h; cases h
theorem mBl_inv {M : xMem} {x : Int32} (h : mBl M x = true) : ∃ n, x = nI n ∧ n < 512 ∧ 8 ≤ n ∧ 0 < mSz M (n / 8 - 1) ∧ mOw M (n / 8 - 1) = 1 ∧ x.toNatClampNeg = n := by
  have h1 : xr x 512 = true := by
    unfold mBl at h
    rw [Bool.and_eq_true] at h; exact h.1
  obtain ⟨n, hn, rfl⟩ := xr_nat h1 (by decide)
  rw [mBl_n hn, decide_eq_true_eq] at h
  exact ⟨n, rfl, hn, by omega, h.2.2.1, h.2.2.2, nI_cl (by omega)⟩
theorem rChk_at (P : xPg) (M : xMem) (R : xRn) (i : Nat) : rAt (rChk P M R i) = rAt R := by
  rcases rChk_keep (P := P) (M := M) (R := R) (i := i) with e | ⟨k, a, e⟩ <;> rw [e]
theorem rOne_c {P : xPg} {M : xMem} {R : xRn} (h1 : rCk R = true) (h2 : pH P (rAt R) = true) : rOne P M R = (M, rSetA (rChk P M (rSetL R (rAt R)) (pI P (rAt R))) (rAt (rChk P M (rSetL R (rAt R)) (pI P (rAt R))) + 1)) := by
  unfold rOne
  rw [if_pos (show rH P R = true by unfold rH; rw [h1, h2]; rfl), rChk_at]
  unfold rI
  rw [if_pos h1]
theorem rOne_t {P : xPg} {M : xMem} {R : xRn} (h1 : rCk R = true) (h2 : pH P (rAt R) = false) : rOne P M R = ((rPf P M (rSetL R (rAt R)) (pI P (rAt R))).1, rEnd P (rPf P M (rSetL R (rAt R)) (pI P (rAt R))).2 (rNx P R (pI P (rAt R)))) := by
  unfold rOne
  rw [if_neg (show ¬ rH P R = true by unfold rH; rw [h2, Bool.and_false]; decide)]
  unfold rI
  rw [if_pos h1]
theorem rOne_f {P : xPg} {M : xMem} {R : xRn} (h1 : rCk R = false) : rOne P M R = ((rPf P M (rSetL R (rAt R)) (rAt R)).1, rEnd P (rPf P M (rSetL R (rAt R)) (rAt R)).2 (rNx P R (rAt R))) := by
  unfold rOne
  rw [if_neg (show ¬ rH P R = true by unfold rH; rw [h1, Bool.false_and]; decide)]
  unfold rI
  rw [if_neg (by rw [h1]; decide)]
theorem rEnd_t1 {P : xPg} {V : xRn} {n : Nat} (h : rCk V = true) (h2 : ¬ (rSt V = 1 ∧ n = pN P)) : rEnd P V n = rSetA V (pl P n) := by
  unfold rEnd
  rw [if_neg h2, if_pos h]
theorem rEnd_t2 {P : xPg} {V : xRn} {n : Nat} (h : rCk V = true) (h2 : rSt V = 1) (h3 : n = pN P) : rEnd P V n = rSetS (rSetA V (pl P n)) 2 := by
  unfold rEnd
  rw [if_pos ⟨h2, h3⟩, if_pos h]
theorem rEnd_f1 {P : xPg} {V : xRn} {n : Nat} (h : rCk V = false) (h2 : ¬ (rSt V = 1 ∧ n = pN P)) : rEnd P V n = rSetA V n := by
  unfold rEnd
  rw [if_neg h2, if_neg (by rw [h]; decide)]
theorem rEnd_f2 {P : xPg} {V : xRn} {n : Nat} (h : rCk V = false) (h2 : rSt V = 1) (h3 : n = pN P) : rEnd P V n = rSetS (rSetA V n) 2 := by
  unfold rEnd
  rw [if_pos ⟨h2, h3⟩, if_neg (by rw [h]; decide)]
theorem rPf_s4 {P : xPg} {M : xMem} {R : xRn} {i : Nat} (h : rSt R ≤ 4) : rSt (rPf P M R i).2 ≤ 4 := by
  rcases rPf_st (P := P) (M := M) (R := R) (i := i) with e | e | e <;> omega
theorem rGo_s {P : xPg} {n : Nat} {V : xMem × xRn} (h : rSt V.2 = 1) : rGo P (n + 1) V = rGo P n (rOne P V.1 V.2) := by
  rw [rGo, if_pos h]
theorem rGo_n {P : xPg} {n : Nat} {V : xMem × xRn} (h : ¬ rSt V.2 = 1) : rGo P n V = V := by
  cases n with
  | zero => rfl
  | succ n => rw [rGo, if_neg h]
theorem rCnt_s {P : xPg} {n : Nat} {V : xMem × xRn} (h : rSt V.2 = 1) : rCnt P (n + 1) V = rCnt P n (rOne P V.1 V.2) + 1 := by
  rw [rCnt, if_pos h]
theorem rCnt_n {P : xPg} {n : Nat} {V : xMem × xRn} (h : ¬ rSt V.2 = 1) : rCnt P n V = 0 := by
  cases n with
  | zero => rfl
  | succ n => rw [rCnt, if_neg h]
end
section
/-! soundness as the walks find it; the answers of the calls: which refusal (0: none), and the number -/
def pS1 (P : xPg) (i : Nat) : Bool := !(pJ P i) || (decide (0 ≤ pK P i) && decide (pK P i < nI (pN P)))
def pSB (P : xPg) : Nat → Bool
  | 0 => true
  | j + 1 => pSB P j && pS1 P j
theorem pS1_a {P : xPg} {i : Nat} (h : pO P i ≠ 10) (h2 : pO P i ≠ 11) : pS1 P i = true := by
  unfold pS1; simp [pJ, h, h2]
theorem pS1_l {P : xPg} {i : Nat} (h : pO P i = 10 ∨ pO P i = 11) (h2 : pK P i < 0) : pS1 P i = false := by
  have : ¬ 0 ≤ pK P i := Int32.not_le.mpr h2
  unfold pS1; simp [pJ, h, this]
theorem pS1_g {P : xPg} {i : Nat} (h : pO P i = 10 ∨ pO P i = 11) (h2 : nI (pN P) ≤ pK P i) : pS1 P i = false := by
  have : ¬ pK P i < nI (pN P) := Int32.not_lt.mpr h2
  unfold pS1; simp [pJ, h, this]
theorem pS1_i {P : xPg} {i : Nat} (h1 : ¬ pK P i < 0) (h2 : ¬ nI (pN P) ≤ pK P i) : pS1 P i = true := by
  unfold pS1; simp [Int32.not_lt.mp h1, Int32.not_le.mp h2]
theorem pSB_all {P : xPg} {n : Nat} : pSB P n = true ↔ ∀ i, i < n → pS1 P i = true := by
  induction n with
  | zero => exact ⟨fun _ i h => absurd h (Nat.not_lt_zero _), fun _ => rfl⟩
  | succ n ih =>
    rw [pSB, Bool.and_eq_true, ih]
    constructor
    · rintro ⟨h1, h2⟩ i hi
      by_cases e : i = n
      · subst e; exact h2
      · exact h1 i (by omega)
    · intro h
      exact ⟨fun i hi => h i (by omega), h n (by omega)⟩
theorem pSB_sd {P : xPg} : pSB P (pN P) = true ↔ pSd P := by
  rw [pSB_all]
  unfold pSd
  constructor
  · intro h i hi hj
    have := h i hi
    unfold pS1 at this
    simp [pJ, hj] at this
    exact this
  · intro h i hi
    by_cases hj : pO P i = 10 ∨ pO P i = 11
    · have := h i hi hj
      unfold pS1; simp [this.1, this.2]
    · unfold pS1; simp [pJ, hj]
theorem pSB_f {P : xPg} {i : Nat} (hi : i < pN P) (h : pS1 P i = false) : pSB P (pN P) = false := by
  cases c : pSB P (pN P) with
  | false => rfl
  | true => rw [pSB_all.mp c i hi] at h; cases h
def aRw (P : xPg) : Nat × Int32 := if pSB P (pN P) = true then (0, nI (pl P (pN P))) else (1, 0)
def aRv (P : xPg) (p : Nat) (y : Int32) : Int32 := if y = 1 then nI (pI P p) else if y = 0 then nI (pOp P p) else if pJ P (pI P p) = true then nI (pl P (pK P (pI P p)).toNatClampNeg) else pK P (pI P p)
def aRt (P : xPg) (x y : Int32) : Nat × Int32 := if pSB P (pN P) = true then (if xr x (pl P (pN P)) = true then (if xr y 3 = true then (0, aRv P x.toNatClampNeg y) else (3, 0)) else (2, 0)) else (1, 0)
def aStart (P : xPg) : Nat := if 0 < pN P ∧ pSB P (pN P) = true then 0 else 1
def rNew (R : xRn) (ck : Bool) (x y : Int32) : xRn := (1, ck, 0, 0, xu (xu (xp (rRg R) 0 8 0) 0 x) 1 y, 0, rPr R, rKd R, rWh R, rWo R)
def aStep (R : xRn) (x : Int32) : Nat := if rSt R = 0 then 1 else if xr x 1001 = true then 0 else 2
def aLook (P : xPg) (M : xMem) (R : xRn) (x : Int32) : Nat × Int32 := if xr x 6 = true then (0, if x = 0 then nI (rSt R) else if x = 5 then nI (pN P) else if rSt R = 0 then 0 else if x = 1 then (if rSt R = 1 then nI (rAt R) else nI (rLd R)) else if x = 2 then nI (rPn R) else if x = 4 then nI (xc (mQb M true) 64) else nI (xc (mQb M false) 64)) else (1, 0)
def aReg (R : xRn) (x : Int32) : Nat × Int32 := if xr x 8 = true then (0, if rSt R = 0 then 0 else rRg R x.toNatClampNeg) else (1, 0)
def aPr (R : xRn) (x : Int32) : Nat × Int32 := if rSt R ≠ 0 ∧ xr x (rPn R) = true then (0, rPr R x.toNatClampNeg) else (1, 0)
def aHeap (M : xMem) (x : Int32) : Nat × Int32 := if xr x 512 = true then (0, mHp M x.toNatClampNeg) else (1, 0)
def aShad (M : xMem) (x : Int32) : Nat × Int32 := if xr x 64 = true then (0, mSh M x.toNatClampNeg) else (1, 0)
def aRep (R : xRn) (x : Int32) : Nat × Int32 := if rSt R = 3 then (if xr x 3 = true then (0, if x = 0 then nI (rKd R) else if x = 1 then rWh R else nI (rWo R)) else (2, 0)) else (1, 0)
def aCode (P : xPg) (o r a b : Int32) : Nat := if xr o 15 = true ∧ xr r 8 = true ∧ xr a 8 = true ∧ xr b 8 = true then (if pN P = 40 then 2 else 0) else 1
/-- the program behind code -/
def pCode (P : xPg) (o r a b k : Int32) : xPg := if aCode P o r a b = 0 then pAdd P o.toNatClampNeg r.toNatClampNeg a.toNatClampNeg b.toNatClampNeg k else P
theorem xr_g {x : Int32} {n : Nat} (h : ¬ x ≤ nI n) (hn : n + 1 < 2 ^ 31) : xr x (n + 1) = false := by
  apply xr_f2
  rw [Int32.le_iff_toInt_le, xI_toInt (by omega)] at h ⊢
  omega
theorem x_lts {k : Nat} (h : k + 1 < 2 ^ 31) : nI k < nI (k + 1) := by
  rw [Int32.lt_iff_toInt_lt, xI_toInt (by omega), xI_toInt h]; omega
end
section
/-! the memory as the program keeps it -/
theorem mNew_is {M : xMem} (hz : mZ M) (w : Nat) : xp (mIs M w) 0 64 false = mIs (mNew M) w := by
  funext k
  have e : mSz (mNew M) k = 0 := by
    show xp (mSz M) 0 64 0 k = 0
    by_cases h : k < 64
    · exact xp_in (Nat.zero_le _) h
    · rw [xp_out (by omega)]; exact hz k (by omega)
  have e2 : mIs (mNew M) w k = false := by simp only [mIs, e]; simp
  rw [e2]
  by_cases h : k < 64
  · exact xp_in (Nat.zero_le _) h
  · rw [xp_out (by omega)]; simp only [mIs, hz k (by omega)]; simp
theorem mNew_live {M : xMem} (hz : mZ M) : xc (mIs (mNew M) 1) 64 = 0 := by
  rw [← mNew_is hz, xc_ext (R := fun _ => false) (fun k hk => xp_in (Nat.zero_le _) hk)]; decide
theorem mRel_isf {B : Nat} {M : xMem} (h : mOk B M) (hq : 0 < mQn M) : xu (mIs M 2) (mQf M 0) false = mIs (mRel M) 2 := by
  funext k
  by_cases e : k = mQf M 0
  · rw [e, xu_s, mRel_is0]
  · rw [xu_n e, mRel_is h hq 2 k e]
theorem mRel_su {B : Nat} {M : xMem} (h : mOk B M) (hq : 0 < mQn M) : mSum M - mSz M (mQf M 0) = mSum (mRel M) := by
  have := mRel_sum h hq
  omega
theorem mPut_isf {B : Nat} {M : xMem} {s b n : Nat} (h : mOk B M) (hn : 1 ≤ b) (hf : ∀ k, s ≤ k → k < s + b + 2 → mOw M k = 0) : mIs M 2 = mIs (mPut M s b n) 2 := by
  funext k
  by_cases e : k = s
  · rw [e, mPut_is1 hn, mPut_is0 h (need := b + 2) (by omega) hf]; rfl
  · exact (mPut_is h hn hf 2 k e).symm
theorem mPut_su {B : Nat} {M : xMem} {s b n : Nat} (h : mOk B M) (hf : ∀ k, s ≤ k → k < s + b + 2 → mOw M k = 0) : mSum M = mSum (mPut M s b n) := by
  refine xs_ext (fun k hk => ?_)
  show mSz M (mQf M k) = xu (mSz M) s (b + 2) (mQf M k)
  rw [xu_n]
  intro e
  have h4 := h.2.2.2.1 k hk
  have := hf s (Nat.le_refl _) (by omega)
  rw [e] at h4; omega
theorem mFre_isf {B : Nat} {M : xMem} {s : Nat} (h : mOk B M) (hs : 0 < mSz M s) : xu (mIs M 2) s true = mIs (mFre M s) 2 := by
  funext k
  by_cases e : k = s
  · rw [e, xu_s, mFre_is1 hs]; rfl
  · rw [xu_n e, mFre_is h hs 2 k e]
theorem mFre_lv {B : Nat} {M : xMem} {s : Nat} (h : mOk B M) (hs : 0 < mSz M s) (hw : mOw M s = 1) : xc (mIs M 1) 64 - 1 = xc (mIs (mFre M s) 1) 64 := by
  have := mFre_live h hs hw
  omega
/-- may x be freed -/
def mMf (M : xMem) (x : Int32) : Bool := decide (x = 0) || mBl M x
def mFx (M : xMem) (n : Nat) : xMem := if n = 0 then M else mFr M (n / 8 - 1)
/-! the least gap by a walk over the blocks -/
def mGw (M : xMem) (n z g : Nat) : Prop := z ≤ 64 ∧ g ≤ z ∧ z - g < n ∧ (∀ k, g ≤ k → k < z → mOw M k = 0) ∧ (∀ s, 0 < mSz M s → s < z → s + mSz M s ≤ z) ∧ ∀ t, t < g → ∃ k, k < n ∧ mOw M (t + k) ≠ 0
theorem mGw_0 {M : xMem} {n : Nat} (h : 1 ≤ n) : mGw M n 0 0 := ⟨by omega, by omega, by omega, fun k _ h2 => by omega, fun s _ h2 => by omega, fun t ht => by omega⟩
theorem mGw_b {B : Nat} {M : xMem} {n z g : Nat} (hm : mOk B M) (h : mGw M n z g) (hz : 0 < mSz M z) : mGw M n (z + mSz M z) (z + mSz M z) := by
  obtain ⟨h1, h2, h3, h4, h5, h6⟩ := h
  obtain ⟨q1, q2, q3, q4⟩ := hm.1 z hz
  refine ⟨q2, Nat.le_refl _, by omega, fun k _ _ => by omega, fun s hs hlt => ?_, fun t ht => ?_⟩
  · rcases Nat.lt_trichotomy s z with e | e | e
    · have := h5 s hs e; omega
    · subst e; omega
    · have := hm.2.2.1 z s hz hs e; omega
  · by_cases c : t < g
    · exact h6 t c
    · by_cases c2 : t ≤ z
      · refine ⟨z - t, by omega, ?_⟩
        rw [show t + (z - t) = z by omega]; omega
      · refine ⟨0, by omega, ?_⟩
        rw [Nat.add_zero, q4 t (by omega) ht]; omega
theorem mGw_w {B : Nat} {M : xMem} {n z g : Nat} (hm : mOk B M) (h : mGw M n z g) (hz : mSz M z = 0) (hlt : z < 64) : mOw M z = 0 := by
  obtain ⟨h1, h2, h3, h4, h5, h6⟩ := h
  apply Classical.byContradiction
  intro hw
  obtain ⟨s, hs, g1, g2⟩ := hm.2.1 z hlt hw
  by_cases e : s = z
  · subst e; omega
  · have := h5 s hs (by omega); omega
theorem mGw_s {B : Nat} {M : xMem} {n z g : Nat} (hm : mOk B M) (h : mGw M n z g) (hz : mSz M z = 0) (hlt : z < 64) (hn : z + 1 - g < n) : mGw M n (z + 1) g := by
  have hw := mGw_w hm h hz hlt
  obtain ⟨h1, h2, h3, h4, h5, h6⟩ := h
  refine ⟨by omega, by omega, hn, fun k k1 k2 => ?_, fun s hs hs2 => ?_, h6⟩
  · by_cases e : k = z
    · subst e; exact hw
    · exact h4 k k1 (by omega)
  · by_cases e : s = z
    · subst e; omega
    · have := h5 s hs (by omega); omega
theorem mGw_r {B : Nat} {M : xMem} {n z g : Nat} (hm : mOk B M) (h : mGw M n z g) (hz : mSz M z = 0) (hlt : z < 64) (hn : n ≤ z + 1 - g) : mGap M n = some g := by
  have hw := mGw_w hm h hz hlt
  obtain ⟨h1, h2, h3, h4, h5, h6⟩ := h
  refine mGap_s (by omega) (fun k hk => ?_) h6
  by_cases e : g + k = z
  · rw [e]; exact hw
  · exact h4 (g + k) (by omega) (by omega)
theorem mGw_n {M : xMem} {n z g : Nat} (h : mGw M n z g) (hz : 64 ≤ z) : mGap M n = none := by
  obtain ⟨h1, h2, h3, h4, h5, h6⟩ := h
  refine mGap_n (fun t ht => ?_)
  exact h6 t (by omega)
theorem mTc_m1 {x : Int32} {j : Nat} (h : x = -1) : mTc x j = 1 := by
  subst h
  exact mTc_1 (by decide) (Or.inl (by decide)) (by decide) (by decide)
theorem mTc_q {x : Int32} {j : Nat} (hj : j < 2 ^ 31) (h : ¬ x ≤ nI j) : mTc x j = 0 := by
  refine mTc_p (fun g => h ?_) h
  rw [Int32.le_iff_toInt_le, show (0 : Int32).toInt = 0 by decide] at g
  rw [Int32.le_iff_toInt_le, xI_toInt hj]; omega
theorem x_t30 {x : Int32} (h3 : ¬ x = -3) (h2 : ¬ x = -2) (h1 : ¬ x = -1) (h0 : ¬ x = 0) : x.toInt < -3 ∨ 0 < x.toInt := by
  apply Classical.byContradiction
  intro hc
  have e : x.toInt = -3 ∨ x.toInt = -2 ∨ x.toInt = -1 ∨ x.toInt = 0 := by omega
  rcases e with e | e | e | e
  · exact h3 (Int32.toInt_inj.mp (e.trans (by decide)))
  · exact h2 (Int32.toInt_inj.mp (e.trans (by decide)))
  · exact h1 (Int32.toInt_inj.mp (e.trans (by decide)))
  · exact h0 (Int32.toInt_inj.mp (e.trans (by decide)))
theorem oI_m1 {o : Option Nat} (h : oI o = -1) (hb : ∀ g, o = some g → g < 2 ^ 31) : o = none := by
  cases o with
  | none => rfl
  | some g =>
    have h' : nI g = -1 := h
    have := congrArg Int32.toInt h'
    rw [xI_toInt (hb g rfl), show (-1 : Int32).toInt = -1 by decide] at this
    omega
theorem oI_ne {o : Option Nat} (h : ¬ oI o = -1) : ∃ g, o = some g := by
  cases o with
  | none => exact absurd rfl h
  | some g => exact ⟨g, rfl⟩
end
section
/-! the program as the program keeps it -/
def lAdd (P : xPg) (L : xLs) (o : Nat) : xLs := if 4 < o ∧ o < 10 then lAdd2 P L (if o = 5 then 16 else 15) o else lAdd1 P L o
theorem lAdd_a {P : xPg} {L : xLs} {o : Nat} (h : 6 ≤ o) (h2 : o ≤ 9) : lAdd P L o = lAdd2 P L 15 o := by
  unfold lAdd; rw [if_pos (by omega), if_neg (by omega)]
theorem lAdd_b {P : xPg} {L : xLs} {o : Nat} (h : o = 5) : lAdd P L o = lAdd2 P L 16 o := by
  unfold lAdd; rw [if_pos (by omega), if_pos h]
theorem lAdd_c {P : xPg} {L : xLs} {o : Nat} (h : ¬ (4 < o ∧ o < 10)) : lAdd P L o = lAdd1 P L o := by
  unfold lAdd; rw [if_neg h]
theorem lAdd_ok {P : xPg} {L : xLs} {o r a b : Nat} {k : Int32} (h : lOk P L) : lOk (pAdd P o r a b k) (lAdd P L o) := by
  unfold lAdd
  by_cases c : 4 < o ∧ o < 10
  · rw [if_pos c]; exact lAdd2_ok h c rfl
  · rw [if_neg c]; exact lAdd1_ok h c
theorem pOp_le {P : xPg} {x : Nat} (hp : pOk P) (h : x < pl P (pN P)) : pOp P x ≤ 16 := by
  have := (hp.2 _ (pI_sp h).1).1
  unfold pOp
  repeat' split
  all_goals omega
theorem pH_C {P : xPg} {x : Nat} (h : pH P x = true) : 4 < pO P (pI P x) ∧ pO P (pI P x) < 10 := by
  unfold pH at h
  rw [Bool.and_eq_true] at h
  exact of_decide_eq_true h.1
theorem pOp_J (P : xPg) (x : Nat) : decide (pOp P x = 10 ∨ pOp P x = 11) = pJ P (pI P x) := by
  unfold pOp
  cases c : pH P x with
  | false => simp [pJ]
  | true =>
    have := pH_C c
    have e : pJ P (pI P x) = false := decide_eq_false (by omega)
    rw [e]
    by_cases c5 : pO P (pI P x) = 5
    · simp [c5]
    · simp [c5]
/-- the number of a line of the rewritten program -/
def aNum (P : xPg) (x : Nat) : Int32 := if pJ P (pI P x) = true then nI (pl P (pK P (pI P x)).toNatClampNeg) else pK P (pI P x)
theorem pSd_k {P : xPg} (hp : pOk P) (hs : pSd P) {i : Nat} (hi : i < pN P) (hj : pJ P i = true) : (pK P i).toNatClampNeg < pN P ∧ pK P i = nI (pK P i).toNatClampNeg := by
  have := hs i hi (of_decide_eq_true hj)
  have h1 := hp.1
  exact ⟨nI_clampLt this.2 (by omega) this.1, (nI_clampS this.1).symm⟩
theorem rMany_w1 {P : xPg} {i : Nat} (h : pO P i = 6 ∨ pO P i = 8) : rMany P i = 1 := rMany_1 (by omega)
theorem rMany_w4 {P : xPg} {i : Nat} (h : ¬ (pO P i = 6 ∨ pO P i = 8)) (h1 : 6 ≤ pO P i) (h2 : pO P i ≤ 9) : rMany P i = 4 := rMany_4 (by omega)
theorem rMany_le (P : xPg) (i : Nat) : 1 ≤ rMany P i ∧ rMany P i ≤ 4 := by
  unfold rMany; split <;> omega
/-! a line done, as the program does it: the run behind it and the line at which it stands -/
theorem xr_in {x : Int32} {w : Nat} (hw : w ≤ 512) (h1 : 1 ≤ w) : xr x (512 - w + 1) = true ↔ xIn x w := by
  unfold xIn
  constructor
  · intro h
    obtain ⟨j, hj, rfl⟩ := xr_nat h (by omega)
    exact ⟨xr_n (by omega) (by decide), by rw [nI_cl (by omega)]; omega⟩
  · rintro ⟨h, h2⟩
    obtain ⟨j, hj, rfl⟩ := xr_nat h (by decide)
    rw [nI_cl (by omega)] at h2
    exact xr_n (by omega) (by omega)
theorem xf_skip {P : Nat → Bool} {w j : Nat} (hj : j < w) (h : P j = false) (e : xf P w 0 = xf P (w - j) j) : xf P w 0 = xf P (w - (j + 1)) (j + 1) := by
  rw [e, show w - j = (w - (j + 1)) + 1 by omega, xf, if_neg (by rw [h]; decide)]
theorem xf_hit {P : Nat → Bool} {w j : Nat} (hj : j < w) (h : P j = true) (e : xf P w 0 = xf P (w - j) j) : xf P w 0 = some j := by
  rw [e, show w - j = (w - (j + 1)) + 1 by omega, xf, if_pos h]
theorem xf_end {P : Nat → Bool} {w j : Nat} (hj : w ≤ j) (e : xf P w 0 = xf P (w - j) j) : xf P w 0 = none := by
  rw [e, show w - j = 0 by omega]; rfl
theorem xld_1 (hp : Nat → Int32) (x : Nat) : xld hp x 1 1 = hp x := by
  show (0 <<< (nI 8 &&& 31)) ||| hp (x + 0) = hp x
  rw [show (0 : Int32) <<< (nI 8 &&& 31) = 0 by decide, Nat.add_zero, Int32.zero_or]
end
section
def xLr (ap : Nat → Nat) (b : Bool) : Nat := if b = true then ap 9 else ap 5
def rCf (M : xMem) (R : xRn) (x : Int32) (i : Nat) : xRn := if mMf M x = true then R else rTell R 4 x i
def mFc (M : xMem) (x : Int32) : xMem := if mMf M x = true then mFx M x.toNatClampNeg else M
def rFc (M : xMem) (R : xRn) (x : Int32) : xRn := if mMf M x = true then R else rSetS R 4
theorem mMf_t {M : xMem} {x : Int32} (h : mMf M x = true) : ∃ n, x = nI n ∧ n < 512 ∧ (n ≠ 0 → 8 ≤ n ∧ 0 < mSz M (n / 8 - 1) ∧ mOw M (n / 8 - 1) = 1) ∧ x.toNatClampNeg = n := by
  unfold mMf at h
  rw [Bool.or_eq_true] at h
  rcases h with h | h
  · have e := of_decide_eq_true h
    exact ⟨0, e, by omega, fun h => absurd rfl h, by rw [e]; decide⟩
  · obtain ⟨n, h1, h2, h3, h4, h5, h6⟩ := mBl_inv h
    exact ⟨n, h1, h2, fun _ => ⟨h3, h4, h5⟩, h6⟩
theorem rChk_f {P : xPg} {M : xMem} {R : xRn} {i : Nat} (h : pO P i = 5) : rCf M R (rRg R (pA P i)) i = rChk P M R i := by
  unfold rCf
  cases c : mMf M (rRg R (pA P i)) with
  | true =>
    rw [if_pos rfl, rChk_a h]
    unfold mMf at c
    rw [Bool.or_eq_true] at c
    exact c.imp of_decide_eq_true id
  | false =>
    unfold mMf at c
    rw [Bool.or_eq_false_iff] at c
    rw [if_neg (by decide), rChk_b h (of_decide_eq_false c.1) c.2]
theorem rPf_5 {P : xPg} {M : xMem} {R : xRn} {i : Nat} (h : pO P i = 5) : rPf P M R i = (mFc M (rA P R i), rFc M R (rA P R i)) := by
  unfold mFc rFc
  cases c : mBl M (rA P R i) with
  | true =>
    have e : mMf M (rA P R i) = true := by unfold mMf; rw [c, Bool.or_true]
    obtain ⟨n, g1, g2, g3, g4, g5, g6⟩ := mBl_inv c
    rw [if_pos e, if_pos e, rPf_5a h c]
    unfold mFx
    rw [if_neg (by omega)]
  | false =>
    by_cases c0 : rA P R i = 0
    · have e : mMf M (rA P R i) = true := by unfold mMf; rw [decide_eq_true c0]; rfl
      rw [if_pos e, if_pos e, rPf_5c h c c0]
      unfold mFx
      rw [if_pos (by rw [c0]; decide)]
    · have e : ¬ mMf M (rA P R i) = true := by unfold mMf; rw [decide_eq_false c0, c]; decide
      rw [if_neg e, if_neg e, rPf_5b h c c0]
def rCo (P : xPg) (R : xRn) (i : Nat) : Int32 := if pO P i = 1 then rA P R i + rB P R i else if pO P i = 2 then rA P R i - rB P R i else if pO P i = 3 then rA P R i * rB P R i else if pO P i = 13 then rA P R i + pK P i else pK P i
theorem rPf_co {P : xPg} {M : xMem} {R : xRn} {i : Nat} (h : pO P i ≤ 3 ∨ pO P i = 13) : rPf P M R i = (M, rSetR R (pR P i) (rCo P R i)) := by
  unfold rCo
  rcases h with h | h
  · have : pO P i = 0 ∨ pO P i = 1 ∨ pO P i = 2 ∨ pO P i = 3 := by omega
    rcases this with c | c | c | c
    · rw [rPf_0 c, if_neg (by omega), if_neg (by omega), if_neg (by omega), if_neg (by omega)]
    · rw [rPf_1 c, if_pos c]
    · rw [rPf_2 c, if_neg (by omega), if_pos c]
    · rw [rPf_3 c, if_neg (by omega), if_neg (by omega), if_pos c]
  · rw [rPf_13 h, if_neg (by omega), if_neg (by omega), if_neg (by omega), if_pos h]
def rGj (P : xPg) (R : xRn) (i : Nat) : Bool := if pO P i = 10 then decide (rA P R i = 0) else decide (rA P R i < rB P R i)
theorem rGj_nx {P : xPg} {R : xRn} {i : Nat} (hj : pO P i = 10 ∨ pO P i = 11) (h : rGj P R i = true) : rNx P R i = (pK P i).toNatClampNeg := by
  unfold rGj at h
  unfold rNx
  rw [if_pos]
  split at h
  · rename_i c; exact Or.inl ⟨c, of_decide_eq_true h⟩
  · rename_i c; exact Or.inr ⟨by omega, of_decide_eq_true h⟩
theorem rGj_no {P : xPg} {R : xRn} {i : Nat} (h : rGj P R i = false) : rNx P R i = i + 1 := by
  unfold rGj at h
  refine rNx_s ?_
  rintro (⟨h1, h2⟩ | ⟨h1, h2⟩)
  · rw [if_pos h1] at h; exact of_decide_eq_false h h2
  · rw [if_neg (by omega)] at h; exact of_decide_eq_false h h2
theorem pOp_14 {P : xPg} {x : Nat} (hp : pOk P) (hx : x < pl P (pN P)) (h : pOp P x ≠ 15) (h2 : pOp P x ≠ 16) : pH P x = false ∧ pOp P x = pO P (pI P x) := by
  unfold pOp at h h2 ⊢
  cases c : pH P x with
  | false => exact ⟨rfl, rfl⟩
  | true =>
    exfalso
    rw [c] at h h2
    by_cases c5 : pO P (pI P x) = 5
    · simp [c5] at h2
    · simp [c5] at h
theorem pOp_15 {P : xPg} {x : Nat} (hp : pOk P) (hx : x < pl P (pN P)) (h : pOp P x = 15) : pH P x = true ∧ 6 ≤ pO P (pI P x) ∧ pO P (pI P x) ≤ 9 := by
  have ho := (hp.2 _ (pI_sp hx).1).1
  unfold pOp at h
  cases c : pH P x with
  | false => rw [c] at h; simp at h; omega
  | true =>
    have := pH_C c
    rw [c] at h
    by_cases c5 : pO P (pI P x) = 5
    · simp [c5] at h
    · exact ⟨rfl, by omega, by omega⟩
theorem pOp_16 {P : xPg} {x : Nat} (hp : pOk P) (hx : x < pl P (pN P)) (h : pOp P x = 16) : pH P x = true ∧ pO P (pI P x) = 5 := by
  have ho := (hp.2 _ (pI_sp hx).1).1
  unfold pOp at h
  cases c : pH P x with
  | false => rw [c] at h; simp at h; omega
  | true =>
    rw [c] at h
    by_cases c5 : pO P (pI P x) = 5
    · exact ⟨rfl, c5⟩
    · simp [c5] at h
/-- the line behind one that is no check -/
theorem pl_next {P : xPg} {x : Nat} (hx : x < pl P (pN P)) (h : pH P x = false) : x + 1 = pl P (pI P x + 1) := by
  obtain ⟨h1, h2, h3⟩ := pI_sp hx
  have hs := pl_s P (pI P x)
  unfold pH at h
  rw [Bool.and_eq_false_iff] at h
  cases c : pC P (pI P x) with
  | false => rw [c, if_neg (by decide)] at hs; omega
  | true =>
    rw [c, if_pos rfl] at hs
    rcases h with h | h
    · rw [c] at h; cases h
    · have := of_decide_eq_false h; omega
theorem pl_chk {P : xPg} {x : Nat} (hx : x < pl P (pN P)) (h : pH P x = true) : x + 1 < pl P (pN P) := by
  obtain ⟨h1, h2, h3⟩ := pI_sp hx
  have hs := pl_s P (pI P x)
  unfold pH at h
  rw [Bool.and_eq_true] at h
  rw [if_pos h.1] at hs
  have := of_decide_eq_true h.2
  have := pl_mono (P := P) (show pI P x + 1 ≤ pN P by omega)
  omega
theorem pl_n {P : xPg} {j : Nat} (hj : j ≤ pN P) : pl P (pN P) ≤ pl P j ↔ j = pN P := by
  constructor
  · intro h
    apply Classical.byContradiction
    intro hne
    have := pl_lt (P := P) (show j < pN P by omega)
    omega
  · intro h; rw [h]; exact Nat.le_refl _
/-- the line at which the run stands behind a step -/
noncomputable def rLn (P : xPg) (M : xMem) (R : xRn) : Nat := if rSt (rOne P M R).2 = 1 then rAt (rOne P M R).2 else rAt R
theorem rLn_1 {P : xPg} {M : xMem} {R : xRn} {V : xMem × xRn} (e : rOne P M R = V) (h : rSt V.2 = 1) : rLn P M R = rAt V.2 := by
  unfold rLn; rw [e, if_pos h]
theorem rLn_0 {P : xPg} {M : xMem} {R : xRn} {V : xMem × xRn} (e : rOne P M R = V) (h : ¬ rSt V.2 = 1) : rLn P M R = rAt R := by
  unfold rLn; rw [e, if_neg h]
theorem rNx_L (P : xPg) (R : xRn) (x i : Nat) : rNx P (rSetL R x) i = rNx P R i := rfl
end
section
theorem rTo_at (P : xPg) (M : xMem) (R : xRn) (i : Nat) (o : Option Nat) : rAt (rTo P M R i o) = rAt R := by
  cases o <;> rfl
theorem rTo_st (P : xPg) (M : xMem) (R : xRn) (i : Nat) (o : Option Nat) (h : rSt R ≤ 4) : rSt (rTo P M R i o) ≤ 4 := by
  cases o with
  | none => exact h
  | some j => exact (by decide : 3 ≤ 4)
theorem rCf_at (M : xMem) (R : xRn) (x : Int32) (i : Nat) : rAt (rCf M R x i) = rAt R := by
  unfold rCf; split <;> rfl
theorem rCf_st (M : xMem) (R : xRn) (x : Int32) (i : Nat) (h : rSt R ≤ 4) : rSt (rCf M R x i) ≤ 4 := by
  unfold rCf; split
  · exact h
  · exact (by decide : 3 ≤ 4)
theorem rPrint_st (R : xRn) (v : Int32) : rSt (rPrint R v) = rSt R := by
  unfold rPrint; split <;> rfl
end
section
abbrev wMo (cI : ClassId) (a : Nat → Nat) (cd : Nat) (P : xPg) (M : xMem) (R : xRn) : va_W := [(a 0, .inr (5, [.int (nI cd), .int (nI (pN P)), .ref (a 1), .ref (a 2), .ref (a 3), .ref (a 4), .ref (a 5), .ref (a 6), .ref (a 7), .ref (a 8), .ref (a 9), .int (nI (mQn M)), .ref (a 10), .int (nI (rSt R)), .int (zI (rCk R)), .int (nI (rAt R)), .int (nI (rLd R)), .ref (a 11), .int (nI (rPn R)), .ref (a 12), .int (nI (rKd R)), .int (rWh R), .int (nI (rWo R))])), (a 1, .inl (cI, 40, .inl (fun zz => nI ((pO P) zz)))), (a 2, .inl (cI, 40, .inl (fun zz => nI ((pR P) zz)))), (a 3, .inl (cI, 40, .inl (fun zz => nI ((pA P) zz)))), (a 4, .inl (cI, 40, .inl (fun zz => nI ((pB P) zz)))), (a 5, .inl (cI, 40, .inl (pK P))), (a 6, .inl (cI, 512, .inl (mHp M))), (a 7, .inl (cI, 64, .inl (mSh M))), (a 8, .inl (cI, 64, .inl (fun zz => nI ((mOw M) zz)))), (a 9, .inl (cI, 64, .inl (fun zz => nI ((mSz M) zz)))), (a 10, .inl (cI, 32, .inl (fun zz => nI ((mQf M) zz)))), (a 11, .inl (cI, 8, .inl (rRg R))), (a 12, .inl (cI, 60, .inl (rPr R)))]
abbrev wMe (cI cZ : ClassId) (am : Nat → Nat) (M : xMem) : va_W := [(am 0, .inr (1, [.ref (am 1), .ref (am 2), .ref (am 3), .ref (am 4), .ref (am 5), .int (nI (mSum M)), .int (nI (mQn M)), .int (nI (xc (mIs M 1) 64))])), (am 1, .inl (cI, 512, .inl (mHp M))), (am 2, .inl (cI, 64, .inl (mSh M))), (am 3, .inl (cI, 64, .inl (fun zz => nI ((mSz M) zz)))), (am 4, .inl (cZ, 64, .inl (fun zz => zI ((mIs M 2) zz)))), (am 5, .inl (cI, 64, .inl (fun zz => nI ((mQf M) zz))))]
abbrev wPr (cI : ClassId) (ap : Nat → Nat) (P : xPg) (L : xLs) : va_W := [(ap 0, .inr (2, [.ref (ap 1), .ref (ap 2), .ref (ap 3), .ref (ap 4), .ref (ap 5), .ref (ap 9)])), (ap 1, .inl (cI, 40, .inl (fun zz => nI ((pR P) zz)))), (ap 2, .inl (cI, 40, .inl (fun zz => nI ((pA P) zz)))), (ap 3, .inl (cI, 40, .inl (fun zz => nI ((pB P) zz)))), (ap 4, .inl (cI, 40, .inl (pK P))), (ap 5, .inr (0, [.ref (ap 6), .ref (ap 7), .ref (ap 8), .int (nI (pN P))])), (ap 6, .inl (cI, 40, .inl (fun zz => nI ((pO P) zz)))), (ap 7, .inl (cI, 40, .inl (fun zz => nI (((L).1) zz)))), (ap 8, .inl (cI, 40, .inl (fun zz => nI (((L).2.1) zz)))), (ap 9, .inr (0, [.ref (ap 10), .ref (ap 11), .ref (ap 12), .int (nI (pl P (pN P)))])), (ap 10, .inl (cI, 80, .inl (fun zz => nI (((L).2.2.1) zz)))), (ap 11, .inl (cI, 80, .inl (fun zz => nI (((L).2.2.2.1) zz)))), (ap 12, .inl (cI, 40, .inl (fun zz => nI (((L).2.2.2.2) zz))))]
abbrev wRu (cI : ClassId) (ar ap am : Nat → Nat) (lr : Nat) (R : xRn) (ln : Nat) : va_W := [(ar 0, .inr (3, [.ref (ap 0), .ref (am 0), .ref (ar 1), .ref (ar 2), .int (nI (rPn R)), .ref lr, .int (nI (rSt R)), .int (nI ln), .int (nI (rKd R)), .int (rWh R)])), (ar 1, .inl (cI, 8, .inl (rRg R))), (ar 2, .inl (cI, 60, .inl (rPr R)))]
end
section
abbrev rm_Mo_thrown : Room := { frames := 0, cells := 0, slots := 0, locals := 0 }
set_option maxHeartbeats 4000000 in
set_option maxRecDepth 100000 in
theorem c_Mo_thrown (l : Launch) (D : va_G) (cI cZ cJ : ClassId) (sz : Nat) (a : Nat → Nat) (cd : Nat) (P : xPg) (M : xMem) (R : xRn)   : xCi l D (xT cI cZ cJ) y_Mo_thrown k_Mo_thrown rm_Mo_thrown sz (wMo cI a cd P M R) [.ref (a 0)] (nI cd) (wMo cI a cd P M R) 0 0 := by
  refine x_ofi (cc := b_Mo_thrown) (nL := 1) (ret := (some .int)) (by decide) rfl (Nat.le_of_ble_eq_true rfl) ?_
  intro p e s m args below meth c ls A Q hQ hM hsz hP hK hD hA hl
  obtain ⟨hx, hb, -, hml, hown, hts, -⟩ := id hM
  have hS : va_S A s.heap s.heap [] := va_S.rf
  have hl : lv_has ls 1 [(0, .ref (a 0))] := hl
  have hP : va_P D vwCl [(a 0, .inr (5, [.int (nI cd), .int (nI (pN P)), .ref (a 1), .ref (a 2), .ref (a 3), .ref (a 4), .ref (a 5), .ref (a 6), .ref (a 7), .ref (a 8), .ref (a 9), .int (nI (mQn M)), .ref (a 10), .int (nI (rSt R)), .int (zI (rCk R)), .int (nI (rAt R)), .int (nI (rLd R)), .ref (a 11), .int (nI (rPn R)), .ref (a 12), .int (nI (rKd R)), .int (rWh R), .int (nI (rWo R))])), (a 1, .inl (cI, 40, .inl (fun zz => nI ((pO P) zz)))), (a 2, .inl (cI, 40, .inl (fun zz => nI ((pR P) zz)))), (a 3, .inl (cI, 40, .inl (fun zz => nI ((pA P) zz)))), (a 4, .inl (cI, 40, .inl (fun zz => nI ((pB P) zz)))), (a 5, .inl (cI, 40, .inl (pK P))), (a 6, .inl (cI, 512, .inl (mHp M))), (a 7, .inl (cI, 64, .inl (mSh M))), (a 8, .inl (cI, 64, .inl (fun zz => nI ((mOw M) zz)))), (a 9, .inl (cI, 64, .inl (fun zz => nI ((mSz M) zz)))), (a 10, .inl (cI, 32, .inl (fun zz => nI ((mQf M) zz)))), (a 11, .inl (cI, 8, .inl (rRg R))), (a 12, .inl (cI, 60, .inl (rPr R)))] s.heap := hP
  have hD : va_D A [(a 0, .inr (5, [.int (nI cd), .int (nI (pN P)), .ref (a 1), .ref (a 2), .ref (a 3), .ref (a 4), .ref (a 5), .ref (a 6), .ref (a 7), .ref (a 8), .ref (a 9), .int (nI (mQn M)), .ref (a 10), .int (nI (rSt R)), .int (zI (rCk R)), .int (nI (rAt R)), .int (nI (rLd R)), .ref (a 11), .int (nI (rPn R)), .ref (a 12), .int (nI (rKd R)), .int (rWh R), .int (nI (rWo R))])), (a 1, .inl (cI, 40, .inl (fun zz => nI ((pO P) zz)))), (a 2, .inl (cI, 40, .inl (fun zz => nI ((pR P) zz)))), (a 3, .inl (cI, 40, .inl (fun zz => nI ((pA P) zz)))), (a 4, .inl (cI, 40, .inl (fun zz => nI ((pB P) zz)))), (a 5, .inl (cI, 40, .inl (pK P))), (a 6, .inl (cI, 512, .inl (mHp M))), (a 7, .inl (cI, 64, .inl (mSh M))), (a 8, .inl (cI, 64, .inl (fun zz => nI ((mOw M) zz)))), (a 9, .inl (cI, 64, .inl (fun zz => nI ((mSz M) zz)))), (a 10, .inl (cI, 32, .inl (fun zz => nI ((mQf M) zz)))), (a 11, .inl (cI, 8, .inl (rRg R))), (a 12, .inl (cI, 60, .inl (rPr R)))] := hD
  refine lv_aload_n hx hb d_Mo_thrown_0 rfl (lv_at hl 0 rfl) ?_
  refine x_get hM hK hP 0 5 0 i_Mo rfl rfl (by decide) q_fl_Mo_49 rfl d_Mo_thrown_1 ?_
  exact x_iret hM hQ rfl rfl hP hK hD hS d_Mo_thrown_4
abbrev rm_Mo_refuse : Room := { frames := 0, cells := 0, slots := 0, locals := 0 }
set_option maxHeartbeats 4000000 in
set_option maxRecDepth 100000 in
theorem c_Mo_refuse (l : Launch) (D : va_G) (cI cZ cJ : ClassId) (sz : Nat) (a : Nat → Nat) (cd : Nat) (P : xPg) (M : xMem) (R : xRn) (k : Nat)  : xCi l D (xT cI cZ cJ) y_Mo_refuse k_Mo_refuse rm_Mo_refuse sz (wMo cI a cd P M R) [.ref (a 0), .int (nI k)] (nI 0) (wMo cI a k P M R) 0 0 := by
  refine x_ofi (cc := b_Mo_refuse) (nL := 2) (ret := (some .int)) (by decide) rfl (Nat.le_of_ble_eq_true rfl) ?_
  intro p e s m args below meth c ls A Q hQ hM hsz hP hK hD hA hl
  obtain ⟨hx, hb, -, hml, hown, hts, -⟩ := id hM
  have hS : va_S A s.heap s.heap [] := va_S.rf
  have hl : lv_has ls 2 [(0, .ref (a 0)), (1, .int (nI k))] := hl
  have hP : va_P D vwCl [(a 0, .inr (5, [.int (nI cd), .int (nI (pN P)), .ref (a 1), .ref (a 2), .ref (a 3), .ref (a 4), .ref (a 5), .ref (a 6), .ref (a 7), .ref (a 8), .ref (a 9), .int (nI (mQn M)), .ref (a 10), .int (nI (rSt R)), .int (zI (rCk R)), .int (nI (rAt R)), .int (nI (rLd R)), .ref (a 11), .int (nI (rPn R)), .ref (a 12), .int (nI (rKd R)), .int (rWh R), .int (nI (rWo R))])), (a 1, .inl (cI, 40, .inl (fun zz => nI ((pO P) zz)))), (a 2, .inl (cI, 40, .inl (fun zz => nI ((pR P) zz)))), (a 3, .inl (cI, 40, .inl (fun zz => nI ((pA P) zz)))), (a 4, .inl (cI, 40, .inl (fun zz => nI ((pB P) zz)))), (a 5, .inl (cI, 40, .inl (pK P))), (a 6, .inl (cI, 512, .inl (mHp M))), (a 7, .inl (cI, 64, .inl (mSh M))), (a 8, .inl (cI, 64, .inl (fun zz => nI ((mOw M) zz)))), (a 9, .inl (cI, 64, .inl (fun zz => nI ((mSz M) zz)))), (a 10, .inl (cI, 32, .inl (fun zz => nI ((mQf M) zz)))), (a 11, .inl (cI, 8, .inl (rRg R))), (a 12, .inl (cI, 60, .inl (rPr R)))] s.heap := hP
  have hD : va_D A [(a 0, .inr (5, [.int (nI cd), .int (nI (pN P)), .ref (a 1), .ref (a 2), .ref (a 3), .ref (a 4), .ref (a 5), .ref (a 6), .ref (a 7), .ref (a 8), .ref (a 9), .int (nI (mQn M)), .ref (a 10), .int (nI (rSt R)), .int (zI (rCk R)), .int (nI (rAt R)), .int (nI (rLd R)), .ref (a 11), .int (nI (rPn R)), .ref (a 12), .int (nI (rKd R)), .int (rWh R), .int (nI (rWo R))])), (a 1, .inl (cI, 40, .inl (fun zz => nI ((pO P) zz)))), (a 2, .inl (cI, 40, .inl (fun zz => nI ((pR P) zz)))), (a 3, .inl (cI, 40, .inl (fun zz => nI ((pA P) zz)))), (a 4, .inl (cI, 40, .inl (fun zz => nI ((pB P) zz)))), (a 5, .inl (cI, 40, .inl (pK P))), (a 6, .inl (cI, 512, .inl (mHp M))), (a 7, .inl (cI, 64, .inl (mSh M))), (a 8, .inl (cI, 64, .inl (fun zz => nI ((mOw M) zz)))), (a 9, .inl (cI, 64, .inl (fun zz => nI ((mSz M) zz)))), (a 10, .inl (cI, 32, .inl (fun zz => nI ((mQf M) zz)))), (a 11, .inl (cI, 8, .inl (rRg R))), (a 12, .inl (cI, 60, .inl (rPr R)))] := hD
  refine lv_aload_n hx hb d_Mo_refuse_0 rfl (lv_at hl 0 rfl) ?_
  refine lv_iload_n hx hb d_Mo_refuse_1 rfl (lv_at hl 1 rfl) ?_
  refine x_put hM hK hP hD hS 0 5 0 i_Mo t_Mo t_Mo_ok n_Mo rfl rfl (by decide) q_fl_Mo_49 rfl rfl rfl (Nat.le_of_ble_eq_true rfl) d_Mo_refuse_2 (fun H locs hP hD hS => ?_)
  have hP : va_P D vwCl [(a 0, .inr (5, [.int (nI k), .int (nI (pN P)), .ref (a 1), .ref (a 2), .ref (a 3), .ref (a 4), .ref (a 5), .ref (a 6), .ref (a 7), .ref (a 8), .ref (a 9), .int (nI (mQn M)), .ref (a 10), .int (nI (rSt R)), .int (zI (rCk R)), .int (nI (rAt R)), .int (nI (rLd R)), .ref (a 11), .int (nI (rPn R)), .ref (a 12), .int (nI (rKd R)), .int (rWh R), .int (nI (rWo R))])), (a 1, .inl (cI, 40, .inl (fun zz => nI ((pO P) zz)))), (a 2, .inl (cI, 40, .inl (fun zz => nI ((pR P) zz)))), (a 3, .inl (cI, 40, .inl (fun zz => nI ((pA P) zz)))), (a 4, .inl (cI, 40, .inl (fun zz => nI ((pB P) zz)))), (a 5, .inl (cI, 40, .inl (pK P))), (a 6, .inl (cI, 512, .inl (mHp M))), (a 7, .inl (cI, 64, .inl (mSh M))), (a 8, .inl (cI, 64, .inl (fun zz => nI ((mOw M) zz)))), (a 9, .inl (cI, 64, .inl (fun zz => nI ((mSz M) zz)))), (a 10, .inl (cI, 32, .inl (fun zz => nI ((mQf M) zz)))), (a 11, .inl (cI, 8, .inl (rRg R))), (a 12, .inl (cI, 60, .inl (rPr R)))] H := hP
  have hD : va_D A [(a 0, .inr (5, [.int (nI k), .int (nI (pN P)), .ref (a 1), .ref (a 2), .ref (a 3), .ref (a 4), .ref (a 5), .ref (a 6), .ref (a 7), .ref (a 8), .ref (a 9), .int (nI (mQn M)), .ref (a 10), .int (nI (rSt R)), .int (zI (rCk R)), .int (nI (rAt R)), .int (nI (rLd R)), .ref (a 11), .int (nI (rPn R)), .ref (a 12), .int (nI (rKd R)), .int (rWh R), .int (nI (rWo R))])), (a 1, .inl (cI, 40, .inl (fun zz => nI ((pO P) zz)))), (a 2, .inl (cI, 40, .inl (fun zz => nI ((pR P) zz)))), (a 3, .inl (cI, 40, .inl (fun zz => nI ((pA P) zz)))), (a 4, .inl (cI, 40, .inl (fun zz => nI ((pB P) zz)))), (a 5, .inl (cI, 40, .inl (pK P))), (a 6, .inl (cI, 512, .inl (mHp M))), (a 7, .inl (cI, 64, .inl (mSh M))), (a 8, .inl (cI, 64, .inl (fun zz => nI ((mOw M) zz)))), (a 9, .inl (cI, 64, .inl (fun zz => nI ((mSz M) zz)))), (a 10, .inl (cI, 32, .inl (fun zz => nI ((mQf M) zz)))), (a 11, .inl (cI, 8, .inl (rRg R))), (a 12, .inl (cI, 60, .inl (rPr R)))] := hD
  refine lv_iconst (v := nI 0) hx hb d_Mo_refuse_5 (by decide) ?_
  exact x_iret hM hQ rfl rfl hP hK hD hS d_Mo_refuse_6
abbrev rm_Mo_tell : Room := { frames := 0, cells := 0, slots := 0, locals := 0 }
set_option maxHeartbeats 4000000 in
set_option maxRecDepth 100000 in
theorem c_Mo_tell (l : Launch) (D : va_G) (cI cZ cJ : ClassId) (sz : Nat) (a : Nat → Nat) (cd : Nat) (P : xPg) (M : xMem) (R : xRn) (k : Nat) (x : Int32) (i : Nat)  : xCv l D (xT cI cZ cJ) y_Mo_tell k_Mo_tell rm_Mo_tell sz (wMo cI a cd P M R) [.ref (a 0), .int (nI k), .int x, .int (nI i)] (wMo cI a cd P M (rTell R k x i)) 0 0 := by
  refine x_ofv (cc := b_Mo_tell) (nL := 4) (ret := none) (by decide) rfl (Nat.le_of_ble_eq_true rfl) ?_
  intro p e s m args below meth c ls A Q hQ hM hsz hP hK hD hA hl
  obtain ⟨hx, hb, -, hml, hown, hts, -⟩ := id hM
  have hS : va_S A s.heap s.heap [] := va_S.rf
  have hl : lv_has ls 4 [(0, .ref (a 0)), (1, .int (nI k)), (2, .int x), (3, .int (nI i))] := hl
  have hP : va_P D vwCl [(a 0, .inr (5, [.int (nI cd), .int (nI (pN P)), .ref (a 1), .ref (a 2), .ref (a 3), .ref (a 4), .ref (a 5), .ref (a 6), .ref (a 7), .ref (a 8), .ref (a 9), .int (nI (mQn M)), .ref (a 10), .int (nI (rSt R)), .int (zI (rCk R)), .int (nI (rAt R)), .int (nI (rLd R)), .ref (a 11), .int (nI (rPn R)), .ref (a 12), .int (nI (rKd R)), .int (rWh R), .int (nI (rWo R))])), (a 1, .inl (cI, 40, .inl (fun zz => nI ((pO P) zz)))), (a 2, .inl (cI, 40, .inl (fun zz => nI ((pR P) zz)))), (a 3, .inl (cI, 40, .inl (fun zz => nI ((pA P) zz)))), (a 4, .inl (cI, 40, .inl (fun zz => nI ((pB P) zz)))), (a 5, .inl (cI, 40, .inl (pK P))), (a 6, .inl (cI, 512, .inl (mHp M))), (a 7, .inl (cI, 64, .inl (mSh M))), (a 8, .inl (cI, 64, .inl (fun zz => nI ((mOw M) zz)))), (a 9, .inl (cI, 64, .inl (fun zz => nI ((mSz M) zz)))), (a 10, .inl (cI, 32, .inl (fun zz => nI ((mQf M) zz)))), (a 11, .inl (cI, 8, .inl (rRg R))), (a 12, .inl (cI, 60, .inl (rPr R)))] s.heap := hP
  have hD : va_D A [(a 0, .inr (5, [.int (nI cd), .int (nI (pN P)), .ref (a 1), .ref (a 2), .ref (a 3), .ref (a 4), .ref (a 5), .ref (a 6), .ref (a 7), .ref (a 8), .ref (a 9), .int (nI (mQn M)), .ref (a 10), .int (nI (rSt R)), .int (zI (rCk R)), .int (nI (rAt R)), .int (nI (rLd R)), .ref (a 11), .int (nI (rPn R)), .ref (a 12), .int (nI (rKd R)), .int (rWh R), .int (nI (rWo R))])), (a 1, .inl (cI, 40, .inl (fun zz => nI ((pO P) zz)))), (a 2, .inl (cI, 40, .inl (fun zz => nI ((pR P) zz)))), (a 3, .inl (cI, 40, .inl (fun zz => nI ((pA P) zz)))), (a 4, .inl (cI, 40, .inl (fun zz => nI ((pB P) zz)))), (a 5, .inl (cI, 40, .inl (pK P))), (a 6, .inl (cI, 512, .inl (mHp M))), (a 7, .inl (cI, 64, .inl (mSh M))), (a 8, .inl (cI, 64, .inl (fun zz => nI ((mOw M) zz)))), (a 9, .inl (cI, 64, .inl (fun zz => nI ((mSz M) zz)))), (a 10, .inl (cI, 32, .inl (fun zz => nI ((mQf M) zz)))), (a 11, .inl (cI, 8, .inl (rRg R))), (a 12, .inl (cI, 60, .inl (rPr R)))] := hD
  refine lv_aload_n hx hb d_Mo_tell_0 rfl (lv_at hl 0 rfl) ?_
  refine lv_iconst (v := nI 3) hx hb d_Mo_tell_1 (by decide) ?_
  refine x_put hM hK hP hD hS 0 5 13 i_Mo t_Mo t_Mo_ok n_Mo rfl rfl (by decide) q_fl_Mo_64 rfl rfl rfl (Nat.le_of_ble_eq_true rfl) d_Mo_tell_2 (fun H locs hP hD hS => ?_)
  have hP : va_P D vwCl [(a 0, .inr (5, [.int (nI cd), .int (nI (pN P)), .ref (a 1), .ref (a 2), .ref (a 3), .ref (a 4), .ref (a 5), .ref (a 6), .ref (a 7), .ref (a 8), .ref (a 9), .int (nI (mQn M)), .ref (a 10), .int (nI 3), .int (zI (rCk R)), .int (nI (rAt R)), .int (nI (rLd R)), .ref (a 11), .int (nI (rPn R)), .ref (a 12), .int (nI (rKd R)), .int (rWh R), .int (nI (rWo R))])), (a 1, .inl (cI, 40, .inl (fun zz => nI ((pO P) zz)))), (a 2, .inl (cI, 40, .inl (fun zz => nI ((pR P) zz)))), (a 3, .inl (cI, 40, .inl (fun zz => nI ((pA P) zz)))), (a 4, .inl (cI, 40, .inl (fun zz => nI ((pB P) zz)))), (a 5, .inl (cI, 40, .inl (pK P))), (a 6, .inl (cI, 512, .inl (mHp M))), (a 7, .inl (cI, 64, .inl (mSh M))), (a 8, .inl (cI, 64, .inl (fun zz => nI ((mOw M) zz)))), (a 9, .inl (cI, 64, .inl (fun zz => nI ((mSz M) zz)))), (a 10, .inl (cI, 32, .inl (fun zz => nI ((mQf M) zz)))), (a 11, .inl (cI, 8, .inl (rRg R))), (a 12, .inl (cI, 60, .inl (rPr R)))] H := hP
  have hD : va_D A [(a 0, .inr (5, [.int (nI cd), .int (nI (pN P)), .ref (a 1), .ref (a 2), .ref (a 3), .ref (a 4), .ref (a 5), .ref (a 6), .ref (a 7), .ref (a 8), .ref (a 9), .int (nI (mQn M)), .ref (a 10), .int (nI 3), .int (zI (rCk R)), .int (nI (rAt R)), .int (nI (rLd R)), .ref (a 11), .int (nI (rPn R)), .ref (a 12), .int (nI (rKd R)), .int (rWh R), .int (nI (rWo R))])), (a 1, .inl (cI, 40, .inl (fun zz => nI ((pO P) zz)))), (a 2, .inl (cI, 40, .inl (fun zz => nI ((pR P) zz)))), (a 3, .inl (cI, 40, .inl (fun zz => nI ((pA P) zz)))), (a 4, .inl (cI, 40, .inl (fun zz => nI ((pB P) zz)))), (a 5, .inl (cI, 40, .inl (pK P))), (a 6, .inl (cI, 512, .inl (mHp M))), (a 7, .inl (cI, 64, .inl (mSh M))), (a 8, .inl (cI, 64, .inl (fun zz => nI ((mOw M) zz)))), (a 9, .inl (cI, 64, .inl (fun zz => nI ((mSz M) zz)))), (a 10, .inl (cI, 32, .inl (fun zz => nI ((mQf M) zz)))), (a 11, .inl (cI, 8, .inl (rRg R))), (a 12, .inl (cI, 60, .inl (rPr R)))] := hD
  refine lv_aload_n hx hb d_Mo_tell_5 rfl (lv_at hl 0 rfl) ?_
  refine lv_iload_n hx hb d_Mo_tell_6 rfl (lv_at hl 1 rfl) ?_
  refine x_put hM hK hP hD hS 0 5 20 i_Mo t_Mo t_Mo_ok n_Mo rfl rfl (by decide) q_fl_Mo_112 rfl rfl rfl (Nat.le_of_ble_eq_true rfl) d_Mo_tell_7 (fun H locs hP hD hS => ?_)
  have hP : va_P D vwCl [(a 0, .inr (5, [.int (nI cd), .int (nI (pN P)), .ref (a 1), .ref (a 2), .ref (a 3), .ref (a 4), .ref (a 5), .ref (a 6), .ref (a 7), .ref (a 8), .ref (a 9), .int (nI (mQn M)), .ref (a 10), .int (nI 3), .int (zI (rCk R)), .int (nI (rAt R)), .int (nI (rLd R)), .ref (a 11), .int (nI (rPn R)), .ref (a 12), .int (nI k), .int (rWh R), .int (nI (rWo R))])), (a 1, .inl (cI, 40, .inl (fun zz => nI ((pO P) zz)))), (a 2, .inl (cI, 40, .inl (fun zz => nI ((pR P) zz)))), (a 3, .inl (cI, 40, .inl (fun zz => nI ((pA P) zz)))), (a 4, .inl (cI, 40, .inl (fun zz => nI ((pB P) zz)))), (a 5, .inl (cI, 40, .inl (pK P))), (a 6, .inl (cI, 512, .inl (mHp M))), (a 7, .inl (cI, 64, .inl (mSh M))), (a 8, .inl (cI, 64, .inl (fun zz => nI ((mOw M) zz)))), (a 9, .inl (cI, 64, .inl (fun zz => nI ((mSz M) zz)))), (a 10, .inl (cI, 32, .inl (fun zz => nI ((mQf M) zz)))), (a 11, .inl (cI, 8, .inl (rRg R))), (a 12, .inl (cI, 60, .inl (rPr R)))] H := hP
  have hD : va_D A [(a 0, .inr (5, [.int (nI cd), .int (nI (pN P)), .ref (a 1), .ref (a 2), .ref (a 3), .ref (a 4), .ref (a 5), .ref (a 6), .ref (a 7), .ref (a 8), .ref (a 9), .int (nI (mQn M)), .ref (a 10), .int (nI 3), .int (zI (rCk R)), .int (nI (rAt R)), .int (nI (rLd R)), .ref (a 11), .int (nI (rPn R)), .ref (a 12), .int (nI k), .int (rWh R), .int (nI (rWo R))])), (a 1, .inl (cI, 40, .inl (fun zz => nI ((pO P) zz)))), (a 2, .inl (cI, 40, .inl (fun zz => nI ((pR P) zz)))), (a 3, .inl (cI, 40, .inl (fun zz => nI ((pA P) zz)))), (a 4, .inl (cI, 40, .inl (fun zz => nI ((pB P) zz)))), (a 5, .inl (cI, 40, .inl (pK P))), (a 6, .inl (cI, 512, .inl (mHp M))), (a 7, .inl (cI, 64, .inl (mSh M))), (a 8, .inl (cI, 64, .inl (fun zz => nI ((mOw M) zz)))), (a 9, .inl (cI, 64, .inl (fun zz => nI ((mSz M) zz)))), (a 10, .inl (cI, 32, .inl (fun zz => nI ((mQf M) zz)))), (a 11, .inl (cI, 8, .inl (rRg R))), (a 12, .inl (cI, 60, .inl (rPr R)))] := hD
  refine lv_aload_n hx hb d_Mo_tell_10 rfl (lv_at hl 0 rfl) ?_
  refine lv_iload_n hx hb d_Mo_tell_11 rfl (lv_at hl 2 rfl) ?_
  refine x_put hM hK hP hD hS 0 5 21 i_Mo t_Mo t_Mo_ok n_Mo rfl rfl (by decide) q_fl_Mo_115 rfl rfl rfl (Nat.le_of_ble_eq_true rfl) d_Mo_tell_12 (fun H locs hP hD hS => ?_)
  have hP : va_P D vwCl [(a 0, .inr (5, [.int (nI cd), .int (nI (pN P)), .ref (a 1), .ref (a 2), .ref (a 3), .ref (a 4), .ref (a 5), .ref (a 6), .ref (a 7), .ref (a 8), .ref (a 9), .int (nI (mQn M)), .ref (a 10), .int (nI 3), .int (zI (rCk R)), .int (nI (rAt R)), .int (nI (rLd R)), .ref (a 11), .int (nI (rPn R)), .ref (a 12), .int (nI k), .int x, .int (nI (rWo R))])), (a 1, .inl (cI, 40, .inl (fun zz => nI ((pO P) zz)))), (a 2, .inl (cI, 40, .inl (fun zz => nI ((pR P) zz)))), (a 3, .inl (cI, 40, .inl (fun zz => nI ((pA P) zz)))), (a 4, .inl (cI, 40, .inl (fun zz => nI ((pB P) zz)))), (a 5, .inl (cI, 40, .inl (pK P))), (a 6, .inl (cI, 512, .inl (mHp M))), (a 7, .inl (cI, 64, .inl (mSh M))), (a 8, .inl (cI, 64, .inl (fun zz => nI ((mOw M) zz)))), (a 9, .inl (cI, 64, .inl (fun zz => nI ((mSz M) zz)))), (a 10, .inl (cI, 32, .inl (fun zz => nI ((mQf M) zz)))), (a 11, .inl (cI, 8, .inl (rRg R))), (a 12, .inl (cI, 60, .inl (rPr R)))] H := hP
  have hD : va_D A [(a 0, .inr (5, [.int (nI cd), .int (nI (pN P)), .ref (a 1), .ref (a 2), .ref (a 3), .ref (a 4), .ref (a 5), .ref (a 6), .ref (a 7), .ref (a 8), .ref (a 9), .int (nI (mQn M)), .ref (a 10), .int (nI 3), .int (zI (rCk R)), .int (nI (rAt R)), .int (nI (rLd R)), .ref (a 11), .int (nI (rPn R)), .ref (a 12), .int (nI k), .int x, .int (nI (rWo R))])), (a 1, .inl (cI, 40, .inl (fun zz => nI ((pO P) zz)))), (a 2, .inl (cI, 40, .inl (fun zz => nI ((pR P) zz)))), (a 3, .inl (cI, 40, .inl (fun zz => nI ((pA P) zz)))), (a 4, .inl (cI, 40, .inl (fun zz => nI ((pB P) zz)))), (a 5, .inl (cI, 40, .inl (pK P))), (a 6, .inl (cI, 512, .inl (mHp M))), (a 7, .inl (cI, 64, .inl (mSh M))), (a 8, .inl (cI, 64, .inl (fun zz => nI ((mOw M) zz)))), (a 9, .inl (cI, 64, .inl (fun zz => nI ((mSz M) zz)))), (a 10, .inl (cI, 32, .inl (fun zz => nI ((mQf M) zz)))), (a 11, .inl (cI, 8, .inl (rRg R))), (a 12, .inl (cI, 60, .inl (rPr R)))] := hD
  refine lv_aload_n hx hb d_Mo_tell_15 rfl (lv_at hl 0 rfl) ?_
  refine lv_iload_n hx hb d_Mo_tell_16 rfl (lv_at hl 3 rfl) ?_
  refine x_put hM hK hP hD hS 0 5 22 i_Mo t_Mo t_Mo_ok n_Mo rfl rfl (by decide) q_fl_Mo_118 rfl rfl rfl (Nat.le_of_ble_eq_true rfl) d_Mo_tell_17 (fun H locs hP hD hS => ?_)
  have hP : va_P D vwCl [(a 0, .inr (5, [.int (nI cd), .int (nI (pN P)), .ref (a 1), .ref (a 2), .ref (a 3), .ref (a 4), .ref (a 5), .ref (a 6), .ref (a 7), .ref (a 8), .ref (a 9), .int (nI (mQn M)), .ref (a 10), .int (nI 3), .int (zI (rCk R)), .int (nI (rAt R)), .int (nI (rLd R)), .ref (a 11), .int (nI (rPn R)), .ref (a 12), .int (nI k), .int x, .int (nI i)])), (a 1, .inl (cI, 40, .inl (fun zz => nI ((pO P) zz)))), (a 2, .inl (cI, 40, .inl (fun zz => nI ((pR P) zz)))), (a 3, .inl (cI, 40, .inl (fun zz => nI ((pA P) zz)))), (a 4, .inl (cI, 40, .inl (fun zz => nI ((pB P) zz)))), (a 5, .inl (cI, 40, .inl (pK P))), (a 6, .inl (cI, 512, .inl (mHp M))), (a 7, .inl (cI, 64, .inl (mSh M))), (a 8, .inl (cI, 64, .inl (fun zz => nI ((mOw M) zz)))), (a 9, .inl (cI, 64, .inl (fun zz => nI ((mSz M) zz)))), (a 10, .inl (cI, 32, .inl (fun zz => nI ((mQf M) zz)))), (a 11, .inl (cI, 8, .inl (rRg R))), (a 12, .inl (cI, 60, .inl (rPr R)))] H := hP
  have hD : va_D A [(a 0, .inr (5, [.int (nI cd), .int (nI (pN P)), .ref (a 1), .ref (a 2), .ref (a 3), .ref (a 4), .ref (a 5), .ref (a 6), .ref (a 7), .ref (a 8), .ref (a 9), .int (nI (mQn M)), .ref (a 10), .int (nI 3), .int (zI (rCk R)), .int (nI (rAt R)), .int (nI (rLd R)), .ref (a 11), .int (nI (rPn R)), .ref (a 12), .int (nI k), .int x, .int (nI i)])), (a 1, .inl (cI, 40, .inl (fun zz => nI ((pO P) zz)))), (a 2, .inl (cI, 40, .inl (fun zz => nI ((pR P) zz)))), (a 3, .inl (cI, 40, .inl (fun zz => nI ((pA P) zz)))), (a 4, .inl (cI, 40, .inl (fun zz => nI ((pB P) zz)))), (a 5, .inl (cI, 40, .inl (pK P))), (a 6, .inl (cI, 512, .inl (mHp M))), (a 7, .inl (cI, 64, .inl (mSh M))), (a 8, .inl (cI, 64, .inl (fun zz => nI ((mOw M) zz)))), (a 9, .inl (cI, 64, .inl (fun zz => nI ((mSz M) zz)))), (a 10, .inl (cI, 32, .inl (fun zz => nI ((mQf M) zz)))), (a 11, .inl (cI, 8, .inl (rRg R))), (a 12, .inl (cI, 60, .inl (rPr R)))] := hD
  exact x_vret hM hQ rfl hP hK hD hS d_Mo_tell_20
abbrev rm_Mo_isChecked : Room := { frames := 0, cells := 0, slots := 0, locals := 0 }
set_option maxHeartbeats 4000000 in
set_option maxRecDepth 100000 in
theorem c_Mo_isChecked (l : Launch) (D : va_G) (cI cZ cJ : ClassId) (sz : Nat) (a : Nat → Nat) (cd : Nat) (P : xPg) (M : xMem) (R : xRn) (i : Nat) (hi : i < 40) (ho : pO P i < 2 ^ 31) : xCi l D (xT cI cZ cJ) y_Mo_isChecked k_Mo_isChecked rm_Mo_isChecked sz (wMo cI a cd P M R) [.ref (a 0), .int (nI i)] (zI (pC P i)) (wMo cI a cd P M R) 0 0 := by
  refine x_ofi (cc := b_Mo_isChecked) (nL := 2) (ret := (some .boolean)) (by decide) rfl (Nat.le_of_ble_eq_true rfl) ?_
  intro p e s m args below meth c ls A Q hQ hM hsz hP hK hD hA hl
  obtain ⟨hx, hb, -, hml, hown, hts, -⟩ := id hM
  have hS : va_S A s.heap s.heap [] := va_S.rf
  have hl : lv_has ls 2 [(0, .ref (a 0)), (1, .int (nI i))] := hl
  have hP : va_P D vwCl [(a 0, .inr (5, [.int (nI cd), .int (nI (pN P)), .ref (a 1), .ref (a 2), .ref (a 3), .ref (a 4), .ref (a 5), .ref (a 6), .ref (a 7), .ref (a 8), .ref (a 9), .int (nI (mQn M)), .ref (a 10), .int (nI (rSt R)), .int (zI (rCk R)), .int (nI (rAt R)), .int (nI (rLd R)), .ref (a 11), .int (nI (rPn R)), .ref (a 12), .int (nI (rKd R)), .int (rWh R), .int (nI (rWo R))])), (a 1, .inl (cI, 40, .inl (fun zz => nI ((pO P) zz)))), (a 2, .inl (cI, 40, .inl (fun zz => nI ((pR P) zz)))), (a 3, .inl (cI, 40, .inl (fun zz => nI ((pA P) zz)))), (a 4, .inl (cI, 40, .inl (fun zz => nI ((pB P) zz)))), (a 5, .inl (cI, 40, .inl (pK P))), (a 6, .inl (cI, 512, .inl (mHp M))), (a 7, .inl (cI, 64, .inl (mSh M))), (a 8, .inl (cI, 64, .inl (fun zz => nI ((mOw M) zz)))), (a 9, .inl (cI, 64, .inl (fun zz => nI ((mSz M) zz)))), (a 10, .inl (cI, 32, .inl (fun zz => nI ((mQf M) zz)))), (a 11, .inl (cI, 8, .inl (rRg R))), (a 12, .inl (cI, 60, .inl (rPr R)))] s.heap := hP
  have hD : va_D A [(a 0, .inr (5, [.int (nI cd), .int (nI (pN P)), .ref (a 1), .ref (a 2), .ref (a 3), .ref (a 4), .ref (a 5), .ref (a 6), .ref (a 7), .ref (a 8), .ref (a 9), .int (nI (mQn M)), .ref (a 10), .int (nI (rSt R)), .int (zI (rCk R)), .int (nI (rAt R)), .int (nI (rLd R)), .ref (a 11), .int (nI (rPn R)), .ref (a 12), .int (nI (rKd R)), .int (rWh R), .int (nI (rWo R))])), (a 1, .inl (cI, 40, .inl (fun zz => nI ((pO P) zz)))), (a 2, .inl (cI, 40, .inl (fun zz => nI ((pR P) zz)))), (a 3, .inl (cI, 40, .inl (fun zz => nI ((pA P) zz)))), (a 4, .inl (cI, 40, .inl (fun zz => nI ((pB P) zz)))), (a 5, .inl (cI, 40, .inl (pK P))), (a 6, .inl (cI, 512, .inl (mHp M))), (a 7, .inl (cI, 64, .inl (mSh M))), (a 8, .inl (cI, 64, .inl (fun zz => nI ((mOw M) zz)))), (a 9, .inl (cI, 64, .inl (fun zz => nI ((mSz M) zz)))), (a 10, .inl (cI, 32, .inl (fun zz => nI ((mQf M) zz)))), (a 11, .inl (cI, 8, .inl (rRg R))), (a 12, .inl (cI, 60, .inl (rPr R)))] := hD
  refine lv_aload_n hx hb d_Mo_isChecked_0 rfl (lv_at hl 0 rfl) ?_
  refine x_get hM hK hP 0 5 2 i_Mo rfl rfl (by decide) q_fl_Mo_7 rfl d_Mo_isChecked_1 ?_
  refine lv_iload_n hx hb d_Mo_isChecked_4 rfl (lv_at hl 1 rfl) ?_
  refine x_iald hM hK hP 1 0 rfl rfl (by omega) (by decide) d_Mo_isChecked_5 ?_
  refine lv_iconst (v := nI 4) hx hb d_Mo_isChecked_6 (by decide) ?_
  refine x_icmp_le (tgt := 25) hM (by omega) (by omega) d_Mo_isChecked_7 (by decide) (fun hc7 => ?_) (fun hc7 => ?_)
  · skip
    refine lv_iconst (v := nI 0) hx hb d_Mo_isChecked_25 (by decide) ?_
    exact x_zret hM hQ (by decide) (by exact x_z0 (decide_eq_false (by omega))) rfl hP hK hD hS d_Mo_isChecked_26
  · skip
    refine lv_aload_n hx hb d_Mo_isChecked_10 rfl (lv_at hl 0 rfl) ?_
    refine x_get hM hK hP 0 5 2 i_Mo rfl rfl (by decide) q_fl_Mo_7 rfl d_Mo_isChecked_11 ?_
    refine lv_iload_n hx hb d_Mo_isChecked_14 rfl (lv_at hl 1 rfl) ?_
    refine x_iald hM hK hP 1 0 rfl rfl (by omega) (by decide) d_Mo_isChecked_15 ?_
    refine lv_bipush (v := nI 10) hx hb d_Mo_isChecked_16 (by decide) ?_
    refine x_icmp_ge (tgt := 25) hM (by omega) (by omega) d_Mo_isChecked_18 (by decide) (fun hc18 => ?_) (fun hc18 => ?_)
    · skip
      refine lv_iconst (v := nI 0) hx hb d_Mo_isChecked_25 (by decide) ?_
      exact x_zret hM hQ (by decide) (by exact x_z0 (decide_eq_false (by omega))) rfl hP hK hD hS d_Mo_isChecked_26
    · skip
      refine lv_iconst (v := nI 1) hx hb d_Mo_isChecked_21 (by decide) ?_
      refine lv_goto hx hb d_Mo_isChecked_22 (tgt := 26) (by decide) ?_
      exact x_zret hM hQ (by decide) (by exact x_z1 (decide_eq_true (by omega))) rfl hP hK hD hS d_Mo_isChecked_26
abbrev rm_Mo_place : Room := { frames := 1, cells := 0, slots := 0, locals := 21 }
set_option maxHeartbeats 4000000 in
set_option maxRecDepth 100000 in
theorem c_Mo_place (l : Launch) (D : va_G) (cI cZ cJ : ClassId) (sz : Nat) (a : Nat → Nat) (cd : Nat) (P : xPg) (M : xMem) (R : xRn) (i : Nat) (hp : pOk P) (hi : i ≤ pN P) : xCi l D (xT cI cZ cJ) y_Mo_place k_Mo_place rm_Mo_place sz (wMo cI a cd P M R) [.ref (a 0), .int (nI i)] (nI (pl P i)) (wMo cI a cd P M R) 0 0 := by
  refine x_ofi (cc := b_Mo_place) (nL := 4) (ret := (some .int)) (by decide) rfl (Nat.le_of_ble_eq_true rfl) ?_
  intro p e s m args below meth c ls A Q hQ hM hsz hP hK hD hA hl
  obtain ⟨hx, hb, -, hml, hown, hts, -⟩ := id hM
  have hS : va_S A s.heap s.heap [] := va_S.rf
  have hl : lv_has ls 4 [(0, .ref (a 0)), (1, .int (nI i))] := hl
  have hP : va_P D vwCl [(a 0, .inr (5, [.int (nI cd), .int (nI (pN P)), .ref (a 1), .ref (a 2), .ref (a 3), .ref (a 4), .ref (a 5), .ref (a 6), .ref (a 7), .ref (a 8), .ref (a 9), .int (nI (mQn M)), .ref (a 10), .int (nI (rSt R)), .int (zI (rCk R)), .int (nI (rAt R)), .int (nI (rLd R)), .ref (a 11), .int (nI (rPn R)), .ref (a 12), .int (nI (rKd R)), .int (rWh R), .int (nI (rWo R))])), (a 1, .inl (cI, 40, .inl (fun zz => nI ((pO P) zz)))), (a 2, .inl (cI, 40, .inl (fun zz => nI ((pR P) zz)))), (a 3, .inl (cI, 40, .inl (fun zz => nI ((pA P) zz)))), (a 4, .inl (cI, 40, .inl (fun zz => nI ((pB P) zz)))), (a 5, .inl (cI, 40, .inl (pK P))), (a 6, .inl (cI, 512, .inl (mHp M))), (a 7, .inl (cI, 64, .inl (mSh M))), (a 8, .inl (cI, 64, .inl (fun zz => nI ((mOw M) zz)))), (a 9, .inl (cI, 64, .inl (fun zz => nI ((mSz M) zz)))), (a 10, .inl (cI, 32, .inl (fun zz => nI ((mQf M) zz)))), (a 11, .inl (cI, 8, .inl (rRg R))), (a 12, .inl (cI, 60, .inl (rPr R)))] s.heap := hP
  have hD : va_D A [(a 0, .inr (5, [.int (nI cd), .int (nI (pN P)), .ref (a 1), .ref (a 2), .ref (a 3), .ref (a 4), .ref (a 5), .ref (a 6), .ref (a 7), .ref (a 8), .ref (a 9), .int (nI (mQn M)), .ref (a 10), .int (nI (rSt R)), .int (zI (rCk R)), .int (nI (rAt R)), .int (nI (rLd R)), .ref (a 11), .int (nI (rPn R)), .ref (a 12), .int (nI (rKd R)), .int (rWh R), .int (nI (rWo R))])), (a 1, .inl (cI, 40, .inl (fun zz => nI ((pO P) zz)))), (a 2, .inl (cI, 40, .inl (fun zz => nI ((pR P) zz)))), (a 3, .inl (cI, 40, .inl (fun zz => nI ((pA P) zz)))), (a 4, .inl (cI, 40, .inl (fun zz => nI ((pB P) zz)))), (a 5, .inl (cI, 40, .inl (pK P))), (a 6, .inl (cI, 512, .inl (mHp M))), (a 7, .inl (cI, 64, .inl (mSh M))), (a 8, .inl (cI, 64, .inl (fun zz => nI ((mOw M) zz)))), (a 9, .inl (cI, 64, .inl (fun zz => nI ((mSz M) zz)))), (a 10, .inl (cI, 32, .inl (fun zz => nI ((mQf M) zz)))), (a 11, .inl (cI, 8, .inl (rRg R))), (a 12, .inl (cI, 60, .inl (rPr R)))] := hD
  have hn := hp.1
  refine lv_iload_n hx hb d_Mo_place_0 rfl (lv_at hl 1 rfl) ?_
  refine lv_istore_n hx hb d_Mo_place_1 rfl hl (by decide) rfl (fun ls hl => ?_)
  have hl : lv_has ls 4 [(2, .int (nI i)), (0, .ref (a 0)), (1, .int (nI i))] := hl
  refine lv_iconst (v := nI 0) hx hb d_Mo_place_2 (by decide) ?_
  refine lv_istore_n hx hb d_Mo_place_3 rfl hl (by decide) rfl (fun ls hl => ?_)
  have hl : lv_has ls 4 [(3, .int (nI 0)), (2, .int (nI i)), (0, .ref (a 0)), (1, .int (nI i))] := hl
  have loop4 : ∀ (K4 : Nat) (j : Nat) (ls : Array Slot) (H : Heap) (locs : List Loc), (j ≤ i) → i - j = K4 → lv_has ls 4 [(3, .int (nI j)), (2, .int (nI (i + xc (pC P) j))), (0, .ref (a 0)), (1, .int (nI i))] → va_P D vwCl [(a 0, .inr (5, [.int (nI cd), .int (nI (pN P)), .ref (a 1), .ref (a 2), .ref (a 3), .ref (a 4), .ref (a 5), .ref (a 6), .ref (a 7), .ref (a 8), .ref (a 9), .int (nI (mQn M)), .ref (a 10), .int (nI (rSt R)), .int (zI (rCk R)), .int (nI (rAt R)), .int (nI (rLd R)), .ref (a 11), .int (nI (rPn R)), .ref (a 12), .int (nI (rKd R)), .int (rWh R), .int (nI (rWo R))])), (a 1, .inl (cI, 40, .inl (fun zz => nI ((pO P) zz)))), (a 2, .inl (cI, 40, .inl (fun zz => nI ((pR P) zz)))), (a 3, .inl (cI, 40, .inl (fun zz => nI ((pA P) zz)))), (a 4, .inl (cI, 40, .inl (fun zz => nI ((pB P) zz)))), (a 5, .inl (cI, 40, .inl (pK P))), (a 6, .inl (cI, 512, .inl (mHp M))), (a 7, .inl (cI, 64, .inl (mSh M))), (a 8, .inl (cI, 64, .inl (fun zz => nI ((mOw M) zz)))), (a 9, .inl (cI, 64, .inl (fun zz => nI ((mSz M) zz)))), (a 10, .inl (cI, 32, .inl (fun zz => nI ((mQf M) zz)))), (a 11, .inl (cI, 8, .inl (rRg R))), (a 12, .inl (cI, 60, .inl (rPr R)))] H → va_D A [(a 0, .inr (5, [.int (nI cd), .int (nI (pN P)), .ref (a 1), .ref (a 2), .ref (a 3), .ref (a 4), .ref (a 5), .ref (a 6), .ref (a 7), .ref (a 8), .ref (a 9), .int (nI (mQn M)), .ref (a 10), .int (nI (rSt R)), .int (zI (rCk R)), .int (nI (rAt R)), .int (nI (rLd R)), .ref (a 11), .int (nI (rPn R)), .ref (a 12), .int (nI (rKd R)), .int (rWh R), .int (nI (rWo R))])), (a 1, .inl (cI, 40, .inl (fun zz => nI ((pO P) zz)))), (a 2, .inl (cI, 40, .inl (fun zz => nI ((pR P) zz)))), (a 3, .inl (cI, 40, .inl (fun zz => nI ((pA P) zz)))), (a 4, .inl (cI, 40, .inl (fun zz => nI ((pB P) zz)))), (a 5, .inl (cI, 40, .inl (pK P))), (a 6, .inl (cI, 512, .inl (mHp M))), (a 7, .inl (cI, 64, .inl (mSh M))), (a 8, .inl (cI, 64, .inl (fun zz => nI ((mOw M) zz)))), (a 9, .inl (cI, 64, .inl (fun zz => nI ((mSz M) zz)))), (a 10, .inl (cI, 32, .inl (fun zz => nI ((mQf M) zz)))), (a 11, .inl (cI, 8, .inl (rRg R))), (a 12, .inl (cI, 60, .inl (rPr R)))] → va_S A s.heap H locs → W p l e rm_Mo_place s m args below meth c H locs 0 0 Q (F0 m 4 ls []) := by
    intro K4
    induction K4 using Nat.strongRecOn with
    | _ K4 ih4 =>
      intro j ls H locs g1 hK4 hl hP hD hS
      refine lv_iload_n hx hb d_Mo_place_4 rfl (lv_at hl 0 rfl) ?_
      refine lv_iload_n hx hb d_Mo_place_5 rfl (lv_at hl 3 rfl) ?_
      refine x_icmp_ge (tgt := 31) hM (by omega) (by omega) d_Mo_place_6 (by decide) (fun hc6 => ?_) (fun hc6 => ?_)
      · skip
        refine lv_iload_n hx hb d_Mo_place_31 rfl (lv_at hl 1 rfl) ?_
        exact x_iret hM hQ (by rw [show j = i by omega]; rfl) rfl hP hK hD hS d_Mo_place_32
      · skip
        refine lv_iload_n hx hb d_Mo_place_9 rfl (lv_at hl 1 rfl) ?_
        refine lv_aload_n hx hb d_Mo_place_10 rfl (lv_at hl 2 rfl) ?_
        refine lv_iload_n hx hb d_Mo_place_11 rfl (lv_at hl 0 rfl) ?_
        refine x_calli (wc := (wMo cI a cd P M R)) (wr := []) (va_runV (As := [.int (nI j)]) (rest := [.int (nI (i + xc (pC P) j))]) ⟨hx, hb, hml, hown, hts⟩ (c_Mo_isChecked l D cI cZ cJ _ a cd P M R j (by omega) (by have := (hp.2 j (by omega)).1; omega)) (cwV 1 hts (bw_V q_ml_Mo_67 q_im_Mo_isChecked q_se_Mo_isChecked q_in_Mo q_cd_Mo_isChecked) rfl rfl rfl ⟨rfl, by decide, by decide, by decide +kernel⟩ ⟨Nat.le_of_ble_eq_true rfl, Nat.le_of_ble_eq_true rfl⟩) ⟨(x_pre (wc := (wMo cI a cd P M R)) hP hD hK [0, 1, 2, 3, 4, 5, 6, 7, 8, 9, 10, 11, 12] rfl (by decide)).1, va_recv hK hP (ci := 5) (q0 := 0) rfl rfl, (x_pre (wc := (wMo cI a cd P M R)) hP hD hK [0, 1, 2, 3, 4, 5, 6, 7, 8, 9, 10, 11, 12] rfl (by decide)).2⟩ rfl rfl hl.1 rfl (lv_room (Nat.le_of_ble_eq_true rfl)) d_Mo_place_12 ⟨Nat.le_of_ble_eq_true rfl, Nat.le_of_ble_eq_true rfl⟩) hP hD hS hA [0, 1, 2, 3, 4, 5, 6, 7, 8, 9, 10, 11, 12] [] rfl rfl (by decide) (by decide) (fun H locs hP hD hS => ?_)
        have hP : va_P D vwCl [(a 0, .inr (5, [.int (nI cd), .int (nI (pN P)), .ref (a 1), .ref (a 2), .ref (a 3), .ref (a 4), .ref (a 5), .ref (a 6), .ref (a 7), .ref (a 8), .ref (a 9), .int (nI (mQn M)), .ref (a 10), .int (nI (rSt R)), .int (zI (rCk R)), .int (nI (rAt R)), .int (nI (rLd R)), .ref (a 11), .int (nI (rPn R)), .ref (a 12), .int (nI (rKd R)), .int (rWh R), .int (nI (rWo R))])), (a 1, .inl (cI, 40, .inl (fun zz => nI ((pO P) zz)))), (a 2, .inl (cI, 40, .inl (fun zz => nI ((pR P) zz)))), (a 3, .inl (cI, 40, .inl (fun zz => nI ((pA P) zz)))), (a 4, .inl (cI, 40, .inl (fun zz => nI ((pB P) zz)))), (a 5, .inl (cI, 40, .inl (pK P))), (a 6, .inl (cI, 512, .inl (mHp M))), (a 7, .inl (cI, 64, .inl (mSh M))), (a 8, .inl (cI, 64, .inl (fun zz => nI ((mOw M) zz)))), (a 9, .inl (cI, 64, .inl (fun zz => nI ((mSz M) zz)))), (a 10, .inl (cI, 32, .inl (fun zz => nI ((mQf M) zz)))), (a 11, .inl (cI, 8, .inl (rRg R))), (a 12, .inl (cI, 60, .inl (rPr R)))] H := hP
        have hD : va_D A [(a 0, .inr (5, [.int (nI cd), .int (nI (pN P)), .ref (a 1), .ref (a 2), .ref (a 3), .ref (a 4), .ref (a 5), .ref (a 6), .ref (a 7), .ref (a 8), .ref (a 9), .int (nI (mQn M)), .ref (a 10), .int (nI (rSt R)), .int (zI (rCk R)), .int (nI (rAt R)), .int (nI (rLd R)), .ref (a 11), .int (nI (rPn R)), .ref (a 12), .int (nI (rKd R)), .int (rWh R), .int (nI (rWo R))])), (a 1, .inl (cI, 40, .inl (fun zz => nI ((pO P) zz)))), (a 2, .inl (cI, 40, .inl (fun zz => nI ((pR P) zz)))), (a 3, .inl (cI, 40, .inl (fun zz => nI ((pA P) zz)))), (a 4, .inl (cI, 40, .inl (fun zz => nI ((pB P) zz)))), (a 5, .inl (cI, 40, .inl (pK P))), (a 6, .inl (cI, 512, .inl (mHp M))), (a 7, .inl (cI, 64, .inl (mSh M))), (a 8, .inl (cI, 64, .inl (fun zz => nI ((mOw M) zz)))), (a 9, .inl (cI, 64, .inl (fun zz => nI ((mSz M) zz)))), (a 10, .inl (cI, 32, .inl (fun zz => nI ((mQf M) zz)))), (a 11, .inl (cI, 8, .inl (rRg R))), (a 12, .inl (cI, 60, .inl (rPr R)))] := hD
        refine x_if_eqZ (b := pC P j) (tgt := 22) hM d_Mo_place_15 (by decide) (fun hc15 => ?_) (fun hc15 => ?_)
        · skip
          refine lv_iconst (v := nI 0) hx hb d_Mo_place_22 (by decide) ?_
          refine x_iadd hM d_Mo_place_23 ?_
          refine lv_istore_n hx hb d_Mo_place_24 rfl hl (by decide) rfl (fun ls hl => ?_)
          have hl : lv_has ls 4 [(2, .int (nI ((i + xc (pC P) j) + 0))), (3, .int (nI j)), (0, .ref (a 0)), (1, .int (nI i))] := hl
          have e25 : (i + xc (pC P) j) + 0 = i + xc (pC P) (j + 1) := by rw [xc, hc15]; simp [Nat.add_assoc]
          rw [e25] at hl
          refine lv_iinc (k := 1) (v := nI (j + 1)) hx hb d_Mo_place_25 hl rfl (by rw [show Int32.ofInt 1 = nI 1 by decide, nI_add]) (by decide) rfl (fun ls hl => ?_)
          have hl : lv_has ls 4 [(3, .int (nI (j + 1))), (2, .int (nI (i + xc (pC P) (j + 1)))), (0, .ref (a 0)), (1, .int (nI i))] := hl
          refine lv_goto hx hb d_Mo_place_28 (tgt := 4) (by decide) ?_
          exact ih4 _ (by omega) (j + 1) ls H locs (by omega) rfl hl hP hD hS
        · skip
          refine lv_iconst (v := nI 1) hx hb d_Mo_place_18 (by decide) ?_
          refine lv_goto hx hb d_Mo_place_19 (tgt := 23) (by decide) ?_
          refine x_iadd hM d_Mo_place_23 ?_
          refine lv_istore_n hx hb d_Mo_place_24 rfl hl (by decide) rfl (fun ls hl => ?_)
          have hl : lv_has ls 4 [(2, .int (nI ((i + xc (pC P) j) + 1))), (3, .int (nI j)), (0, .ref (a 0)), (1, .int (nI i))] := hl
          have e25 : (i + xc (pC P) j) + 1 = i + xc (pC P) (j + 1) := by rw [xc, hc15]; simp [Nat.add_assoc]
          rw [e25] at hl
          refine lv_iinc (k := 1) (v := nI (j + 1)) hx hb d_Mo_place_25 hl rfl (by rw [show Int32.ofInt 1 = nI 1 by decide, nI_add]) (by decide) rfl (fun ls hl => ?_)
          have hl : lv_has ls 4 [(3, .int (nI (j + 1))), (2, .int (nI (i + xc (pC P) (j + 1)))), (0, .ref (a 0)), (1, .int (nI i))] := hl
          refine lv_goto hx hb d_Mo_place_28 (tgt := 4) (by decide) ?_
          exact ih4 _ (by omega) (j + 1) ls H locs (by omega) rfl hl hP hD hS
  exact loop4 _ 0 ls s.heap [] (by omega) rfl hl hP hD hS
abbrev rm_Mo_instructionAt : Room := { frames := 2, cells := 0, slots := 0, locals := 44 }
set_option maxHeartbeats 4000000 in
set_option maxRecDepth 100000 in
theorem c_Mo_instructionAt (l : Launch) (D : va_G) (cI cZ cJ : ClassId) (sz : Nat) (a : Nat → Nat) (cd : Nat) (P : xPg) (M : xMem) (R : xRn) (x : Nat) (hp : pOk P) (hx0 : x < pl P (pN P)) : xCi l D (xT cI cZ cJ) y_Mo_instructionAt k_Mo_instructionAt rm_Mo_instructionAt sz (wMo cI a cd P M R) [.ref (a 0), .int (nI x)] (nI (pI P x)) (wMo cI a cd P M R) 0 0 := by
  refine x_ofi (cc := b_Mo_instructionAt) (nL := 3) (ret := (some .int)) (by decide) rfl (Nat.le_of_ble_eq_true rfl) ?_
  intro p e s m args below meth c ls A Q hQ hM hsz hP hK hD hA hl
  obtain ⟨hx, hb, -, hml, hown, hts, -⟩ := id hM
  have hS : va_S A s.heap s.heap [] := va_S.rf
  have hl : lv_has ls 3 [(0, .ref (a 0)), (1, .int (nI x))] := hl
  have hP : va_P D vwCl [(a 0, .inr (5, [.int (nI cd), .int (nI (pN P)), .ref (a 1), .ref (a 2), .ref (a 3), .ref (a 4), .ref (a 5), .ref (a 6), .ref (a 7), .ref (a 8), .ref (a 9), .int (nI (mQn M)), .ref (a 10), .int (nI (rSt R)), .int (zI (rCk R)), .int (nI (rAt R)), .int (nI (rLd R)), .ref (a 11), .int (nI (rPn R)), .ref (a 12), .int (nI (rKd R)), .int (rWh R), .int (nI (rWo R))])), (a 1, .inl (cI, 40, .inl (fun zz => nI ((pO P) zz)))), (a 2, .inl (cI, 40, .inl (fun zz => nI ((pR P) zz)))), (a 3, .inl (cI, 40, .inl (fun zz => nI ((pA P) zz)))), (a 4, .inl (cI, 40, .inl (fun zz => nI ((pB P) zz)))), (a 5, .inl (cI, 40, .inl (pK P))), (a 6, .inl (cI, 512, .inl (mHp M))), (a 7, .inl (cI, 64, .inl (mSh M))), (a 8, .inl (cI, 64, .inl (fun zz => nI ((mOw M) zz)))), (a 9, .inl (cI, 64, .inl (fun zz => nI ((mSz M) zz)))), (a 10, .inl (cI, 32, .inl (fun zz => nI ((mQf M) zz)))), (a 11, .inl (cI, 8, .inl (rRg R))), (a 12, .inl (cI, 60, .inl (rPr R)))] s.heap := hP
  have hD : va_D A [(a 0, .inr (5, [.int (nI cd), .int (nI (pN P)), .ref (a 1), .ref (a 2), .ref (a 3), .ref (a 4), .ref (a 5), .ref (a 6), .ref (a 7), .ref (a 8), .ref (a 9), .int (nI (mQn M)), .ref (a 10), .int (nI (rSt R)), .int (zI (rCk R)), .int (nI (rAt R)), .int (nI (rLd R)), .ref (a 11), .int (nI (rPn R)), .ref (a 12), .int (nI (rKd R)), .int (rWh R), .int (nI (rWo R))])), (a 1, .inl (cI, 40, .inl (fun zz => nI ((pO P) zz)))), (a 2, .inl (cI, 40, .inl (fun zz => nI ((pR P) zz)))), (a 3, .inl (cI, 40, .inl (fun zz => nI ((pA P) zz)))), (a 4, .inl (cI, 40, .inl (fun zz => nI ((pB P) zz)))), (a 5, .inl (cI, 40, .inl (pK P))), (a 6, .inl (cI, 512, .inl (mHp M))), (a 7, .inl (cI, 64, .inl (mSh M))), (a 8, .inl (cI, 64, .inl (fun zz => nI ((mOw M) zz)))), (a 9, .inl (cI, 64, .inl (fun zz => nI ((mSz M) zz)))), (a 10, .inl (cI, 32, .inl (fun zz => nI ((mQf M) zz)))), (a 11, .inl (cI, 8, .inl (rRg R))), (a 12, .inl (cI, 60, .inl (rPr R)))] := hD
  have hn := hp.1
  have hn2 := pl_le P (pN P)
  refine lv_iconst (v := nI 0) hx hb d_Mo_instructionAt_0 (by decide) ?_
  refine lv_istore_n hx hb d_Mo_instructionAt_1 rfl hl (by decide) rfl (fun ls hl => ?_)
  have hl : lv_has ls 3 [(2, .int (nI 0)), (0, .ref (a 0)), (1, .int (nI x))] := hl
  have loop2 : ∀ (K2 : Nat) (j : Nat) (ls : Array Slot) (H : Heap) (locs : List Loc), (pl P j ≤ x) → x - j = K2 → lv_has ls 3 [(2, .int (nI j)), (0, .ref (a 0)), (1, .int (nI x))] → va_P D vwCl [(a 0, .inr (5, [.int (nI cd), .int (nI (pN P)), .ref (a 1), .ref (a 2), .ref (a 3), .ref (a 4), .ref (a 5), .ref (a 6), .ref (a 7), .ref (a 8), .ref (a 9), .int (nI (mQn M)), .ref (a 10), .int (nI (rSt R)), .int (zI (rCk R)), .int (nI (rAt R)), .int (nI (rLd R)), .ref (a 11), .int (nI (rPn R)), .ref (a 12), .int (nI (rKd R)), .int (rWh R), .int (nI (rWo R))])), (a 1, .inl (cI, 40, .inl (fun zz => nI ((pO P) zz)))), (a 2, .inl (cI, 40, .inl (fun zz => nI ((pR P) zz)))), (a 3, .inl (cI, 40, .inl (fun zz => nI ((pA P) zz)))), (a 4, .inl (cI, 40, .inl (fun zz => nI ((pB P) zz)))), (a 5, .inl (cI, 40, .inl (pK P))), (a 6, .inl (cI, 512, .inl (mHp M))), (a 7, .inl (cI, 64, .inl (mSh M))), (a 8, .inl (cI, 64, .inl (fun zz => nI ((mOw M) zz)))), (a 9, .inl (cI, 64, .inl (fun zz => nI ((mSz M) zz)))), (a 10, .inl (cI, 32, .inl (fun zz => nI ((mQf M) zz)))), (a 11, .inl (cI, 8, .inl (rRg R))), (a 12, .inl (cI, 60, .inl (rPr R)))] H → va_D A [(a 0, .inr (5, [.int (nI cd), .int (nI (pN P)), .ref (a 1), .ref (a 2), .ref (a 3), .ref (a 4), .ref (a 5), .ref (a 6), .ref (a 7), .ref (a 8), .ref (a 9), .int (nI (mQn M)), .ref (a 10), .int (nI (rSt R)), .int (zI (rCk R)), .int (nI (rAt R)), .int (nI (rLd R)), .ref (a 11), .int (nI (rPn R)), .ref (a 12), .int (nI (rKd R)), .int (rWh R), .int (nI (rWo R))])), (a 1, .inl (cI, 40, .inl (fun zz => nI ((pO P) zz)))), (a 2, .inl (cI, 40, .inl (fun zz => nI ((pR P) zz)))), (a 3, .inl (cI, 40, .inl (fun zz => nI ((pA P) zz)))), (a 4, .inl (cI, 40, .inl (fun zz => nI ((pB P) zz)))), (a 5, .inl (cI, 40, .inl (pK P))), (a 6, .inl (cI, 512, .inl (mHp M))), (a 7, .inl (cI, 64, .inl (mSh M))), (a 8, .inl (cI, 64, .inl (fun zz => nI ((mOw M) zz)))), (a 9, .inl (cI, 64, .inl (fun zz => nI ((mSz M) zz)))), (a 10, .inl (cI, 32, .inl (fun zz => nI ((mQf M) zz)))), (a 11, .inl (cI, 8, .inl (rRg R))), (a 12, .inl (cI, 60, .inl (rPr R)))] → va_S A s.heap H locs → W p l e rm_Mo_instructionAt s m args below meth c H locs 0 0 Q (F0 m 2 ls []) := by
    intro K2
    induction K2 using Nat.strongRecOn with
    | _ K2 ih2 =>
      intro j ls H locs g1 hK2 hl hP hD hS
      have gj : j < pN P := by
        apply Nat.lt_of_not_le
        intro hh
        have := pl_mono (P := P) hh
        omega
      have gl := pl_le P (j + 1)
      refine lv_aload_n hx hb d_Mo_instructionAt_2 rfl (lv_at hl 1 rfl) ?_
      refine lv_iload_n hx hb d_Mo_instructionAt_3 rfl (lv_at hl 0 rfl) ?_
      refine lv_iconst (v := nI 1) hx hb d_Mo_instructionAt_4 (by decide) ?_
      refine x_iadd hM d_Mo_instructionAt_5 ?_
      refine x_calli (wc := (wMo cI a cd P M R)) (wr := []) (va_runV (As := [.int (nI (j + 1))]) (rest := []) ⟨hx, hb, hml, hown, hts⟩ (c_Mo_place l D cI cZ cJ _ a cd P M R (j + 1) hp (by omega)) (cwV 1 hts (bw_V q_ml_Mo_70 q_im_Mo_place q_se_Mo_place q_in_Mo q_cd_Mo_place) rfl rfl rfl ⟨rfl, by decide, by decide, by decide +kernel⟩ ⟨Nat.le_of_ble_eq_true rfl, Nat.le_of_ble_eq_true rfl⟩) ⟨(x_pre (wc := (wMo cI a cd P M R)) hP hD hK [0, 1, 2, 3, 4, 5, 6, 7, 8, 9, 10, 11, 12] rfl (by decide)).1, va_recv hK hP (ci := 5) (q0 := 0) rfl rfl, (x_pre (wc := (wMo cI a cd P M R)) hP hD hK [0, 1, 2, 3, 4, 5, 6, 7, 8, 9, 10, 11, 12] rfl (by decide)).2⟩ rfl rfl hl.1 rfl (lv_room (Nat.le_of_ble_eq_true rfl)) d_Mo_instructionAt_6 ⟨Nat.le_of_ble_eq_true rfl, Nat.le_of_ble_eq_true rfl⟩) hP hD hS hA [0, 1, 2, 3, 4, 5, 6, 7, 8, 9, 10, 11, 12] [] rfl rfl (by decide) (by decide) (fun H locs hP hD hS => ?_)
      have hP : va_P D vwCl [(a 0, .inr (5, [.int (nI cd), .int (nI (pN P)), .ref (a 1), .ref (a 2), .ref (a 3), .ref (a 4), .ref (a 5), .ref (a 6), .ref (a 7), .ref (a 8), .ref (a 9), .int (nI (mQn M)), .ref (a 10), .int (nI (rSt R)), .int (zI (rCk R)), .int (nI (rAt R)), .int (nI (rLd R)), .ref (a 11), .int (nI (rPn R)), .ref (a 12), .int (nI (rKd R)), .int (rWh R), .int (nI (rWo R))])), (a 1, .inl (cI, 40, .inl (fun zz => nI ((pO P) zz)))), (a 2, .inl (cI, 40, .inl (fun zz => nI ((pR P) zz)))), (a 3, .inl (cI, 40, .inl (fun zz => nI ((pA P) zz)))), (a 4, .inl (cI, 40, .inl (fun zz => nI ((pB P) zz)))), (a 5, .inl (cI, 40, .inl (pK P))), (a 6, .inl (cI, 512, .inl (mHp M))), (a 7, .inl (cI, 64, .inl (mSh M))), (a 8, .inl (cI, 64, .inl (fun zz => nI ((mOw M) zz)))), (a 9, .inl (cI, 64, .inl (fun zz => nI ((mSz M) zz)))), (a 10, .inl (cI, 32, .inl (fun zz => nI ((mQf M) zz)))), (a 11, .inl (cI, 8, .inl (rRg R))), (a 12, .inl (cI, 60, .inl (rPr R)))] H := hP
      have hD : va_D A [(a 0, .inr (5, [.int (nI cd), .int (nI (pN P)), .ref (a 1), .ref (a 2), .ref (a 3), .ref (a 4), .ref (a 5), .ref (a 6), .ref (a 7), .ref (a 8), .ref (a 9), .int (nI (mQn M)), .ref (a 10), .int (nI (rSt R)), .int (zI (rCk R)), .int (nI (rAt R)), .int (nI (rLd R)), .ref (a 11), .int (nI (rPn R)), .ref (a 12), .int (nI (rKd R)), .int (rWh R), .int (nI (rWo R))])), (a 1, .inl (cI, 40, .inl (fun zz => nI ((pO P) zz)))), (a 2, .inl (cI, 40, .inl (fun zz => nI ((pR P) zz)))), (a 3, .inl (cI, 40, .inl (fun zz => nI ((pA P) zz)))), (a 4, .inl (cI, 40, .inl (fun zz => nI ((pB P) zz)))), (a 5, .inl (cI, 40, .inl (pK P))), (a 6, .inl (cI, 512, .inl (mHp M))), (a 7, .inl (cI, 64, .inl (mSh M))), (a 8, .inl (cI, 64, .inl (fun zz => nI ((mOw M) zz)))), (a 9, .inl (cI, 64, .inl (fun zz => nI ((mSz M) zz)))), (a 10, .inl (cI, 32, .inl (fun zz => nI ((mQf M) zz)))), (a 11, .inl (cI, 8, .inl (rRg R))), (a 12, .inl (cI, 60, .inl (rPr R)))] := hD
      refine lv_iload_n hx hb d_Mo_instructionAt_9 rfl (lv_at hl 2 rfl) ?_
      refine x_icmp_gt (tgt := 19) hM (by omega) (by omega) d_Mo_instructionAt_10 (by decide) (fun hc10 => ?_) (fun hc10 => ?_)
      · skip
        refine lv_iload_n hx hb d_Mo_instructionAt_19 rfl (lv_at hl 0 rfl) ?_
        exact x_iret hM hQ (by rw [pI_eq g1 hc10]) rfl hP hK hD hS d_Mo_instructionAt_20
      · skip
        refine lv_iinc (k := 0) (v := nI (j + 1)) hx hb d_Mo_instructionAt_13 hl rfl (by rw [show Int32.ofInt 1 = nI 1 by decide, nI_add]) (by decide) rfl (fun ls hl => ?_)
        have hl : lv_has ls 3 [(2, .int (nI (j + 1))), (0, .ref (a 0)), (1, .int (nI x))] := hl
        refine lv_goto hx hb d_Mo_instructionAt_16 (tgt := 2) (by decide) ?_
        exact ih2 _ (by have := pl_ge P (j + 1); omega) (j + 1) ls H locs (by omega) rfl hl hP hD hS
  exact loop2 _ 0 ls s.heap [] (Nat.zero_le _) rfl hl hP hD hS
abbrev rm_Mo_isCheck : Room := { frames := 3, cells := 0, slots := 0, locals := 66 }
set_option maxHeartbeats 4000000 in
set_option maxRecDepth 100000 in
theorem c_Mo_isCheck (l : Launch) (D : va_G) (cI cZ cJ : ClassId) (sz : Nat) (a : Nat → Nat) (cd : Nat) (P : xPg) (M : xMem) (R : xRn) (x : Nat) (hp : pOk P) (hx0 : x < pl P (pN P)) : xCi l D (xT cI cZ cJ) y_Mo_isCheck k_Mo_isCheck rm_Mo_isCheck sz (wMo cI a cd P M R) [.ref (a 0), .int (nI x)] (zI (pH P x)) (wMo cI a cd P M R) 0 0 := by
  refine x_ofi (cc := b_Mo_isCheck) (nL := 3) (ret := (some .boolean)) (by decide) rfl (Nat.le_of_ble_eq_true rfl) ?_
  intro p e s m args below meth c ls A Q hQ hM hsz hP hK hD hA hl
  obtain ⟨hx, hb, -, hml, hown, hts, -⟩ := id hM
  have hS : va_S A s.heap s.heap [] := va_S.rf
  have hl : lv_has ls 3 [(0, .ref (a 0)), (1, .int (nI x))] := hl
  have hP : va_P D vwCl [(a 0, .inr (5, [.int (nI cd), .int (nI (pN P)), .ref (a 1), .ref (a 2), .ref (a 3), .ref (a 4), .ref (a 5), .ref (a 6), .ref (a 7), .ref (a 8), .ref (a 9), .int (nI (mQn M)), .ref (a 10), .int (nI (rSt R)), .int (zI (rCk R)), .int (nI (rAt R)), .int (nI (rLd R)), .ref (a 11), .int (nI (rPn R)), .ref (a 12), .int (nI (rKd R)), .int (rWh R), .int (nI (rWo R))])), (a 1, .inl (cI, 40, .inl (fun zz => nI ((pO P) zz)))), (a 2, .inl (cI, 40, .inl (fun zz => nI ((pR P) zz)))), (a 3, .inl (cI, 40, .inl (fun zz => nI ((pA P) zz)))), (a 4, .inl (cI, 40, .inl (fun zz => nI ((pB P) zz)))), (a 5, .inl (cI, 40, .inl (pK P))), (a 6, .inl (cI, 512, .inl (mHp M))), (a 7, .inl (cI, 64, .inl (mSh M))), (a 8, .inl (cI, 64, .inl (fun zz => nI ((mOw M) zz)))), (a 9, .inl (cI, 64, .inl (fun zz => nI ((mSz M) zz)))), (a 10, .inl (cI, 32, .inl (fun zz => nI ((mQf M) zz)))), (a 11, .inl (cI, 8, .inl (rRg R))), (a 12, .inl (cI, 60, .inl (rPr R)))] s.heap := hP
  have hD : va_D A [(a 0, .inr (5, [.int (nI cd), .int (nI (pN P)), .ref (a 1), .ref (a 2), .ref (a 3), .ref (a 4), .ref (a 5), .ref (a 6), .ref (a 7), .ref (a 8), .ref (a 9), .int (nI (mQn M)), .ref (a 10), .int (nI (rSt R)), .int (zI (rCk R)), .int (nI (rAt R)), .int (nI (rLd R)), .ref (a 11), .int (nI (rPn R)), .ref (a 12), .int (nI (rKd R)), .int (rWh R), .int (nI (rWo R))])), (a 1, .inl (cI, 40, .inl (fun zz => nI ((pO P) zz)))), (a 2, .inl (cI, 40, .inl (fun zz => nI ((pR P) zz)))), (a 3, .inl (cI, 40, .inl (fun zz => nI ((pA P) zz)))), (a 4, .inl (cI, 40, .inl (fun zz => nI ((pB P) zz)))), (a 5, .inl (cI, 40, .inl (pK P))), (a 6, .inl (cI, 512, .inl (mHp M))), (a 7, .inl (cI, 64, .inl (mSh M))), (a 8, .inl (cI, 64, .inl (fun zz => nI ((mOw M) zz)))), (a 9, .inl (cI, 64, .inl (fun zz => nI ((mSz M) zz)))), (a 10, .inl (cI, 32, .inl (fun zz => nI ((mQf M) zz)))), (a 11, .inl (cI, 8, .inl (rRg R))), (a 12, .inl (cI, 60, .inl (rPr R)))] := hD
  have hn := hp.1
  have hn2 := pl_le P (pN P)
  obtain ⟨s1, s2, s3⟩ := pI_sp hx0
  have s4 := (hp.2 _ s1).1
  have s5 := pl_le P (pI P x)
  refine lv_aload_n hx hb d_Mo_isCheck_0 rfl (lv_at hl 0 rfl) ?_
  refine lv_iload_n hx hb d_Mo_isCheck_1 rfl (lv_at hl 1 rfl) ?_
  refine x_calli (wc := (wMo cI a cd P M R)) (wr := []) (va_runV (As := [.int (nI x)]) (rest := []) ⟨hx, hb, hml, hown, hts⟩ (c_Mo_instructionAt l D cI cZ cJ _ a cd P M R x hp hx0) (cwV 1 hts (bw_V q_ml_Mo_73 q_im_Mo_instructionAt q_se_Mo_instructionAt q_in_Mo q_cd_Mo_instructionAt) rfl rfl rfl ⟨rfl, by decide, by decide, by decide +kernel⟩ ⟨Nat.le_of_ble_eq_true rfl, Nat.le_of_ble_eq_true rfl⟩) ⟨(x_pre (wc := (wMo cI a cd P M R)) hP hD hK [0, 1, 2, 3, 4, 5, 6, 7, 8, 9, 10, 11, 12] rfl (by decide)).1, va_recv hK hP (ci := 5) (q0 := 0) rfl rfl, (x_pre (wc := (wMo cI a cd P M R)) hP hD hK [0, 1, 2, 3, 4, 5, 6, 7, 8, 9, 10, 11, 12] rfl (by decide)).2⟩ rfl rfl hl.1 rfl (lv_room (Nat.le_of_ble_eq_true rfl)) d_Mo_isCheck_2 ⟨Nat.le_of_ble_eq_true rfl, Nat.le_of_ble_eq_true rfl⟩) hP hD hS hA [0, 1, 2, 3, 4, 5, 6, 7, 8, 9, 10, 11, 12] [] rfl rfl (by decide) (by decide) (fun H locs hP hD hS => ?_)
  have hP : va_P D vwCl [(a 0, .inr (5, [.int (nI cd), .int (nI (pN P)), .ref (a 1), .ref (a 2), .ref (a 3), .ref (a 4), .ref (a 5), .ref (a 6), .ref (a 7), .ref (a 8), .ref (a 9), .int (nI (mQn M)), .ref (a 10), .int (nI (rSt R)), .int (zI (rCk R)), .int (nI (rAt R)), .int (nI (rLd R)), .ref (a 11), .int (nI (rPn R)), .ref (a 12), .int (nI (rKd R)), .int (rWh R), .int (nI (rWo R))])), (a 1, .inl (cI, 40, .inl (fun zz => nI ((pO P) zz)))), (a 2, .inl (cI, 40, .inl (fun zz => nI ((pR P) zz)))), (a 3, .inl (cI, 40, .inl (fun zz => nI ((pA P) zz)))), (a 4, .inl (cI, 40, .inl (fun zz => nI ((pB P) zz)))), (a 5, .inl (cI, 40, .inl (pK P))), (a 6, .inl (cI, 512, .inl (mHp M))), (a 7, .inl (cI, 64, .inl (mSh M))), (a 8, .inl (cI, 64, .inl (fun zz => nI ((mOw M) zz)))), (a 9, .inl (cI, 64, .inl (fun zz => nI ((mSz M) zz)))), (a 10, .inl (cI, 32, .inl (fun zz => nI ((mQf M) zz)))), (a 11, .inl (cI, 8, .inl (rRg R))), (a 12, .inl (cI, 60, .inl (rPr R)))] H := hP
  have hD : va_D A [(a 0, .inr (5, [.int (nI cd), .int (nI (pN P)), .ref (a 1), .ref (a 2), .ref (a 3), .ref (a 4), .ref (a 5), .ref (a 6), .ref (a 7), .ref (a 8), .ref (a 9), .int (nI (mQn M)), .ref (a 10), .int (nI (rSt R)), .int (zI (rCk R)), .int (nI (rAt R)), .int (nI (rLd R)), .ref (a 11), .int (nI (rPn R)), .ref (a 12), .int (nI (rKd R)), .int (rWh R), .int (nI (rWo R))])), (a 1, .inl (cI, 40, .inl (fun zz => nI ((pO P) zz)))), (a 2, .inl (cI, 40, .inl (fun zz => nI ((pR P) zz)))), (a 3, .inl (cI, 40, .inl (fun zz => nI ((pA P) zz)))), (a 4, .inl (cI, 40, .inl (fun zz => nI ((pB P) zz)))), (a 5, .inl (cI, 40, .inl (pK P))), (a 6, .inl (cI, 512, .inl (mHp M))), (a 7, .inl (cI, 64, .inl (mSh M))), (a 8, .inl (cI, 64, .inl (fun zz => nI ((mOw M) zz)))), (a 9, .inl (cI, 64, .inl (fun zz => nI ((mSz M) zz)))), (a 10, .inl (cI, 32, .inl (fun zz => nI ((mQf M) zz)))), (a 11, .inl (cI, 8, .inl (rRg R))), (a 12, .inl (cI, 60, .inl (rPr R)))] := hD
  refine lv_istore_n hx hb d_Mo_isCheck_5 rfl hl (by decide) rfl (fun ls hl => ?_)
  have hl : lv_has ls 3 [(2, .int (nI (pI P x))), (0, .ref (a 0)), (1, .int (nI x))] := hl
  refine lv_aload_n hx hb d_Mo_isCheck_6 rfl (lv_at hl 1 rfl) ?_
  refine lv_iload_n hx hb d_Mo_isCheck_7 rfl (lv_at hl 0 rfl) ?_
  refine x_calli (wc := (wMo cI a cd P M R)) (wr := []) (va_runV (As := [.int (nI (pI P x))]) (rest := []) ⟨hx, hb, hml, hown, hts⟩ (c_Mo_isChecked l D cI cZ cJ _ a cd P M R (pI P x) (by omega) (by omega)) (cwV 1 hts (bw_V q_ml_Mo_67 q_im_Mo_isChecked q_se_Mo_isChecked q_in_Mo q_cd_Mo_isChecked) rfl rfl rfl ⟨rfl, by decide, by decide, by decide +kernel⟩ ⟨Nat.le_of_ble_eq_true rfl, Nat.le_of_ble_eq_true rfl⟩) ⟨(x_pre (wc := (wMo cI a cd P M R)) hP hD hK [0, 1, 2, 3, 4, 5, 6, 7, 8, 9, 10, 11, 12] rfl (by decide)).1, va_recv hK hP (ci := 5) (q0 := 0) rfl rfl, (x_pre (wc := (wMo cI a cd P M R)) hP hD hK [0, 1, 2, 3, 4, 5, 6, 7, 8, 9, 10, 11, 12] rfl (by decide)).2⟩ rfl rfl hl.1 rfl (lv_room (Nat.le_of_ble_eq_true rfl)) d_Mo_isCheck_8 ⟨Nat.le_of_ble_eq_true rfl, Nat.le_of_ble_eq_true rfl⟩) hP hD hS hA [0, 1, 2, 3, 4, 5, 6, 7, 8, 9, 10, 11, 12] [] rfl rfl (by decide) (by decide) (fun H locs hP hD hS => ?_)
  have hP : va_P D vwCl [(a 0, .inr (5, [.int (nI cd), .int (nI (pN P)), .ref (a 1), .ref (a 2), .ref (a 3), .ref (a 4), .ref (a 5), .ref (a 6), .ref (a 7), .ref (a 8), .ref (a 9), .int (nI (mQn M)), .ref (a 10), .int (nI (rSt R)), .int (zI (rCk R)), .int (nI (rAt R)), .int (nI (rLd R)), .ref (a 11), .int (nI (rPn R)), .ref (a 12), .int (nI (rKd R)), .int (rWh R), .int (nI (rWo R))])), (a 1, .inl (cI, 40, .inl (fun zz => nI ((pO P) zz)))), (a 2, .inl (cI, 40, .inl (fun zz => nI ((pR P) zz)))), (a 3, .inl (cI, 40, .inl (fun zz => nI ((pA P) zz)))), (a 4, .inl (cI, 40, .inl (fun zz => nI ((pB P) zz)))), (a 5, .inl (cI, 40, .inl (pK P))), (a 6, .inl (cI, 512, .inl (mHp M))), (a 7, .inl (cI, 64, .inl (mSh M))), (a 8, .inl (cI, 64, .inl (fun zz => nI ((mOw M) zz)))), (a 9, .inl (cI, 64, .inl (fun zz => nI ((mSz M) zz)))), (a 10, .inl (cI, 32, .inl (fun zz => nI ((mQf M) zz)))), (a 11, .inl (cI, 8, .inl (rRg R))), (a 12, .inl (cI, 60, .inl (rPr R)))] H := hP
  have hD : va_D A [(a 0, .inr (5, [.int (nI cd), .int (nI (pN P)), .ref (a 1), .ref (a 2), .ref (a 3), .ref (a 4), .ref (a 5), .ref (a 6), .ref (a 7), .ref (a 8), .ref (a 9), .int (nI (mQn M)), .ref (a 10), .int (nI (rSt R)), .int (zI (rCk R)), .int (nI (rAt R)), .int (nI (rLd R)), .ref (a 11), .int (nI (rPn R)), .ref (a 12), .int (nI (rKd R)), .int (rWh R), .int (nI (rWo R))])), (a 1, .inl (cI, 40, .inl (fun zz => nI ((pO P) zz)))), (a 2, .inl (cI, 40, .inl (fun zz => nI ((pR P) zz)))), (a 3, .inl (cI, 40, .inl (fun zz => nI ((pA P) zz)))), (a 4, .inl (cI, 40, .inl (fun zz => nI ((pB P) zz)))), (a 5, .inl (cI, 40, .inl (pK P))), (a 6, .inl (cI, 512, .inl (mHp M))), (a 7, .inl (cI, 64, .inl (mSh M))), (a 8, .inl (cI, 64, .inl (fun zz => nI ((mOw M) zz)))), (a 9, .inl (cI, 64, .inl (fun zz => nI ((mSz M) zz)))), (a 10, .inl (cI, 32, .inl (fun zz => nI ((mQf M) zz)))), (a 11, .inl (cI, 8, .inl (rRg R))), (a 12, .inl (cI, 60, .inl (rPr R)))] := hD
  refine x_if_eqZ (b := pC P (pI P x)) (tgt := 27) hM d_Mo_isCheck_11 (by decide) (fun hc11 => ?_) (fun hc11 => ?_)
  · skip
    refine lv_iconst (v := nI 0) hx hb d_Mo_isCheck_27 (by decide) ?_
    exact x_zret hM hQ (by decide) (by exact x_z0 (by unfold pH; rw [hc11]; rfl)) rfl hP hK hD hS d_Mo_isCheck_28
  · skip
    refine lv_iload_n hx hb d_Mo_isCheck_14 rfl (lv_at hl 2 rfl) ?_
    refine lv_aload_n hx hb d_Mo_isCheck_15 rfl (lv_at hl 1 rfl) ?_
    refine lv_iload_n hx hb d_Mo_isCheck_16 rfl (lv_at hl 0 rfl) ?_
    refine x_calli (wc := (wMo cI a cd P M R)) (wr := []) (va_runV (As := [.int (nI (pI P x))]) (rest := [.int (nI x)]) ⟨hx, hb, hml, hown, hts⟩ (c_Mo_place l D cI cZ cJ _ a cd P M R (pI P x) hp (by omega)) (cwV 1 hts (bw_V q_ml_Mo_70 q_im_Mo_place q_se_Mo_place q_in_Mo q_cd_Mo_place) rfl rfl rfl ⟨rfl, by decide, by decide, by decide +kernel⟩ ⟨Nat.le_of_ble_eq_true rfl, Nat.le_of_ble_eq_true rfl⟩) ⟨(x_pre (wc := (wMo cI a cd P M R)) hP hD hK [0, 1, 2, 3, 4, 5, 6, 7, 8, 9, 10, 11, 12] rfl (by decide)).1, va_recv hK hP (ci := 5) (q0 := 0) rfl rfl, (x_pre (wc := (wMo cI a cd P M R)) hP hD hK [0, 1, 2, 3, 4, 5, 6, 7, 8, 9, 10, 11, 12] rfl (by decide)).2⟩ rfl rfl hl.1 rfl (lv_room (Nat.le_of_ble_eq_true rfl)) d_Mo_isCheck_17 ⟨Nat.le_of_ble_eq_true rfl, Nat.le_of_ble_eq_true rfl⟩) hP hD hS hA [0, 1, 2, 3, 4, 5, 6, 7, 8, 9, 10, 11, 12] [] rfl rfl (by decide) (by decide) (fun H locs hP hD hS => ?_)
    have hP : va_P D vwCl [(a 0, .inr (5, [.int (nI cd), .int (nI (pN P)), .ref (a 1), .ref (a 2), .ref (a 3), .ref (a 4), .ref (a 5), .ref (a 6), .ref (a 7), .ref (a 8), .ref (a 9), .int (nI (mQn M)), .ref (a 10), .int (nI (rSt R)), .int (zI (rCk R)), .int (nI (rAt R)), .int (nI (rLd R)), .ref (a 11), .int (nI (rPn R)), .ref (a 12), .int (nI (rKd R)), .int (rWh R), .int (nI (rWo R))])), (a 1, .inl (cI, 40, .inl (fun zz => nI ((pO P) zz)))), (a 2, .inl (cI, 40, .inl (fun zz => nI ((pR P) zz)))), (a 3, .inl (cI, 40, .inl (fun zz => nI ((pA P) zz)))), (a 4, .inl (cI, 40, .inl (fun zz => nI ((pB P) zz)))), (a 5, .inl (cI, 40, .inl (pK P))), (a 6, .inl (cI, 512, .inl (mHp M))), (a 7, .inl (cI, 64, .inl (mSh M))), (a 8, .inl (cI, 64, .inl (fun zz => nI ((mOw M) zz)))), (a 9, .inl (cI, 64, .inl (fun zz => nI ((mSz M) zz)))), (a 10, .inl (cI, 32, .inl (fun zz => nI ((mQf M) zz)))), (a 11, .inl (cI, 8, .inl (rRg R))), (a 12, .inl (cI, 60, .inl (rPr R)))] H := hP
    have hD : va_D A [(a 0, .inr (5, [.int (nI cd), .int (nI (pN P)), .ref (a 1), .ref (a 2), .ref (a 3), .ref (a 4), .ref (a 5), .ref (a 6), .ref (a 7), .ref (a 8), .ref (a 9), .int (nI (mQn M)), .ref (a 10), .int (nI (rSt R)), .int (zI (rCk R)), .int (nI (rAt R)), .int (nI (rLd R)), .ref (a 11), .int (nI (rPn R)), .ref (a 12), .int (nI (rKd R)), .int (rWh R), .int (nI (rWo R))])), (a 1, .inl (cI, 40, .inl (fun zz => nI ((pO P) zz)))), (a 2, .inl (cI, 40, .inl (fun zz => nI ((pR P) zz)))), (a 3, .inl (cI, 40, .inl (fun zz => nI ((pA P) zz)))), (a 4, .inl (cI, 40, .inl (fun zz => nI ((pB P) zz)))), (a 5, .inl (cI, 40, .inl (pK P))), (a 6, .inl (cI, 512, .inl (mHp M))), (a 7, .inl (cI, 64, .inl (mSh M))), (a 8, .inl (cI, 64, .inl (fun zz => nI ((mOw M) zz)))), (a 9, .inl (cI, 64, .inl (fun zz => nI ((mSz M) zz)))), (a 10, .inl (cI, 32, .inl (fun zz => nI ((mQf M) zz)))), (a 11, .inl (cI, 8, .inl (rRg R))), (a 12, .inl (cI, 60, .inl (rPr R)))] := hD
    refine x_icmp_ne (tgt := 27) hM (by omega) (by omega) d_Mo_isCheck_20 (by decide) (fun hc20 => ?_) (fun hc20 => ?_)
    · skip
      refine lv_iconst (v := nI 0) hx hb d_Mo_isCheck_27 (by decide) ?_
      exact x_zret hM hQ (by decide) (by exact x_z0 (by unfold pH; rw [decide_eq_false hc20, Bool.and_false])) rfl hP hK hD hS d_Mo_isCheck_28
    · skip
      refine lv_iconst (v := nI 1) hx hb d_Mo_isCheck_23 (by decide) ?_
      refine lv_goto hx hb d_Mo_isCheck_24 (tgt := 28) (by decide) ?_
      exact x_zret hM hQ (by decide) (by exact x_z1 (by unfold pH; rw [hc11, decide_eq_true hc20]; rfl)) rfl hP hK hD hS d_Mo_isCheck_28
abbrev rm_Mo_isIn : Room := { frames := 0, cells := 0, slots := 0, locals := 0 }
set_option maxHeartbeats 4000000 in
set_option maxRecDepth 100000 in
theorem c_Mo_isIn (l : Launch) (D : va_G) (cI cZ cJ : ClassId) (sz : Nat) (x : Int32)  : xCi l D (xT cI cZ cJ) y_Mo_isIn k_Mo_isIn rm_Mo_isIn sz ([]) [.int x] (zI (xr x 512)) ([]) 0 0 := by
  refine x_ofi (cc := b_Mo_isIn) (nL := 1) (ret := (some .boolean)) (by decide) rfl (Nat.le_of_ble_eq_true rfl) ?_
  intro p e s m args below meth c ls A Q hQ hM hsz hP hK hD hA hl
  obtain ⟨hx, hb, -, hml, hown, hts, -⟩ := id hM
  have hS : va_S A s.heap s.heap [] := va_S.rf
  have hl : lv_has ls 1 [(0, .int x)] := hl
  have hP : va_P D vwCl [] s.heap := hP
  have hD : va_D A [] := hD
  refine lv_iload_n hx hb d_Mo_isIn_0 rfl (lv_at hl 0 rfl) ?_
  refine lv_if_lt (tgt := 15) hx hb d_Mo_isIn_1 (by decide) (fun hc1 => ?_) (fun hc1 => ?_)
  · skip
    refine lv_iconst (v := nI 0) hx hb d_Mo_isIn_15 (by decide) ?_
    exact x_zret hM hQ (by decide) (by exact x_z0 (xr_f1 hc1)) rfl hP hK hD hS d_Mo_isIn_16
  · skip
    refine lv_iload_n hx hb d_Mo_isIn_4 rfl (lv_at hl 0 rfl) ?_
    refine lv_sipush (v := nI 512) hx hb d_Mo_isIn_5 (by decide) ?_
    refine lv_icmp_ge (tgt := 15) hx hb d_Mo_isIn_8 (by decide) (fun hc8 => ?_) (fun hc8 => ?_)
    · skip
      refine lv_iconst (v := nI 0) hx hb d_Mo_isIn_15 (by decide) ?_
      exact x_zret hM hQ (by decide) (by exact x_z0 (xr_f2 hc8)) rfl hP hK hD hS d_Mo_isIn_16
    · skip
      refine lv_iconst (v := nI 1) hx hb d_Mo_isIn_11 (by decide) ?_
      refine lv_goto hx hb d_Mo_isIn_12 (tgt := 16) (by decide) ?_
      exact x_zret hM hQ (by decide) (by exact x_z1 (xr_t hc1 hc8)) rfl hP hK hD hS d_Mo_isIn_16
abbrev rm_Mo_isRegister : Room := { frames := 0, cells := 0, slots := 0, locals := 0 }
set_option maxHeartbeats 4000000 in
set_option maxRecDepth 100000 in
theorem c_Mo_isRegister (l : Launch) (D : va_G) (cI cZ cJ : ClassId) (sz : Nat) (x : Int32)  : xCi l D (xT cI cZ cJ) y_Mo_isRegister k_Mo_isRegister rm_Mo_isRegister sz ([]) [.int x] (zI (xr x 8)) ([]) 0 0 := by
  refine x_ofi (cc := b_Mo_isRegister) (nL := 1) (ret := (some .boolean)) (by decide) rfl (Nat.le_of_ble_eq_true rfl) ?_
  intro p e s m args below meth c ls A Q hQ hM hsz hP hK hD hA hl
  obtain ⟨hx, hb, -, hml, hown, hts, -⟩ := id hM
  have hS : va_S A s.heap s.heap [] := va_S.rf
  have hl : lv_has ls 1 [(0, .int x)] := hl
  have hP : va_P D vwCl [] s.heap := hP
  have hD : va_D A [] := hD
  refine lv_iload_n hx hb d_Mo_isRegister_0 rfl (lv_at hl 0 rfl) ?_
  refine lv_if_lt (tgt := 14) hx hb d_Mo_isRegister_1 (by decide) (fun hc1 => ?_) (fun hc1 => ?_)
  · skip
    refine lv_iconst (v := nI 0) hx hb d_Mo_isRegister_14 (by decide) ?_
    exact x_zret hM hQ (by decide) (by exact x_z0 (xr_f1 hc1)) rfl hP hK hD hS d_Mo_isRegister_15
  · skip
    refine lv_iload_n hx hb d_Mo_isRegister_4 rfl (lv_at hl 0 rfl) ?_
    refine lv_bipush (v := nI 8) hx hb d_Mo_isRegister_5 (by decide) ?_
    refine lv_icmp_ge (tgt := 14) hx hb d_Mo_isRegister_7 (by decide) (fun hc7 => ?_) (fun hc7 => ?_)
    · skip
      refine lv_iconst (v := nI 0) hx hb d_Mo_isRegister_14 (by decide) ?_
      exact x_zret hM hQ (by decide) (by exact x_z0 (xr_f2 hc7)) rfl hP hK hD hS d_Mo_isRegister_15
    · skip
      refine lv_iconst (v := nI 1) hx hb d_Mo_isRegister_10 (by decide) ?_
      refine lv_goto hx hb d_Mo_isRegister_11 (tgt := 15) (by decide) ?_
      exact x_zret hM hQ (by decide) (by exact x_z1 (xr_t hc1 hc7)) rfl hP hK hD hS d_Mo_isRegister_15
end
section
abbrev rm_Mo_empty : Room := { frames := 0, cells := 0, slots := 0, locals := 0 }
set_option maxHeartbeats 4000000 in
set_option maxRecDepth 100000 in
theorem c_Mo_empty (l : Launch) (D : va_G) (cI cZ cJ : ClassId) (sz : Nat) (a : Nat → Nat) (cd : Nat) (P : xPg) (M : xMem) (R : xRn)   : xCv l D (xT cI cZ cJ) y_Mo_empty k_Mo_empty rm_Mo_empty sz (wMo cI a cd P M R) [.ref (a 0)] (wMo cI a cd P (mNew M) R) 0 0 := by
  refine x_ofv (cc := b_Mo_empty) (nL := 2) (ret := none) (by decide) rfl (Nat.le_of_ble_eq_true rfl) ?_
  intro p e s m args below meth c ls A Q hQ hM hsz hP hK hD hA hl
  obtain ⟨hx, hb, -, hml, hown, hts, -⟩ := id hM
  have hS : va_S A s.heap s.heap [] := va_S.rf
  have hl : lv_has ls 2 [(0, .ref (a 0))] := hl
  have hP : va_P D vwCl [(a 0, .inr (5, [.int (nI cd), .int (nI (pN P)), .ref (a 1), .ref (a 2), .ref (a 3), .ref (a 4), .ref (a 5), .ref (a 6), .ref (a 7), .ref (a 8), .ref (a 9), .int (nI (mQn M)), .ref (a 10), .int (nI (rSt R)), .int (zI (rCk R)), .int (nI (rAt R)), .int (nI (rLd R)), .ref (a 11), .int (nI (rPn R)), .ref (a 12), .int (nI (rKd R)), .int (rWh R), .int (nI (rWo R))])), (a 1, .inl (cI, 40, .inl (fun zz => nI ((pO P) zz)))), (a 2, .inl (cI, 40, .inl (fun zz => nI ((pR P) zz)))), (a 3, .inl (cI, 40, .inl (fun zz => nI ((pA P) zz)))), (a 4, .inl (cI, 40, .inl (fun zz => nI ((pB P) zz)))), (a 5, .inl (cI, 40, .inl (pK P))), (a 6, .inl (cI, 512, .inl (mHp M))), (a 7, .inl (cI, 64, .inl (mSh M))), (a 8, .inl (cI, 64, .inl (fun zz => nI ((mOw M) zz)))), (a 9, .inl (cI, 64, .inl (fun zz => nI ((mSz M) zz)))), (a 10, .inl (cI, 32, .inl (fun zz => nI ((mQf M) zz)))), (a 11, .inl (cI, 8, .inl (rRg R))), (a 12, .inl (cI, 60, .inl (rPr R)))] s.heap := hP
  have hD : va_D A [(a 0, .inr (5, [.int (nI cd), .int (nI (pN P)), .ref (a 1), .ref (a 2), .ref (a 3), .ref (a 4), .ref (a 5), .ref (a 6), .ref (a 7), .ref (a 8), .ref (a 9), .int (nI (mQn M)), .ref (a 10), .int (nI (rSt R)), .int (zI (rCk R)), .int (nI (rAt R)), .int (nI (rLd R)), .ref (a 11), .int (nI (rPn R)), .ref (a 12), .int (nI (rKd R)), .int (rWh R), .int (nI (rWo R))])), (a 1, .inl (cI, 40, .inl (fun zz => nI ((pO P) zz)))), (a 2, .inl (cI, 40, .inl (fun zz => nI ((pR P) zz)))), (a 3, .inl (cI, 40, .inl (fun zz => nI ((pA P) zz)))), (a 4, .inl (cI, 40, .inl (fun zz => nI ((pB P) zz)))), (a 5, .inl (cI, 40, .inl (pK P))), (a 6, .inl (cI, 512, .inl (mHp M))), (a 7, .inl (cI, 64, .inl (mSh M))), (a 8, .inl (cI, 64, .inl (fun zz => nI ((mOw M) zz)))), (a 9, .inl (cI, 64, .inl (fun zz => nI ((mSz M) zz)))), (a 10, .inl (cI, 32, .inl (fun zz => nI ((mQf M) zz)))), (a 11, .inl (cI, 8, .inl (rRg R))), (a 12, .inl (cI, 60, .inl (rPr R)))] := hD
  refine lv_iconst (v := nI 0) hx hb d_Mo_empty_0 (by decide) ?_
  refine lv_istore_n hx hb d_Mo_empty_1 rfl hl (by decide) rfl (fun ls hl => ?_)
  have hl : lv_has ls 2 [(1, .int (nI 0)), (0, .ref (a 0))] := hl
  have loop2 : ∀ (K2 : Nat) (j : Nat) (f : Nat → Int32) (ls : Array Slot) (H : Heap) (locs : List Loc), (0 ≤ j) → (j ≤ 512) → (f = xp (mHp M) 0 j (nI 0)) → 512 - j = K2 → lv_has ls 2 [(1, .int (nI j)), (0, .ref (a 0))] → va_P D vwCl [(a 0, .inr (5, [.int (nI cd), .int (nI (pN P)), .ref (a 1), .ref (a 2), .ref (a 3), .ref (a 4), .ref (a 5), .ref (a 6), .ref (a 7), .ref (a 8), .ref (a 9), .int (nI (mQn M)), .ref (a 10), .int (nI (rSt R)), .int (zI (rCk R)), .int (nI (rAt R)), .int (nI (rLd R)), .ref (a 11), .int (nI (rPn R)), .ref (a 12), .int (nI (rKd R)), .int (rWh R), .int (nI (rWo R))])), (a 1, .inl (cI, 40, .inl (fun zz => nI ((pO P) zz)))), (a 2, .inl (cI, 40, .inl (fun zz => nI ((pR P) zz)))), (a 3, .inl (cI, 40, .inl (fun zz => nI ((pA P) zz)))), (a 4, .inl (cI, 40, .inl (fun zz => nI ((pB P) zz)))), (a 5, .inl (cI, 40, .inl (pK P))), (a 6, .inl (cI, 512, .inl f)), (a 7, .inl (cI, 64, .inl (mSh M))), (a 8, .inl (cI, 64, .inl (fun zz => nI ((mOw M) zz)))), (a 9, .inl (cI, 64, .inl (fun zz => nI ((mSz M) zz)))), (a 10, .inl (cI, 32, .inl (fun zz => nI ((mQf M) zz)))), (a 11, .inl (cI, 8, .inl (rRg R))), (a 12, .inl (cI, 60, .inl (rPr R)))] H → va_D A [(a 0, .inr (5, [.int (nI cd), .int (nI (pN P)), .ref (a 1), .ref (a 2), .ref (a 3), .ref (a 4), .ref (a 5), .ref (a 6), .ref (a 7), .ref (a 8), .ref (a 9), .int (nI (mQn M)), .ref (a 10), .int (nI (rSt R)), .int (zI (rCk R)), .int (nI (rAt R)), .int (nI (rLd R)), .ref (a 11), .int (nI (rPn R)), .ref (a 12), .int (nI (rKd R)), .int (rWh R), .int (nI (rWo R))])), (a 1, .inl (cI, 40, .inl (fun zz => nI ((pO P) zz)))), (a 2, .inl (cI, 40, .inl (fun zz => nI ((pR P) zz)))), (a 3, .inl (cI, 40, .inl (fun zz => nI ((pA P) zz)))), (a 4, .inl (cI, 40, .inl (fun zz => nI ((pB P) zz)))), (a 5, .inl (cI, 40, .inl (pK P))), (a 6, .inl (cI, 512, .inl f)), (a 7, .inl (cI, 64, .inl (mSh M))), (a 8, .inl (cI, 64, .inl (fun zz => nI ((mOw M) zz)))), (a 9, .inl (cI, 64, .inl (fun zz => nI ((mSz M) zz)))), (a 10, .inl (cI, 32, .inl (fun zz => nI ((mQf M) zz)))), (a 11, .inl (cI, 8, .inl (rRg R))), (a 12, .inl (cI, 60, .inl (rPr R)))] → va_S A s.heap H locs → W p l e rm_Mo_empty s m args below meth c H locs 0 0 Q (F0 m 2 ls []) := by
    intro K2
    induction K2 using Nat.strongRecOn with
    | _ K2 ih2 =>
      intro j f ls H locs g1 g2 hf hK2 hl hP hD hS
      refine lv_iload_n hx hb d_Mo_empty_2 rfl (lv_at hl 0 rfl) ?_
      refine lv_sipush (v := nI 512) hx hb d_Mo_empty_3 (by decide) ?_
      refine x_icmp_ge (tgt := 22) hM (by omega) (by omega) d_Mo_empty_6 (by decide) (fun hc6 => ?_) (fun hc6 => ?_)
      · skip
        obtain rfl : j = 512 := by omega
        subst hf
        have hP : va_P D vwCl [(a 0, .inr (5, [.int (nI cd), .int (nI (pN P)), .ref (a 1), .ref (a 2), .ref (a 3), .ref (a 4), .ref (a 5), .ref (a 6), .ref (a 7), .ref (a 8), .ref (a 9), .int (nI (mQn M)), .ref (a 10), .int (nI (rSt R)), .int (zI (rCk R)), .int (nI (rAt R)), .int (nI (rLd R)), .ref (a 11), .int (nI (rPn R)), .ref (a 12), .int (nI (rKd R)), .int (rWh R), .int (nI (rWo R))])), (a 1, .inl (cI, 40, .inl (fun zz => nI ((pO P) zz)))), (a 2, .inl (cI, 40, .inl (fun zz => nI ((pR P) zz)))), (a 3, .inl (cI, 40, .inl (fun zz => nI ((pA P) zz)))), (a 4, .inl (cI, 40, .inl (fun zz => nI ((pB P) zz)))), (a 5, .inl (cI, 40, .inl (pK P))), (a 6, .inl (cI, 512, .inl (xp (mHp M) 0 512 (nI 0)))), (a 7, .inl (cI, 64, .inl (mSh M))), (a 8, .inl (cI, 64, .inl (fun zz => nI ((mOw M) zz)))), (a 9, .inl (cI, 64, .inl (fun zz => nI ((mSz M) zz)))), (a 10, .inl (cI, 32, .inl (fun zz => nI ((mQf M) zz)))), (a 11, .inl (cI, 8, .inl (rRg R))), (a 12, .inl (cI, 60, .inl (rPr R)))] H := hP
        have hD : va_D A [(a 0, .inr (5, [.int (nI cd), .int (nI (pN P)), .ref (a 1), .ref (a 2), .ref (a 3), .ref (a 4), .ref (a 5), .ref (a 6), .ref (a 7), .ref (a 8), .ref (a 9), .int (nI (mQn M)), .ref (a 10), .int (nI (rSt R)), .int (zI (rCk R)), .int (nI (rAt R)), .int (nI (rLd R)), .ref (a 11), .int (nI (rPn R)), .ref (a 12), .int (nI (rKd R)), .int (rWh R), .int (nI (rWo R))])), (a 1, .inl (cI, 40, .inl (fun zz => nI ((pO P) zz)))), (a 2, .inl (cI, 40, .inl (fun zz => nI ((pR P) zz)))), (a 3, .inl (cI, 40, .inl (fun zz => nI ((pA P) zz)))), (a 4, .inl (cI, 40, .inl (fun zz => nI ((pB P) zz)))), (a 5, .inl (cI, 40, .inl (pK P))), (a 6, .inl (cI, 512, .inl (xp (mHp M) 0 512 (nI 0)))), (a 7, .inl (cI, 64, .inl (mSh M))), (a 8, .inl (cI, 64, .inl (fun zz => nI ((mOw M) zz)))), (a 9, .inl (cI, 64, .inl (fun zz => nI ((mSz M) zz)))), (a 10, .inl (cI, 32, .inl (fun zz => nI ((mQf M) zz)))), (a 11, .inl (cI, 8, .inl (rRg R))), (a 12, .inl (cI, 60, .inl (rPr R)))] := hD
        refine lv_iconst (v := nI 0) hx hb d_Mo_empty_22 (by decide) ?_
        refine lv_istore_n hx hb d_Mo_empty_23 rfl hl (by decide) rfl (fun ls hl => ?_)
        have hl : lv_has ls 2 [(1, .int (nI 0)), (0, .ref (a 0))] := hl
        have loop24 : ∀ (K24 : Nat) (j : Nat) (f1 : Nat → Int32) (f2 : Nat → Nat) (f3 : Nat → Nat) (ls : Array Slot) (H : Heap) (locs : List Loc), (0 ≤ j) → (j ≤ 64) → (f1 = xp (mSh M) 0 j (-3)) → (f2 = xp (mOw M) 0 j 0) → (f3 = xp (mSz M) 0 j 0) → 64 - j = K24 → lv_has ls 2 [(1, .int (nI j)), (0, .ref (a 0))] → va_P D vwCl [(a 0, .inr (5, [.int (nI cd), .int (nI (pN P)), .ref (a 1), .ref (a 2), .ref (a 3), .ref (a 4), .ref (a 5), .ref (a 6), .ref (a 7), .ref (a 8), .ref (a 9), .int (nI (mQn M)), .ref (a 10), .int (nI (rSt R)), .int (zI (rCk R)), .int (nI (rAt R)), .int (nI (rLd R)), .ref (a 11), .int (nI (rPn R)), .ref (a 12), .int (nI (rKd R)), .int (rWh R), .int (nI (rWo R))])), (a 1, .inl (cI, 40, .inl (fun zz => nI ((pO P) zz)))), (a 2, .inl (cI, 40, .inl (fun zz => nI ((pR P) zz)))), (a 3, .inl (cI, 40, .inl (fun zz => nI ((pA P) zz)))), (a 4, .inl (cI, 40, .inl (fun zz => nI ((pB P) zz)))), (a 5, .inl (cI, 40, .inl (pK P))), (a 6, .inl (cI, 512, .inl (xp (mHp M) 0 512 (nI 0)))), (a 7, .inl (cI, 64, .inl f1)), (a 8, .inl (cI, 64, .inl (fun zz => nI (f2 zz)))), (a 9, .inl (cI, 64, .inl (fun zz => nI (f3 zz)))), (a 10, .inl (cI, 32, .inl (fun zz => nI ((mQf M) zz)))), (a 11, .inl (cI, 8, .inl (rRg R))), (a 12, .inl (cI, 60, .inl (rPr R)))] H → va_D A [(a 0, .inr (5, [.int (nI cd), .int (nI (pN P)), .ref (a 1), .ref (a 2), .ref (a 3), .ref (a 4), .ref (a 5), .ref (a 6), .ref (a 7), .ref (a 8), .ref (a 9), .int (nI (mQn M)), .ref (a 10), .int (nI (rSt R)), .int (zI (rCk R)), .int (nI (rAt R)), .int (nI (rLd R)), .ref (a 11), .int (nI (rPn R)), .ref (a 12), .int (nI (rKd R)), .int (rWh R), .int (nI (rWo R))])), (a 1, .inl (cI, 40, .inl (fun zz => nI ((pO P) zz)))), (a 2, .inl (cI, 40, .inl (fun zz => nI ((pR P) zz)))), (a 3, .inl (cI, 40, .inl (fun zz => nI ((pA P) zz)))), (a 4, .inl (cI, 40, .inl (fun zz => nI ((pB P) zz)))), (a 5, .inl (cI, 40, .inl (pK P))), (a 6, .inl (cI, 512, .inl (xp (mHp M) 0 512 (nI 0)))), (a 7, .inl (cI, 64, .inl f1)), (a 8, .inl (cI, 64, .inl (fun zz => nI (f2 zz)))), (a 9, .inl (cI, 64, .inl (fun zz => nI (f3 zz)))), (a 10, .inl (cI, 32, .inl (fun zz => nI ((mQf M) zz)))), (a 11, .inl (cI, 8, .inl (rRg R))), (a 12, .inl (cI, 60, .inl (rPr R)))] → va_S A s.heap H locs → W p l e rm_Mo_empty s m args below meth c H locs 0 0 Q (F0 m 24 ls []) := by
          intro K24
          induction K24 using Nat.strongRecOn with
          | _ K24 ih24 =>
            intro j f1 f2 f3 ls H locs g1 g2 hf1 hf2 hf3 hK24 hl hP hD hS
            refine lv_iload_n hx hb d_Mo_empty_24 rfl (lv_at hl 0 rfl) ?_
            refine lv_bipush (v := nI 64) hx hb d_Mo_empty_25 (by decide) ?_
            refine x_icmp_ge (tgt := 58) hM (by omega) (by omega) d_Mo_empty_27 (by decide) (fun hc27 => ?_) (fun hc27 => ?_)
            · skip
              obtain rfl : j = 64 := by omega
              subst hf1 hf2 hf3
              have hP : va_P D vwCl [(a 0, .inr (5, [.int (nI cd), .int (nI (pN P)), .ref (a 1), .ref (a 2), .ref (a 3), .ref (a 4), .ref (a 5), .ref (a 6), .ref (a 7), .ref (a 8), .ref (a 9), .int (nI (mQn M)), .ref (a 10), .int (nI (rSt R)), .int (zI (rCk R)), .int (nI (rAt R)), .int (nI (rLd R)), .ref (a 11), .int (nI (rPn R)), .ref (a 12), .int (nI (rKd R)), .int (rWh R), .int (nI (rWo R))])), (a 1, .inl (cI, 40, .inl (fun zz => nI ((pO P) zz)))), (a 2, .inl (cI, 40, .inl (fun zz => nI ((pR P) zz)))), (a 3, .inl (cI, 40, .inl (fun zz => nI ((pA P) zz)))), (a 4, .inl (cI, 40, .inl (fun zz => nI ((pB P) zz)))), (a 5, .inl (cI, 40, .inl (pK P))), (a 6, .inl (cI, 512, .inl (xp (mHp M) 0 512 (nI 0)))), (a 7, .inl (cI, 64, .inl (xp (mSh M) 0 64 (-3)))), (a 8, .inl (cI, 64, .inl (fun zz => nI ((xp (mOw M) 0 64 0) zz)))), (a 9, .inl (cI, 64, .inl (fun zz => nI ((xp (mSz M) 0 64 0) zz)))), (a 10, .inl (cI, 32, .inl (fun zz => nI ((mQf M) zz)))), (a 11, .inl (cI, 8, .inl (rRg R))), (a 12, .inl (cI, 60, .inl (rPr R)))] H := hP
              have hD : va_D A [(a 0, .inr (5, [.int (nI cd), .int (nI (pN P)), .ref (a 1), .ref (a 2), .ref (a 3), .ref (a 4), .ref (a 5), .ref (a 6), .ref (a 7), .ref (a 8), .ref (a 9), .int (nI (mQn M)), .ref (a 10), .int (nI (rSt R)), .int (zI (rCk R)), .int (nI (rAt R)), .int (nI (rLd R)), .ref (a 11), .int (nI (rPn R)), .ref (a 12), .int (nI (rKd R)), .int (rWh R), .int (nI (rWo R))])), (a 1, .inl (cI, 40, .inl (fun zz => nI ((pO P) zz)))), (a 2, .inl (cI, 40, .inl (fun zz => nI ((pR P) zz)))), (a 3, .inl (cI, 40, .inl (fun zz => nI ((pA P) zz)))), (a 4, .inl (cI, 40, .inl (fun zz => nI ((pB P) zz)))), (a 5, .inl (cI, 40, .inl (pK P))), (a 6, .inl (cI, 512, .inl (xp (mHp M) 0 512 (nI 0)))), (a 7, .inl (cI, 64, .inl (xp (mSh M) 0 64 (-3)))), (a 8, .inl (cI, 64, .inl (fun zz => nI ((xp (mOw M) 0 64 0) zz)))), (a 9, .inl (cI, 64, .inl (fun zz => nI ((xp (mSz M) 0 64 0) zz)))), (a 10, .inl (cI, 32, .inl (fun zz => nI ((mQf M) zz)))), (a 11, .inl (cI, 8, .inl (rRg R))), (a 12, .inl (cI, 60, .inl (rPr R)))] := hD
              refine lv_aload_n hx hb d_Mo_empty_58 rfl (lv_at hl 1 rfl) ?_
              refine lv_iconst (v := nI 0) hx hb d_Mo_empty_59 (by decide) ?_
              refine x_put hM hK hP hD hS 0 5 11 i_Mo t_Mo t_Mo_ok n_Mo rfl rfl (by decide) q_fl_Mo_83 rfl rfl rfl (Nat.le_of_ble_eq_true rfl) d_Mo_empty_60 (fun H locs hP hD hS => ?_)
              have hP : va_P D vwCl [(a 0, .inr (5, [.int (nI cd), .int (nI (pN P)), .ref (a 1), .ref (a 2), .ref (a 3), .ref (a 4), .ref (a 5), .ref (a 6), .ref (a 7), .ref (a 8), .ref (a 9), .int (nI 0), .ref (a 10), .int (nI (rSt R)), .int (zI (rCk R)), .int (nI (rAt R)), .int (nI (rLd R)), .ref (a 11), .int (nI (rPn R)), .ref (a 12), .int (nI (rKd R)), .int (rWh R), .int (nI (rWo R))])), (a 1, .inl (cI, 40, .inl (fun zz => nI ((pO P) zz)))), (a 2, .inl (cI, 40, .inl (fun zz => nI ((pR P) zz)))), (a 3, .inl (cI, 40, .inl (fun zz => nI ((pA P) zz)))), (a 4, .inl (cI, 40, .inl (fun zz => nI ((pB P) zz)))), (a 5, .inl (cI, 40, .inl (pK P))), (a 6, .inl (cI, 512, .inl (xp (mHp M) 0 512 (nI 0)))), (a 7, .inl (cI, 64, .inl (xp (mSh M) 0 64 (-3)))), (a 8, .inl (cI, 64, .inl (fun zz => nI ((xp (mOw M) 0 64 0) zz)))), (a 9, .inl (cI, 64, .inl (fun zz => nI ((xp (mSz M) 0 64 0) zz)))), (a 10, .inl (cI, 32, .inl (fun zz => nI ((mQf M) zz)))), (a 11, .inl (cI, 8, .inl (rRg R))), (a 12, .inl (cI, 60, .inl (rPr R)))] H := hP
              have hD : va_D A [(a 0, .inr (5, [.int (nI cd), .int (nI (pN P)), .ref (a 1), .ref (a 2), .ref (a 3), .ref (a 4), .ref (a 5), .ref (a 6), .ref (a 7), .ref (a 8), .ref (a 9), .int (nI 0), .ref (a 10), .int (nI (rSt R)), .int (zI (rCk R)), .int (nI (rAt R)), .int (nI (rLd R)), .ref (a 11), .int (nI (rPn R)), .ref (a 12), .int (nI (rKd R)), .int (rWh R), .int (nI (rWo R))])), (a 1, .inl (cI, 40, .inl (fun zz => nI ((pO P) zz)))), (a 2, .inl (cI, 40, .inl (fun zz => nI ((pR P) zz)))), (a 3, .inl (cI, 40, .inl (fun zz => nI ((pA P) zz)))), (a 4, .inl (cI, 40, .inl (fun zz => nI ((pB P) zz)))), (a 5, .inl (cI, 40, .inl (pK P))), (a 6, .inl (cI, 512, .inl (xp (mHp M) 0 512 (nI 0)))), (a 7, .inl (cI, 64, .inl (xp (mSh M) 0 64 (-3)))), (a 8, .inl (cI, 64, .inl (fun zz => nI ((xp (mOw M) 0 64 0) zz)))), (a 9, .inl (cI, 64, .inl (fun zz => nI ((xp (mSz M) 0 64 0) zz)))), (a 10, .inl (cI, 32, .inl (fun zz => nI ((mQf M) zz)))), (a 11, .inl (cI, 8, .inl (rRg R))), (a 12, .inl (cI, 60, .inl (rPr R)))] := hD
              exact x_vret hM hQ rfl hP hK hD hS d_Mo_empty_63
            · skip
              refine lv_aload_n hx hb d_Mo_empty_30 rfl (lv_at hl 1 rfl) ?_
              refine x_get hM hK hP 0 5 8 i_Mo rfl rfl (by decide) q_fl_Mo_28 rfl d_Mo_empty_31 ?_
              refine lv_iload_n hx hb d_Mo_empty_34 rfl (lv_at hl 0 rfl) ?_
              refine lv_bipush (v := -3) hx hb d_Mo_empty_35 (by decide) ?_
              refine x_iast hM hK hP hD hS 7 0 rfl rfl (by omega) (by decide) d_Mo_empty_37 (fun H locs hP hD hS => ?_)
              have hP : va_P D vwCl [(a 0, .inr (5, [.int (nI cd), .int (nI (pN P)), .ref (a 1), .ref (a 2), .ref (a 3), .ref (a 4), .ref (a 5), .ref (a 6), .ref (a 7), .ref (a 8), .ref (a 9), .int (nI (mQn M)), .ref (a 10), .int (nI (rSt R)), .int (zI (rCk R)), .int (nI (rAt R)), .int (nI (rLd R)), .ref (a 11), .int (nI (rPn R)), .ref (a 12), .int (nI (rKd R)), .int (rWh R), .int (nI (rWo R))])), (a 1, .inl (cI, 40, .inl (fun zz => nI ((pO P) zz)))), (a 2, .inl (cI, 40, .inl (fun zz => nI ((pR P) zz)))), (a 3, .inl (cI, 40, .inl (fun zz => nI ((pA P) zz)))), (a 4, .inl (cI, 40, .inl (fun zz => nI ((pB P) zz)))), (a 5, .inl (cI, 40, .inl (pK P))), (a 6, .inl (cI, 512, .inl (xp (mHp M) 0 512 (nI 0)))), (a 7, .inl (cI, 64, .inl (xu f1 j (-3)))), (a 8, .inl (cI, 64, .inl (fun zz => nI (f2 zz)))), (a 9, .inl (cI, 64, .inl (fun zz => nI (f3 zz)))), (a 10, .inl (cI, 32, .inl (fun zz => nI ((mQf M) zz)))), (a 11, .inl (cI, 8, .inl (rRg R))), (a 12, .inl (cI, 60, .inl (rPr R)))] H := hP
              have hD : va_D A [(a 0, .inr (5, [.int (nI cd), .int (nI (pN P)), .ref (a 1), .ref (a 2), .ref (a 3), .ref (a 4), .ref (a 5), .ref (a 6), .ref (a 7), .ref (a 8), .ref (a 9), .int (nI (mQn M)), .ref (a 10), .int (nI (rSt R)), .int (zI (rCk R)), .int (nI (rAt R)), .int (nI (rLd R)), .ref (a 11), .int (nI (rPn R)), .ref (a 12), .int (nI (rKd R)), .int (rWh R), .int (nI (rWo R))])), (a 1, .inl (cI, 40, .inl (fun zz => nI ((pO P) zz)))), (a 2, .inl (cI, 40, .inl (fun zz => nI ((pR P) zz)))), (a 3, .inl (cI, 40, .inl (fun zz => nI ((pA P) zz)))), (a 4, .inl (cI, 40, .inl (fun zz => nI ((pB P) zz)))), (a 5, .inl (cI, 40, .inl (pK P))), (a 6, .inl (cI, 512, .inl (xp (mHp M) 0 512 (nI 0)))), (a 7, .inl (cI, 64, .inl (xu f1 j (-3)))), (a 8, .inl (cI, 64, .inl (fun zz => nI (f2 zz)))), (a 9, .inl (cI, 64, .inl (fun zz => nI (f3 zz)))), (a 10, .inl (cI, 32, .inl (fun zz => nI ((mQf M) zz)))), (a 11, .inl (cI, 8, .inl (rRg R))), (a 12, .inl (cI, 60, .inl (rPr R)))] := hD
              refine lv_aload_n hx hb d_Mo_empty_38 rfl (lv_at hl 1 rfl) ?_
              refine x_get hM hK hP 0 5 9 i_Mo rfl rfl (by decide) q_fl_Mo_31 rfl d_Mo_empty_39 ?_
              refine lv_iload_n hx hb d_Mo_empty_42 rfl (lv_at hl 0 rfl) ?_
              refine lv_iconst (v := nI 0) hx hb d_Mo_empty_43 (by decide) ?_
              refine x_iastN hM hK hP hD hS 8 0 rfl rfl (by omega) (by decide) d_Mo_empty_44 (fun H locs hP hD hS => ?_)
              have hP : va_P D vwCl [(a 0, .inr (5, [.int (nI cd), .int (nI (pN P)), .ref (a 1), .ref (a 2), .ref (a 3), .ref (a 4), .ref (a 5), .ref (a 6), .ref (a 7), .ref (a 8), .ref (a 9), .int (nI (mQn M)), .ref (a 10), .int (nI (rSt R)), .int (zI (rCk R)), .int (nI (rAt R)), .int (nI (rLd R)), .ref (a 11), .int (nI (rPn R)), .ref (a 12), .int (nI (rKd R)), .int (rWh R), .int (nI (rWo R))])), (a 1, .inl (cI, 40, .inl (fun zz => nI ((pO P) zz)))), (a 2, .inl (cI, 40, .inl (fun zz => nI ((pR P) zz)))), (a 3, .inl (cI, 40, .inl (fun zz => nI ((pA P) zz)))), (a 4, .inl (cI, 40, .inl (fun zz => nI ((pB P) zz)))), (a 5, .inl (cI, 40, .inl (pK P))), (a 6, .inl (cI, 512, .inl (xp (mHp M) 0 512 (nI 0)))), (a 7, .inl (cI, 64, .inl (xu f1 j (-3)))), (a 8, .inl (cI, 64, .inl (fun zz => nI ((xu f2 j 0) zz)))), (a 9, .inl (cI, 64, .inl (fun zz => nI (f3 zz)))), (a 10, .inl (cI, 32, .inl (fun zz => nI ((mQf M) zz)))), (a 11, .inl (cI, 8, .inl (rRg R))), (a 12, .inl (cI, 60, .inl (rPr R)))] H := hP
              have hD : va_D A [(a 0, .inr (5, [.int (nI cd), .int (nI (pN P)), .ref (a 1), .ref (a 2), .ref (a 3), .ref (a 4), .ref (a 5), .ref (a 6), .ref (a 7), .ref (a 8), .ref (a 9), .int (nI (mQn M)), .ref (a 10), .int (nI (rSt R)), .int (zI (rCk R)), .int (nI (rAt R)), .int (nI (rLd R)), .ref (a 11), .int (nI (rPn R)), .ref (a 12), .int (nI (rKd R)), .int (rWh R), .int (nI (rWo R))])), (a 1, .inl (cI, 40, .inl (fun zz => nI ((pO P) zz)))), (a 2, .inl (cI, 40, .inl (fun zz => nI ((pR P) zz)))), (a 3, .inl (cI, 40, .inl (fun zz => nI ((pA P) zz)))), (a 4, .inl (cI, 40, .inl (fun zz => nI ((pB P) zz)))), (a 5, .inl (cI, 40, .inl (pK P))), (a 6, .inl (cI, 512, .inl (xp (mHp M) 0 512 (nI 0)))), (a 7, .inl (cI, 64, .inl (xu f1 j (-3)))), (a 8, .inl (cI, 64, .inl (fun zz => nI ((xu f2 j 0) zz)))), (a 9, .inl (cI, 64, .inl (fun zz => nI (f3 zz)))), (a 10, .inl (cI, 32, .inl (fun zz => nI ((mQf M) zz)))), (a 11, .inl (cI, 8, .inl (rRg R))), (a 12, .inl (cI, 60, .inl (rPr R)))] := hD
              refine lv_aload_n hx hb d_Mo_empty_45 rfl (lv_at hl 1 rfl) ?_
              refine x_get hM hK hP 0 5 10 i_Mo rfl rfl (by decide) q_fl_Mo_34 rfl d_Mo_empty_46 ?_
              refine lv_iload_n hx hb d_Mo_empty_49 rfl (lv_at hl 0 rfl) ?_
              refine lv_iconst (v := nI 0) hx hb d_Mo_empty_50 (by decide) ?_
              refine x_iastN hM hK hP hD hS 9 0 rfl rfl (by omega) (by decide) d_Mo_empty_51 (fun H locs hP hD hS => ?_)
              have hP : va_P D vwCl [(a 0, .inr (5, [.int (nI cd), .int (nI (pN P)), .ref (a 1), .ref (a 2), .ref (a 3), .ref (a 4), .ref (a 5), .ref (a 6), .ref (a 7), .ref (a 8), .ref (a 9), .int (nI (mQn M)), .ref (a 10), .int (nI (rSt R)), .int (zI (rCk R)), .int (nI (rAt R)), .int (nI (rLd R)), .ref (a 11), .int (nI (rPn R)), .ref (a 12), .int (nI (rKd R)), .int (rWh R), .int (nI (rWo R))])), (a 1, .inl (cI, 40, .inl (fun zz => nI ((pO P) zz)))), (a 2, .inl (cI, 40, .inl (fun zz => nI ((pR P) zz)))), (a 3, .inl (cI, 40, .inl (fun zz => nI ((pA P) zz)))), (a 4, .inl (cI, 40, .inl (fun zz => nI ((pB P) zz)))), (a 5, .inl (cI, 40, .inl (pK P))), (a 6, .inl (cI, 512, .inl (xp (mHp M) 0 512 (nI 0)))), (a 7, .inl (cI, 64, .inl (xu f1 j (-3)))), (a 8, .inl (cI, 64, .inl (fun zz => nI ((xu f2 j 0) zz)))), (a 9, .inl (cI, 64, .inl (fun zz => nI ((xu f3 j 0) zz)))), (a 10, .inl (cI, 32, .inl (fun zz => nI ((mQf M) zz)))), (a 11, .inl (cI, 8, .inl (rRg R))), (a 12, .inl (cI, 60, .inl (rPr R)))] H := hP
              have hD : va_D A [(a 0, .inr (5, [.int (nI cd), .int (nI (pN P)), .ref (a 1), .ref (a 2), .ref (a 3), .ref (a 4), .ref (a 5), .ref (a 6), .ref (a 7), .ref (a 8), .ref (a 9), .int (nI (mQn M)), .ref (a 10), .int (nI (rSt R)), .int (zI (rCk R)), .int (nI (rAt R)), .int (nI (rLd R)), .ref (a 11), .int (nI (rPn R)), .ref (a 12), .int (nI (rKd R)), .int (rWh R), .int (nI (rWo R))])), (a 1, .inl (cI, 40, .inl (fun zz => nI ((pO P) zz)))), (a 2, .inl (cI, 40, .inl (fun zz => nI ((pR P) zz)))), (a 3, .inl (cI, 40, .inl (fun zz => nI ((pA P) zz)))), (a 4, .inl (cI, 40, .inl (fun zz => nI ((pB P) zz)))), (a 5, .inl (cI, 40, .inl (pK P))), (a 6, .inl (cI, 512, .inl (xp (mHp M) 0 512 (nI 0)))), (a 7, .inl (cI, 64, .inl (xu f1 j (-3)))), (a 8, .inl (cI, 64, .inl (fun zz => nI ((xu f2 j 0) zz)))), (a 9, .inl (cI, 64, .inl (fun zz => nI ((xu f3 j 0) zz)))), (a 10, .inl (cI, 32, .inl (fun zz => nI ((mQf M) zz)))), (a 11, .inl (cI, 8, .inl (rRg R))), (a 12, .inl (cI, 60, .inl (rPr R)))] := hD
              refine lv_iinc (k := 0) (v := nI (j + 1)) hx hb d_Mo_empty_52 hl rfl (by rw [show Int32.ofInt 1 = nI 1 by decide, nI_add]) (by decide) rfl (fun ls hl => ?_)
              have hl : lv_has ls 2 [(1, .int (nI (j + 1))), (0, .ref (a 0))] := hl
              refine lv_goto hx hb d_Mo_empty_55 (tgt := 24) (by decide) ?_
              exact ih24 _ (by omega) (j + 1) (xu f1 j (-3)) (xu f2 j 0) (xu f3 j 0) ls H locs (by omega) (by omega) (by rw [hf1, xp_s g1]) (by rw [hf2, xp_s g1]) (by rw [hf3, xp_s g1]) rfl hl hP hD hS
        exact loop24 _ 0 (mSh M) (mOw M) (mSz M) ls H locs (by omega) (by omega) (xp_0 _ _ _).symm (xp_0 _ _ _).symm (xp_0 _ _ _).symm rfl hl hP hD hS
      · skip
        refine lv_aload_n hx hb d_Mo_empty_9 rfl (lv_at hl 1 rfl) ?_
        refine x_get hM hK hP 0 5 7 i_Mo rfl rfl (by decide) q_fl_Mo_25 rfl d_Mo_empty_10 ?_
        refine lv_iload_n hx hb d_Mo_empty_13 rfl (lv_at hl 0 rfl) ?_
        refine lv_iconst (v := nI 0) hx hb d_Mo_empty_14 (by decide) ?_
        refine x_iast hM hK hP hD hS 6 0 rfl rfl (by omega) (by decide) d_Mo_empty_15 (fun H locs hP hD hS => ?_)
        have hP : va_P D vwCl [(a 0, .inr (5, [.int (nI cd), .int (nI (pN P)), .ref (a 1), .ref (a 2), .ref (a 3), .ref (a 4), .ref (a 5), .ref (a 6), .ref (a 7), .ref (a 8), .ref (a 9), .int (nI (mQn M)), .ref (a 10), .int (nI (rSt R)), .int (zI (rCk R)), .int (nI (rAt R)), .int (nI (rLd R)), .ref (a 11), .int (nI (rPn R)), .ref (a 12), .int (nI (rKd R)), .int (rWh R), .int (nI (rWo R))])), (a 1, .inl (cI, 40, .inl (fun zz => nI ((pO P) zz)))), (a 2, .inl (cI, 40, .inl (fun zz => nI ((pR P) zz)))), (a 3, .inl (cI, 40, .inl (fun zz => nI ((pA P) zz)))), (a 4, .inl (cI, 40, .inl (fun zz => nI ((pB P) zz)))), (a 5, .inl (cI, 40, .inl (pK P))), (a 6, .inl (cI, 512, .inl (xu f j (nI 0)))), (a 7, .inl (cI, 64, .inl (mSh M))), (a 8, .inl (cI, 64, .inl (fun zz => nI ((mOw M) zz)))), (a 9, .inl (cI, 64, .inl (fun zz => nI ((mSz M) zz)))), (a 10, .inl (cI, 32, .inl (fun zz => nI ((mQf M) zz)))), (a 11, .inl (cI, 8, .inl (rRg R))), (a 12, .inl (cI, 60, .inl (rPr R)))] H := hP
        have hD : va_D A [(a 0, .inr (5, [.int (nI cd), .int (nI (pN P)), .ref (a 1), .ref (a 2), .ref (a 3), .ref (a 4), .ref (a 5), .ref (a 6), .ref (a 7), .ref (a 8), .ref (a 9), .int (nI (mQn M)), .ref (a 10), .int (nI (rSt R)), .int (zI (rCk R)), .int (nI (rAt R)), .int (nI (rLd R)), .ref (a 11), .int (nI (rPn R)), .ref (a 12), .int (nI (rKd R)), .int (rWh R), .int (nI (rWo R))])), (a 1, .inl (cI, 40, .inl (fun zz => nI ((pO P) zz)))), (a 2, .inl (cI, 40, .inl (fun zz => nI ((pR P) zz)))), (a 3, .inl (cI, 40, .inl (fun zz => nI ((pA P) zz)))), (a 4, .inl (cI, 40, .inl (fun zz => nI ((pB P) zz)))), (a 5, .inl (cI, 40, .inl (pK P))), (a 6, .inl (cI, 512, .inl (xu f j (nI 0)))), (a 7, .inl (cI, 64, .inl (mSh M))), (a 8, .inl (cI, 64, .inl (fun zz => nI ((mOw M) zz)))), (a 9, .inl (cI, 64, .inl (fun zz => nI ((mSz M) zz)))), (a 10, .inl (cI, 32, .inl (fun zz => nI ((mQf M) zz)))), (a 11, .inl (cI, 8, .inl (rRg R))), (a 12, .inl (cI, 60, .inl (rPr R)))] := hD
        refine lv_iinc (k := 0) (v := nI (j + 1)) hx hb d_Mo_empty_16 hl rfl (by rw [show Int32.ofInt 1 = nI 1 by decide, nI_add]) (by decide) rfl (fun ls hl => ?_)
        have hl : lv_has ls 2 [(1, .int (nI (j + 1))), (0, .ref (a 0))] := hl
        refine lv_goto hx hb d_Mo_empty_19 (tgt := 2) (by decide) ?_
        exact ih2 _ (by omega) (j + 1) (xu f j (nI 0)) ls H locs (by omega) (by omega) (by rw [hf, xp_s g1]) rfl hl hP hD hS
  exact loop2 _ 0 (mHp M) ls s.heap [] (by omega) (by omega) (xp_0 _ _ _).symm rfl hl hP hD hS
abbrev rm_Mo_gap : Room := { frames := 0, cells := 0, slots := 0, locals := 0 }
set_option maxHeartbeats 4000000 in
set_option maxRecDepth 100000 in
theorem c_Mo_gap (l : Launch) (D : va_G) (cI cZ cJ : ClassId) (sz : Nat) (a : Nat → Nat) (cd : Nat) (P : xPg) (M : xMem) (R : xRn) (n : Nat) (B : Nat) (hm : mOk B M) (h1 : 1 ≤ n) (hn : n ≤ 64) : xCi l D (xT cI cZ cJ) y_Mo_gap k_Mo_gap rm_Mo_gap sz (wMo cI a cd P M R) [.ref (a 0), .int (nI n)] (oI (mGap M n)) (wMo cI a cd P M R) 0 0 := by
  refine x_ofi (cc := b_Mo_gap) (nL := 4) (ret := (some .int)) (by decide) rfl (Nat.le_of_ble_eq_true rfl) ?_
  intro p e s m args below meth c ls A Q hQ hM hsz hP hK hD hA hl
  obtain ⟨hx, hb, -, hml, hown, hts, -⟩ := id hM
  have hS : va_S A s.heap s.heap [] := va_S.rf
  have hl : lv_has ls 4 [(0, .ref (a 0)), (1, .int (nI n))] := hl
  have hP : va_P D vwCl [(a 0, .inr (5, [.int (nI cd), .int (nI (pN P)), .ref (a 1), .ref (a 2), .ref (a 3), .ref (a 4), .ref (a 5), .ref (a 6), .ref (a 7), .ref (a 8), .ref (a 9), .int (nI (mQn M)), .ref (a 10), .int (nI (rSt R)), .int (zI (rCk R)), .int (nI (rAt R)), .int (nI (rLd R)), .ref (a 11), .int (nI (rPn R)), .ref (a 12), .int (nI (rKd R)), .int (rWh R), .int (nI (rWo R))])), (a 1, .inl (cI, 40, .inl (fun zz => nI ((pO P) zz)))), (a 2, .inl (cI, 40, .inl (fun zz => nI ((pR P) zz)))), (a 3, .inl (cI, 40, .inl (fun zz => nI ((pA P) zz)))), (a 4, .inl (cI, 40, .inl (fun zz => nI ((pB P) zz)))), (a 5, .inl (cI, 40, .inl (pK P))), (a 6, .inl (cI, 512, .inl (mHp M))), (a 7, .inl (cI, 64, .inl (mSh M))), (a 8, .inl (cI, 64, .inl (fun zz => nI ((mOw M) zz)))), (a 9, .inl (cI, 64, .inl (fun zz => nI ((mSz M) zz)))), (a 10, .inl (cI, 32, .inl (fun zz => nI ((mQf M) zz)))), (a 11, .inl (cI, 8, .inl (rRg R))), (a 12, .inl (cI, 60, .inl (rPr R)))] s.heap := hP
  have hD : va_D A [(a 0, .inr (5, [.int (nI cd), .int (nI (pN P)), .ref (a 1), .ref (a 2), .ref (a 3), .ref (a 4), .ref (a 5), .ref (a 6), .ref (a 7), .ref (a 8), .ref (a 9), .int (nI (mQn M)), .ref (a 10), .int (nI (rSt R)), .int (zI (rCk R)), .int (nI (rAt R)), .int (nI (rLd R)), .ref (a 11), .int (nI (rPn R)), .ref (a 12), .int (nI (rKd R)), .int (rWh R), .int (nI (rWo R))])), (a 1, .inl (cI, 40, .inl (fun zz => nI ((pO P) zz)))), (a 2, .inl (cI, 40, .inl (fun zz => nI ((pR P) zz)))), (a 3, .inl (cI, 40, .inl (fun zz => nI ((pA P) zz)))), (a 4, .inl (cI, 40, .inl (fun zz => nI ((pB P) zz)))), (a 5, .inl (cI, 40, .inl (pK P))), (a 6, .inl (cI, 512, .inl (mHp M))), (a 7, .inl (cI, 64, .inl (mSh M))), (a 8, .inl (cI, 64, .inl (fun zz => nI ((mOw M) zz)))), (a 9, .inl (cI, 64, .inl (fun zz => nI ((mSz M) zz)))), (a 10, .inl (cI, 32, .inl (fun zz => nI ((mQf M) zz)))), (a 11, .inl (cI, 8, .inl (rRg R))), (a 12, .inl (cI, 60, .inl (rPr R)))] := hD
  refine lv_iconst (v := nI 0) hx hb d_Mo_gap_0 (by decide) ?_
  refine lv_istore_n hx hb d_Mo_gap_1 rfl hl (by decide) rfl (fun ls hl => ?_)
  have hl : lv_has ls 4 [(2, .int (nI 0)), (0, .ref (a 0)), (1, .int (nI n))] := hl
  have loop2 : ∀ (K2 : Nat) (g : Nat) (ls : Array Slot) (H : Heap) (locs : List Loc), (g ≤ 65) → (∀ t, t < g → ∃ k, k < n ∧ mOw M (t + k) ≠ 0) → 65 - g = K2 → lv_has ls 4 [(2, .int (nI g)), (0, .ref (a 0)), (1, .int (nI n))] → va_P D vwCl [(a 0, .inr (5, [.int (nI cd), .int (nI (pN P)), .ref (a 1), .ref (a 2), .ref (a 3), .ref (a 4), .ref (a 5), .ref (a 6), .ref (a 7), .ref (a 8), .ref (a 9), .int (nI (mQn M)), .ref (a 10), .int (nI (rSt R)), .int (zI (rCk R)), .int (nI (rAt R)), .int (nI (rLd R)), .ref (a 11), .int (nI (rPn R)), .ref (a 12), .int (nI (rKd R)), .int (rWh R), .int (nI (rWo R))])), (a 1, .inl (cI, 40, .inl (fun zz => nI ((pO P) zz)))), (a 2, .inl (cI, 40, .inl (fun zz => nI ((pR P) zz)))), (a 3, .inl (cI, 40, .inl (fun zz => nI ((pA P) zz)))), (a 4, .inl (cI, 40, .inl (fun zz => nI ((pB P) zz)))), (a 5, .inl (cI, 40, .inl (pK P))), (a 6, .inl (cI, 512, .inl (mHp M))), (a 7, .inl (cI, 64, .inl (mSh M))), (a 8, .inl (cI, 64, .inl (fun zz => nI ((mOw M) zz)))), (a 9, .inl (cI, 64, .inl (fun zz => nI ((mSz M) zz)))), (a 10, .inl (cI, 32, .inl (fun zz => nI ((mQf M) zz)))), (a 11, .inl (cI, 8, .inl (rRg R))), (a 12, .inl (cI, 60, .inl (rPr R)))] H → va_D A [(a 0, .inr (5, [.int (nI cd), .int (nI (pN P)), .ref (a 1), .ref (a 2), .ref (a 3), .ref (a 4), .ref (a 5), .ref (a 6), .ref (a 7), .ref (a 8), .ref (a 9), .int (nI (mQn M)), .ref (a 10), .int (nI (rSt R)), .int (zI (rCk R)), .int (nI (rAt R)), .int (nI (rLd R)), .ref (a 11), .int (nI (rPn R)), .ref (a 12), .int (nI (rKd R)), .int (rWh R), .int (nI (rWo R))])), (a 1, .inl (cI, 40, .inl (fun zz => nI ((pO P) zz)))), (a 2, .inl (cI, 40, .inl (fun zz => nI ((pR P) zz)))), (a 3, .inl (cI, 40, .inl (fun zz => nI ((pA P) zz)))), (a 4, .inl (cI, 40, .inl (fun zz => nI ((pB P) zz)))), (a 5, .inl (cI, 40, .inl (pK P))), (a 6, .inl (cI, 512, .inl (mHp M))), (a 7, .inl (cI, 64, .inl (mSh M))), (a 8, .inl (cI, 64, .inl (fun zz => nI ((mOw M) zz)))), (a 9, .inl (cI, 64, .inl (fun zz => nI ((mSz M) zz)))), (a 10, .inl (cI, 32, .inl (fun zz => nI ((mQf M) zz)))), (a 11, .inl (cI, 8, .inl (rRg R))), (a 12, .inl (cI, 60, .inl (rPr R)))] → va_S A s.heap H locs → W p l e rm_Mo_gap s m args below meth c H locs 0 0 Q (F0 m 2 ls []) := by
    intro K2
    induction K2 using Nat.strongRecOn with
    | _ K2 ih2 =>
      intro g ls H locs g1 g2 hK2 hl hP hD hS
      refine lv_iload_n hx hb d_Mo_gap_2 rfl (lv_at hl 0 rfl) ?_
      refine lv_iload_n hx hb d_Mo_gap_3 rfl (lv_at hl 2 rfl) ?_
      refine x_iadd hM d_Mo_gap_4 ?_
      refine lv_bipush (v := nI 64) hx hb d_Mo_gap_5 (by decide) ?_
      refine x_icmp_gt (tgt := 47) hM (by omega) (by omega) d_Mo_gap_7 (by decide) (fun hc7 => ?_) (fun hc7 => ?_)
      · skip
        refine lv_iconst (v := -1) hx hb d_Mo_gap_47 (by decide) ?_
        exact x_iret hM hQ (by rw [mGap_n (fun t ht => g2 t (by omega))]; rfl) rfl hP hK hD hS d_Mo_gap_48
      · skip
        refine lv_iconst (v := nI 0) hx hb d_Mo_gap_10 (by decide) ?_
        refine lv_istore_n hx hb d_Mo_gap_11 rfl hl (by decide) rfl (fun ls hl => ?_)
        have hl : lv_has ls 4 [(3, .int (nI 0)), (2, .int (nI g)), (0, .ref (a 0)), (1, .int (nI n))] := hl
        have loop12 : ∀ (K12 : Nat) (j : Nat) (ls : Array Slot) (H : Heap) (locs : List Loc), (j ≤ n) → (∀ k, k < j → mOw M (g + k) = 0) → n - j = K12 → lv_has ls 4 [(3, .int (nI j)), (2, .int (nI g)), (0, .ref (a 0)), (1, .int (nI n))] → va_P D vwCl [(a 0, .inr (5, [.int (nI cd), .int (nI (pN P)), .ref (a 1), .ref (a 2), .ref (a 3), .ref (a 4), .ref (a 5), .ref (a 6), .ref (a 7), .ref (a 8), .ref (a 9), .int (nI (mQn M)), .ref (a 10), .int (nI (rSt R)), .int (zI (rCk R)), .int (nI (rAt R)), .int (nI (rLd R)), .ref (a 11), .int (nI (rPn R)), .ref (a 12), .int (nI (rKd R)), .int (rWh R), .int (nI (rWo R))])), (a 1, .inl (cI, 40, .inl (fun zz => nI ((pO P) zz)))), (a 2, .inl (cI, 40, .inl (fun zz => nI ((pR P) zz)))), (a 3, .inl (cI, 40, .inl (fun zz => nI ((pA P) zz)))), (a 4, .inl (cI, 40, .inl (fun zz => nI ((pB P) zz)))), (a 5, .inl (cI, 40, .inl (pK P))), (a 6, .inl (cI, 512, .inl (mHp M))), (a 7, .inl (cI, 64, .inl (mSh M))), (a 8, .inl (cI, 64, .inl (fun zz => nI ((mOw M) zz)))), (a 9, .inl (cI, 64, .inl (fun zz => nI ((mSz M) zz)))), (a 10, .inl (cI, 32, .inl (fun zz => nI ((mQf M) zz)))), (a 11, .inl (cI, 8, .inl (rRg R))), (a 12, .inl (cI, 60, .inl (rPr R)))] H → va_D A [(a 0, .inr (5, [.int (nI cd), .int (nI (pN P)), .ref (a 1), .ref (a 2), .ref (a 3), .ref (a 4), .ref (a 5), .ref (a 6), .ref (a 7), .ref (a 8), .ref (a 9), .int (nI (mQn M)), .ref (a 10), .int (nI (rSt R)), .int (zI (rCk R)), .int (nI (rAt R)), .int (nI (rLd R)), .ref (a 11), .int (nI (rPn R)), .ref (a 12), .int (nI (rKd R)), .int (rWh R), .int (nI (rWo R))])), (a 1, .inl (cI, 40, .inl (fun zz => nI ((pO P) zz)))), (a 2, .inl (cI, 40, .inl (fun zz => nI ((pR P) zz)))), (a 3, .inl (cI, 40, .inl (fun zz => nI ((pA P) zz)))), (a 4, .inl (cI, 40, .inl (fun zz => nI ((pB P) zz)))), (a 5, .inl (cI, 40, .inl (pK P))), (a 6, .inl (cI, 512, .inl (mHp M))), (a 7, .inl (cI, 64, .inl (mSh M))), (a 8, .inl (cI, 64, .inl (fun zz => nI ((mOw M) zz)))), (a 9, .inl (cI, 64, .inl (fun zz => nI ((mSz M) zz)))), (a 10, .inl (cI, 32, .inl (fun zz => nI ((mQf M) zz)))), (a 11, .inl (cI, 8, .inl (rRg R))), (a 12, .inl (cI, 60, .inl (rPr R)))] → va_S A s.heap H locs → W p l e rm_Mo_gap s m args below meth c H locs 0 0 Q (F0 m 12 ls []) := by
          intro K12
          induction K12 using Nat.strongRecOn with
          | _ K12 ih12 =>
            intro j ls H locs g3 g4 hK12 hl hP hD hS
            refine lv_iload_n hx hb d_Mo_gap_12 rfl (lv_at hl 0 rfl) ?_
            refine lv_iload_n hx hb d_Mo_gap_13 rfl (lv_at hl 3 rfl) ?_
            refine x_icmp_ge (tgt := 34) hM (by omega) (by omega) d_Mo_gap_14 (by decide) (fun hc14 => ?_) (fun hc14 => ?_)
            · skip
              refine lv_iload_n hx hb d_Mo_gap_34 rfl (lv_at hl 0 rfl) ?_
              refine lv_iload_n hx hb d_Mo_gap_35 rfl (lv_at hl 3 rfl) ?_
              refine x_icmp_ne (tgt := 41) hM (by omega) (by omega) d_Mo_gap_36 (by decide) (fun hc36 => ?_) (fun hc36 => ?_)
              · skip
                omega
              · skip
                refine lv_iload_n hx hb d_Mo_gap_39 rfl (lv_at hl 1 rfl) ?_
                exact x_iret hM hQ (by rw [mGap_s (M := M) (need := n) (s := g) (by omega) (fun k hk => g4 k (by omega)) g2]; rfl) rfl hP hK hD hS d_Mo_gap_40
            · skip
              have hw0 := mOk_ow hm (k := g + j) (by omega)
              refine lv_aload_n hx hb d_Mo_gap_17 rfl (lv_at hl 2 rfl) ?_
              refine x_get hM hK hP 0 5 9 i_Mo rfl rfl (by decide) q_fl_Mo_31 rfl d_Mo_gap_18 ?_
              refine lv_iload_n hx hb d_Mo_gap_21 rfl (lv_at hl 1 rfl) ?_
              refine lv_iload_n hx hb d_Mo_gap_22 rfl (lv_at hl 0 rfl) ?_
              refine x_iadd hM d_Mo_gap_23 ?_
              refine x_iald hM hK hP 8 0 rfl rfl (by omega) (by decide) d_Mo_gap_24 ?_
              refine x_if_ne (tgt := 34) hM (by omega) d_Mo_gap_25 (by decide) (fun hc25 => ?_) (fun hc25 => ?_)
              · skip
                refine lv_iload_n hx hb d_Mo_gap_34 rfl (lv_at hl 0 rfl) ?_
                refine lv_iload_n hx hb d_Mo_gap_35 rfl (lv_at hl 3 rfl) ?_
                refine x_icmp_ne (tgt := 41) hM (by omega) (by omega) d_Mo_gap_36 (by decide) (fun hc36 => ?_) (fun hc36 => ?_)
                · skip
                  refine lv_iinc (k := 1) (v := nI (g + 1)) hx hb d_Mo_gap_41 hl rfl (by rw [show Int32.ofInt 1 = nI 1 by decide, nI_add]) (by decide) rfl (fun ls hl => ?_)
                  have hl : lv_has ls 4 [(2, .int (nI (g + 1))), (3, .int (nI j)), (0, .ref (a 0)), (1, .int (nI n))] := hl
                  refine lv_goto hx hb d_Mo_gap_44 (tgt := 2) (by decide) ?_
                  exact ih2 _ (by omega) (g + 1) ls H locs (by omega) (fun t ht => by
                      by_cases e : t = g
                      · subst e; exact ⟨j, by omega, hc25⟩
                      · exact g2 t (by omega)) rfl (lv_sub hl [0, 2, 3] rfl) hP hD hS
                · skip
                  omega
              · skip
                refine lv_iinc (k := 0) (v := nI (j + 1)) hx hb d_Mo_gap_28 hl rfl (by rw [show Int32.ofInt 1 = nI 1 by decide, nI_add]) (by decide) rfl (fun ls hl => ?_)
                have hl : lv_has ls 4 [(3, .int (nI (j + 1))), (2, .int (nI g)), (0, .ref (a 0)), (1, .int (nI n))] := hl
                refine lv_goto hx hb d_Mo_gap_31 (tgt := 12) (by decide) ?_
                exact ih12 _ (by omega) (j + 1) ls H locs (by omega) (fun k hk => by
                    by_cases e : k = j
                    · rw [e]; exact hc25
                    · exact g4 k (by omega)) rfl hl hP hD hS
        exact loop12 _ 0 ls H locs (by omega) (fun t ht => absurd ht (Nat.not_lt_zero _)) rfl hl hP hD hS
  exact loop2 _ 0 ls s.heap [] (by omega) (fun t ht => absurd ht (Nat.not_lt_zero _)) rfl hl hP hD hS
abbrev rm_Mo_release : Room := { frames := 0, cells := 0, slots := 0, locals := 0 }
set_option maxHeartbeats 4000000 in
set_option maxRecDepth 100000 in
theorem c_Mo_release (l : Launch) (D : va_G) (cI cZ cJ : ClassId) (sz : Nat) (a : Nat → Nat) (cd : Nat) (P : xPg) (M : xMem) (R : xRn) (B : Nat) (hm : mOk B M) (hB : B ≤ 90) (hq : 0 < mQn M) : xCv l D (xT cI cZ cJ) y_Mo_release k_Mo_release rm_Mo_release sz (wMo cI a cd P M R) [.ref (a 0)] (wMo cI a cd P (mRel M) R) 0 0 := by
  refine x_ofv (cc := b_Mo_release) (nL := 3) (ret := none) (by decide) rfl (Nat.le_of_ble_eq_true rfl) ?_
  intro p e s m args below meth c ls A Q hQ hM hsz hP hK hD hA hl
  obtain ⟨hx, hb, -, hml, hown, hts, -⟩ := id hM
  have hS : va_S A s.heap s.heap [] := va_S.rf
  have hl : lv_has ls 3 [(0, .ref (a 0))] := hl
  have hP : va_P D vwCl [(a 0, .inr (5, [.int (nI cd), .int (nI (pN P)), .ref (a 1), .ref (a 2), .ref (a 3), .ref (a 4), .ref (a 5), .ref (a 6), .ref (a 7), .ref (a 8), .ref (a 9), .int (nI (mQn M)), .ref (a 10), .int (nI (rSt R)), .int (zI (rCk R)), .int (nI (rAt R)), .int (nI (rLd R)), .ref (a 11), .int (nI (rPn R)), .ref (a 12), .int (nI (rKd R)), .int (rWh R), .int (nI (rWo R))])), (a 1, .inl (cI, 40, .inl (fun zz => nI ((pO P) zz)))), (a 2, .inl (cI, 40, .inl (fun zz => nI ((pR P) zz)))), (a 3, .inl (cI, 40, .inl (fun zz => nI ((pA P) zz)))), (a 4, .inl (cI, 40, .inl (fun zz => nI ((pB P) zz)))), (a 5, .inl (cI, 40, .inl (pK P))), (a 6, .inl (cI, 512, .inl (mHp M))), (a 7, .inl (cI, 64, .inl (mSh M))), (a 8, .inl (cI, 64, .inl (fun zz => nI ((mOw M) zz)))), (a 9, .inl (cI, 64, .inl (fun zz => nI ((mSz M) zz)))), (a 10, .inl (cI, 32, .inl (fun zz => nI ((mQf M) zz)))), (a 11, .inl (cI, 8, .inl (rRg R))), (a 12, .inl (cI, 60, .inl (rPr R)))] s.heap := hP
  have hD : va_D A [(a 0, .inr (5, [.int (nI cd), .int (nI (pN P)), .ref (a 1), .ref (a 2), .ref (a 3), .ref (a 4), .ref (a 5), .ref (a 6), .ref (a 7), .ref (a 8), .ref (a 9), .int (nI (mQn M)), .ref (a 10), .int (nI (rSt R)), .int (zI (rCk R)), .int (nI (rAt R)), .int (nI (rLd R)), .ref (a 11), .int (nI (rPn R)), .ref (a 12), .int (nI (rKd R)), .int (rWh R), .int (nI (rWo R))])), (a 1, .inl (cI, 40, .inl (fun zz => nI ((pO P) zz)))), (a 2, .inl (cI, 40, .inl (fun zz => nI ((pR P) zz)))), (a 3, .inl (cI, 40, .inl (fun zz => nI ((pA P) zz)))), (a 4, .inl (cI, 40, .inl (fun zz => nI ((pB P) zz)))), (a 5, .inl (cI, 40, .inl (pK P))), (a 6, .inl (cI, 512, .inl (mHp M))), (a 7, .inl (cI, 64, .inl (mSh M))), (a 8, .inl (cI, 64, .inl (fun zz => nI ((mOw M) zz)))), (a 9, .inl (cI, 64, .inl (fun zz => nI ((mSz M) zz)))), (a 10, .inl (cI, 32, .inl (fun zz => nI ((mQf M) zz)))), (a 11, .inl (cI, 8, .inl (rRg R))), (a 12, .inl (cI, 60, .inl (rPr R)))] := hD
  have hq3 := mOk_qn hm
  have hq0 := mOk_q hm hq
  refine lv_aload_n hx hb d_Mo_release_0 rfl (lv_at hl 0 rfl) ?_
  refine x_get hM hK hP 0 5 12 i_Mo rfl rfl (by decide) q_fl_Mo_37 rfl d_Mo_release_1 ?_
  refine lv_iconst (v := nI 0) hx hb d_Mo_release_4 (by decide) ?_
  refine x_iald hM hK hP 10 0 rfl rfl (by omega) (by decide) d_Mo_release_5 ?_
  refine lv_istore_n hx hb d_Mo_release_6 rfl hl (by decide) rfl (fun ls hl => ?_)
  have hl : lv_has ls 3 [(1, .int (nI ((mQf M) 0))), (0, .ref (a 0))] := hl
  refine lv_aload_n hx hb d_Mo_release_7 rfl (lv_at hl 1 rfl) ?_
  refine lv_dup hx hb d_Mo_release_8 rfl ?_
  refine x_get hM hK hP 0 5 11 i_Mo rfl rfl (by decide) q_fl_Mo_83 rfl d_Mo_release_9 ?_
  refine lv_iconst (v := nI 1) hx hb d_Mo_release_12 (by decide) ?_
  refine x_isub hM (by omega) d_Mo_release_13 ?_
  refine x_put hM hK hP hD hS 0 5 11 i_Mo t_Mo t_Mo_ok n_Mo rfl rfl (by decide) q_fl_Mo_83 rfl rfl rfl (Nat.le_of_ble_eq_true rfl) d_Mo_release_14 (fun H locs hP hD hS => ?_)
  have hP : va_P D vwCl [(a 0, .inr (5, [.int (nI cd), .int (nI (pN P)), .ref (a 1), .ref (a 2), .ref (a 3), .ref (a 4), .ref (a 5), .ref (a 6), .ref (a 7), .ref (a 8), .ref (a 9), .int (nI ((mQn M) - 1)), .ref (a 10), .int (nI (rSt R)), .int (zI (rCk R)), .int (nI (rAt R)), .int (nI (rLd R)), .ref (a 11), .int (nI (rPn R)), .ref (a 12), .int (nI (rKd R)), .int (rWh R), .int (nI (rWo R))])), (a 1, .inl (cI, 40, .inl (fun zz => nI ((pO P) zz)))), (a 2, .inl (cI, 40, .inl (fun zz => nI ((pR P) zz)))), (a 3, .inl (cI, 40, .inl (fun zz => nI ((pA P) zz)))), (a 4, .inl (cI, 40, .inl (fun zz => nI ((pB P) zz)))), (a 5, .inl (cI, 40, .inl (pK P))), (a 6, .inl (cI, 512, .inl (mHp M))), (a 7, .inl (cI, 64, .inl (mSh M))), (a 8, .inl (cI, 64, .inl (fun zz => nI ((mOw M) zz)))), (a 9, .inl (cI, 64, .inl (fun zz => nI ((mSz M) zz)))), (a 10, .inl (cI, 32, .inl (fun zz => nI ((mQf M) zz)))), (a 11, .inl (cI, 8, .inl (rRg R))), (a 12, .inl (cI, 60, .inl (rPr R)))] H := hP
  have hD : va_D A [(a 0, .inr (5, [.int (nI cd), .int (nI (pN P)), .ref (a 1), .ref (a 2), .ref (a 3), .ref (a 4), .ref (a 5), .ref (a 6), .ref (a 7), .ref (a 8), .ref (a 9), .int (nI ((mQn M) - 1)), .ref (a 10), .int (nI (rSt R)), .int (zI (rCk R)), .int (nI (rAt R)), .int (nI (rLd R)), .ref (a 11), .int (nI (rPn R)), .ref (a 12), .int (nI (rKd R)), .int (rWh R), .int (nI (rWo R))])), (a 1, .inl (cI, 40, .inl (fun zz => nI ((pO P) zz)))), (a 2, .inl (cI, 40, .inl (fun zz => nI ((pR P) zz)))), (a 3, .inl (cI, 40, .inl (fun zz => nI ((pA P) zz)))), (a 4, .inl (cI, 40, .inl (fun zz => nI ((pB P) zz)))), (a 5, .inl (cI, 40, .inl (pK P))), (a 6, .inl (cI, 512, .inl (mHp M))), (a 7, .inl (cI, 64, .inl (mSh M))), (a 8, .inl (cI, 64, .inl (fun zz => nI ((mOw M) zz)))), (a 9, .inl (cI, 64, .inl (fun zz => nI ((mSz M) zz)))), (a 10, .inl (cI, 32, .inl (fun zz => nI ((mQf M) zz)))), (a 11, .inl (cI, 8, .inl (rRg R))), (a 12, .inl (cI, 60, .inl (rPr R)))] := hD
  refine lv_iconst (v := nI 0) hx hb d_Mo_release_17 (by decide) ?_
  refine lv_istore_n hx hb d_Mo_release_18 rfl hl (by decide) rfl (fun ls hl => ?_)
  have hl : lv_has ls 3 [(2, .int (nI 0)), (1, .int (nI ((mQf M) 0))), (0, .ref (a 0))] := hl
  have loop19 : ∀ (K19 : Nat) (j : Nat) (f : Nat → Nat) (ls : Array Slot) (H : Heap) (locs : List Loc), (j ≤ mQn M - 1) → (f = fun z => if z < j then mQf M (z + 1) else mQf M z) → mQn M - 1 - j = K19 → lv_has ls 3 [(2, .int (nI j)), (1, .int (nI (mQf M 0))), (0, .ref (a 0))] → va_P D vwCl [(a 0, .inr (5, [.int (nI cd), .int (nI (pN P)), .ref (a 1), .ref (a 2), .ref (a 3), .ref (a 4), .ref (a 5), .ref (a 6), .ref (a 7), .ref (a 8), .ref (a 9), .int (nI ((mQn M) - 1)), .ref (a 10), .int (nI (rSt R)), .int (zI (rCk R)), .int (nI (rAt R)), .int (nI (rLd R)), .ref (a 11), .int (nI (rPn R)), .ref (a 12), .int (nI (rKd R)), .int (rWh R), .int (nI (rWo R))])), (a 1, .inl (cI, 40, .inl (fun zz => nI ((pO P) zz)))), (a 2, .inl (cI, 40, .inl (fun zz => nI ((pR P) zz)))), (a 3, .inl (cI, 40, .inl (fun zz => nI ((pA P) zz)))), (a 4, .inl (cI, 40, .inl (fun zz => nI ((pB P) zz)))), (a 5, .inl (cI, 40, .inl (pK P))), (a 6, .inl (cI, 512, .inl (mHp M))), (a 7, .inl (cI, 64, .inl (mSh M))), (a 8, .inl (cI, 64, .inl (fun zz => nI ((mOw M) zz)))), (a 9, .inl (cI, 64, .inl (fun zz => nI ((mSz M) zz)))), (a 10, .inl (cI, 32, .inl (fun zz => nI (f zz)))), (a 11, .inl (cI, 8, .inl (rRg R))), (a 12, .inl (cI, 60, .inl (rPr R)))] H → va_D A [(a 0, .inr (5, [.int (nI cd), .int (nI (pN P)), .ref (a 1), .ref (a 2), .ref (a 3), .ref (a 4), .ref (a 5), .ref (a 6), .ref (a 7), .ref (a 8), .ref (a 9), .int (nI ((mQn M) - 1)), .ref (a 10), .int (nI (rSt R)), .int (zI (rCk R)), .int (nI (rAt R)), .int (nI (rLd R)), .ref (a 11), .int (nI (rPn R)), .ref (a 12), .int (nI (rKd R)), .int (rWh R), .int (nI (rWo R))])), (a 1, .inl (cI, 40, .inl (fun zz => nI ((pO P) zz)))), (a 2, .inl (cI, 40, .inl (fun zz => nI ((pR P) zz)))), (a 3, .inl (cI, 40, .inl (fun zz => nI ((pA P) zz)))), (a 4, .inl (cI, 40, .inl (fun zz => nI ((pB P) zz)))), (a 5, .inl (cI, 40, .inl (pK P))), (a 6, .inl (cI, 512, .inl (mHp M))), (a 7, .inl (cI, 64, .inl (mSh M))), (a 8, .inl (cI, 64, .inl (fun zz => nI ((mOw M) zz)))), (a 9, .inl (cI, 64, .inl (fun zz => nI ((mSz M) zz)))), (a 10, .inl (cI, 32, .inl (fun zz => nI (f zz)))), (a 11, .inl (cI, 8, .inl (rRg R))), (a 12, .inl (cI, 60, .inl (rPr R)))] → va_S A s.heap H locs → W p l e rm_Mo_release s m args below meth c H locs 0 0 Q (F0 m 19 ls []) := by
    intro K19
    induction K19 using Nat.strongRecOn with
    | _ K19 ih19 =>
      intro j f ls H locs g1 hf hK19 hl hP hD hS
      refine lv_iload_n hx hb d_Mo_release_19 rfl (lv_at hl 0 rfl) ?_
      refine lv_aload_n hx hb d_Mo_release_20 rfl (lv_at hl 2 rfl) ?_
      refine x_get hM hK hP 0 5 11 i_Mo rfl rfl (by decide) q_fl_Mo_83 rfl d_Mo_release_21 ?_
      refine x_icmp_ge (tgt := 47) hM (by omega) (by omega) d_Mo_release_24 (by decide) (fun hc24 => ?_) (fun hc24 => ?_)
      · skip
        obtain rfl : j = mQn M - 1 := by omega
        subst hf
        have hP : va_P D vwCl [(a 0, .inr (5, [.int (nI cd), .int (nI (pN P)), .ref (a 1), .ref (a 2), .ref (a 3), .ref (a 4), .ref (a 5), .ref (a 6), .ref (a 7), .ref (a 8), .ref (a 9), .int (nI ((mQn M) - 1)), .ref (a 10), .int (nI (rSt R)), .int (zI (rCk R)), .int (nI (rAt R)), .int (nI (rLd R)), .ref (a 11), .int (nI (rPn R)), .ref (a 12), .int (nI (rKd R)), .int (rWh R), .int (nI (rWo R))])), (a 1, .inl (cI, 40, .inl (fun zz => nI ((pO P) zz)))), (a 2, .inl (cI, 40, .inl (fun zz => nI ((pR P) zz)))), (a 3, .inl (cI, 40, .inl (fun zz => nI ((pA P) zz)))), (a 4, .inl (cI, 40, .inl (fun zz => nI ((pB P) zz)))), (a 5, .inl (cI, 40, .inl (pK P))), (a 6, .inl (cI, 512, .inl (mHp M))), (a 7, .inl (cI, 64, .inl (mSh M))), (a 8, .inl (cI, 64, .inl (fun zz => nI ((mOw M) zz)))), (a 9, .inl (cI, 64, .inl (fun zz => nI ((mSz M) zz)))), (a 10, .inl (cI, 32, .inl (fun zz => nI ((fun z => if z < mQn M - 1 then mQf M (z + 1) else mQf M z) zz)))), (a 11, .inl (cI, 8, .inl (rRg R))), (a 12, .inl (cI, 60, .inl (rPr R)))] H := hP
        have hD : va_D A [(a 0, .inr (5, [.int (nI cd), .int (nI (pN P)), .ref (a 1), .ref (a 2), .ref (a 3), .ref (a 4), .ref (a 5), .ref (a 6), .ref (a 7), .ref (a 8), .ref (a 9), .int (nI ((mQn M) - 1)), .ref (a 10), .int (nI (rSt R)), .int (zI (rCk R)), .int (nI (rAt R)), .int (nI (rLd R)), .ref (a 11), .int (nI (rPn R)), .ref (a 12), .int (nI (rKd R)), .int (rWh R), .int (nI (rWo R))])), (a 1, .inl (cI, 40, .inl (fun zz => nI ((pO P) zz)))), (a 2, .inl (cI, 40, .inl (fun zz => nI ((pR P) zz)))), (a 3, .inl (cI, 40, .inl (fun zz => nI ((pA P) zz)))), (a 4, .inl (cI, 40, .inl (fun zz => nI ((pB P) zz)))), (a 5, .inl (cI, 40, .inl (pK P))), (a 6, .inl (cI, 512, .inl (mHp M))), (a 7, .inl (cI, 64, .inl (mSh M))), (a 8, .inl (cI, 64, .inl (fun zz => nI ((mOw M) zz)))), (a 9, .inl (cI, 64, .inl (fun zz => nI ((mSz M) zz)))), (a 10, .inl (cI, 32, .inl (fun zz => nI ((fun z => if z < mQn M - 1 then mQf M (z + 1) else mQf M z) zz)))), (a 11, .inl (cI, 8, .inl (rRg R))), (a 12, .inl (cI, 60, .inl (rPr R)))] := hD
        refine lv_iload_n hx hb d_Mo_release_47 rfl (lv_at hl 1 rfl) ?_
        refine lv_istore_n hx hb d_Mo_release_48 rfl hl (by decide) rfl (fun ls hl => ?_)
        have hl : lv_has ls 3 [(2, .int (nI (mQf M 0))), (1, .int (nI (mQf M 0))), (0, .ref (a 0))] := hl
        have loop49 : ∀ (K49 : Nat) (j : Nat) (f1 : Nat → Nat) (f2 : Nat → Int32) (ls : Array Slot) (H : Heap) (locs : List Loc), (mQf M 0 ≤ j) → (j ≤ mQf M 0 + mSz M (mQf M 0)) → (f1 = xp (mOw M) (mQf M 0) j 0) → (f2 = xp (mSh M) (mQf M 0) j (-3)) → (mQf M 0 + mSz M (mQf M 0)) - j = K49 → lv_has ls 3 [(2, .int (nI j)), (1, .int (nI (mQf M 0))), (0, .ref (a 0))] → va_P D vwCl [(a 0, .inr (5, [.int (nI cd), .int (nI (pN P)), .ref (a 1), .ref (a 2), .ref (a 3), .ref (a 4), .ref (a 5), .ref (a 6), .ref (a 7), .ref (a 8), .ref (a 9), .int (nI ((mQn M) - 1)), .ref (a 10), .int (nI (rSt R)), .int (zI (rCk R)), .int (nI (rAt R)), .int (nI (rLd R)), .ref (a 11), .int (nI (rPn R)), .ref (a 12), .int (nI (rKd R)), .int (rWh R), .int (nI (rWo R))])), (a 1, .inl (cI, 40, .inl (fun zz => nI ((pO P) zz)))), (a 2, .inl (cI, 40, .inl (fun zz => nI ((pR P) zz)))), (a 3, .inl (cI, 40, .inl (fun zz => nI ((pA P) zz)))), (a 4, .inl (cI, 40, .inl (fun zz => nI ((pB P) zz)))), (a 5, .inl (cI, 40, .inl (pK P))), (a 6, .inl (cI, 512, .inl (mHp M))), (a 7, .inl (cI, 64, .inl f2)), (a 8, .inl (cI, 64, .inl (fun zz => nI (f1 zz)))), (a 9, .inl (cI, 64, .inl (fun zz => nI ((mSz M) zz)))), (a 10, .inl (cI, 32, .inl (fun zz => nI ((fun z => if z < mQn M - 1 then mQf M (z + 1) else mQf M z) zz)))), (a 11, .inl (cI, 8, .inl (rRg R))), (a 12, .inl (cI, 60, .inl (rPr R)))] H → va_D A [(a 0, .inr (5, [.int (nI cd), .int (nI (pN P)), .ref (a 1), .ref (a 2), .ref (a 3), .ref (a 4), .ref (a 5), .ref (a 6), .ref (a 7), .ref (a 8), .ref (a 9), .int (nI ((mQn M) - 1)), .ref (a 10), .int (nI (rSt R)), .int (zI (rCk R)), .int (nI (rAt R)), .int (nI (rLd R)), .ref (a 11), .int (nI (rPn R)), .ref (a 12), .int (nI (rKd R)), .int (rWh R), .int (nI (rWo R))])), (a 1, .inl (cI, 40, .inl (fun zz => nI ((pO P) zz)))), (a 2, .inl (cI, 40, .inl (fun zz => nI ((pR P) zz)))), (a 3, .inl (cI, 40, .inl (fun zz => nI ((pA P) zz)))), (a 4, .inl (cI, 40, .inl (fun zz => nI ((pB P) zz)))), (a 5, .inl (cI, 40, .inl (pK P))), (a 6, .inl (cI, 512, .inl (mHp M))), (a 7, .inl (cI, 64, .inl f2)), (a 8, .inl (cI, 64, .inl (fun zz => nI (f1 zz)))), (a 9, .inl (cI, 64, .inl (fun zz => nI ((mSz M) zz)))), (a 10, .inl (cI, 32, .inl (fun zz => nI ((fun z => if z < mQn M - 1 then mQf M (z + 1) else mQf M z) zz)))), (a 11, .inl (cI, 8, .inl (rRg R))), (a 12, .inl (cI, 60, .inl (rPr R)))] → va_S A s.heap H locs → W p l e rm_Mo_release s m args below meth c H locs 0 0 Q (F0 m 49 ls []) := by
          intro K49
          induction K49 using Nat.strongRecOn with
          | _ K49 ih49 =>
            intro j f1 f2 ls H locs g1 g2 hf1 hf2 hK49 hl hP hD hS
            refine lv_iload_n hx hb d_Mo_release_49 rfl (lv_at hl 0 rfl) ?_
            refine lv_iload_n hx hb d_Mo_release_50 rfl (lv_at hl 1 rfl) ?_
            refine lv_aload_n hx hb d_Mo_release_51 rfl (lv_at hl 2 rfl) ?_
            refine x_get hM hK hP 0 5 10 i_Mo rfl rfl (by decide) q_fl_Mo_34 rfl d_Mo_release_52 ?_
            refine lv_iload_n hx hb d_Mo_release_55 rfl (lv_at hl 1 rfl) ?_
            refine x_iald hM hK hP 9 0 rfl rfl (by omega) (by decide) d_Mo_release_56 ?_
            refine x_iadd hM d_Mo_release_57 ?_
            refine x_icmp_ge (tgt := 82) hM (by omega) (by omega) d_Mo_release_58 (by decide) (fun hc58 => ?_) (fun hc58 => ?_)
            · skip
              obtain rfl : j = mQf M 0 + mSz M (mQf M 0) := by omega
              subst hf1 hf2
              have hP : va_P D vwCl [(a 0, .inr (5, [.int (nI cd), .int (nI (pN P)), .ref (a 1), .ref (a 2), .ref (a 3), .ref (a 4), .ref (a 5), .ref (a 6), .ref (a 7), .ref (a 8), .ref (a 9), .int (nI ((mQn M) - 1)), .ref (a 10), .int (nI (rSt R)), .int (zI (rCk R)), .int (nI (rAt R)), .int (nI (rLd R)), .ref (a 11), .int (nI (rPn R)), .ref (a 12), .int (nI (rKd R)), .int (rWh R), .int (nI (rWo R))])), (a 1, .inl (cI, 40, .inl (fun zz => nI ((pO P) zz)))), (a 2, .inl (cI, 40, .inl (fun zz => nI ((pR P) zz)))), (a 3, .inl (cI, 40, .inl (fun zz => nI ((pA P) zz)))), (a 4, .inl (cI, 40, .inl (fun zz => nI ((pB P) zz)))), (a 5, .inl (cI, 40, .inl (pK P))), (a 6, .inl (cI, 512, .inl (mHp M))), (a 7, .inl (cI, 64, .inl (xp (mSh M) (mQf M 0) (mQf M 0 + mSz M (mQf M 0)) (-3)))), (a 8, .inl (cI, 64, .inl (fun zz => nI ((xp (mOw M) (mQf M 0) (mQf M 0 + mSz M (mQf M 0)) 0) zz)))), (a 9, .inl (cI, 64, .inl (fun zz => nI ((mSz M) zz)))), (a 10, .inl (cI, 32, .inl (fun zz => nI ((fun z => if z < mQn M - 1 then mQf M (z + 1) else mQf M z) zz)))), (a 11, .inl (cI, 8, .inl (rRg R))), (a 12, .inl (cI, 60, .inl (rPr R)))] H := hP
              have hD : va_D A [(a 0, .inr (5, [.int (nI cd), .int (nI (pN P)), .ref (a 1), .ref (a 2), .ref (a 3), .ref (a 4), .ref (a 5), .ref (a 6), .ref (a 7), .ref (a 8), .ref (a 9), .int (nI ((mQn M) - 1)), .ref (a 10), .int (nI (rSt R)), .int (zI (rCk R)), .int (nI (rAt R)), .int (nI (rLd R)), .ref (a 11), .int (nI (rPn R)), .ref (a 12), .int (nI (rKd R)), .int (rWh R), .int (nI (rWo R))])), (a 1, .inl (cI, 40, .inl (fun zz => nI ((pO P) zz)))), (a 2, .inl (cI, 40, .inl (fun zz => nI ((pR P) zz)))), (a 3, .inl (cI, 40, .inl (fun zz => nI ((pA P) zz)))), (a 4, .inl (cI, 40, .inl (fun zz => nI ((pB P) zz)))), (a 5, .inl (cI, 40, .inl (pK P))), (a 6, .inl (cI, 512, .inl (mHp M))), (a 7, .inl (cI, 64, .inl (xp (mSh M) (mQf M 0) (mQf M 0 + mSz M (mQf M 0)) (-3)))), (a 8, .inl (cI, 64, .inl (fun zz => nI ((xp (mOw M) (mQf M 0) (mQf M 0 + mSz M (mQf M 0)) 0) zz)))), (a 9, .inl (cI, 64, .inl (fun zz => nI ((mSz M) zz)))), (a 10, .inl (cI, 32, .inl (fun zz => nI ((fun z => if z < mQn M - 1 then mQf M (z + 1) else mQf M z) zz)))), (a 11, .inl (cI, 8, .inl (rRg R))), (a 12, .inl (cI, 60, .inl (rPr R)))] := hD
              refine lv_aload_n hx hb d_Mo_release_82 rfl (lv_at hl 2 rfl) ?_
              refine x_get hM hK hP 0 5 10 i_Mo rfl rfl (by decide) q_fl_Mo_34 rfl d_Mo_release_83 ?_
              refine lv_iload_n hx hb d_Mo_release_86 rfl (lv_at hl 1 rfl) ?_
              refine lv_iconst (v := nI 0) hx hb d_Mo_release_87 (by decide) ?_
              refine x_iastN hM hK hP hD hS 9 0 rfl rfl (by omega) (by decide) d_Mo_release_88 (fun H locs hP hD hS => ?_)
              have hP : va_P D vwCl [(a 0, .inr (5, [.int (nI cd), .int (nI (pN P)), .ref (a 1), .ref (a 2), .ref (a 3), .ref (a 4), .ref (a 5), .ref (a 6), .ref (a 7), .ref (a 8), .ref (a 9), .int (nI ((mQn M) - 1)), .ref (a 10), .int (nI (rSt R)), .int (zI (rCk R)), .int (nI (rAt R)), .int (nI (rLd R)), .ref (a 11), .int (nI (rPn R)), .ref (a 12), .int (nI (rKd R)), .int (rWh R), .int (nI (rWo R))])), (a 1, .inl (cI, 40, .inl (fun zz => nI ((pO P) zz)))), (a 2, .inl (cI, 40, .inl (fun zz => nI ((pR P) zz)))), (a 3, .inl (cI, 40, .inl (fun zz => nI ((pA P) zz)))), (a 4, .inl (cI, 40, .inl (fun zz => nI ((pB P) zz)))), (a 5, .inl (cI, 40, .inl (pK P))), (a 6, .inl (cI, 512, .inl (mHp M))), (a 7, .inl (cI, 64, .inl (xp (mSh M) (mQf M 0) (mQf M 0 + mSz M (mQf M 0)) (-3)))), (a 8, .inl (cI, 64, .inl (fun zz => nI ((xp (mOw M) (mQf M 0) (mQf M 0 + mSz M (mQf M 0)) 0) zz)))), (a 9, .inl (cI, 64, .inl (fun zz => nI ((xu (mSz M) (mQf M 0) 0) zz)))), (a 10, .inl (cI, 32, .inl (fun zz => nI ((fun z => if z < mQn M - 1 then mQf M (z + 1) else mQf M z) zz)))), (a 11, .inl (cI, 8, .inl (rRg R))), (a 12, .inl (cI, 60, .inl (rPr R)))] H := hP
              have hD : va_D A [(a 0, .inr (5, [.int (nI cd), .int (nI (pN P)), .ref (a 1), .ref (a 2), .ref (a 3), .ref (a 4), .ref (a 5), .ref (a 6), .ref (a 7), .ref (a 8), .ref (a 9), .int (nI ((mQn M) - 1)), .ref (a 10), .int (nI (rSt R)), .int (zI (rCk R)), .int (nI (rAt R)), .int (nI (rLd R)), .ref (a 11), .int (nI (rPn R)), .ref (a 12), .int (nI (rKd R)), .int (rWh R), .int (nI (rWo R))])), (a 1, .inl (cI, 40, .inl (fun zz => nI ((pO P) zz)))), (a 2, .inl (cI, 40, .inl (fun zz => nI ((pR P) zz)))), (a 3, .inl (cI, 40, .inl (fun zz => nI ((pA P) zz)))), (a 4, .inl (cI, 40, .inl (fun zz => nI ((pB P) zz)))), (a 5, .inl (cI, 40, .inl (pK P))), (a 6, .inl (cI, 512, .inl (mHp M))), (a 7, .inl (cI, 64, .inl (xp (mSh M) (mQf M 0) (mQf M 0 + mSz M (mQf M 0)) (-3)))), (a 8, .inl (cI, 64, .inl (fun zz => nI ((xp (mOw M) (mQf M 0) (mQf M 0 + mSz M (mQf M 0)) 0) zz)))), (a 9, .inl (cI, 64, .inl (fun zz => nI ((xu (mSz M) (mQf M 0) 0) zz)))), (a 10, .inl (cI, 32, .inl (fun zz => nI ((fun z => if z < mQn M - 1 then mQf M (z + 1) else mQf M z) zz)))), (a 11, .inl (cI, 8, .inl (rRg R))), (a 12, .inl (cI, 60, .inl (rPr R)))] := hD
              exact x_vret hM hQ rfl hP hK hD hS d_Mo_release_89
            · skip
              refine lv_aload_n hx hb d_Mo_release_61 rfl (lv_at hl 2 rfl) ?_
              refine x_get hM hK hP 0 5 9 i_Mo rfl rfl (by decide) q_fl_Mo_31 rfl d_Mo_release_62 ?_
              refine lv_iload_n hx hb d_Mo_release_65 rfl (lv_at hl 0 rfl) ?_
              refine lv_iconst (v := nI 0) hx hb d_Mo_release_66 (by decide) ?_
              refine x_iastN hM hK hP hD hS 8 0 rfl rfl (by omega) (by decide) d_Mo_release_67 (fun H locs hP hD hS => ?_)
              have hP : va_P D vwCl [(a 0, .inr (5, [.int (nI cd), .int (nI (pN P)), .ref (a 1), .ref (a 2), .ref (a 3), .ref (a 4), .ref (a 5), .ref (a 6), .ref (a 7), .ref (a 8), .ref (a 9), .int (nI ((mQn M) - 1)), .ref (a 10), .int (nI (rSt R)), .int (zI (rCk R)), .int (nI (rAt R)), .int (nI (rLd R)), .ref (a 11), .int (nI (rPn R)), .ref (a 12), .int (nI (rKd R)), .int (rWh R), .int (nI (rWo R))])), (a 1, .inl (cI, 40, .inl (fun zz => nI ((pO P) zz)))), (a 2, .inl (cI, 40, .inl (fun zz => nI ((pR P) zz)))), (a 3, .inl (cI, 40, .inl (fun zz => nI ((pA P) zz)))), (a 4, .inl (cI, 40, .inl (fun zz => nI ((pB P) zz)))), (a 5, .inl (cI, 40, .inl (pK P))), (a 6, .inl (cI, 512, .inl (mHp M))), (a 7, .inl (cI, 64, .inl f2)), (a 8, .inl (cI, 64, .inl (fun zz => nI ((xu f1 j 0) zz)))), (a 9, .inl (cI, 64, .inl (fun zz => nI ((mSz M) zz)))), (a 10, .inl (cI, 32, .inl (fun zz => nI ((fun z => if z < mQn M - 1 then mQf M (z + 1) else mQf M z) zz)))), (a 11, .inl (cI, 8, .inl (rRg R))), (a 12, .inl (cI, 60, .inl (rPr R)))] H := hP
              have hD : va_D A [(a 0, .inr (5, [.int (nI cd), .int (nI (pN P)), .ref (a 1), .ref (a 2), .ref (a 3), .ref (a 4), .ref (a 5), .ref (a 6), .ref (a 7), .ref (a 8), .ref (a 9), .int (nI ((mQn M) - 1)), .ref (a 10), .int (nI (rSt R)), .int (zI (rCk R)), .int (nI (rAt R)), .int (nI (rLd R)), .ref (a 11), .int (nI (rPn R)), .ref (a 12), .int (nI (rKd R)), .int (rWh R), .int (nI (rWo R))])), (a 1, .inl (cI, 40, .inl (fun zz => nI ((pO P) zz)))), (a 2, .inl (cI, 40, .inl (fun zz => nI ((pR P) zz)))), (a 3, .inl (cI, 40, .inl (fun zz => nI ((pA P) zz)))), (a 4, .inl (cI, 40, .inl (fun zz => nI ((pB P) zz)))), (a 5, .inl (cI, 40, .inl (pK P))), (a 6, .inl (cI, 512, .inl (mHp M))), (a 7, .inl (cI, 64, .inl f2)), (a 8, .inl (cI, 64, .inl (fun zz => nI ((xu f1 j 0) zz)))), (a 9, .inl (cI, 64, .inl (fun zz => nI ((mSz M) zz)))), (a 10, .inl (cI, 32, .inl (fun zz => nI ((fun z => if z < mQn M - 1 then mQf M (z + 1) else mQf M z) zz)))), (a 11, .inl (cI, 8, .inl (rRg R))), (a 12, .inl (cI, 60, .inl (rPr R)))] := hD
              refine lv_aload_n hx hb d_Mo_release_68 rfl (lv_at hl 2 rfl) ?_
              refine x_get hM hK hP 0 5 8 i_Mo rfl rfl (by decide) q_fl_Mo_28 rfl d_Mo_release_69 ?_
              refine lv_iload_n hx hb d_Mo_release_72 rfl (lv_at hl 0 rfl) ?_
              refine lv_bipush (v := -3) hx hb d_Mo_release_73 (by decide) ?_
              refine x_iast hM hK hP hD hS 7 0 rfl rfl (by omega) (by decide) d_Mo_release_75 (fun H locs hP hD hS => ?_)
              have hP : va_P D vwCl [(a 0, .inr (5, [.int (nI cd), .int (nI (pN P)), .ref (a 1), .ref (a 2), .ref (a 3), .ref (a 4), .ref (a 5), .ref (a 6), .ref (a 7), .ref (a 8), .ref (a 9), .int (nI ((mQn M) - 1)), .ref (a 10), .int (nI (rSt R)), .int (zI (rCk R)), .int (nI (rAt R)), .int (nI (rLd R)), .ref (a 11), .int (nI (rPn R)), .ref (a 12), .int (nI (rKd R)), .int (rWh R), .int (nI (rWo R))])), (a 1, .inl (cI, 40, .inl (fun zz => nI ((pO P) zz)))), (a 2, .inl (cI, 40, .inl (fun zz => nI ((pR P) zz)))), (a 3, .inl (cI, 40, .inl (fun zz => nI ((pA P) zz)))), (a 4, .inl (cI, 40, .inl (fun zz => nI ((pB P) zz)))), (a 5, .inl (cI, 40, .inl (pK P))), (a 6, .inl (cI, 512, .inl (mHp M))), (a 7, .inl (cI, 64, .inl (xu f2 j (-3)))), (a 8, .inl (cI, 64, .inl (fun zz => nI ((xu f1 j 0) zz)))), (a 9, .inl (cI, 64, .inl (fun zz => nI ((mSz M) zz)))), (a 10, .inl (cI, 32, .inl (fun zz => nI ((fun z => if z < mQn M - 1 then mQf M (z + 1) else mQf M z) zz)))), (a 11, .inl (cI, 8, .inl (rRg R))), (a 12, .inl (cI, 60, .inl (rPr R)))] H := hP
              have hD : va_D A [(a 0, .inr (5, [.int (nI cd), .int (nI (pN P)), .ref (a 1), .ref (a 2), .ref (a 3), .ref (a 4), .ref (a 5), .ref (a 6), .ref (a 7), .ref (a 8), .ref (a 9), .int (nI ((mQn M) - 1)), .ref (a 10), .int (nI (rSt R)), .int (zI (rCk R)), .int (nI (rAt R)), .int (nI (rLd R)), .ref (a 11), .int (nI (rPn R)), .ref (a 12), .int (nI (rKd R)), .int (rWh R), .int (nI (rWo R))])), (a 1, .inl (cI, 40, .inl (fun zz => nI ((pO P) zz)))), (a 2, .inl (cI, 40, .inl (fun zz => nI ((pR P) zz)))), (a 3, .inl (cI, 40, .inl (fun zz => nI ((pA P) zz)))), (a 4, .inl (cI, 40, .inl (fun zz => nI ((pB P) zz)))), (a 5, .inl (cI, 40, .inl (pK P))), (a 6, .inl (cI, 512, .inl (mHp M))), (a 7, .inl (cI, 64, .inl (xu f2 j (-3)))), (a 8, .inl (cI, 64, .inl (fun zz => nI ((xu f1 j 0) zz)))), (a 9, .inl (cI, 64, .inl (fun zz => nI ((mSz M) zz)))), (a 10, .inl (cI, 32, .inl (fun zz => nI ((fun z => if z < mQn M - 1 then mQf M (z + 1) else mQf M z) zz)))), (a 11, .inl (cI, 8, .inl (rRg R))), (a 12, .inl (cI, 60, .inl (rPr R)))] := hD
              refine lv_iinc (k := 0) (v := nI (j + 1)) hx hb d_Mo_release_76 hl rfl (by rw [show Int32.ofInt 1 = nI 1 by decide, nI_add]) (by decide) rfl (fun ls hl => ?_)
              have hl : lv_has ls 3 [(2, .int (nI (j + 1))), (1, .int (nI (mQf M 0))), (0, .ref (a 0))] := hl
              refine lv_goto hx hb d_Mo_release_79 (tgt := 49) (by decide) ?_
              exact ih49 _ (by omega) (j + 1) (xu f1 j 0) (xu f2 j (-3)) ls H locs (by omega) (by omega) (by rw [hf1, xp_s g1]) (by rw [hf2, xp_s g1]) rfl hl hP hD hS
        exact loop49 _ (mQf M 0) (mOw M) (mSh M) ls H locs (by omega) (by omega) (xp_0 _ _ _).symm (xp_0 _ _ _).symm rfl hl hP hD hS
      · skip
        refine lv_aload_n hx hb d_Mo_release_27 rfl (lv_at hl 2 rfl) ?_
        refine x_get hM hK hP 0 5 12 i_Mo rfl rfl (by decide) q_fl_Mo_37 rfl d_Mo_release_28 ?_
        refine lv_iload_n hx hb d_Mo_release_31 rfl (lv_at hl 0 rfl) ?_
        refine lv_aload_n hx hb d_Mo_release_32 rfl (lv_at hl 2 rfl) ?_
        refine x_get hM hK hP 0 5 12 i_Mo rfl rfl (by decide) q_fl_Mo_37 rfl d_Mo_release_33 ?_
        refine lv_iload_n hx hb d_Mo_release_36 rfl (lv_at hl 0 rfl) ?_
        refine lv_iconst (v := nI 1) hx hb d_Mo_release_37 (by decide) ?_
        refine x_iadd hM d_Mo_release_38 ?_
        refine x_iald hM hK hP 10 0 rfl rfl (by omega) (by decide) d_Mo_release_39 ?_
        refine x_iastN hM hK hP hD hS 10 0 rfl rfl (by omega) (by decide) d_Mo_release_40 (fun H locs hP hD hS => ?_)
        have hP : va_P D vwCl [(a 0, .inr (5, [.int (nI cd), .int (nI (pN P)), .ref (a 1), .ref (a 2), .ref (a 3), .ref (a 4), .ref (a 5), .ref (a 6), .ref (a 7), .ref (a 8), .ref (a 9), .int (nI ((mQn M) - 1)), .ref (a 10), .int (nI (rSt R)), .int (zI (rCk R)), .int (nI (rAt R)), .int (nI (rLd R)), .ref (a 11), .int (nI (rPn R)), .ref (a 12), .int (nI (rKd R)), .int (rWh R), .int (nI (rWo R))])), (a 1, .inl (cI, 40, .inl (fun zz => nI ((pO P) zz)))), (a 2, .inl (cI, 40, .inl (fun zz => nI ((pR P) zz)))), (a 3, .inl (cI, 40, .inl (fun zz => nI ((pA P) zz)))), (a 4, .inl (cI, 40, .inl (fun zz => nI ((pB P) zz)))), (a 5, .inl (cI, 40, .inl (pK P))), (a 6, .inl (cI, 512, .inl (mHp M))), (a 7, .inl (cI, 64, .inl (mSh M))), (a 8, .inl (cI, 64, .inl (fun zz => nI ((mOw M) zz)))), (a 9, .inl (cI, 64, .inl (fun zz => nI ((mSz M) zz)))), (a 10, .inl (cI, 32, .inl (fun zz => nI ((xu f j (f (j + 1))) zz)))), (a 11, .inl (cI, 8, .inl (rRg R))), (a 12, .inl (cI, 60, .inl (rPr R)))] H := hP
        have hD : va_D A [(a 0, .inr (5, [.int (nI cd), .int (nI (pN P)), .ref (a 1), .ref (a 2), .ref (a 3), .ref (a 4), .ref (a 5), .ref (a 6), .ref (a 7), .ref (a 8), .ref (a 9), .int (nI ((mQn M) - 1)), .ref (a 10), .int (nI (rSt R)), .int (zI (rCk R)), .int (nI (rAt R)), .int (nI (rLd R)), .ref (a 11), .int (nI (rPn R)), .ref (a 12), .int (nI (rKd R)), .int (rWh R), .int (nI (rWo R))])), (a 1, .inl (cI, 40, .inl (fun zz => nI ((pO P) zz)))), (a 2, .inl (cI, 40, .inl (fun zz => nI ((pR P) zz)))), (a 3, .inl (cI, 40, .inl (fun zz => nI ((pA P) zz)))), (a 4, .inl (cI, 40, .inl (fun zz => nI ((pB P) zz)))), (a 5, .inl (cI, 40, .inl (pK P))), (a 6, .inl (cI, 512, .inl (mHp M))), (a 7, .inl (cI, 64, .inl (mSh M))), (a 8, .inl (cI, 64, .inl (fun zz => nI ((mOw M) zz)))), (a 9, .inl (cI, 64, .inl (fun zz => nI ((mSz M) zz)))), (a 10, .inl (cI, 32, .inl (fun zz => nI ((xu f j (f (j + 1))) zz)))), (a 11, .inl (cI, 8, .inl (rRg R))), (a 12, .inl (cI, 60, .inl (rPr R)))] := hD
        refine lv_iinc (k := 0) (v := nI (j + 1)) hx hb d_Mo_release_41 hl rfl (by rw [show Int32.ofInt 1 = nI 1 by decide, nI_add]) (by decide) rfl (fun ls hl => ?_)
        have hl : lv_has ls 3 [(2, .int (nI (j + 1))), (1, .int (nI (mQf M 0))), (0, .ref (a 0))] := hl
        refine lv_goto hx hb d_Mo_release_44 (tgt := 19) (by decide) ?_
        exact ih19 _ (by omega) (j + 1) (xu f j (f (j + 1))) ls H locs (by omega) (xsh_s hf) rfl hl hP hD hS
  exact loop19 _ 0 (mQf M) ls H locs (by omega) (xsh_0 _) rfl hl hP hD hS
abbrev rm_Mo_quarantined : Room := { frames := 0, cells := 0, slots := 0, locals := 0 }
set_option maxHeartbeats 4000000 in
set_option maxRecDepth 100000 in
theorem c_Mo_quarantined (l : Launch) (D : va_G) (cI cZ cJ : ClassId) (sz : Nat) (a : Nat → Nat) (cd : Nat) (P : xPg) (M : xMem) (R : xRn) (B : Nat) (hm : mOk B M) (hB : B ≤ 90) : xCi l D (xT cI cZ cJ) y_Mo_quarantined k_Mo_quarantined rm_Mo_quarantined sz (wMo cI a cd P M R) [.ref (a 0)] (nI (8 * mSum M)) (wMo cI a cd P M R) 0 0 := by
  refine x_ofi (cc := b_Mo_quarantined) (nL := 3) (ret := (some .int)) (by decide) rfl (Nat.le_of_ble_eq_true rfl) ?_
  intro p e s m args below meth c ls A Q hQ hM hsz hP hK hD hA hl
  obtain ⟨hx, hb, -, hml, hown, hts, -⟩ := id hM
  have hS : va_S A s.heap s.heap [] := va_S.rf
  have hl : lv_has ls 3 [(0, .ref (a 0))] := hl
  have hP : va_P D vwCl [(a 0, .inr (5, [.int (nI cd), .int (nI (pN P)), .ref (a 1), .ref (a 2), .ref (a 3), .ref (a 4), .ref (a 5), .ref (a 6), .ref (a 7), .ref (a 8), .ref (a 9), .int (nI (mQn M)), .ref (a 10), .int (nI (rSt R)), .int (zI (rCk R)), .int (nI (rAt R)), .int (nI (rLd R)), .ref (a 11), .int (nI (rPn R)), .ref (a 12), .int (nI (rKd R)), .int (rWh R), .int (nI (rWo R))])), (a 1, .inl (cI, 40, .inl (fun zz => nI ((pO P) zz)))), (a 2, .inl (cI, 40, .inl (fun zz => nI ((pR P) zz)))), (a 3, .inl (cI, 40, .inl (fun zz => nI ((pA P) zz)))), (a 4, .inl (cI, 40, .inl (fun zz => nI ((pB P) zz)))), (a 5, .inl (cI, 40, .inl (pK P))), (a 6, .inl (cI, 512, .inl (mHp M))), (a 7, .inl (cI, 64, .inl (mSh M))), (a 8, .inl (cI, 64, .inl (fun zz => nI ((mOw M) zz)))), (a 9, .inl (cI, 64, .inl (fun zz => nI ((mSz M) zz)))), (a 10, .inl (cI, 32, .inl (fun zz => nI ((mQf M) zz)))), (a 11, .inl (cI, 8, .inl (rRg R))), (a 12, .inl (cI, 60, .inl (rPr R)))] s.heap := hP
  have hD : va_D A [(a 0, .inr (5, [.int (nI cd), .int (nI (pN P)), .ref (a 1), .ref (a 2), .ref (a 3), .ref (a 4), .ref (a 5), .ref (a 6), .ref (a 7), .ref (a 8), .ref (a 9), .int (nI (mQn M)), .ref (a 10), .int (nI (rSt R)), .int (zI (rCk R)), .int (nI (rAt R)), .int (nI (rLd R)), .ref (a 11), .int (nI (rPn R)), .ref (a 12), .int (nI (rKd R)), .int (rWh R), .int (nI (rWo R))])), (a 1, .inl (cI, 40, .inl (fun zz => nI ((pO P) zz)))), (a 2, .inl (cI, 40, .inl (fun zz => nI ((pR P) zz)))), (a 3, .inl (cI, 40, .inl (fun zz => nI ((pA P) zz)))), (a 4, .inl (cI, 40, .inl (fun zz => nI ((pB P) zz)))), (a 5, .inl (cI, 40, .inl (pK P))), (a 6, .inl (cI, 512, .inl (mHp M))), (a 7, .inl (cI, 64, .inl (mSh M))), (a 8, .inl (cI, 64, .inl (fun zz => nI ((mOw M) zz)))), (a 9, .inl (cI, 64, .inl (fun zz => nI ((mSz M) zz)))), (a 10, .inl (cI, 32, .inl (fun zz => nI ((mQf M) zz)))), (a 11, .inl (cI, 8, .inl (rRg R))), (a 12, .inl (cI, 60, .inl (rPr R)))] := hD
  have hq3 := mOk_qn hm
  refine lv_iconst (v := nI 0) hx hb d_Mo_quarantined_0 (by decide) ?_
  refine lv_istore_n hx hb d_Mo_quarantined_1 rfl hl (by decide) rfl (fun ls hl => ?_)
  have hl : lv_has ls 3 [(1, .int (nI 0)), (0, .ref (a 0))] := hl
  refine lv_iconst (v := nI 0) hx hb d_Mo_quarantined_2 (by decide) ?_
  refine lv_istore_n hx hb d_Mo_quarantined_3 rfl hl (by decide) rfl (fun ls hl => ?_)
  have hl : lv_has ls 3 [(2, .int (nI 0)), (1, .int (nI 0)), (0, .ref (a 0))] := hl
  have loop4 : ∀ (K4 : Nat) (j : Nat) (ls : Array Slot) (H : Heap) (locs : List Loc), (j ≤ mQn M) → mQn M - j = K4 → lv_has ls 3 [(2, .int (nI j)), (1, .int (nI (xs (fun z => 8 * mSz M (mQf M z)) j))), (0, .ref (a 0))] → va_P D vwCl [(a 0, .inr (5, [.int (nI cd), .int (nI (pN P)), .ref (a 1), .ref (a 2), .ref (a 3), .ref (a 4), .ref (a 5), .ref (a 6), .ref (a 7), .ref (a 8), .ref (a 9), .int (nI (mQn M)), .ref (a 10), .int (nI (rSt R)), .int (zI (rCk R)), .int (nI (rAt R)), .int (nI (rLd R)), .ref (a 11), .int (nI (rPn R)), .ref (a 12), .int (nI (rKd R)), .int (rWh R), .int (nI (rWo R))])), (a 1, .inl (cI, 40, .inl (fun zz => nI ((pO P) zz)))), (a 2, .inl (cI, 40, .inl (fun zz => nI ((pR P) zz)))), (a 3, .inl (cI, 40, .inl (fun zz => nI ((pA P) zz)))), (a 4, .inl (cI, 40, .inl (fun zz => nI ((pB P) zz)))), (a 5, .inl (cI, 40, .inl (pK P))), (a 6, .inl (cI, 512, .inl (mHp M))), (a 7, .inl (cI, 64, .inl (mSh M))), (a 8, .inl (cI, 64, .inl (fun zz => nI ((mOw M) zz)))), (a 9, .inl (cI, 64, .inl (fun zz => nI ((mSz M) zz)))), (a 10, .inl (cI, 32, .inl (fun zz => nI ((mQf M) zz)))), (a 11, .inl (cI, 8, .inl (rRg R))), (a 12, .inl (cI, 60, .inl (rPr R)))] H → va_D A [(a 0, .inr (5, [.int (nI cd), .int (nI (pN P)), .ref (a 1), .ref (a 2), .ref (a 3), .ref (a 4), .ref (a 5), .ref (a 6), .ref (a 7), .ref (a 8), .ref (a 9), .int (nI (mQn M)), .ref (a 10), .int (nI (rSt R)), .int (zI (rCk R)), .int (nI (rAt R)), .int (nI (rLd R)), .ref (a 11), .int (nI (rPn R)), .ref (a 12), .int (nI (rKd R)), .int (rWh R), .int (nI (rWo R))])), (a 1, .inl (cI, 40, .inl (fun zz => nI ((pO P) zz)))), (a 2, .inl (cI, 40, .inl (fun zz => nI ((pR P) zz)))), (a 3, .inl (cI, 40, .inl (fun zz => nI ((pA P) zz)))), (a 4, .inl (cI, 40, .inl (fun zz => nI ((pB P) zz)))), (a 5, .inl (cI, 40, .inl (pK P))), (a 6, .inl (cI, 512, .inl (mHp M))), (a 7, .inl (cI, 64, .inl (mSh M))), (a 8, .inl (cI, 64, .inl (fun zz => nI ((mOw M) zz)))), (a 9, .inl (cI, 64, .inl (fun zz => nI ((mSz M) zz)))), (a 10, .inl (cI, 32, .inl (fun zz => nI ((mQf M) zz)))), (a 11, .inl (cI, 8, .inl (rRg R))), (a 12, .inl (cI, 60, .inl (rPr R)))] → va_S A s.heap H locs → W p l e rm_Mo_quarantined s m args below meth c H locs 0 0 Q (F0 m 4 ls []) := by
    intro K4
    induction K4 using Nat.strongRecOn with
    | _ K4 ih4 =>
      intro j ls H locs g1 hK4 hl hP hD hS
      refine lv_iload_n hx hb d_Mo_quarantined_4 rfl (lv_at hl 0 rfl) ?_
      refine lv_aload_n hx hb d_Mo_quarantined_5 rfl (lv_at hl 2 rfl) ?_
      refine x_get hM hK hP 0 5 11 i_Mo rfl rfl (by decide) q_fl_Mo_83 rfl d_Mo_quarantined_6 ?_
      refine x_icmp_ge (tgt := 35) hM (by omega) (by omega) d_Mo_quarantined_9 (by decide) (fun hc9 => ?_) (fun hc9 => ?_)
      · skip
        refine lv_iload_n hx hb d_Mo_quarantined_35 rfl (lv_at hl 1 rfl) ?_
        exact x_iret hM hQ (by rw [show j = mQn M by omega, xs_mul]) rfl hP hK hD hS d_Mo_quarantined_36
      · skip
        have hq0 := mOk_q hm (i := j) (by omega)
        refine lv_iload_n hx hb d_Mo_quarantined_12 rfl (lv_at hl 1 rfl) ?_
        refine lv_bipush (v := nI 8) hx hb d_Mo_quarantined_13 (by decide) ?_
        refine lv_aload_n hx hb d_Mo_quarantined_15 rfl (lv_at hl 2 rfl) ?_
        refine x_get hM hK hP 0 5 10 i_Mo rfl rfl (by decide) q_fl_Mo_34 rfl d_Mo_quarantined_16 ?_
        refine lv_aload_n hx hb d_Mo_quarantined_19 rfl (lv_at hl 2 rfl) ?_
        refine x_get hM hK hP 0 5 12 i_Mo rfl rfl (by decide) q_fl_Mo_37 rfl d_Mo_quarantined_20 ?_
        refine lv_iload_n hx hb d_Mo_quarantined_23 rfl (lv_at hl 0 rfl) ?_
        refine x_iald hM hK hP 10 0 rfl rfl (by omega) (by decide) d_Mo_quarantined_24 ?_
        refine x_iald hM hK hP 9 0 rfl rfl (by omega) (by decide) d_Mo_quarantined_25 ?_
        refine x_imul hM d_Mo_quarantined_26 ?_
        refine x_iadd hM d_Mo_quarantined_27 ?_
        refine lv_istore_n hx hb d_Mo_quarantined_28 rfl hl (by decide) rfl (fun ls hl => ?_)
        have hl : lv_has ls 3 [(1, .int (nI ((xs (fun z => 8 * mSz M (mQf M z)) j) + (8 * ((mSz M) ((mQf M) j)))))), (2, .int (nI j)), (0, .ref (a 0))] := hl
        have e29 : (xs (fun z => 8 * mSz M (mQf M z)) j) + (8 * ((mSz M) ((mQf M) j))) = xs (fun z => 8 * mSz M (mQf M z)) (j + 1) := rfl
        rw [e29] at hl
        refine lv_iinc (k := 1) (v := nI (j + 1)) hx hb d_Mo_quarantined_29 hl rfl (by rw [show Int32.ofInt 1 = nI 1 by decide, nI_add]) (by decide) rfl (fun ls hl => ?_)
        have hl : lv_has ls 3 [(2, .int (nI (j + 1))), (1, .int (nI (xs (fun z => 8 * mSz M (mQf M z)) (j + 1)))), (0, .ref (a 0))] := hl
        refine lv_goto hx hb d_Mo_quarantined_32 (tgt := 4) (by decide) ?_
        exact ih4 _ (by omega) (j + 1) ls H locs (by omega) rfl hl hP hD hS
  exact loop4 _ 0 ls s.heap [] (by omega) rfl hl hP hD hS
abbrev rm_Mo_isBlock : Room := { frames := 0, cells := 0, slots := 0, locals := 0 }
set_option maxHeartbeats 4000000 in
set_option maxRecDepth 100000 in
theorem c_Mo_isBlock (l : Launch) (D : va_G) (cI cZ cJ : ClassId) (sz : Nat) (a : Nat → Nat) (cd : Nat) (P : xPg) (M : xMem) (R : xRn) (x : Int32) (B : Nat) (hm : mOk B M) : xCi l D (xT cI cZ cJ) y_Mo_isBlock k_Mo_isBlock rm_Mo_isBlock sz (wMo cI a cd P M R) [.ref (a 0), .int x] (zI (mBl M x)) (wMo cI a cd P M R) 0 0 := by
  refine x_ofi (cc := b_Mo_isBlock) (nL := 3) (ret := (some .boolean)) (by decide) rfl (Nat.le_of_ble_eq_true rfl) ?_
  intro p e s m args below meth c ls A Q hQ hM hsz hP hK hD hA hl
  obtain ⟨hx, hb, -, hml, hown, hts, -⟩ := id hM
  have hS : va_S A s.heap s.heap [] := va_S.rf
  have hl : lv_has ls 3 [(0, .ref (a 0)), (1, .int x)] := hl
  have hP : va_P D vwCl [(a 0, .inr (5, [.int (nI cd), .int (nI (pN P)), .ref (a 1), .ref (a 2), .ref (a 3), .ref (a 4), .ref (a 5), .ref (a 6), .ref (a 7), .ref (a 8), .ref (a 9), .int (nI (mQn M)), .ref (a 10), .int (nI (rSt R)), .int (zI (rCk R)), .int (nI (rAt R)), .int (nI (rLd R)), .ref (a 11), .int (nI (rPn R)), .ref (a 12), .int (nI (rKd R)), .int (rWh R), .int (nI (rWo R))])), (a 1, .inl (cI, 40, .inl (fun zz => nI ((pO P) zz)))), (a 2, .inl (cI, 40, .inl (fun zz => nI ((pR P) zz)))), (a 3, .inl (cI, 40, .inl (fun zz => nI ((pA P) zz)))), (a 4, .inl (cI, 40, .inl (fun zz => nI ((pB P) zz)))), (a 5, .inl (cI, 40, .inl (pK P))), (a 6, .inl (cI, 512, .inl (mHp M))), (a 7, .inl (cI, 64, .inl (mSh M))), (a 8, .inl (cI, 64, .inl (fun zz => nI ((mOw M) zz)))), (a 9, .inl (cI, 64, .inl (fun zz => nI ((mSz M) zz)))), (a 10, .inl (cI, 32, .inl (fun zz => nI ((mQf M) zz)))), (a 11, .inl (cI, 8, .inl (rRg R))), (a 12, .inl (cI, 60, .inl (rPr R)))] s.heap := hP
  have hD : va_D A [(a 0, .inr (5, [.int (nI cd), .int (nI (pN P)), .ref (a 1), .ref (a 2), .ref (a 3), .ref (a 4), .ref (a 5), .ref (a 6), .ref (a 7), .ref (a 8), .ref (a 9), .int (nI (mQn M)), .ref (a 10), .int (nI (rSt R)), .int (zI (rCk R)), .int (nI (rAt R)), .int (nI (rLd R)), .ref (a 11), .int (nI (rPn R)), .ref (a 12), .int (nI (rKd R)), .int (rWh R), .int (nI (rWo R))])), (a 1, .inl (cI, 40, .inl (fun zz => nI ((pO P) zz)))), (a 2, .inl (cI, 40, .inl (fun zz => nI ((pR P) zz)))), (a 3, .inl (cI, 40, .inl (fun zz => nI ((pA P) zz)))), (a 4, .inl (cI, 40, .inl (fun zz => nI ((pB P) zz)))), (a 5, .inl (cI, 40, .inl (pK P))), (a 6, .inl (cI, 512, .inl (mHp M))), (a 7, .inl (cI, 64, .inl (mSh M))), (a 8, .inl (cI, 64, .inl (fun zz => nI ((mOw M) zz)))), (a 9, .inl (cI, 64, .inl (fun zz => nI ((mSz M) zz)))), (a 10, .inl (cI, 32, .inl (fun zz => nI ((mQf M) zz)))), (a 11, .inl (cI, 8, .inl (rRg R))), (a 12, .inl (cI, 60, .inl (rPr R)))] := hD
  refine lv_iload_n hx hb d_Mo_isBlock_0 rfl (lv_at hl 1 rfl) ?_
  refine lv_bipush (v := nI 8) hx hb d_Mo_isBlock_1 (by decide) ?_
  refine lv_idiv hx hb d_Mo_isBlock_3 (by decide) ?_
  refine lv_iconst (v := nI 1) hx hb d_Mo_isBlock_4 (by decide) ?_
  refine lv_isub hx hb d_Mo_isBlock_5 ?_
  refine lv_istore_n hx hb d_Mo_isBlock_6 rfl hl (by decide) rfl (fun ls hl => ?_)
  have hl : lv_has ls 3 [(2, .int ((x / (nI 8)) - (nI 1))), (0, .ref (a 0)), (1, .int x)] := hl
  refine lv_iload_n hx hb d_Mo_isBlock_7 rfl (lv_at hl 2 rfl) ?_
  refine lv_if_le (tgt := 48) hx hb d_Mo_isBlock_8 (by decide) (fun hc8 => ?_) (fun hc8 => ?_)
  · skip
    refine lv_iconst (v := nI 0) hx hb d_Mo_isBlock_48 (by decide) ?_
    exact x_zret hM hQ (by decide) (by rw [mBl_le hc8]; rfl) rfl hP hK hD hS d_Mo_isBlock_49
  · skip
    refine lv_iload_n hx hb d_Mo_isBlock_11 rfl (lv_at hl 2 rfl) ?_
    refine lv_sipush (v := nI 512) hx hb d_Mo_isBlock_12 (by decide) ?_
    refine lv_icmp_ge (tgt := 48) hx hb d_Mo_isBlock_15 (by decide) (fun hc15 => ?_) (fun hc15 => ?_)
    · skip
      refine lv_iconst (v := nI 0) hx hb d_Mo_isBlock_48 (by decide) ?_
      exact x_zret hM hQ (by decide) (by rw [mBl_o (xr_f2 hc15)]; rfl) rfl hP hK hD hS d_Mo_isBlock_49
    · skip
      obtain ⟨n, hn, rfl⟩ := xr_nat (xr_t (fun h => hc8 (Int32.le_of_lt h)) hc15) (by decide)
      have hn0 : 0 < n := Nat.pos_of_ne_zero (fun h => hc8 (by rw [h]; decide))
      refine lv_iload_n hx hb d_Mo_isBlock_18 rfl (lv_at hl 2 rfl) ?_
      refine lv_bipush (v := nI 8) hx hb d_Mo_isBlock_19 (by decide) ?_
      refine x_irem hM (by omega) (by omega) (by omega) d_Mo_isBlock_21 ?_
      refine x_if_ne (tgt := 48) hM (by omega) d_Mo_isBlock_22 (by decide) (fun hc22 => ?_) (fun hc22 => ?_)
      · skip
        refine lv_iconst (v := nI 0) hx hb d_Mo_isBlock_48 (by decide) ?_
        exact x_zret hM hQ (by decide) (by rw [mBl_n hn]; exact x_z0 (decide_eq_false (by omega))) rfl hP hK hD hS d_Mo_isBlock_49
      · skip
        have e25 : nI n / nI 8 - nI 1 = nI (n / 8 - 1) := by rw [pk_div (by omega) (by decide) (by decide), pk_sub (by omega)]
        rw [e25] at hl
        have hl : lv_has ls 3 [(2, .int (nI (n / 8 - 1))), (0, .ref (a 0)), (1, .int (nI n))] := hl
        have hz := mOk_sz hm (n / 8 - 1)
        have hw0 := mOk_ow hm (k := n / 8 - 1) (by omega)
        refine lv_aload_n hx hb d_Mo_isBlock_25 rfl (lv_at hl 1 rfl) ?_
        refine x_get hM hK hP 0 5 10 i_Mo rfl rfl (by decide) q_fl_Mo_34 rfl d_Mo_isBlock_26 ?_
        refine lv_iload_n hx hb d_Mo_isBlock_29 rfl (lv_at hl 0 rfl) ?_
        refine x_iald hM hK hP 9 0 rfl rfl (by omega) (by decide) d_Mo_isBlock_30 ?_
        refine x_if_le (tgt := 48) hM (by omega) d_Mo_isBlock_31 (by decide) (fun hc31 => ?_) (fun hc31 => ?_)
        · skip
          refine lv_iconst (v := nI 0) hx hb d_Mo_isBlock_48 (by decide) ?_
          exact x_zret hM hQ (by decide) (by rw [mBl_n hn]; exact x_z0 (decide_eq_false (by omega))) rfl hP hK hD hS d_Mo_isBlock_49
        · skip
          refine lv_aload_n hx hb d_Mo_isBlock_34 rfl (lv_at hl 1 rfl) ?_
          refine x_get hM hK hP 0 5 9 i_Mo rfl rfl (by decide) q_fl_Mo_31 rfl d_Mo_isBlock_35 ?_
          refine lv_iload_n hx hb d_Mo_isBlock_38 rfl (lv_at hl 0 rfl) ?_
          refine x_iald hM hK hP 8 0 rfl rfl (by omega) (by decide) d_Mo_isBlock_39 ?_
          refine lv_iconst (v := nI 1) hx hb d_Mo_isBlock_40 (by decide) ?_
          refine x_icmp_ne (tgt := 48) hM (by omega) (by omega) d_Mo_isBlock_41 (by decide) (fun hc41 => ?_) (fun hc41 => ?_)
          · skip
            refine lv_iconst (v := nI 0) hx hb d_Mo_isBlock_48 (by decide) ?_
            exact x_zret hM hQ (by decide) (by rw [mBl_n hn]; exact x_z0 (decide_eq_false (by omega))) rfl hP hK hD hS d_Mo_isBlock_49
          · skip
            refine lv_iconst (v := nI 1) hx hb d_Mo_isBlock_44 (by decide) ?_
            refine lv_goto hx hb d_Mo_isBlock_45 (tgt := 49) (by decide) ?_
            exact x_zret hM hQ (by decide) (by rw [mBl_n hn]; exact x_z1 (decide_eq_true ⟨hn0, hc22, hc31, hc41⟩)) rfl hP hK hD hS d_Mo_isBlock_49
abbrev rm_Mo_wrongByte : Room := { frames := 1, cells := 0, slots := 0, locals := 20 }
set_option maxHeartbeats 4000000 in
set_option maxRecDepth 100000 in
theorem c_Mo_wrongByte (l : Launch) (D : va_G) (cI cZ cJ : ClassId) (sz : Nat) (a : Nat → Nat) (cd : Nat) (P : xPg) (M : xMem) (R : xRn) (x : Int32)  : xCi l D (xT cI cZ cJ) y_Mo_wrongByte k_Mo_wrongByte rm_Mo_wrongByte sz (wMo cI a cd P M R) [.ref (a 0), .int x] (nI (mWr M x)) (wMo cI a cd P M R) 0 0 := by
  refine x_ofi (cc := b_Mo_wrongByte) (nL := 3) (ret := (some .int)) (by decide) rfl (Nat.le_of_ble_eq_true rfl) ?_
  intro p e s m args below meth c ls A Q hQ hM hsz hP hK hD hA hl
  obtain ⟨hx, hb, -, hml, hown, hts, -⟩ := id hM
  have hS : va_S A s.heap s.heap [] := va_S.rf
  have hl : lv_has ls 3 [(0, .ref (a 0)), (1, .int x)] := hl
  have hP : va_P D vwCl [(a 0, .inr (5, [.int (nI cd), .int (nI (pN P)), .ref (a 1), .ref (a 2), .ref (a 3), .ref (a 4), .ref (a 5), .ref (a 6), .ref (a 7), .ref (a 8), .ref (a 9), .int (nI (mQn M)), .ref (a 10), .int (nI (rSt R)), .int (zI (rCk R)), .int (nI (rAt R)), .int (nI (rLd R)), .ref (a 11), .int (nI (rPn R)), .ref (a 12), .int (nI (rKd R)), .int (rWh R), .int (nI (rWo R))])), (a 1, .inl (cI, 40, .inl (fun zz => nI ((pO P) zz)))), (a 2, .inl (cI, 40, .inl (fun zz => nI ((pR P) zz)))), (a 3, .inl (cI, 40, .inl (fun zz => nI ((pA P) zz)))), (a 4, .inl (cI, 40, .inl (fun zz => nI ((pB P) zz)))), (a 5, .inl (cI, 40, .inl (pK P))), (a 6, .inl (cI, 512, .inl (mHp M))), (a 7, .inl (cI, 64, .inl (mSh M))), (a 8, .inl (cI, 64, .inl (fun zz => nI ((mOw M) zz)))), (a 9, .inl (cI, 64, .inl (fun zz => nI ((mSz M) zz)))), (a 10, .inl (cI, 32, .inl (fun zz => nI ((mQf M) zz)))), (a 11, .inl (cI, 8, .inl (rRg R))), (a 12, .inl (cI, 60, .inl (rPr R)))] s.heap := hP
  have hD : va_D A [(a 0, .inr (5, [.int (nI cd), .int (nI (pN P)), .ref (a 1), .ref (a 2), .ref (a 3), .ref (a 4), .ref (a 5), .ref (a 6), .ref (a 7), .ref (a 8), .ref (a 9), .int (nI (mQn M)), .ref (a 10), .int (nI (rSt R)), .int (zI (rCk R)), .int (nI (rAt R)), .int (nI (rLd R)), .ref (a 11), .int (nI (rPn R)), .ref (a 12), .int (nI (rKd R)), .int (rWh R), .int (nI (rWo R))])), (a 1, .inl (cI, 40, .inl (fun zz => nI ((pO P) zz)))), (a 2, .inl (cI, 40, .inl (fun zz => nI ((pR P) zz)))), (a 3, .inl (cI, 40, .inl (fun zz => nI ((pA P) zz)))), (a 4, .inl (cI, 40, .inl (fun zz => nI ((pB P) zz)))), (a 5, .inl (cI, 40, .inl (pK P))), (a 6, .inl (cI, 512, .inl (mHp M))), (a 7, .inl (cI, 64, .inl (mSh M))), (a 8, .inl (cI, 64, .inl (fun zz => nI ((mOw M) zz)))), (a 9, .inl (cI, 64, .inl (fun zz => nI ((mSz M) zz)))), (a 10, .inl (cI, 32, .inl (fun zz => nI ((mQf M) zz)))), (a 11, .inl (cI, 8, .inl (rRg R))), (a 12, .inl (cI, 60, .inl (rPr R)))] := hD
  refine lv_iload_n hx hb d_Mo_wrongByte_0 rfl (lv_at hl 1 rfl) ?_
  refine x_calli (wc := []) (wr := [(a 0, .inr (5, [.int (nI cd), .int (nI (pN P)), .ref (a 1), .ref (a 2), .ref (a 3), .ref (a 4), .ref (a 5), .ref (a 6), .ref (a 7), .ref (a 8), .ref (a 9), .int (nI (mQn M)), .ref (a 10), .int (nI (rSt R)), .int (zI (rCk R)), .int (nI (rAt R)), .int (nI (rLd R)), .ref (a 11), .int (nI (rPn R)), .ref (a 12), .int (nI (rKd R)), .int (rWh R), .int (nI (rWo R))])), (a 1, .inl (cI, 40, .inl (fun zz => nI ((pO P) zz)))), (a 2, .inl (cI, 40, .inl (fun zz => nI ((pR P) zz)))), (a 3, .inl (cI, 40, .inl (fun zz => nI ((pA P) zz)))), (a 4, .inl (cI, 40, .inl (fun zz => nI ((pB P) zz)))), (a 5, .inl (cI, 40, .inl (pK P))), (a 6, .inl (cI, 512, .inl (mHp M))), (a 7, .inl (cI, 64, .inl (mSh M))), (a 8, .inl (cI, 64, .inl (fun zz => nI ((mOw M) zz)))), (a 9, .inl (cI, 64, .inl (fun zz => nI ((mSz M) zz)))), (a 10, .inl (cI, 32, .inl (fun zz => nI ((mQf M) zz)))), (a 11, .inl (cI, 8, .inl (rRg R))), (a 12, .inl (cI, 60, .inl (rPr R)))]) (va_runS (As := [.int x]) (rest := []) ⟨hx, hb, hml, hown, hts⟩ (c_Mo_isIn l D cI cZ cJ _ x) (va_cwS 1 hts (bw_S q_ml_Mo_96 q_st_Mo_isIn q_in_Mo q_cd_Mo_isIn) rfl rfl rfl ⟨by decide, by decide, by decide +kernel⟩ ⟨Nat.le_of_ble_eq_true rfl, Nat.le_of_ble_eq_true rfl⟩) (x_pre (wc := []) hP hD hK [] rfl (by decide)) rfl rfl hl.1 rfl (lv_room (Nat.le_of_ble_eq_true rfl)) d_Mo_wrongByte_1 ⟨Nat.le_of_ble_eq_true rfl, Nat.le_of_ble_eq_true rfl⟩) hP hD hS hA [] [0, 1, 2, 3, 4, 5, 6, 7, 8, 9, 10, 11, 12] rfl rfl (by decide) (by decide) (fun H locs hP hD hS => ?_)
  have hP : va_P D vwCl [(a 0, .inr (5, [.int (nI cd), .int (nI (pN P)), .ref (a 1), .ref (a 2), .ref (a 3), .ref (a 4), .ref (a 5), .ref (a 6), .ref (a 7), .ref (a 8), .ref (a 9), .int (nI (mQn M)), .ref (a 10), .int (nI (rSt R)), .int (zI (rCk R)), .int (nI (rAt R)), .int (nI (rLd R)), .ref (a 11), .int (nI (rPn R)), .ref (a 12), .int (nI (rKd R)), .int (rWh R), .int (nI (rWo R))])), (a 1, .inl (cI, 40, .inl (fun zz => nI ((pO P) zz)))), (a 2, .inl (cI, 40, .inl (fun zz => nI ((pR P) zz)))), (a 3, .inl (cI, 40, .inl (fun zz => nI ((pA P) zz)))), (a 4, .inl (cI, 40, .inl (fun zz => nI ((pB P) zz)))), (a 5, .inl (cI, 40, .inl (pK P))), (a 6, .inl (cI, 512, .inl (mHp M))), (a 7, .inl (cI, 64, .inl (mSh M))), (a 8, .inl (cI, 64, .inl (fun zz => nI ((mOw M) zz)))), (a 9, .inl (cI, 64, .inl (fun zz => nI ((mSz M) zz)))), (a 10, .inl (cI, 32, .inl (fun zz => nI ((mQf M) zz)))), (a 11, .inl (cI, 8, .inl (rRg R))), (a 12, .inl (cI, 60, .inl (rPr R)))] H := hP
  have hD : va_D A [(a 0, .inr (5, [.int (nI cd), .int (nI (pN P)), .ref (a 1), .ref (a 2), .ref (a 3), .ref (a 4), .ref (a 5), .ref (a 6), .ref (a 7), .ref (a 8), .ref (a 9), .int (nI (mQn M)), .ref (a 10), .int (nI (rSt R)), .int (zI (rCk R)), .int (nI (rAt R)), .int (nI (rLd R)), .ref (a 11), .int (nI (rPn R)), .ref (a 12), .int (nI (rKd R)), .int (rWh R), .int (nI (rWo R))])), (a 1, .inl (cI, 40, .inl (fun zz => nI ((pO P) zz)))), (a 2, .inl (cI, 40, .inl (fun zz => nI ((pR P) zz)))), (a 3, .inl (cI, 40, .inl (fun zz => nI ((pA P) zz)))), (a 4, .inl (cI, 40, .inl (fun zz => nI ((pB P) zz)))), (a 5, .inl (cI, 40, .inl (pK P))), (a 6, .inl (cI, 512, .inl (mHp M))), (a 7, .inl (cI, 64, .inl (mSh M))), (a 8, .inl (cI, 64, .inl (fun zz => nI ((mOw M) zz)))), (a 9, .inl (cI, 64, .inl (fun zz => nI ((mSz M) zz)))), (a 10, .inl (cI, 32, .inl (fun zz => nI ((mQf M) zz)))), (a 11, .inl (cI, 8, .inl (rRg R))), (a 12, .inl (cI, 60, .inl (rPr R)))] := hD
  refine x_if_neZ (b := xr x 512) (tgt := 9) hM d_Mo_wrongByte_4 (by decide) (fun hc4 => ?_) (fun hc4 => ?_)
  · skip
    obtain ⟨n, hn, rfl⟩ := xr_nat hc4 (by decide)
    refine lv_aload_n hx hb d_Mo_wrongByte_9 rfl (lv_at hl 0 rfl) ?_
    refine x_get hM hK hP 0 5 8 i_Mo rfl rfl (by decide) q_fl_Mo_28 rfl d_Mo_wrongByte_10 ?_
    refine lv_iload_n hx hb d_Mo_wrongByte_13 rfl (lv_at hl 1 rfl) ?_
    refine lv_bipush (v := nI 8) hx hb d_Mo_wrongByte_14 (by decide) ?_
    refine x_idiv hM (by omega) (by omega) (by omega) d_Mo_wrongByte_16 ?_
    refine x_iald hM hK hP 7 0 rfl rfl (by omega) (by decide) d_Mo_wrongByte_17 ?_
    refine lv_istore_n hx hb d_Mo_wrongByte_18 rfl hl (by decide) rfl (fun ls hl => ?_)
    have hl : lv_has ls 3 [(2, .int ((mSh M) (n / 8))), (0, .ref (a 0)), (1, .int (nI n))] := hl
    refine lv_iload_n hx hb d_Mo_wrongByte_19 rfl (lv_at hl 0 rfl) ?_
    refine lv_if_eq (tgt := 35) hx hb d_Mo_wrongByte_20 (by decide) (fun hc20 => ?_) (fun hc20 => ?_)
    · skip
      refine lv_iconst (v := nI 0) hx hb d_Mo_wrongByte_35 (by decide) ?_
      refine lv_goto hx hb d_Mo_wrongByte_36 (tgt := 60) (by decide) ?_
      exact x_iret hM hQ (by rw [mWr_n hn, mTc_0 hc20]) rfl hP hK hD hS d_Mo_wrongByte_60
    · skip
      refine lv_iload_n hx hb d_Mo_wrongByte_23 rfl (lv_at hl 0 rfl) ?_
      refine lv_if_le (tgt := 39) hx hb d_Mo_wrongByte_24 (by decide) (fun hc24 => ?_) (fun hc24 => ?_)
      · skip
        refine lv_iload_n hx hb d_Mo_wrongByte_39 rfl (lv_at hl 0 rfl) ?_
        refine lv_bipush (v := -2) hx hb d_Mo_wrongByte_40 (by decide) ?_
        refine lv_icmp_ne (tgt := 49) hx hb d_Mo_wrongByte_42 (by decide) (fun hc42 => ?_) (fun hc42 => ?_)
        · skip
          refine lv_iload_n hx hb d_Mo_wrongByte_49 rfl (lv_at hl 0 rfl) ?_
          refine lv_bipush (v := -3) hx hb d_Mo_wrongByte_50 (by decide) ?_
          refine lv_icmp_ne (tgt := 59) hx hb d_Mo_wrongByte_52 (by decide) (fun hc52 => ?_) (fun hc52 => ?_)
          · skip
            refine lv_iconst (v := nI 1) hx hb d_Mo_wrongByte_59 (by decide) ?_
            exact x_iret hM hQ (by rw [mWr_n hn, mTc_1 hc20 (by first | exact Or.inl hc24 | exact Or.inr hc32) hc42 hc52]) rfl hP hK hD hS d_Mo_wrongByte_60
          · skip
            refine lv_iconst (v := nI 3) hx hb d_Mo_wrongByte_55 (by decide) ?_
            refine lv_goto hx hb d_Mo_wrongByte_56 (tgt := 60) (by decide) ?_
            exact x_iret hM hQ (by rw [mWr_n hn, mTc_3 hc52]) rfl hP hK hD hS d_Mo_wrongByte_60
        · skip
          refine lv_iconst (v := nI 2) hx hb d_Mo_wrongByte_45 (by decide) ?_
          refine lv_goto hx hb d_Mo_wrongByte_46 (tgt := 60) (by decide) ?_
          exact x_iret hM hQ (by rw [mWr_n hn, mTc_2 hc42]) rfl hP hK hD hS d_Mo_wrongByte_60
      · skip
        refine lv_iload_n hx hb d_Mo_wrongByte_27 rfl (lv_at hl 2 rfl) ?_
        refine lv_bipush (v := nI 8) hx hb d_Mo_wrongByte_28 (by decide) ?_
        refine x_irem hM (by omega) (by omega) (by omega) d_Mo_wrongByte_30 ?_
        refine lv_iload_n hx hb d_Mo_wrongByte_31 rfl (lv_at hl 0 rfl) ?_
        refine lv_icmp_ge (tgt := 39) hx hb d_Mo_wrongByte_32 (by decide) (fun hc32 => ?_) (fun hc32 => ?_)
        · skip
          refine lv_iload_n hx hb d_Mo_wrongByte_39 rfl (lv_at hl 0 rfl) ?_
          refine lv_bipush (v := -2) hx hb d_Mo_wrongByte_40 (by decide) ?_
          refine lv_icmp_ne (tgt := 49) hx hb d_Mo_wrongByte_42 (by decide) (fun hc42 => ?_) (fun hc42 => ?_)
          · skip
            refine lv_iload_n hx hb d_Mo_wrongByte_49 rfl (lv_at hl 0 rfl) ?_
            refine lv_bipush (v := -3) hx hb d_Mo_wrongByte_50 (by decide) ?_
            refine lv_icmp_ne (tgt := 59) hx hb d_Mo_wrongByte_52 (by decide) (fun hc52 => ?_) (fun hc52 => ?_)
            · skip
              refine lv_iconst (v := nI 1) hx hb d_Mo_wrongByte_59 (by decide) ?_
              exact x_iret hM hQ (by rw [mWr_n hn, mTc_1 hc20 (by first | exact Or.inl hc24 | exact Or.inr hc32) hc42 hc52]) rfl hP hK hD hS d_Mo_wrongByte_60
            · skip
              refine lv_iconst (v := nI 3) hx hb d_Mo_wrongByte_55 (by decide) ?_
              refine lv_goto hx hb d_Mo_wrongByte_56 (tgt := 60) (by decide) ?_
              exact x_iret hM hQ (by rw [mWr_n hn, mTc_3 hc52]) rfl hP hK hD hS d_Mo_wrongByte_60
          · skip
            refine lv_iconst (v := nI 2) hx hb d_Mo_wrongByte_45 (by decide) ?_
            refine lv_goto hx hb d_Mo_wrongByte_46 (tgt := 60) (by decide) ?_
            exact x_iret hM hQ (by rw [mWr_n hn, mTc_2 hc42]) rfl hP hK hD hS d_Mo_wrongByte_60
        · skip
          refine lv_iconst (v := nI 0) hx hb d_Mo_wrongByte_35 (by decide) ?_
          refine lv_goto hx hb d_Mo_wrongByte_36 (tgt := 60) (by decide) ?_
          exact x_iret hM hQ (by rw [mWr_n hn, mTc_p hc24 hc32]) rfl hP hK hD hS d_Mo_wrongByte_60
  · skip
    refine lv_iconst (v := nI 5) hx hb d_Mo_wrongByte_7 (by decide) ?_
    exact x_iret hM hQ (by rw [mWr_o hc4]) rfl hP hK hD hS d_Mo_wrongByte_8
abbrev rm_Mo_load : Room := { frames := 0, cells := 0, slots := 0, locals := 0 }
set_option maxHeartbeats 4000000 in
set_option maxRecDepth 100000 in
theorem c_Mo_load (l : Launch) (D : va_G) (cI cZ cJ : ClassId) (sz : Nat) (a : Nat → Nat) (cd : Nat) (P : xPg) (M : xMem) (R : xRn) (n : Nat) (hn : n + 4 ≤ 512) : xCi l D (xT cI cZ cJ) y_Mo_load k_Mo_load rm_Mo_load sz (wMo cI a cd P M R) [.ref (a 0), .int (nI n)] (xld (mHp M) n 4 4) (wMo cI a cd P M R) 0 0 := by
  refine x_ofi (cc := b_Mo_load) (nL := 4) (ret := (some .int)) (by decide) rfl (Nat.le_of_ble_eq_true rfl) ?_
  intro p e s m args below meth c ls A Q hQ hM hsz hP hK hD hA hl
  obtain ⟨hx, hb, -, hml, hown, hts, -⟩ := id hM
  have hS : va_S A s.heap s.heap [] := va_S.rf
  have hl : lv_has ls 4 [(0, .ref (a 0)), (1, .int (nI n))] := hl
  have hP : va_P D vwCl [(a 0, .inr (5, [.int (nI cd), .int (nI (pN P)), .ref (a 1), .ref (a 2), .ref (a 3), .ref (a 4), .ref (a 5), .ref (a 6), .ref (a 7), .ref (a 8), .ref (a 9), .int (nI (mQn M)), .ref (a 10), .int (nI (rSt R)), .int (zI (rCk R)), .int (nI (rAt R)), .int (nI (rLd R)), .ref (a 11), .int (nI (rPn R)), .ref (a 12), .int (nI (rKd R)), .int (rWh R), .int (nI (rWo R))])), (a 1, .inl (cI, 40, .inl (fun zz => nI ((pO P) zz)))), (a 2, .inl (cI, 40, .inl (fun zz => nI ((pR P) zz)))), (a 3, .inl (cI, 40, .inl (fun zz => nI ((pA P) zz)))), (a 4, .inl (cI, 40, .inl (fun zz => nI ((pB P) zz)))), (a 5, .inl (cI, 40, .inl (pK P))), (a 6, .inl (cI, 512, .inl (mHp M))), (a 7, .inl (cI, 64, .inl (mSh M))), (a 8, .inl (cI, 64, .inl (fun zz => nI ((mOw M) zz)))), (a 9, .inl (cI, 64, .inl (fun zz => nI ((mSz M) zz)))), (a 10, .inl (cI, 32, .inl (fun zz => nI ((mQf M) zz)))), (a 11, .inl (cI, 8, .inl (rRg R))), (a 12, .inl (cI, 60, .inl (rPr R)))] s.heap := hP
  have hD : va_D A [(a 0, .inr (5, [.int (nI cd), .int (nI (pN P)), .ref (a 1), .ref (a 2), .ref (a 3), .ref (a 4), .ref (a 5), .ref (a 6), .ref (a 7), .ref (a 8), .ref (a 9), .int (nI (mQn M)), .ref (a 10), .int (nI (rSt R)), .int (zI (rCk R)), .int (nI (rAt R)), .int (nI (rLd R)), .ref (a 11), .int (nI (rPn R)), .ref (a 12), .int (nI (rKd R)), .int (rWh R), .int (nI (rWo R))])), (a 1, .inl (cI, 40, .inl (fun zz => nI ((pO P) zz)))), (a 2, .inl (cI, 40, .inl (fun zz => nI ((pR P) zz)))), (a 3, .inl (cI, 40, .inl (fun zz => nI ((pA P) zz)))), (a 4, .inl (cI, 40, .inl (fun zz => nI ((pB P) zz)))), (a 5, .inl (cI, 40, .inl (pK P))), (a 6, .inl (cI, 512, .inl (mHp M))), (a 7, .inl (cI, 64, .inl (mSh M))), (a 8, .inl (cI, 64, .inl (fun zz => nI ((mOw M) zz)))), (a 9, .inl (cI, 64, .inl (fun zz => nI ((mSz M) zz)))), (a 10, .inl (cI, 32, .inl (fun zz => nI ((mQf M) zz)))), (a 11, .inl (cI, 8, .inl (rRg R))), (a 12, .inl (cI, 60, .inl (rPr R)))] := hD
  refine lv_iconst (v := nI 0) hx hb d_Mo_load_0 (by decide) ?_
  refine lv_istore_n hx hb d_Mo_load_1 rfl hl (by decide) rfl (fun ls hl => ?_)
  have hl : lv_has ls 4 [(2, .int (nI 0)), (0, .ref (a 0)), (1, .int (nI n))] := hl
  refine lv_iconst (v := nI 3) hx hb d_Mo_load_2 (by decide) ?_
  refine lv_istore_n hx hb d_Mo_load_3 rfl hl (by decide) rfl (fun ls hl => ?_)
  have hl : lv_has ls 4 [(3, .int (nI 3)), (2, .int (nI 0)), (0, .ref (a 0)), (1, .int (nI n))] := hl
  have loop4 : ∀ (K4 : Nat) (t : Nat) (ls : Array Slot) (H : Heap) (locs : List Loc), (t ≤ 4) → t = K4 → lv_has ls 4 [(3, .int (xm t)), (2, .int (xld (mHp M) n 4 (4 - t))), (0, .ref (a 0)), (1, .int (nI n))] → va_P D vwCl [(a 0, .inr (5, [.int (nI cd), .int (nI (pN P)), .ref (a 1), .ref (a 2), .ref (a 3), .ref (a 4), .ref (a 5), .ref (a 6), .ref (a 7), .ref (a 8), .ref (a 9), .int (nI (mQn M)), .ref (a 10), .int (nI (rSt R)), .int (zI (rCk R)), .int (nI (rAt R)), .int (nI (rLd R)), .ref (a 11), .int (nI (rPn R)), .ref (a 12), .int (nI (rKd R)), .int (rWh R), .int (nI (rWo R))])), (a 1, .inl (cI, 40, .inl (fun zz => nI ((pO P) zz)))), (a 2, .inl (cI, 40, .inl (fun zz => nI ((pR P) zz)))), (a 3, .inl (cI, 40, .inl (fun zz => nI ((pA P) zz)))), (a 4, .inl (cI, 40, .inl (fun zz => nI ((pB P) zz)))), (a 5, .inl (cI, 40, .inl (pK P))), (a 6, .inl (cI, 512, .inl (mHp M))), (a 7, .inl (cI, 64, .inl (mSh M))), (a 8, .inl (cI, 64, .inl (fun zz => nI ((mOw M) zz)))), (a 9, .inl (cI, 64, .inl (fun zz => nI ((mSz M) zz)))), (a 10, .inl (cI, 32, .inl (fun zz => nI ((mQf M) zz)))), (a 11, .inl (cI, 8, .inl (rRg R))), (a 12, .inl (cI, 60, .inl (rPr R)))] H → va_D A [(a 0, .inr (5, [.int (nI cd), .int (nI (pN P)), .ref (a 1), .ref (a 2), .ref (a 3), .ref (a 4), .ref (a 5), .ref (a 6), .ref (a 7), .ref (a 8), .ref (a 9), .int (nI (mQn M)), .ref (a 10), .int (nI (rSt R)), .int (zI (rCk R)), .int (nI (rAt R)), .int (nI (rLd R)), .ref (a 11), .int (nI (rPn R)), .ref (a 12), .int (nI (rKd R)), .int (rWh R), .int (nI (rWo R))])), (a 1, .inl (cI, 40, .inl (fun zz => nI ((pO P) zz)))), (a 2, .inl (cI, 40, .inl (fun zz => nI ((pR P) zz)))), (a 3, .inl (cI, 40, .inl (fun zz => nI ((pA P) zz)))), (a 4, .inl (cI, 40, .inl (fun zz => nI ((pB P) zz)))), (a 5, .inl (cI, 40, .inl (pK P))), (a 6, .inl (cI, 512, .inl (mHp M))), (a 7, .inl (cI, 64, .inl (mSh M))), (a 8, .inl (cI, 64, .inl (fun zz => nI ((mOw M) zz)))), (a 9, .inl (cI, 64, .inl (fun zz => nI ((mSz M) zz)))), (a 10, .inl (cI, 32, .inl (fun zz => nI ((mQf M) zz)))), (a 11, .inl (cI, 8, .inl (rRg R))), (a 12, .inl (cI, 60, .inl (rPr R)))] → va_S A s.heap H locs → W p l e rm_Mo_load s m args below meth c H locs 0 0 Q (F0 m 4 ls []) := by
    intro K4
    induction K4 using Nat.strongRecOn with
    | _ K4 ih4 =>
      intro t ls H locs g1 hK4 hl hP hD hS
      refine lv_iload_n hx hb d_Mo_load_4 rfl (lv_at hl 0 rfl) ?_
      refine lv_if_lt (tgt := 28) hx hb d_Mo_load_5 (by decide) (fun hc5 => ?_) (fun hc5 => ?_)
      · skip
        refine lv_iload_n hx hb d_Mo_load_28 rfl (lv_at hl 1 rfl) ?_
        have ht0 : t = 0 := xm_z (by omega) hc5
        exact x_iret hM hQ (by rw [ht0]) rfl hP hK hD hS d_Mo_load_29
      · skip
        obtain ⟨j, rfl⟩ : ∃ j, t = j + 1 := ⟨t - 1, by have : t ≠ 0 := fun h => hc5 (by rw [h]; exact xm_0); omega⟩
        rw [xm_s] at hl
        have hl : lv_has ls 4 [(3, .int (nI j)), (2, .int (xld (mHp M) n 4 (4 - (j + 1)))), (0, .ref (a 0)), (1, .int (nI n))] := hl
        refine lv_iload_n hx hb d_Mo_load_8 rfl (lv_at hl 1 rfl) ?_
        refine lv_bipush (v := nI 8) hx hb d_Mo_load_9 (by decide) ?_
        refine lv_ishl hx hb d_Mo_load_11 ?_
        refine lv_aload_n hx hb d_Mo_load_12 rfl (lv_at hl 2 rfl) ?_
        refine x_get hM hK hP 0 5 7 i_Mo rfl rfl (by decide) q_fl_Mo_25 rfl d_Mo_load_13 ?_
        refine lv_iload_n hx hb d_Mo_load_16 rfl (lv_at hl 3 rfl) ?_
        refine lv_iload_n hx hb d_Mo_load_17 rfl (lv_at hl 0 rfl) ?_
        refine x_iadd hM d_Mo_load_18 ?_
        refine x_iald hM hK hP 6 0 rfl rfl (by omega) (by decide) d_Mo_load_19 ?_
        refine lv_ior hx hb d_Mo_load_20 ?_
        refine lv_istore_n hx hb d_Mo_load_21 rfl hl (by decide) rfl (fun ls hl => ?_)
        have hl : lv_has ls 4 [(2, .int (((xld (mHp M) n 4 (4 - (j + 1))) <<< ((nI 8) &&& 31)) ||| ((mHp M) (n + j)))), (3, .int (nI j)), (0, .ref (a 0)), (1, .int (nI n))] := hl
        have e22 : ((xld (mHp M) n 4 (4 - (j + 1))) <<< ((nI 8) &&& 31)) ||| ((mHp M) (n + j)) = xld (mHp M) n 4 (4 - j) := by rw [show 4 - j = (4 - (j + 1)) + 1 by omega, xld, show 4 - 1 - (4 - (j + 1)) = j by omega]
        rw [e22] at hl
        have hl : lv_has ls 4 [(2, .int (xld (mHp M) n 4 (4 - j))), (3, .int (nI j)), (0, .ref (a 0)), (1, .int (nI n))] := hl
        refine lv_iinc (k := 1) (v := xm j) hx hb d_Mo_load_22 hl rfl (xm_d _) (by decide) rfl (fun ls hl => ?_)
        have hl : lv_has ls 4 [(3, .int (xm j)), (2, .int (xld (mHp M) n 4 (4 - j))), (0, .ref (a 0)), (1, .int (nI n))] := hl
        refine lv_goto hx hb d_Mo_load_25 (tgt := 4) (by decide) ?_
        exact ih4 _ (by omega) j ls H locs (by omega) rfl hl hP hD hS
  exact loop4 _ 4 ls s.heap [] (by omega) rfl hl hP hD hS
abbrev rm_Mo_blocks : Room := { frames := 0, cells := 0, slots := 0, locals := 0 }
set_option maxHeartbeats 4000000 in
set_option maxRecDepth 100000 in
theorem c_Mo_blocks (l : Launch) (D : va_G) (cI cZ cJ : ClassId) (sz : Nat) (a : Nat → Nat) (cd : Nat) (P : xPg) (M : xMem) (R : xRn) (b : Bool) (B : Nat) (hm : mOk B M) : xCi l D (xT cI cZ cJ) y_Mo_blocks k_Mo_blocks rm_Mo_blocks sz (wMo cI a cd P M R) [.ref (a 0), .int (zI b)] (nI (xc (mQb M b) 64)) (wMo cI a cd P M R) 0 0 := by
  refine x_ofi (cc := b_Mo_blocks) (nL := 4) (ret := (some .int)) (by decide) rfl (Nat.le_of_ble_eq_true rfl) ?_
  intro p e s m args below meth c ls A Q hQ hM hsz hP hK hD hA hl
  obtain ⟨hx, hb, -, hml, hown, hts, -⟩ := id hM
  have hS : va_S A s.heap s.heap [] := va_S.rf
  have hl : lv_has ls 4 [(0, .ref (a 0)), (1, .int (zI b))] := hl
  have hP : va_P D vwCl [(a 0, .inr (5, [.int (nI cd), .int (nI (pN P)), .ref (a 1), .ref (a 2), .ref (a 3), .ref (a 4), .ref (a 5), .ref (a 6), .ref (a 7), .ref (a 8), .ref (a 9), .int (nI (mQn M)), .ref (a 10), .int (nI (rSt R)), .int (zI (rCk R)), .int (nI (rAt R)), .int (nI (rLd R)), .ref (a 11), .int (nI (rPn R)), .ref (a 12), .int (nI (rKd R)), .int (rWh R), .int (nI (rWo R))])), (a 1, .inl (cI, 40, .inl (fun zz => nI ((pO P) zz)))), (a 2, .inl (cI, 40, .inl (fun zz => nI ((pR P) zz)))), (a 3, .inl (cI, 40, .inl (fun zz => nI ((pA P) zz)))), (a 4, .inl (cI, 40, .inl (fun zz => nI ((pB P) zz)))), (a 5, .inl (cI, 40, .inl (pK P))), (a 6, .inl (cI, 512, .inl (mHp M))), (a 7, .inl (cI, 64, .inl (mSh M))), (a 8, .inl (cI, 64, .inl (fun zz => nI ((mOw M) zz)))), (a 9, .inl (cI, 64, .inl (fun zz => nI ((mSz M) zz)))), (a 10, .inl (cI, 32, .inl (fun zz => nI ((mQf M) zz)))), (a 11, .inl (cI, 8, .inl (rRg R))), (a 12, .inl (cI, 60, .inl (rPr R)))] s.heap := hP
  have hD : va_D A [(a 0, .inr (5, [.int (nI cd), .int (nI (pN P)), .ref (a 1), .ref (a 2), .ref (a 3), .ref (a 4), .ref (a 5), .ref (a 6), .ref (a 7), .ref (a 8), .ref (a 9), .int (nI (mQn M)), .ref (a 10), .int (nI (rSt R)), .int (zI (rCk R)), .int (nI (rAt R)), .int (nI (rLd R)), .ref (a 11), .int (nI (rPn R)), .ref (a 12), .int (nI (rKd R)), .int (rWh R), .int (nI (rWo R))])), (a 1, .inl (cI, 40, .inl (fun zz => nI ((pO P) zz)))), (a 2, .inl (cI, 40, .inl (fun zz => nI ((pR P) zz)))), (a 3, .inl (cI, 40, .inl (fun zz => nI ((pA P) zz)))), (a 4, .inl (cI, 40, .inl (fun zz => nI ((pB P) zz)))), (a 5, .inl (cI, 40, .inl (pK P))), (a 6, .inl (cI, 512, .inl (mHp M))), (a 7, .inl (cI, 64, .inl (mSh M))), (a 8, .inl (cI, 64, .inl (fun zz => nI ((mOw M) zz)))), (a 9, .inl (cI, 64, .inl (fun zz => nI ((mSz M) zz)))), (a 10, .inl (cI, 32, .inl (fun zz => nI ((mQf M) zz)))), (a 11, .inl (cI, 8, .inl (rRg R))), (a 12, .inl (cI, 60, .inl (rPr R)))] := hD
  refine lv_iconst (v := nI 0) hx hb d_Mo_blocks_0 (by decide) ?_
  refine lv_istore_n hx hb d_Mo_blocks_1 rfl hl (by decide) rfl (fun ls hl => ?_)
  have hl : lv_has ls 4 [(2, .int (nI 0)), (0, .ref (a 0)), (1, .int (zI b))] := hl
  refine lv_iconst (v := nI 0) hx hb d_Mo_blocks_2 (by decide) ?_
  refine lv_istore_n hx hb d_Mo_blocks_3 rfl hl (by decide) rfl (fun ls hl => ?_)
  have hl : lv_has ls 4 [(3, .int (nI 0)), (2, .int (nI 0)), (0, .ref (a 0)), (1, .int (zI b))] := hl
  have loop4 : ∀ (K4 : Nat) (j : Nat) (ls : Array Slot) (H : Heap) (locs : List Loc), (j ≤ 64) → 64 - j = K4 → lv_has ls 4 [(3, .int (nI j)), (2, .int (nI (xc (mQb M b) j))), (0, .ref (a 0)), (1, .int (zI b))] → va_P D vwCl [(a 0, .inr (5, [.int (nI cd), .int (nI (pN P)), .ref (a 1), .ref (a 2), .ref (a 3), .ref (a 4), .ref (a 5), .ref (a 6), .ref (a 7), .ref (a 8), .ref (a 9), .int (nI (mQn M)), .ref (a 10), .int (nI (rSt R)), .int (zI (rCk R)), .int (nI (rAt R)), .int (nI (rLd R)), .ref (a 11), .int (nI (rPn R)), .ref (a 12), .int (nI (rKd R)), .int (rWh R), .int (nI (rWo R))])), (a 1, .inl (cI, 40, .inl (fun zz => nI ((pO P) zz)))), (a 2, .inl (cI, 40, .inl (fun zz => nI ((pR P) zz)))), (a 3, .inl (cI, 40, .inl (fun zz => nI ((pA P) zz)))), (a 4, .inl (cI, 40, .inl (fun zz => nI ((pB P) zz)))), (a 5, .inl (cI, 40, .inl (pK P))), (a 6, .inl (cI, 512, .inl (mHp M))), (a 7, .inl (cI, 64, .inl (mSh M))), (a 8, .inl (cI, 64, .inl (fun zz => nI ((mOw M) zz)))), (a 9, .inl (cI, 64, .inl (fun zz => nI ((mSz M) zz)))), (a 10, .inl (cI, 32, .inl (fun zz => nI ((mQf M) zz)))), (a 11, .inl (cI, 8, .inl (rRg R))), (a 12, .inl (cI, 60, .inl (rPr R)))] H → va_D A [(a 0, .inr (5, [.int (nI cd), .int (nI (pN P)), .ref (a 1), .ref (a 2), .ref (a 3), .ref (a 4), .ref (a 5), .ref (a 6), .ref (a 7), .ref (a 8), .ref (a 9), .int (nI (mQn M)), .ref (a 10), .int (nI (rSt R)), .int (zI (rCk R)), .int (nI (rAt R)), .int (nI (rLd R)), .ref (a 11), .int (nI (rPn R)), .ref (a 12), .int (nI (rKd R)), .int (rWh R), .int (nI (rWo R))])), (a 1, .inl (cI, 40, .inl (fun zz => nI ((pO P) zz)))), (a 2, .inl (cI, 40, .inl (fun zz => nI ((pR P) zz)))), (a 3, .inl (cI, 40, .inl (fun zz => nI ((pA P) zz)))), (a 4, .inl (cI, 40, .inl (fun zz => nI ((pB P) zz)))), (a 5, .inl (cI, 40, .inl (pK P))), (a 6, .inl (cI, 512, .inl (mHp M))), (a 7, .inl (cI, 64, .inl (mSh M))), (a 8, .inl (cI, 64, .inl (fun zz => nI ((mOw M) zz)))), (a 9, .inl (cI, 64, .inl (fun zz => nI ((mSz M) zz)))), (a 10, .inl (cI, 32, .inl (fun zz => nI ((mQf M) zz)))), (a 11, .inl (cI, 8, .inl (rRg R))), (a 12, .inl (cI, 60, .inl (rPr R)))] → va_S A s.heap H locs → W p l e rm_Mo_blocks s m args below meth c H locs 0 0 Q (F0 m 4 ls []) := by
    intro K4
    induction K4 using Nat.strongRecOn with
    | _ K4 ih4 =>
      intro j ls H locs g1 hK4 hl hP hD hS
      refine lv_iload_n hx hb d_Mo_blocks_4 rfl (lv_at hl 0 rfl) ?_
      refine lv_bipush (v := nI 64) hx hb d_Mo_blocks_5 (by decide) ?_
      refine x_icmp_ge (tgt := 52) hM (by omega) (by omega) d_Mo_blocks_7 (by decide) (fun hc7 => ?_) (fun hc7 => ?_)
      · skip
        refine lv_iload_n hx hb d_Mo_blocks_52 rfl (lv_at hl 1 rfl) ?_
        exact x_iret hM hQ (by rw [show j = 64 by omega]) rfl hP hK hD hS d_Mo_blocks_53
      · skip
        have hz := mOk_sz hm j
        have hw0 := mOk_ow hm (k := j) (by omega)
        refine lv_iload_n hx hb d_Mo_blocks_10 rfl (lv_at hl 1 rfl) ?_
        refine lv_aload_n hx hb d_Mo_blocks_11 rfl (lv_at hl 2 rfl) ?_
        refine x_get hM hK hP 0 5 10 i_Mo rfl rfl (by decide) q_fl_Mo_34 rfl d_Mo_blocks_12 ?_
        refine lv_iload_n hx hb d_Mo_blocks_15 rfl (lv_at hl 0 rfl) ?_
        refine x_iald hM hK hP 9 0 rfl rfl (by omega) (by decide) d_Mo_blocks_16 ?_
        refine x_if_le (tgt := 43) hM (by omega) d_Mo_blocks_17 (by decide) (fun hc17 => ?_) (fun hc17 => ?_)
        · skip
          refine lv_iconst (v := nI 0) hx hb d_Mo_blocks_43 (by decide) ?_
          refine x_iadd hM d_Mo_blocks_44 ?_
          have e45 : (xc (mQb M b) j) + 0 = xc (mQb M b) (j + 1) := by rw [xc]; simp [mQb, hc17]
          refine W.eq (g2 := F0 m 45 ls [.int (nI (xc (mQb M b) (j + 1)))]) (by rw [e45]) ?_
          refine lv_istore_n hx hb d_Mo_blocks_45 rfl hl (by decide) rfl (fun ls hl => ?_)
          have hl : lv_has ls 4 [(2, .int (nI (xc (mQb M b) (j + 1)))), (3, .int (nI j)), (0, .ref (a 0)), (1, .int (zI b))] := hl
          refine lv_iinc (k := 1) (v := nI (j + 1)) hx hb d_Mo_blocks_46 hl rfl (by rw [show Int32.ofInt 1 = nI 1 by decide, nI_add]) (by decide) rfl (fun ls hl => ?_)
          have hl : lv_has ls 4 [(3, .int (nI (j + 1))), (2, .int (nI (xc (mQb M b) (j + 1)))), (0, .ref (a 0)), (1, .int (zI b))] := hl
          refine lv_goto hx hb d_Mo_blocks_49 (tgt := 4) (by decide) ?_
          exact ih4 _ (by omega) (j + 1) ls H locs (by omega) rfl hl hP hD hS
        · skip
          refine lv_aload_n hx hb d_Mo_blocks_20 rfl (lv_at hl 2 rfl) ?_
          refine x_get hM hK hP 0 5 9 i_Mo rfl rfl (by decide) q_fl_Mo_31 rfl d_Mo_blocks_21 ?_
          refine lv_iload_n hx hb d_Mo_blocks_24 rfl (lv_at hl 0 rfl) ?_
          refine x_iald hM hK hP 8 0 rfl rfl (by omega) (by decide) d_Mo_blocks_25 ?_
          refine lv_iconst (v := nI 2) hx hb d_Mo_blocks_26 (by decide) ?_
          refine x_icmp_ne (tgt := 34) hM (by omega) (by omega) d_Mo_blocks_27 (by decide) (fun hc27 => ?_) (fun hc27 => ?_)
          · skip
            refine lv_iconst (v := nI 0) hx hb d_Mo_blocks_34 (by decide) ?_
            refine lv_iload_n hx hb d_Mo_blocks_35 rfl (lv_at hl 3 rfl) ?_
            refine lv_icmp_ne (tgt := 43) hx hb d_Mo_blocks_36 (by decide) (fun hc36 => ?_) (fun hc36 => ?_)
            · skip
              refine lv_iconst (v := nI 0) hx hb d_Mo_blocks_43 (by decide) ?_
              refine x_iadd hM d_Mo_blocks_44 ?_
              have hbb : b = true := zI_0n hc36
              have e45 : (xc (mQb M b) j) + 0 = xc (mQb M b) (j + 1) := by rw [xc, hbb]; simp [mQb, hc17, hc27]
              refine W.eq (g2 := F0 m 45 ls [.int (nI (xc (mQb M b) (j + 1)))]) (by rw [e45]) ?_
              refine lv_istore_n hx hb d_Mo_blocks_45 rfl hl (by decide) rfl (fun ls hl => ?_)
              have hl : lv_has ls 4 [(2, .int (nI (xc (mQb M b) (j + 1)))), (3, .int (nI j)), (0, .ref (a 0)), (1, .int (zI b))] := hl
              refine lv_iinc (k := 1) (v := nI (j + 1)) hx hb d_Mo_blocks_46 hl rfl (by rw [show Int32.ofInt 1 = nI 1 by decide, nI_add]) (by decide) rfl (fun ls hl => ?_)
              have hl : lv_has ls 4 [(3, .int (nI (j + 1))), (2, .int (nI (xc (mQb M b) (j + 1)))), (0, .ref (a 0)), (1, .int (zI b))] := hl
              refine lv_goto hx hb d_Mo_blocks_49 (tgt := 4) (by decide) ?_
              exact ih4 _ (by omega) (j + 1) ls H locs (by omega) rfl hl hP hD hS
            · skip
              refine lv_iconst (v := nI 1) hx hb d_Mo_blocks_39 (by decide) ?_
              refine lv_goto hx hb d_Mo_blocks_40 (tgt := 44) (by decide) ?_
              refine x_iadd hM d_Mo_blocks_44 ?_
              have hbb : b = false := zI_0 hc36
              have e45 : (xc (mQb M b) j) + 1 = xc (mQb M b) (j + 1) := by rw [xc, hbb]; simp [mQb, hc17, hc27]
              refine W.eq (g2 := F0 m 45 ls [.int (nI (xc (mQb M b) (j + 1)))]) (by rw [e45]) ?_
              refine lv_istore_n hx hb d_Mo_blocks_45 rfl hl (by decide) rfl (fun ls hl => ?_)
              have hl : lv_has ls 4 [(2, .int (nI (xc (mQb M b) (j + 1)))), (3, .int (nI j)), (0, .ref (a 0)), (1, .int (zI b))] := hl
              refine lv_iinc (k := 1) (v := nI (j + 1)) hx hb d_Mo_blocks_46 hl rfl (by rw [show Int32.ofInt 1 = nI 1 by decide, nI_add]) (by decide) rfl (fun ls hl => ?_)
              have hl : lv_has ls 4 [(3, .int (nI (j + 1))), (2, .int (nI (xc (mQb M b) (j + 1)))), (0, .ref (a 0)), (1, .int (zI b))] := hl
              refine lv_goto hx hb d_Mo_blocks_49 (tgt := 4) (by decide) ?_
              exact ih4 _ (by omega) (j + 1) ls H locs (by omega) rfl hl hP hD hS
          · skip
            refine lv_iconst (v := nI 1) hx hb d_Mo_blocks_30 (by decide) ?_
            refine lv_goto hx hb d_Mo_blocks_31 (tgt := 35) (by decide) ?_
            refine lv_iload_n hx hb d_Mo_blocks_35 rfl (lv_at hl 3 rfl) ?_
            refine lv_icmp_ne (tgt := 43) hx hb d_Mo_blocks_36 (by decide) (fun hc36 => ?_) (fun hc36 => ?_)
            · skip
              refine lv_iconst (v := nI 0) hx hb d_Mo_blocks_43 (by decide) ?_
              refine x_iadd hM d_Mo_blocks_44 ?_
              have hbb : b = false := zI_1n hc36
              have e45 : (xc (mQb M b) j) + 0 = xc (mQb M b) (j + 1) := by rw [xc, hbb]; simp [mQb, hc17, hc27]
              refine W.eq (g2 := F0 m 45 ls [.int (nI (xc (mQb M b) (j + 1)))]) (by rw [e45]) ?_
              refine lv_istore_n hx hb d_Mo_blocks_45 rfl hl (by decide) rfl (fun ls hl => ?_)
              have hl : lv_has ls 4 [(2, .int (nI (xc (mQb M b) (j + 1)))), (3, .int (nI j)), (0, .ref (a 0)), (1, .int (zI b))] := hl
              refine lv_iinc (k := 1) (v := nI (j + 1)) hx hb d_Mo_blocks_46 hl rfl (by rw [show Int32.ofInt 1 = nI 1 by decide, nI_add]) (by decide) rfl (fun ls hl => ?_)
              have hl : lv_has ls 4 [(3, .int (nI (j + 1))), (2, .int (nI (xc (mQb M b) (j + 1)))), (0, .ref (a 0)), (1, .int (zI b))] := hl
              refine lv_goto hx hb d_Mo_blocks_49 (tgt := 4) (by decide) ?_
              exact ih4 _ (by omega) (j + 1) ls H locs (by omega) rfl hl hP hD hS
            · skip
              refine lv_iconst (v := nI 1) hx hb d_Mo_blocks_39 (by decide) ?_
              refine lv_goto hx hb d_Mo_blocks_40 (tgt := 44) (by decide) ?_
              refine x_iadd hM d_Mo_blocks_44 ?_
              have hbb : b = true := zI_1 hc36
              have e45 : (xc (mQb M b) j) + 1 = xc (mQb M b) (j + 1) := by rw [xc, hbb]; simp [mQb, hc17, hc27]
              refine W.eq (g2 := F0 m 45 ls [.int (nI (xc (mQb M b) (j + 1)))]) (by rw [e45]) ?_
              refine lv_istore_n hx hb d_Mo_blocks_45 rfl hl (by decide) rfl (fun ls hl => ?_)
              have hl : lv_has ls 4 [(2, .int (nI (xc (mQb M b) (j + 1)))), (3, .int (nI j)), (0, .ref (a 0)), (1, .int (zI b))] := hl
              refine lv_iinc (k := 1) (v := nI (j + 1)) hx hb d_Mo_blocks_46 hl rfl (by rw [show Int32.ofInt 1 = nI 1 by decide, nI_add]) (by decide) rfl (fun ls hl => ?_)
              have hl : lv_has ls 4 [(3, .int (nI (j + 1))), (2, .int (nI (xc (mQb M b) (j + 1)))), (0, .ref (a 0)), (1, .int (zI b))] := hl
              refine lv_goto hx hb d_Mo_blocks_49 (tgt := 4) (by decide) ?_
              exact ih4 _ (by omega) (j + 1) ls H locs (by omega) rfl hl hP hD hS
  exact loop4 _ 0 ls s.heap [] (by omega) rfl hl hP hD hS
end
