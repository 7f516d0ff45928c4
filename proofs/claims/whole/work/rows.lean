section
-- ===== PART A: goes FIRST, ahead of the names: the tables' words, and 'selects' of the private methods out of them =====
/-- a private method of a class that the tables say can be made, by its rows of tables_1 -/
def lw_okq (q : MethodName × Nat) : Prop := (q.1.cls ≠ "java/lang/invoke/MethodHandle" ∧ q.1.cls ≠ "java/lang/invoke/VarHandle") ∧ Cond.instantiable q.1.cls q.2 ∈ tables_1 ∧ Cond.privateMethod q.1 ∈ tables_1 ∧ Cond.instanceMethod q.1 ∈ tables_1
theorem lw_p0 : lw_okq (⟨"java/lang/Throwable", "fillInStackTrace", "(I)Ljava/lang/Throwable;"⟩, 6) := ⟨⟨by decide +kernel, by decide +kernel⟩, List.mem_of_getElem? (i := 238) (by decide +kernel), List.mem_of_getElem? (i := 236) (by decide +kernel), List.mem_of_getElem? (i := 237) (by decide +kernel)⟩
theorem lw_p1 : lw_okq (⟨"ShadowHeap", "refuseGoingOutside", "()V"⟩, 3) := ⟨⟨by decide +kernel, by decide +kernel⟩, List.mem_of_getElem? (i := 14) (by decide +kernel), List.mem_of_getElem? (i := 313) (by decide +kernel), List.mem_of_getElem? (i := 314) (by decide +kernel)⟩
theorem lw_p2 : lw_okq (⟨"ShadowHeap$Run", "addressOf", "(I)I"⟩, 10) := ⟨⟨by decide +kernel, by decide +kernel⟩, List.mem_of_getElem? (i := 124) (by decide +kernel), List.mem_of_getElem? (i := 379) (by decide +kernel), List.mem_of_getElem? (i := 380) (by decide +kernel)⟩
theorem lw_p3 : lw_okq (⟨"ShadowHeap$Run", "aOf", "(I)I"⟩, 10) := ⟨⟨by decide +kernel, by decide +kernel⟩, List.mem_of_getElem? (i := 124) (by decide +kernel), List.mem_of_getElem? (i := 383) (by decide +kernel), List.mem_of_getElem? (i := 384) (by decide +kernel)⟩
theorem lw_p4 : lw_okq (⟨"ShadowHeap$Run", "checkBytes", "(II)V"⟩, 10) := ⟨⟨by decide +kernel, by decide +kernel⟩, List.mem_of_getElem? (i := 124) (by decide +kernel), List.mem_of_getElem? (i := 391) (by decide +kernel), List.mem_of_getElem? (i := 392) (by decide +kernel)⟩
theorem lw_p5 : lw_okq (⟨"ShadowHeap$Run", "endWithReport", "(II)V"⟩, 10) := ⟨⟨by decide +kernel, by decide +kernel⟩, List.mem_of_getElem? (i := 124) (by decide +kernel), List.mem_of_getElem? (i := 402) (by decide +kernel), List.mem_of_getElem? (i := 403) (by decide +kernel)⟩
theorem lw_p6 : lw_okq (⟨"ShadowHeap$Run", "checkFree", "(I)V"⟩, 10) := ⟨⟨by decide +kernel, by decide +kernel⟩, List.mem_of_getElem? (i := 124) (by decide +kernel), List.mem_of_getElem? (i := 406) (by decide +kernel), List.mem_of_getElem? (i := 407) (by decide +kernel)⟩
theorem lw_p7 : lw_okq (⟨"ShadowHeap$Run", "goesOn", "(II)Z"⟩, 10) := ⟨⟨by decide +kernel, by decide +kernel⟩, List.mem_of_getElem? (i := 124) (by decide +kernel), List.mem_of_getElem? (i := 414) (by decide +kernel), List.mem_of_getElem? (i := 415) (by decide +kernel)⟩
theorem lw_p8 : lw_okq (⟨"ShadowHeap$Run", "bOf", "(I)I"⟩, 10) := ⟨⟨by decide +kernel, by decide +kernel⟩, List.mem_of_getElem? (i := 124) (by decide +kernel), List.mem_of_getElem? (i := 418) (by decide +kernel), List.mem_of_getElem? (i := 419) (by decide +kernel)⟩
theorem lw_p9 : lw_okq (⟨"ShadowHeap$Run", "useHeap", "(II)V"⟩, 10) := ⟨⟨by decide +kernel, by decide +kernel⟩, List.mem_of_getElem? (i := 124) (by decide +kernel), List.mem_of_getElem? (i := 423) (by decide +kernel), List.mem_of_getElem? (i := 424) (by decide +kernel)⟩
theorem lw_p10 : lw_okq (⟨"ShadowHeap$Memory", "lowestGap", "(I)I"⟩, 8) := ⟨⟨by decide +kernel, by decide +kernel⟩, List.mem_of_getElem? (i := 84) (by decide +kernel), List.mem_of_getElem? (i := 431) (by decide +kernel), List.mem_of_getElem? (i := 432) (by decide +kernel)⟩
theorem lw_p11 : lw_okq (⟨"ShadowHeap$Memory", "releaseOldest", "()V"⟩, 8) := ⟨⟨by decide +kernel, by decide +kernel⟩, List.mem_of_getElem? (i := 84) (by decide +kernel), List.mem_of_getElem? (i := 435) (by decide +kernel), List.mem_of_getElem? (i := 436) (by decide +kernel)⟩
theorem lw_p12 : lw_okq (⟨"ShadowHeap$Memory", "paint", "(III)V"⟩, 8) := ⟨⟨by decide +kernel, by decide +kernel⟩, List.mem_of_getElem? (i := 84) (by decide +kernel), List.mem_of_getElem? (i := 439) (by decide +kernel), List.mem_of_getElem? (i := 440) (by decide +kernel)⟩
theorem lw_p13 : lw_okq (⟨"ShadowHeap$Memory", "placeBlock", "(III)V"⟩, 8) := ⟨⟨by decide +kernel, by decide +kernel⟩, List.mem_of_getElem? (i := 84) (by decide +kernel), List.mem_of_getElem? (i := 443) (by decide +kernel), List.mem_of_getElem? (i := 444) (by decide +kernel)⟩
theorem lw_p14 : lw_okq (⟨"ShadowHeap$Run", "freeOrCrash", "(I)V"⟩, 10) := ⟨⟨by decide +kernel, by decide +kernel⟩, List.mem_of_getElem? (i := 124) (by decide +kernel), List.mem_of_getElem? (i := 447) (by decide +kernel), List.mem_of_getElem? (i := 448) (by decide +kernel)⟩
theorem lw_p15 : lw_okq (⟨"ShadowHeap$Run", "touchOrCrash", "(II)V"⟩, 10) := ⟨⟨by decide +kernel, by decide +kernel⟩, List.mem_of_getElem? (i := 124) (by decide +kernel), List.mem_of_getElem? (i := 455) (by decide +kernel), List.mem_of_getElem? (i := 456) (by decide +kernel)⟩
def lw_privs_1 : List (MethodName × Nat) := [(⟨"java/lang/Throwable", "fillInStackTrace", "(I)Ljava/lang/Throwable;"⟩, 6), (⟨"ShadowHeap", "refuseGoingOutside", "()V"⟩, 3), (⟨"ShadowHeap$Run", "addressOf", "(I)I"⟩, 10), (⟨"ShadowHeap$Run", "aOf", "(I)I"⟩, 10), (⟨"ShadowHeap$Run", "checkBytes", "(II)V"⟩, 10), (⟨"ShadowHeap$Run", "endWithReport", "(II)V"⟩, 10), (⟨"ShadowHeap$Run", "checkFree", "(I)V"⟩, 10), (⟨"ShadowHeap$Run", "goesOn", "(II)Z"⟩, 10), (⟨"ShadowHeap$Run", "bOf", "(I)I"⟩, 10), (⟨"ShadowHeap$Run", "useHeap", "(II)V"⟩, 10), (⟨"ShadowHeap$Memory", "lowestGap", "(I)I"⟩, 8), (⟨"ShadowHeap$Memory", "releaseOldest", "()V"⟩, 8), (⟨"ShadowHeap$Memory", "paint", "(III)V"⟩, 8), (⟨"ShadowHeap$Memory", "placeBlock", "(III)V"⟩, 8), (⟨"ShadowHeap$Run", "freeOrCrash", "(I)V"⟩, 10), (⟨"ShadowHeap$Run", "touchOrCrash", "(II)V"⟩, 10)]
theorem lw_r1 : ∀ q ∈ lw_privs_1, lw_okq q := List.forall_mem_cons.mpr ⟨lw_p0, List.forall_mem_cons.mpr ⟨lw_p1, List.forall_mem_cons.mpr ⟨lw_p2, List.forall_mem_cons.mpr ⟨lw_p3, List.forall_mem_cons.mpr ⟨lw_p4, List.forall_mem_cons.mpr ⟨lw_p5, List.forall_mem_cons.mpr ⟨lw_p6, List.forall_mem_cons.mpr ⟨lw_p7, List.forall_mem_cons.mpr ⟨lw_p8, List.forall_mem_cons.mpr ⟨lw_p9, List.forall_mem_cons.mpr ⟨lw_p10, List.forall_mem_cons.mpr ⟨lw_p11, List.forall_mem_cons.mpr ⟨lw_p12, List.forall_mem_cons.mpr ⟨lw_p13, List.forall_mem_cons.mpr ⟨lw_p14, List.forall_mem_cons.mpr ⟨lw_p15, fun _ h => absurd h List.not_mem_nil⟩⟩⟩⟩⟩⟩⟩⟩⟩⟩⟩⟩⟩⟩⟩⟩
theorem lw_p16 : lw_okq (⟨"ShadowHeap$Run", "print", "(I)V"⟩, 10) := ⟨⟨by decide +kernel, by decide +kernel⟩, List.mem_of_getElem? (i := 124) (by decide +kernel), List.mem_of_getElem? (i := 468) (by decide +kernel), List.mem_of_getElem? (i := 469) (by decide +kernel)⟩
theorem lw_p17 : lw_okq (⟨"ShadowHeap$Run", "computed", "(II)I"⟩, 10) := ⟨⟨by decide +kernel, by decide +kernel⟩, List.mem_of_getElem? (i := 124) (by decide +kernel), List.mem_of_getElem? (i := 472) (by decide +kernel), List.mem_of_getElem? (i := 473) (by decide +kernel)⟩
theorem lw_p18 : lw_okq (⟨"ShadowHeap$Run", "goOnAt", "(I)V"⟩, 10) := ⟨⟨by decide +kernel, by decide +kernel⟩, List.mem_of_getElem? (i := 124) (by decide +kernel), List.mem_of_getElem? (i := 476) (by decide +kernel), List.mem_of_getElem? (i := 477) (by decide +kernel)⟩
theorem lw_p19 : lw_okq (⟨"ShadowHeapModel", "empty", "()V"⟩, 23) := ⟨⟨by decide +kernel, by decide +kernel⟩, List.mem_of_getElem? (i := 528) (by decide +kernel), List.mem_of_getElem? (i := 534) (by decide +kernel), List.mem_of_getElem? (i := 535) (by decide +kernel)⟩
theorem lw_p20 : lw_okq (⟨"ShadowHeapModel", "refuse", "(I)I"⟩, 23) := ⟨⟨by decide +kernel, by decide +kernel⟩, List.mem_of_getElem? (i := 528) (by decide +kernel), List.mem_of_getElem? (i := 619) (by decide +kernel), List.mem_of_getElem? (i := 620) (by decide +kernel)⟩
theorem lw_p21 : lw_okq (⟨"ShadowHeapModel", "isSound", "()Z"⟩, 23) := ⟨⟨by decide +kernel, by decide +kernel⟩, List.mem_of_getElem? (i := 528) (by decide +kernel), List.mem_of_getElem? (i := 631) (by decide +kernel), List.mem_of_getElem? (i := 632) (by decide +kernel)⟩
theorem lw_p22 : lw_okq (⟨"ShadowHeapModel", "place", "(I)I"⟩, 23) := ⟨⟨by decide +kernel, by decide +kernel⟩, List.mem_of_getElem? (i := 528) (by decide +kernel), List.mem_of_getElem? (i := 635) (by decide +kernel), List.mem_of_getElem? (i := 636) (by decide +kernel)⟩
theorem lw_p23 : lw_okq (⟨"ShadowHeapModel", "isChecked", "(I)Z"⟩, 23) := ⟨⟨by decide +kernel, by decide +kernel⟩, List.mem_of_getElem? (i := 528) (by decide +kernel), List.mem_of_getElem? (i := 639) (by decide +kernel), List.mem_of_getElem? (i := 640) (by decide +kernel)⟩
theorem lw_p24 : lw_okq (⟨"ShadowHeapModel", "instructionAt", "(I)I"⟩, 23) := ⟨⟨by decide +kernel, by decide +kernel⟩, List.mem_of_getElem? (i := 528) (by decide +kernel), List.mem_of_getElem? (i := 647) (by decide +kernel), List.mem_of_getElem? (i := 648) (by decide +kernel)⟩
theorem lw_p25 : lw_okq (⟨"ShadowHeapModel", "isCheck", "(I)Z"⟩, 23) := ⟨⟨by decide +kernel, by decide +kernel⟩, List.mem_of_getElem? (i := 528) (by decide +kernel), List.mem_of_getElem? (i := 651) (by decide +kernel), List.mem_of_getElem? (i := 652) (by decide +kernel)⟩
theorem lw_p26 : lw_okq (⟨"ShadowHeapModel", "one", "()V"⟩, 23) := ⟨⟨by decide +kernel, by decide +kernel⟩, List.mem_of_getElem? (i := 528) (by decide +kernel), List.mem_of_getElem? (i := 663) (by decide +kernel), List.mem_of_getElem? (i := 664) (by decide +kernel)⟩
theorem lw_p27 : lw_okq (⟨"ShadowHeapModel", "check", "(I)V"⟩, 23) := ⟨⟨by decide +kernel, by decide +kernel⟩, List.mem_of_getElem? (i := 528) (by decide +kernel), List.mem_of_getElem? (i := 667) (by decide +kernel), List.mem_of_getElem? (i := 668) (by decide +kernel)⟩
theorem lw_p28 : lw_okq (⟨"ShadowHeapModel", "isBlock", "(I)Z"⟩, 23) := ⟨⟨by decide +kernel, by decide +kernel⟩, List.mem_of_getElem? (i := 528) (by decide +kernel), List.mem_of_getElem? (i := 671) (by decide +kernel), List.mem_of_getElem? (i := 672) (by decide +kernel)⟩
theorem lw_p29 : lw_okq (⟨"ShadowHeapModel", "tell", "(III)V"⟩, 23) := ⟨⟨by decide +kernel, by decide +kernel⟩, List.mem_of_getElem? (i := 528) (by decide +kernel), List.mem_of_getElem? (i := 675) (by decide +kernel), List.mem_of_getElem? (i := 676) (by decide +kernel)⟩
theorem lw_p30 : lw_okq (⟨"ShadowHeapModel", "wrongByte", "(I)I"⟩, 23) := ⟨⟨by decide +kernel, by decide +kernel⟩, List.mem_of_getElem? (i := 528) (by decide +kernel), List.mem_of_getElem? (i := 679) (by decide +kernel), List.mem_of_getElem? (i := 680) (by decide +kernel)⟩
theorem lw_p31 : lw_okq (⟨"ShadowHeapModel", "perform", "(I)I"⟩, 23) := ⟨⟨by decide +kernel, by decide +kernel⟩, List.mem_of_getElem? (i := 528) (by decide +kernel), List.mem_of_getElem? (i := 686) (by decide +kernel), List.mem_of_getElem? (i := 687) (by decide +kernel)⟩
def lw_privs_2 : List (MethodName × Nat) := [(⟨"ShadowHeap$Run", "print", "(I)V"⟩, 10), (⟨"ShadowHeap$Run", "computed", "(II)I"⟩, 10), (⟨"ShadowHeap$Run", "goOnAt", "(I)V"⟩, 10), (⟨"ShadowHeapModel", "empty", "()V"⟩, 23), (⟨"ShadowHeapModel", "refuse", "(I)I"⟩, 23), (⟨"ShadowHeapModel", "isSound", "()Z"⟩, 23), (⟨"ShadowHeapModel", "place", "(I)I"⟩, 23), (⟨"ShadowHeapModel", "isChecked", "(I)Z"⟩, 23), (⟨"ShadowHeapModel", "instructionAt", "(I)I"⟩, 23), (⟨"ShadowHeapModel", "isCheck", "(I)Z"⟩, 23), (⟨"ShadowHeapModel", "one", "()V"⟩, 23), (⟨"ShadowHeapModel", "check", "(I)V"⟩, 23), (⟨"ShadowHeapModel", "isBlock", "(I)Z"⟩, 23), (⟨"ShadowHeapModel", "tell", "(III)V"⟩, 23), (⟨"ShadowHeapModel", "wrongByte", "(I)I"⟩, 23), (⟨"ShadowHeapModel", "perform", "(I)I"⟩, 23)]
theorem lw_r2 : ∀ q ∈ lw_privs_2, lw_okq q := List.forall_mem_cons.mpr ⟨lw_p16, List.forall_mem_cons.mpr ⟨lw_p17, List.forall_mem_cons.mpr ⟨lw_p18, List.forall_mem_cons.mpr ⟨lw_p19, List.forall_mem_cons.mpr ⟨lw_p20, List.forall_mem_cons.mpr ⟨lw_p21, List.forall_mem_cons.mpr ⟨lw_p22, List.forall_mem_cons.mpr ⟨lw_p23, List.forall_mem_cons.mpr ⟨lw_p24, List.forall_mem_cons.mpr ⟨lw_p25, List.forall_mem_cons.mpr ⟨lw_p26, List.forall_mem_cons.mpr ⟨lw_p27, List.forall_mem_cons.mpr ⟨lw_p28, List.forall_mem_cons.mpr ⟨lw_p29, List.forall_mem_cons.mpr ⟨lw_p30, List.forall_mem_cons.mpr ⟨lw_p31, fun _ h => absurd h List.not_mem_nil⟩⟩⟩⟩⟩⟩⟩⟩⟩⟩⟩⟩⟩⟩⟩⟩
theorem lw_p32 : lw_okq (⟨"ShadowHeapModel", "allocate", "(I)I"⟩, 23) := ⟨⟨by decide +kernel, by decide +kernel⟩, List.mem_of_getElem? (i := 528) (by decide +kernel), List.mem_of_getElem? (i := 690) (by decide +kernel), List.mem_of_getElem? (i := 691) (by decide +kernel)⟩
theorem lw_p33 : lw_okq (⟨"ShadowHeapModel", "gap", "(I)I"⟩, 23) := ⟨⟨by decide +kernel, by decide +kernel⟩, List.mem_of_getElem? (i := 528) (by decide +kernel), List.mem_of_getElem? (i := 694) (by decide +kernel), List.mem_of_getElem? (i := 695) (by decide +kernel)⟩
theorem lw_p34 : lw_okq (⟨"ShadowHeapModel", "release", "()V"⟩, 23) := ⟨⟨by decide +kernel, by decide +kernel⟩, List.mem_of_getElem? (i := 528) (by decide +kernel), List.mem_of_getElem? (i := 698) (by decide +kernel), List.mem_of_getElem? (i := 699) (by decide +kernel)⟩
theorem lw_p35 : lw_okq (⟨"ShadowHeapModel", "free", "(I)V"⟩, 23) := ⟨⟨by decide +kernel, by decide +kernel⟩, List.mem_of_getElem? (i := 528) (by decide +kernel), List.mem_of_getElem? (i := 702) (by decide +kernel), List.mem_of_getElem? (i := 703) (by decide +kernel)⟩
theorem lw_p36 : lw_okq (⟨"ShadowHeapModel", "quarantined", "()I"⟩, 23) := ⟨⟨by decide +kernel, by decide +kernel⟩, List.mem_of_getElem? (i := 528) (by decide +kernel), List.mem_of_getElem? (i := 706) (by decide +kernel), List.mem_of_getElem? (i := 707) (by decide +kernel)⟩
theorem lw_p37 : lw_okq (⟨"ShadowHeapModel", "touch", "(I)V"⟩, 23) := ⟨⟨by decide +kernel, by decide +kernel⟩, List.mem_of_getElem? (i := 528) (by decide +kernel), List.mem_of_getElem? (i := 710) (by decide +kernel), List.mem_of_getElem? (i := 711) (by decide +kernel)⟩
theorem lw_p38 : lw_okq (⟨"ShadowHeapModel", "load", "(I)I"⟩, 23) := ⟨⟨by decide +kernel, by decide +kernel⟩, List.mem_of_getElem? (i := 528) (by decide +kernel), List.mem_of_getElem? (i := 714) (by decide +kernel), List.mem_of_getElem? (i := 715) (by decide +kernel)⟩
theorem lw_p39 : lw_okq (⟨"ShadowHeapModel", "blocks", "(Z)I"⟩, 23) := ⟨⟨by decide +kernel, by decide +kernel⟩, List.mem_of_getElem? (i := 528) (by decide +kernel), List.mem_of_getElem? (i := 722) (by decide +kernel), List.mem_of_getElem? (i := 723) (by decide +kernel)⟩
def lw_privs_3 : List (MethodName × Nat) := [(⟨"ShadowHeapModel", "allocate", "(I)I"⟩, 23), (⟨"ShadowHeapModel", "gap", "(I)I"⟩, 23), (⟨"ShadowHeapModel", "release", "()V"⟩, 23), (⟨"ShadowHeapModel", "free", "(I)V"⟩, 23), (⟨"ShadowHeapModel", "quarantined", "()I"⟩, 23), (⟨"ShadowHeapModel", "touch", "(I)V"⟩, 23), (⟨"ShadowHeapModel", "load", "(I)I"⟩, 23), (⟨"ShadowHeapModel", "blocks", "(Z)I"⟩, 23)]
theorem lw_r3 : ∀ q ∈ lw_privs_3, lw_okq q := List.forall_mem_cons.mpr ⟨lw_p32, List.forall_mem_cons.mpr ⟨lw_p33, List.forall_mem_cons.mpr ⟨lw_p34, List.forall_mem_cons.mpr ⟨lw_p35, List.forall_mem_cons.mpr ⟨lw_p36, List.forall_mem_cons.mpr ⟨lw_p37, List.forall_mem_cons.mpr ⟨lw_p38, List.forall_mem_cons.mpr ⟨lw_p39, fun _ h => absurd h List.not_mem_nil⟩⟩⟩⟩⟩⟩⟩⟩
def lw_privs : List (MethodName × Nat) := lw_privs_1 ++ (lw_privs_2 ++ (lw_privs_3))
def lw_tbl : List Cond := k2_sels lw_privs ++ tables_1
theorem lw_privs_ok : ∀ q ∈ lw_privs, lw_okq q := by
  show ∀ q ∈ lw_privs_1 ++ (lw_privs_2 ++ (lw_privs_3)), lw_okq q
  exact List.forall_mem_append.mpr ⟨lw_r1, List.forall_mem_append.mpr ⟨lw_r2, lw_r3⟩⟩
/-! ===== BEGIN words of one list among another's, by their places ===== -/
theorem goodIn_r {big : List Cond} (ws : List Cond) (ps : List Nat) (hp : ws = ps.filterMap (fun i => big[i]?)) (h : ws.all goodWord = true) : GoodIn big ws := by
  intro w hw
  have h1 := List.all_eq_true.mp h w hw
  rw [hp] at hw
  obtain ⟨i, -, hi⟩ := List.mem_filterMap.mp hw
  have hm : w ∈ big := by first | exact List.mem_of_getElem? hi | exact List.getElem?_mem hi
  exact ⟨hm, good_of_word h1⟩
theorem goodIn_app {big a b : List Cond} (ha : GoodIn big a) (hb : GoodIn big b) : GoodIn big (a ++ b) := fun w h => (List.mem_append.mp h).elim (ha w) (hb w)
theorem goodIn_ca {big a b : List Cond} {c : Cond} (ha : GoodIn big (c :: a)) (hb : GoodIn big b) : GoodIn big (c :: (a ++ b)) := fun w h => (List.mem_cons.mp h).elim (fun e => ha w (List.mem_cons.mpr (Or.inl e))) (fun h => (List.mem_append.mp h).elim (fun h => ha w (List.mem_cons.mpr (Or.inr h))) (hb w))
theorem goodIn_sub {big ws : List Cond} (hm : ∀ w ∈ ws, w ∈ big) (h : ws.all goodWord = true) : GoodIn big ws := fun w hw => ⟨hm w hw, good_of_word (List.all_eq_true.mp h w hw)⟩
/-! ===== END ===== -/

/-! ===== BEGIN exceptions that leave a method, and their catching by the caller (launches without stack traces) ===== -/
section VXA
/-! The laws vx_back, vx_callV, vx_callS, vx_callSW, vx_throw0, vx_throwS follow proofs of the library, with one case more: JvmDerived/Free/Laws.lean (Back.of_free), Shelf42/LK1.lean (callV, callS), Shelf/KitTraced.lean (throwNew0V, throwNewS). -/
/-- where a method has thrown q: the class by its name, the cell, what was written, the world -/
def vx_T (XC : String → State → State → Prop) (st : State) (q : Addr) (t : State) (mc ms : Nat) (free : Addr → Prop) : Prop :=
  ∃ (E : String) (ce : Cell) (L : List Loc), XC E st t ∧ t.heap[q]? = some ce ∧ ce.vm = .none ∧ st.vm.findClass E = some ce.cls ∧ st.WarmedH t.vm ∧ st.sameButNew ({ t with vm := st.vm } : State) L mc ms ∧ ∀ z ∈ L, free z.base
def vx_Q (Qc : Array Value → State → Outcome → State → Prop) (XC : String → State → State → Prop) (mc ms : Nat) (free : Addr → Prop) : Array Value → State → Outcome → State → Prop := fun a st o t =>
  (Qc a st o t ∧ ∃ L, FrameEnd st o t L mc ms ∧ ∀ q ∈ L, free q.base) ∨ ∃ q, o = .threw q ∧ vx_T XC st q t mc ms free
/-- a callee that returns or throws -/
def vx_Met (l : Launch) (y : MethodName) (ws : List Cond) (rm : Room) (Pc : Array Value → State → Prop) (Qc : Array Value → State → Outcome → State → Prop) (XC : String → State → State → Prop) (mc ms : Nat) (free : Addr → Prop) : Prop :=
  MetFree l y (headSpec ws rm) Pc (fun _ _ _ _ _ => True) (vx_Q Qc XC mc ms free)
def vx_Post (XC : String → State → State → Prop) (mc ms : Nat) (free : Addr → Prop) : Pt → Array Value → Addr → Pt → Prop := fun A a q B =>
  ∃ (g : JFrame) (mk : MethodId) (t : State) (L : List Loc) (E : String) (ce : Cell), B.U.heap = t.heap ∧ B.U.vm = t.vm ∧ XC E (A.U.calling g mk a) t ∧ t.heap[q]? = some ce ∧ ce.vm = .none ∧ A.U.vm.findClass E = some ce.cls ∧ B.locs = A.locs ++ L ∧ (∀ z ∈ L, free z.base) ∧ B.cells = A.cells + mc ∧ B.slots = A.slots + ms
def vx_Back (l : Launch) (R : Room) (p : Program) (e : Env) (below : List Frame) (s : State) (sargs : Array Value) (y : MethodName) (len W9 : Nat)
    (Pre : Pt → Array Value → Prop) (Post : Pt → Array Value → Option Value → Pt → Prop) (PostX : Pt → Array Value → Addr → Pt → Prop) : Prop :=
  ∀ (m : MethodId) (meth : Method) (c : Code) (A : Pt) (g : JFrame) (ig : Instr) (mk : MethodId) (a : Array Value),
    Stand p l e R s m sargs below meth c A.U A.locs A.cells A.slots → g.method = m → g.locals.size = c.maxLocals → decode c.code g.pc = .ok (ig, len) →
    2 * g.monitorRoom + (g.stack.map fun v => v.category).sum ≤ W9 → A.U.methodNamed? y = some mk → Pre A a →
    (∃ (v : Option Value) (B : Pt), Stand p l e R s m sargs below meth c B.U B.locs B.cells B.slots ∧ Post A a v B ∧
      Steps p.tables e below (doInvoke e (A.U.setTop g) [] mk a).1 (B.U.setTop { g with pc := g.pc + len, stack := v.toList ++ g.stack })) ∨
    (∃ (q : Addr) (B : Pt), Stand p l e R s m sargs below meth c B.U B.locs B.cells B.slots ∧ PostX A a q B ∧
      Steps p.tables e below (doInvoke e (A.U.setTop g) [] mk a).1 ((B.U.setTop g).pushFrame (.throwing q)))
section Payer
variable {l : Launch} {R : Room} {p : Program} {e : Env} {below : List Frame} {s : State} {sargs : Array Value} {y : MethodName} {len W9 : Nat}
theorem vx_back {ws : List Cond} {rm : Room} {Pc : Array Value → State → Prop} {Qc : Array Value → State → Outcome → State → Prop} {XC : String → State → State → Prop} {mc ms : Nat} {free : Addr → Prop} {bytes : ByteArray} {maxL : Nat} {ret : Option FieldType}
    (hM : vx_Met l y ws rm Pc Qc XC mc ms free) (hblind : FrameBlind Pc) (hrc : rm.cells = mc) (hrs : rm.slots = ms)
    (hframes : rm.frames + 1 ≤ R.frames) (hlocals : W9 + (maxL + 11) + rm.locals ≤ R.locals)
    (hws : ∀ w ∈ ws, ∀ a' U, s.WarmedH U.vm → w.before a' U = true) (hcode : Cond.code y bytes maxL ret ∈ ws) (hinit : ∀ a' U, s.WarmedH U.vm → (Cond.initialized y.cls).before a' U = true) :
    vx_Back l R p e below s sargs y len W9 (PreOf R mc ms Pc) (PostOf Qc mc ms free) (vx_Post XC mc ms free) := by
  intro m meth c A g ig mk a X hg hsize hdg hW hn hp
  have h1 : (headSpec ws rm).pre.before a A.U = true := atoms_intro fun w hw => hws w hw _ _ X.warmed
  have h2 : (Cond.code y bytes maxL ret).before a A.U = true := hws _ hcode _ _ X.warmed
  have h3 : (Cond.initialized y.cls).before a A.U = true := hinit _ _ X.warmed
  have h4 : A.cells + (headSpec ws rm).room.cells ≤ R.cells := by rw [show (headSpec ws rm).room.cells = mc from hrc]; exact hp.1
  have h5 : A.slots + (headSpec ws rm).room.slots ≤ R.slots := by rw [show (headSpec ws rm).room.slots = ms from hrs]; exact hp.2.1
  have hPc : Pc a (A.U.calling g mk a) := hblind _ _ _ _ hp.2.2
  obtain ⟨U, Ls, c0, s0⟩ := A
  dsimp only [Pt.U, Pt.locs, Pt.cells, Pt.slots] at h1 h2 h3 h4 h5 X hn hPc ⊢
  obtain ⟨methY, cY, hmY, hcY, -, hlY, -, -, -, -⟩ := Cond.code_spec hn h2
  obtain ⟨kY, hkY, -⟩ := className_of_methodNamed hn
  have hinitY : kY.init = .initialized := Cond.initialized_spec (findClass_of_methodNamed hn) hkY h3
  have h : At U g.method c below := by rw [hg]; exact X.here
  have hlocals9 : W9 + (maxL + 11) + (headSpec ws rm).room.locals ≤ R.locals := hlocals
  have happ : (headSpec ws rm).appliesLoose y e.platform (U.calling g mk a) = true :=
    Spec.appliesLoose_calling (g := g) h hdg hn hkY hinitY
      (X.room_calling (g := g) (R' := (headSpec ws rm).room) hsize hmY hcY hframes (by rw [hlY]; omega) h4 h5) h1
  obtain ⟨mid, hmid⟩ := h.above
  have hfr : (U.setTop g).frames = (.java g :: mid) ++ below := by rw [State.frames_setTop' g h.top, hmid]; rfl
  obtain ⟨o, s₂, hsteps, -, hend, hq⟩ := Steps.callFree hM p X.admits X.cas X.clock (acts := []) hfr happ hPc trivial
  have hq' : vx_Q Qc XC mc ms free a (U.calling g mk a) o s₂ := hq
  rw [State.frames_setTop' g h.top] at hend
  obtain ⟨g₀, hg0⟩ := Option.isSome_iff_exists.mp h.top
  obtain ⟨r, hr⟩ := State.topJava?_eq_some.mp hg0
  have hr' : (({ U with heap := s₂.heap, slotsUsed := s₂.slotsUsed } : State).setVm s₂.vm).frames = .java g₀ :: r := hr
  rcases hq' with ⟨hqc, L, hfe, hL⟩ | ⟨q, rfl, E, ce, L, hx, hce, hcv, hcl, hW₂, hsm, hL⟩
  · obtain ⟨⟨v, rfl⟩, hW₂, e2, q2, q3, q4, q5, q6⟩ := id hfe
    have e3 : s₂ = ({ (U.calling g mk a).setFrames s₂.frames with heap := s₂.heap, slotsUsed := s₂.slotsUsed } : State).setVm s₂.vm := by
      have : s₂ = ({ s₂ with vm := (U.calling g mk a).vm } : State).setVm s₂.vm := rfl
      rw [e2] at this
      exact this
    obtain ⟨c₂, i₂, len₂, hc₂, hd₂, hf₂⟩ := hend
    have hW' : U.WarmedH s₂.vm := hW₂
    have hcc : c₂ = c := by
      have h1 : s₂.code? g.method = U.code? g.method := by
        rw [State.code?_eq, State.code?_eq, hW'.alike.method?]
      exact Option.some.inj (hc₂.symm.trans (h1.trans h.code))
    subst hcc
    have hlen : len₂ = len := by rw [hdg] at hd₂; cases hd₂; rfl
    subst hlen
    have hs₂ : s₂ = (({ U with heap := s₂.heap, slotsUsed := s₂.slotsUsed } : State).setVm s₂.vm).setTop { g with pc := g.pc + len₂, stack := v.toList ++ g.stack } := by
      refine e3.trans ?_
      rw [hf₂, State.calling_eq h.top, State.setFrames_setFrames, State.setTop_of_frames _ hr', hr]
      rfl
    have hsame : U.sameButNew ({ U with heap := s₂.heap, slotsUsed := s₂.slotsUsed } : State) L mc ms := by
      refine ⟨?_, q2, q3, q4, q5, q6⟩
      obtain ⟨t, ht, -⟩ := State.frames_cons hr
      show ({ U with heap := s₂.heap, slotsUsed := s₂.slotsUsed } : State) = { U.setFrames U.frames with heap := s₂.heap, slotsUsed := s₂.slotsUsed }
      rw [State.setFrames_self ht]
    subst hg
    refine Or.inl ⟨v, ⟨(({ U with heap := s₂.heap, slotsUsed := s₂.slotsUsed } : State).setVm s₂.vm), Ls ++ L, c0 + mc, s0 + ms⟩,
      ⟨X.admits, X.cas, X.clock, X.frames, X.room, X.hears, X.method, X.code, (X.here.setHeapUsed s₂.heap s₂.slotsUsed).setVm hW'.alike, X.tail, State.WarmedH.trans X.warmed hW', X.limits, X.bytes, X.same.trans (hsame.setVm s.vm)⟩,
      ⟨g, mk, s₂, L, rfl, rfl, hqc, rfl, hL, rfl, rfl⟩, ?_⟩
    show Steps p.tables e below _ ((({ U with heap := s₂.heap, slotsUsed := s₂.slotsUsed } : State).setVm s₂.vm).setTop { g with pc := g.pc + len₂, stack := v.toList ++ g.stack })
    rw [← hs₂]
    exact hsteps
  · obtain ⟨e2, q2, q3, q4, q5, q6⟩ := id hsm
    have e3 : s₂ = ({ (U.calling g mk a).setFrames s₂.frames with heap := s₂.heap, slotsUsed := s₂.slotsUsed } : State).setVm s₂.vm := by
      have : s₂ = ({ s₂ with vm := (U.calling g mk a).vm } : State).setVm s₂.vm := rfl
      rw [e2] at this
      exact this
    have hf₂ : s₂.frames = .throwing q :: .java g :: U.frames.tail := hend
    have hW' : U.WarmedH s₂.vm := hW₂
    have hs₂ : s₂ = ((({ U with heap := s₂.heap, slotsUsed := s₂.slotsUsed } : State).setVm s₂.vm).setTop g).pushFrame (.throwing q) := by
      refine e3.trans ?_
      rw [hf₂, State.calling_eq h.top, State.setFrames_setFrames, State.pushFrame, State.frames_setTop _ hr', State.setTop_of_frames _ hr', State.setFrames_setFrames, hr]
      rfl
    have hsame : U.sameButNew ({ U with heap := s₂.heap, slotsUsed := s₂.slotsUsed } : State) L mc ms := by
      refine ⟨?_, q2, q3, q4, q5, q6⟩
      obtain ⟨t, ht, -⟩ := State.frames_cons hr
      show ({ U with heap := s₂.heap, slotsUsed := s₂.slotsUsed } : State) = { U.setFrames U.frames with heap := s₂.heap, slotsUsed := s₂.slotsUsed }
      rw [State.setFrames_self ht]
    subst hg
    refine Or.inr ⟨q, ⟨(({ U with heap := s₂.heap, slotsUsed := s₂.slotsUsed } : State).setVm s₂.vm), Ls ++ L, c0 + mc, s0 + ms⟩,
      ⟨X.admits, X.cas, X.clock, X.frames, X.room, X.hears, X.method, X.code, (X.here.setHeapUsed s₂.heap s₂.slotsUsed).setVm hW'.alike, X.tail, State.WarmedH.trans X.warmed hW', X.limits, X.bytes, X.same.trans (hsame.setVm s.vm)⟩,
      ⟨g, mk, s₂, L, E, ce, rfl, rfl, hx, hce, hcv, hcl, rfl, hL, rfl, rfl⟩, ?_⟩
    show Steps p.tables e below _ (((({ U with heap := s₂.heap, slotsUsed := s₂.slotsUsed } : State).setVm s₂.vm).setTop g).pushFrame (.throwing q))
    rw [← hs₂]
    exact hsteps
end Payer
section Calls
variable {p : Program} {l : Launch} {e : Env} {R : Room} {s : State} {m : MethodId} {args : Array Value} {below : List Frame} {meth : Method} {c : Code} {T : State} {locs : List Loc} {cells slots : Nat}
theorem vx_callV (X : Stand p l e R s m args below meth c T locs cells slots) (hexec : p.tables.exec = Jvm.exec) {own C : String} {index : Nat} {y : MethodName} {bytes : ByteArray} {maxL : Nat} {ret : Option FieldType}
    (hown : s.vm.findClass own = some m.cls) (hlink : (Cond.methodLink own index y).before args s = true) (hinst : (Cond.instanceMethod y).before args s = true) (hsel : (Cond.selects C y y).before args s = true)
    (hcode : (Cond.code y bytes maxL ret).before args s = true) (hy : y.cls ≠ "java/lang/invoke/MethodHandle" ∧ y.cls ≠ "java/lang/invoke/VarHandle")
    {W9 : Nat} {Pre : Pt → Array Value → Prop} {Post : Pt → Array Value → Option Value → Pt → Prop} {PostX : Pt → Array Value → Addr → Pt → Prop} (hK : vx_Back l R p e below s args y 3 W9 Pre Post PostX)
    {b : Addr} {cellB : Cell} (hcell : T.heap[b]? = some cellB) (hobj : cellB.vm.isStatics = false) (hcls : s.vm.findClass C = some cellB.cls)
    {g : JFrame} (hg : g.method = m) (hsize : g.locals.size = c.maxLocals) {argsL rest : List Value} (hlen : ∀ sig, parseMethodDescriptor y.desc = some sig → argsL.length = sig.parameters.length)
    (hstack : g.stack = argsL.reverse ++ .ref b :: rest) (hW : 2 * g.monitorRoom + (rest.map fun v => v.category).sum ≤ W9) (hdg : decode c.code g.pc = .ok (.invokevirtual index, 3))
    (hpre : ∀ vm₁, s.WarmedH vm₁ → Pre ⟨T.setVm vm₁, locs, cells, slots⟩ (Value.ref b :: argsL).toArray) :
    (∃ (v : Option Value) (vm₁ : Vm) (B : Pt), s.WarmedH vm₁ ∧ Stand p l e R s m args below meth c B.U B.locs B.cells B.slots ∧ Post ⟨T.setVm vm₁, locs, cells, slots⟩ (Value.ref b :: argsL).toArray v B ∧
      ∀ target, Steps p.tables e below (B.U.setTop { g with pc := g.pc + 3, stack := v.toList ++ rest }) target → Steps p.tables e below (T.setTop g) target) ∨
    (∃ (q : Addr) (vm₁ : Vm) (B : Pt), s.WarmedH vm₁ ∧ Stand p l e R s m args below meth c B.U B.locs B.cells B.slots ∧ PostX ⟨T.setVm vm₁, locs, cells, slots⟩ (Value.ref b :: argsL).toArray q B ∧
      Steps p.tables e below (T.setTop g) ((B.U.setTop { g with stack := rest }).pushFrame (.throwing q))) := by
  obtain ⟨mk, methM, hnamed, hmethM, hstM, habM⟩ := Cond.instanceMethod_spec hinst
  obtain ⟨methM', cM, hmethM', -, -, -, -, -, -, hsigM⟩ := Cond.code_spec hnamed hcode
  cases hmethM.symm.trans hmethM'
  obtain ⟨c2, r2, m2, q1, q2, q3, q4, kP, hkP, hkPi⟩ := Cond.selects_spec hsel
  cases hcls.symm.trans q1
  cases (State.methodFound?_of_named hnamed hy).symm.trans q2
  cases hnamed.symm.trans q3
  have hselP : selectMethod e.platform s.vm cellB.cls mk = .method mk := by rw [Launch.admits_selectMethod X.admits]; exact q4
  obtain ⟨vm₁, X₁, hstep₁⟩ := X.invokevirtual hexec hown hlink hnamed hmethM hstM hkP hkPi hy (a := b) (cell := cellB) hcell
    (fun z h => by rw [h] at hobj; cases hobj) hselP hmethM habM hkP hkPi (g := g) hg (argsL := argsL) (rest := rest) (hlen _ hsigM) hstack hdg
  rcases hK m meth c ⟨T.setVm vm₁, locs, cells, slots⟩ { g with stack := rest } (.invokevirtual index) mk (Value.ref b :: argsL).toArray X₁ hg hsize hdg hW (X₁.named hnamed) (hpre vm₁ X₁.warmed) with ⟨v, B, X', hpost, hsteps⟩ | ⟨q, B, X', hpost, hsteps⟩
  · exact Or.inl ⟨v, vm₁, B, X₁.warmed, X', hpost, fun target h => hstep₁ _ fun acts => by rw [doInvoke_state]; exact hsteps.trans h⟩
  · exact Or.inr ⟨q, vm₁, B, X₁.warmed, X', hpost, hstep₁ _ fun acts => by rw [doInvoke_state]; exact hsteps⟩
theorem vx_callS (X : Stand p l e R s m args below meth c T locs cells slots) (hexec : p.tables.exec = Jvm.exec) {own : String} {index : Nat} {y : MethodName} {bytes : ByteArray} {maxL : Nat} {ret : Option FieldType}
    (hown : s.vm.findClass own = some m.cls) (hlink : (Cond.methodLink own index y).before args s = true) (hstat : (Cond.static y).before args s = true) (hinit : (Cond.initialized y.cls).before args s = true)
    (hcode : (Cond.code y bytes maxL ret).before args s = true) (hy : y.cls ≠ "java/lang/invoke/MethodHandle" ∧ y.cls ≠ "java/lang/invoke/VarHandle")
    {W9 : Nat} {Pre : Pt → Array Value → Prop} {Post : Pt → Array Value → Option Value → Pt → Prop} {PostX : Pt → Array Value → Addr → Pt → Prop} (hK : vx_Back l R p e below s args y 3 W9 Pre Post PostX)
    {g : JFrame} (hg : g.method = m) (hsize : g.locals.size = c.maxLocals) {argsL rest : List Value} (hlen : ∀ sig, parseMethodDescriptor y.desc = some sig → argsL.length = sig.parameters.length)
    (hstack : g.stack = argsL.reverse ++ rest) (hW : 2 * g.monitorRoom + (rest.map fun v => v.category).sum ≤ W9) (hdg : decode c.code g.pc = .ok (.invokestatic index, 3))
    (hpre : ∀ vm₁, s.WarmedH vm₁ → Pre ⟨T.setVm vm₁, locs, cells, slots⟩ argsL.toArray) :
    (∃ (v : Option Value) (vm₁ : Vm) (B : Pt), s.WarmedH vm₁ ∧ Stand p l e R s m args below meth c B.U B.locs B.cells B.slots ∧ Post ⟨T.setVm vm₁, locs, cells, slots⟩ argsL.toArray v B ∧
      ∀ target, Steps p.tables e below (B.U.setTop { g with pc := g.pc + 3, stack := v.toList ++ rest }) target → Steps p.tables e below (T.setTop g) target) ∨
    (∃ (q : Addr) (vm₁ : Vm) (B : Pt), s.WarmedH vm₁ ∧ Stand p l e R s m args below meth c B.U B.locs B.cells B.slots ∧ PostX ⟨T.setVm vm₁, locs, cells, slots⟩ argsL.toArray q B ∧
      Steps p.tables e below (T.setTop g) ((B.U.setTop { g with stack := rest }).pushFrame (.throwing q))) := by
  obtain ⟨mk, hnamed⟩ := Cond.code_named hcode
  obtain ⟨methM, cM, hmethM, -, -, -, -, -, -, hsigM⟩ := Cond.code_spec hnamed hcode
  have hstatic : methM.isStatic = true := Cond.static_spec hnamed hmethM hstat
  obtain ⟨kP, hkP, -⟩ := className_of_methodNamed hnamed
  have hinitP : kP.init = .initialized := Cond.initialized_spec (findClass_of_methodNamed hnamed) hkP hinit
  obtain ⟨vm₁, X₁, hstep₁⟩ := X.invokestatic hexec hown hlink hnamed hmethM hstatic hkP hinitP hy (g := g) hg (argsL := argsL) (rest := rest) (hlen _ hsigM) hstack hdg
  rcases hK m meth c ⟨T.setVm vm₁, locs, cells, slots⟩ { g with stack := rest } (.invokestatic index) mk argsL.toArray X₁ hg hsize hdg hW (X₁.named hnamed) (hpre vm₁ X₁.warmed) with ⟨v, B, X', hpost, hsteps⟩ | ⟨q, B, X', hpost, hsteps⟩
  · exact Or.inl ⟨v, vm₁, B, X₁.warmed, X', hpost, fun target h => hstep₁ _ fun acts => by rw [doInvoke_state]; exact hsteps.trans h⟩
  · exact Or.inr ⟨q, vm₁, B, X₁.warmed, X', hpost, hstep₁ _ fun acts => by rw [doInvoke_state]; exact hsteps⟩
end Calls
theorem vx_cls {s : State} {T : State} {vm₁ : Vm} {E : String} {k : ClassId} (hW : s.WarmedH vm₁) (h : (T.setVm vm₁).vm.findClass E = some k) : s.vm.findClass E = some k := by
  have h1 : vm₁.findClass E = some k := h
  rw [hW.alike.findClass] at h1
  exact h1
/-- the method's frame g, with q thrown over it -/
def vx_W (p : Program) (l : Launch) (e : Env) (R : Room) (s : State) (m : MethodId) (args : Array Value) (below : List Frame) (meth : Method) (c : Code) (H : Heap) (locs : List Loc) (cells slots : Nat) (Q : State → Prop) (g : JFrame) (q : Addr) : Prop :=
  ∀ T : State, T.heap = H → Stand p l e R s m args below meth c T locs cells slots → ∃ t, Steps p.tables e below ((T.setTop g).pushFrame (.throwing q)) t ∧ Q t
def vx_Run (p : Program) (l : Launch) (e : Env) (R : Room) (s : State) (m : MethodId) (args : Array Value) (below : List Frame) (meth : Method) (c : Code) (H : Heap) (locs : List Loc) (cells slots mc ms : Nat) (g : JFrame) (rest : List Value) (Qa : State → Outcome → State → Prop) (XC : String → State → State → Prop) (free : Addr → Prop) : Prop :=
  ∀ T : State, T.heap = H → Stand p l e R s m args below meth c T locs cells slots →
    (∃ (v : Option Value) (st₀ t T' : State) (L : List Loc), st₀.heap = H ∧ Stand p l e R s m args below meth c T' (locs ++ L) (cells + mc) (slots + ms) ∧ (∀ q ∈ L, free q.base) ∧ T'.heap = t.heap ∧ T'.vm = t.vm ∧ Qa st₀ (.returned v) t ∧
      Goes p e below T g T' { g with pc := g.pc + 3, stack := v.toList ++ rest }) ∨
    (∃ (q : Addr) (st₀ t T' : State) (L : List Loc) (E : String) (ce : Cell), st₀.heap = H ∧ Stand p l e R s m args below meth c T' (locs ++ L) (cells + mc) (slots + ms) ∧ (∀ z ∈ L, free z.base) ∧ T'.heap = t.heap ∧ T'.vm = t.vm ∧ XC E st₀ t ∧ t.heap[q]? = some ce ∧ ce.vm = .none ∧ s.vm.findClass E = some ce.cls ∧
      Steps p.tables e below (T.setTop g) ((T'.setTop { g with stack := rest }).pushFrame (.throwing q)))
def vx_X {S : Type} (px : S → Prop) (B : String → S → State → Prop) (A : Nat → Prop) : String → State → State → Prop := fun E st t => ∃ u : S, px u ∧ B E u t ∧ va_F A st t
section Runs
variable {p : Program} {l : Launch} {e : Env} {R : Room} {s : State} {m : MethodId} {args : Array Value} {below : List Frame} {meth : Method} {c : Code} {H : Heap} {locs : List Loc} {cells slots : Nat}
variable {y : MethodName} {bytes cc : ByteArray} {maxL nL mc ms n index : Nat} {ret : Option FieldType} {ws : List Cond} {rm : Room} {Pc : Array Value → State → Prop} {Qc : Array Value → State → Outcome → State → Prop} {XC : String → State → State → Prop} {free : Addr → Prop} {Ts : List Cond} {own C : String} {b : Addr} {As rest : List Value} {g : JFrame}
theorem vx_callBack (cb : CallB R s args own index y bytes maxL ret ws rm mc ms n) (hM : vx_Met l y ws rm Pc Qc XC mc ms free) (hbl : FrameBlind Pc) : vx_Back l R p e below s args y 3 8 (PreOf R mc ms Pc) (PostOf Qc mc ms free) (vx_Post XC mc ms free) := by
  obtain ⟨hrc, hrs, hfr, hlo, hws, hcw, -, hini, -⟩ := cb
  exact vx_back (bytes := bytes) (maxL := maxL) (ret := ret) hM hbl hrc hrs hfr hlo hws hcw (fun a' U hW => word_at hW (Or.inl (by first | rfl | simp [Cond.onTables, Cond.keeps, Cond.steady])) hini)
theorem vx_runV (S : CallFix p m c cc nL s args Ts own) (hM : vx_Met l y ws rm Pc Qc XC mc ms free) (cw : CallW R s args own C index y bytes maxL ret ws rm mc ms n) (hp : PreV s H C b Pc As)
    (hg : g.method = m) (hn : As.length = n) (hsize : g.locals.size = nL) (hstack : g.stack = As.reverse ++ .ref b :: rest) (hW : 2 * g.monitorRoom + (rest.map fun v => v.category).sum ≤ 8) (hdg : decode cc g.pc = .ok (.invokevirtual index, 3)) (hf : cells + mc ≤ R.cells ∧ slots + ms ≤ R.slots) :
    vx_Run p l e R s m args below meth c H locs cells slots mc ms g rest (Qc (Value.ref b :: As).toArray) XC free := by
  have hK : vx_Back l R p e below s args y 3 8 (PreOf R mc ms Pc) (PostOf Qc mc ms free) (vx_Post XC mc ms free) := vx_callBack cw.1 hM hp.1
  obtain ⟨⟨-, -, -, -, -, -, hcode, -, hy, hlen, hl⟩, hin, hse⟩ := cw
  obtain ⟨hx, hb, hml, ho, -⟩ := S
  obtain ⟨-, ⟨cellB, hcB, hoB, hclB⟩, hPc⟩ := hp
  intro T hT X
  rcases vx_callV X hx (C := C) (bytes := bytes) (maxL := maxL) (ret := ret) ho hl hin hse hcode hy hK (by rw [hT]; exact hcB) hoB hclB hg (hsize.trans hml.symm) (argsL := As) (rest := rest) (fun sig h => hn.trans (hlen sig h)) hstack hW (by rw [hb]; exact hdg)
    (fun vm₁ hW₁ => ⟨hf.1, hf.2, hPc (T.setVm vm₁) hT hW₁⟩) with ⟨v, vm₁, ⟨U', l2, c2, s2⟩, hW₁, X', ⟨g', mk, t, L, e1, e2, hq, h1, hL, h2, h3⟩, st⟩ | ⟨q, vm₁, ⟨U', l2, c2, s2⟩, hW₁, X', ⟨g', mk, t, L, E, ce, e1, e2, hq, hce, hcv, hcl, h1, hL, h2, h3⟩, st⟩
  · dsimp only [Pt.U, Pt.locs, Pt.cells, Pt.slots] at X' e1 e2 h1 h2 h3 st
    subst h1; subst h2; subst h3
    exact Or.inl ⟨v, (T.setVm vm₁).calling g' mk (Value.ref b :: As).toArray, t, U', L, hT, X', hL, e1, e2, hq, st⟩
  · dsimp only [Pt.U, Pt.locs, Pt.cells, Pt.slots] at X' e1 e2 h1 h2 h3 st hcl
    subst h1; subst h2; subst h3
    exact Or.inr ⟨q, (T.setVm vm₁).calling g' mk (Value.ref b :: As).toArray, t, U', L, E, ce, hT, X', hL, e1, e2, hq, hce, hcv, vx_cls hW₁ hcl, st⟩
theorem vx_runS (S : CallFix p m c cc nL s args Ts own) (hM : vx_Met l y ws rm Pc Qc XC mc ms free) (cw : CallB R s args own index y bytes maxL ret ws rm mc ms n ∧ (Cond.static y).before args s = true) (hp : PreS s H Pc As)
    (hg : g.method = m) (hn : As.length = n) (hsize : g.locals.size = nL) (hstack : g.stack = As.reverse ++ rest) (hW : 2 * g.monitorRoom + (rest.map fun v => v.category).sum ≤ 8) (hdg : decode cc g.pc = .ok (.invokestatic index, 3)) (hf : cells + mc ≤ R.cells ∧ slots + ms ≤ R.slots) :
    vx_Run p l e R s m args below meth c H locs cells slots mc ms g rest (Qc As.toArray) XC free := by
  have hK : vx_Back l R p e below s args y 3 8 (PreOf R mc ms Pc) (PostOf Qc mc ms free) (vx_Post XC mc ms free) := vx_callBack cw.1 hM hp.1
  obtain ⟨⟨-, -, -, -, -, -, hcode, hini, hy, hlen, hl⟩, hstt⟩ := cw
  obtain ⟨hx, hb, hml, ho, -⟩ := S
  intro T hT X
  rcases vx_callS X hx (bytes := bytes) (maxL := maxL) (ret := ret) ho hl hstt hini hcode hy hK hg (hsize.trans hml.symm) (argsL := As) (rest := rest) (fun sig h => hn.trans (hlen sig h)) hstack hW (by rw [hb]; exact hdg)
    (fun vm₁ hW₁ => ⟨hf.1, hf.2, hp.2 (T.setVm vm₁) hT hW₁⟩) with ⟨v, vm₁, ⟨U', l2, c2, s2⟩, hW₁, X', ⟨g', mk, t, L, e1, e2, hq, h1, hL, h2, h3⟩, st⟩ | ⟨q, vm₁, ⟨U', l2, c2, s2⟩, hW₁, X', ⟨g', mk, t, L, E, ce, e1, e2, hq, hce, hcv, hcl, h1, hL, h2, h3⟩, st⟩
  · dsimp only [Pt.U, Pt.locs, Pt.cells, Pt.slots] at X' e1 e2 h1 h2 h3 st
    subst h1; subst h2; subst h3
    exact Or.inl ⟨v, (T.setVm vm₁).calling g' mk As.toArray, t, U', L, hT, X', hL, e1, e2, hq, st⟩
  · dsimp only [Pt.U, Pt.locs, Pt.cells, Pt.slots] at X' e1 e2 h1 h2 h3 st hcl
    subst h1; subst h2; subst h3
    exact Or.inr ⟨q, (T.setVm vm₁).calling g' mk As.toArray, t, U', L, E, ce, hT, X', hL, e1, e2, hq, hce, hcv, vx_cls hW₁ hcl, st⟩
end Runs
section Rows
variable {p : Program} {l : Launch} {e : Env} {R : Room} {s : State} {m : MethodId} {args : Array Value} {below : List Frame} {meth : Method} {c : Code} {H : Heap} {locs : List Loc} {cells slots : Nat} {Q : State → Prop}
variable {mc ms : Nat} {free : Addr → Prop} {A0 A1 : Nat → Prop} {H0 : Heap} {a : Array Value} {pc : Nat} {ls : Array Slot} {st0 rest : List Value}
theorem vx_keep {st₀ t T' : State} {L : List Loc} (h0 : st₀.heap = H) (e1 : T'.heap = t.heap) (hS : va_S A0 H0 H locs) (hA : ∀ q, q < H.size → A1 q → A0 q) (hf : ∀ q, free q → A0 q) (hL : ∀ q ∈ L, free q.base) (hF : va_F A1 st₀ t) :
    H.size ≤ T'.heap.size ∧ (∀ q : Nat, q < H.size → ¬ A1 q → T'.heap[q]? = H[q]?) ∧ va_S A0 H0 T'.heap (locs ++ L) := by
  obtain ⟨hz, hk⟩ := hF
  rw [h0] at hz hk
  exact ⟨by rw [e1]; exact hz, fun q h1 h2 => by rw [e1]; exact hk q h1 h2,
    ⟨Nat.le_trans hS.1 (by rw [e1]; exact hz), fun q h1 h2 => by rw [e1, hk q (Nat.lt_of_lt_of_le h1 hS.1) (fun z => h2 (hA q (Nat.lt_of_lt_of_le h1 hS.1) z))]; exact hS.2.1 q h1 h2, fun q hq => by
      rcases List.mem_append.mp hq with h | h
      · exact hS.2.2 q h
      · exact hf _ (hL q h)⟩⟩
theorem vx_calli {S SX : Type} {post : Int32 → S → Prop} {px : SX → Prop} {B : S → State → Prop} {BX : String → SX → State → Prop} {AX : Nat → Prop} (hr : vx_Run p l e R s m args below meth c H locs cells slots mc ms (F0 m pc ls st0) rest (va_Qi post B A1 a) (vx_X px BX AX) free) (hS : va_S A0 H0 H locs) (hA : ∀ q, q < H.size → A1 q → A0 q) (hf : ∀ q, free q → A0 q) (hAX : ∀ q, q < H.size → AX q → A0 q)
    (kx : ∀ (E : String) (ce : Cell) (q9 : Addr) (u : SX) (t : State) (H1 : Heap) (locs1 : List Loc), t.heap = H1 → s.vm.Alike t.vm → px u → BX E u t → H.size ≤ H1.size → (∀ q : Nat, q < H.size → ¬ AX q → H1[q]? = H[q]?) → va_S A0 H0 H1 locs1 → H1[q9]? = some ce → ce.vm = .none → s.vm.findClass E = some ce.cls → vx_W p l e R s m args below meth c H1 locs1 (cells + mc) (slots + ms) Q (F0 m pc ls rest) q9)
    (kk : ∀ (r : Int32) (u : S) (t : State) (H1 : Heap) (locs1 : List Loc), t.heap = H1 → s.vm.Alike t.vm → post r u → B u t → H.size ≤ H1.size → (∀ q : Nat, q < H.size → ¬ A1 q → H1[q]? = H[q]?) → va_S A0 H0 H1 locs1 → W p l e R s m args below meth c H1 locs1 (cells + mc) (slots + ms) Q (F0 m (pc + 3) ls (.int r :: rest))) : W p l e R s m args below meth c H locs cells slots Q (F0 m pc ls st0) := by
  intro T hT X
  rcases hr T hT X with ⟨v, st₀, t, T', L, h0, X', hL, e1, e2, ⟨⟨r, u, hv, hp, hb⟩, hF⟩, st⟩ | ⟨q, st₀, t, T', L, E, ce, h0, X', hL, e1, e2, ⟨u, hp, hb, hF⟩, hce, hcv, hcl, st⟩
  · cases hv
    obtain ⟨k1, k2, k3⟩ := vx_keep h0 e1 hS hA hf hL hF
    obtain ⟨t2, a1, b1⟩ := kk r u t T'.heap (locs ++ L) e1.symm (by rw [← e2]; exact X'.warmed.alike) hp hb k1 k2 k3 T' rfl X'
    exact ⟨t2, st t2 a1, b1⟩
  · obtain ⟨k1, k2, k3⟩ := vx_keep h0 e1 hS hAX hf hL hF
    obtain ⟨t2, a1, b1⟩ := kx E ce q u t T'.heap (locs ++ L) e1.symm (by rw [← e2]; exact X'.warmed.alike) hp hb k1 k2 k3 (by rw [e1]; exact hce) hcv hcl T' rfl X'
    exact ⟨t2, st.trans a1, b1⟩
theorem vx_calll {S SX : Type} {post : Int64 → S → Prop} {px : SX → Prop} {B : S → State → Prop} {BX : String → SX → State → Prop} {AX : Nat → Prop} (hr : vx_Run p l e R s m args below meth c H locs cells slots mc ms (F0 m pc ls st0) rest (va_Ql post B A1 a) (vx_X px BX AX) free) (hS : va_S A0 H0 H locs) (hA : ∀ q, q < H.size → A1 q → A0 q) (hf : ∀ q, free q → A0 q) (hAX : ∀ q, q < H.size → AX q → A0 q)
    (kx : ∀ (E : String) (ce : Cell) (q9 : Addr) (u : SX) (t : State) (H1 : Heap) (locs1 : List Loc), t.heap = H1 → s.vm.Alike t.vm → px u → BX E u t → H.size ≤ H1.size → (∀ q : Nat, q < H.size → ¬ AX q → H1[q]? = H[q]?) → va_S A0 H0 H1 locs1 → H1[q9]? = some ce → ce.vm = .none → s.vm.findClass E = some ce.cls → vx_W p l e R s m args below meth c H1 locs1 (cells + mc) (slots + ms) Q (F0 m pc ls rest) q9)
    (kk : ∀ (r : Int64) (u : S) (t : State) (H1 : Heap) (locs1 : List Loc), t.heap = H1 → s.vm.Alike t.vm → post r u → B u t → H.size ≤ H1.size → (∀ q : Nat, q < H.size → ¬ A1 q → H1[q]? = H[q]?) → va_S A0 H0 H1 locs1 → W p l e R s m args below meth c H1 locs1 (cells + mc) (slots + ms) Q (F0 m (pc + 3) ls (.long r :: rest))) : W p l e R s m args below meth c H locs cells slots Q (F0 m pc ls st0) := by
  intro T hT X
  rcases hr T hT X with ⟨v, st₀, t, T', L, h0, X', hL, e1, e2, ⟨⟨r, u, hv, hp, hb⟩, hF⟩, st⟩ | ⟨q, st₀, t, T', L, E, ce, h0, X', hL, e1, e2, ⟨u, hp, hb, hF⟩, hce, hcv, hcl, st⟩
  · cases hv
    obtain ⟨k1, k2, k3⟩ := vx_keep h0 e1 hS hA hf hL hF
    obtain ⟨t2, a1, b1⟩ := kk r u t T'.heap (locs ++ L) e1.symm (by rw [← e2]; exact X'.warmed.alike) hp hb k1 k2 k3 T' rfl X'
    exact ⟨t2, st t2 a1, b1⟩
  · obtain ⟨k1, k2, k3⟩ := vx_keep h0 e1 hS hAX hf hL hF
    obtain ⟨t2, a1, b1⟩ := kx E ce q u t T'.heap (locs ++ L) e1.symm (by rw [← e2]; exact X'.warmed.alike) hp hb k1 k2 k3 (by rw [e1]; exact hce) hcv hcl T' rfl X'
    exact ⟨t2, st.trans a1, b1⟩
theorem vx_callf {S SX : Type} {post : UInt32 → S → Prop} {px : SX → Prop} {B : S → State → Prop} {BX : String → SX → State → Prop} {AX : Nat → Prop} (hr : vx_Run p l e R s m args below meth c H locs cells slots mc ms (F0 m pc ls st0) rest (va_Qf post B A1 a) (vx_X px BX AX) free) (hS : va_S A0 H0 H locs) (hA : ∀ q, q < H.size → A1 q → A0 q) (hf : ∀ q, free q → A0 q) (hAX : ∀ q, q < H.size → AX q → A0 q)
    (kx : ∀ (E : String) (ce : Cell) (q9 : Addr) (u : SX) (t : State) (H1 : Heap) (locs1 : List Loc), t.heap = H1 → s.vm.Alike t.vm → px u → BX E u t → H.size ≤ H1.size → (∀ q : Nat, q < H.size → ¬ AX q → H1[q]? = H[q]?) → va_S A0 H0 H1 locs1 → H1[q9]? = some ce → ce.vm = .none → s.vm.findClass E = some ce.cls → vx_W p l e R s m args below meth c H1 locs1 (cells + mc) (slots + ms) Q (F0 m pc ls rest) q9)
    (kk : ∀ (r : UInt32) (u : S) (t : State) (H1 : Heap) (locs1 : List Loc), t.heap = H1 → s.vm.Alike t.vm → post r u → B u t → H.size ≤ H1.size → (∀ q : Nat, q < H.size → ¬ A1 q → H1[q]? = H[q]?) → va_S A0 H0 H1 locs1 → W p l e R s m args below meth c H1 locs1 (cells + mc) (slots + ms) Q (F0 m (pc + 3) ls (.float r :: rest))) : W p l e R s m args below meth c H locs cells slots Q (F0 m pc ls st0) := by
  intro T hT X
  rcases hr T hT X with ⟨v, st₀, t, T', L, h0, X', hL, e1, e2, ⟨⟨r, u, hv, hp, hb⟩, hF⟩, st⟩ | ⟨q, st₀, t, T', L, E, ce, h0, X', hL, e1, e2, ⟨u, hp, hb, hF⟩, hce, hcv, hcl, st⟩
  · cases hv
    obtain ⟨k1, k2, k3⟩ := vx_keep h0 e1 hS hA hf hL hF
    obtain ⟨t2, a1, b1⟩ := kk r u t T'.heap (locs ++ L) e1.symm (by rw [← e2]; exact X'.warmed.alike) hp hb k1 k2 k3 T' rfl X'
    exact ⟨t2, st t2 a1, b1⟩
  · obtain ⟨k1, k2, k3⟩ := vx_keep h0 e1 hS hAX hf hL hF
    obtain ⟨t2, a1, b1⟩ := kx E ce q u t T'.heap (locs ++ L) e1.symm (by rw [← e2]; exact X'.warmed.alike) hp hb k1 k2 k3 (by rw [e1]; exact hce) hcv hcl T' rfl X'
    exact ⟨t2, st.trans a1, b1⟩
theorem vx_calld {S SX : Type} {post : UInt64 → S → Prop} {px : SX → Prop} {B : S → State → Prop} {BX : String → SX → State → Prop} {AX : Nat → Prop} (hr : vx_Run p l e R s m args below meth c H locs cells slots mc ms (F0 m pc ls st0) rest (va_Qd post B A1 a) (vx_X px BX AX) free) (hS : va_S A0 H0 H locs) (hA : ∀ q, q < H.size → A1 q → A0 q) (hf : ∀ q, free q → A0 q) (hAX : ∀ q, q < H.size → AX q → A0 q)
    (kx : ∀ (E : String) (ce : Cell) (q9 : Addr) (u : SX) (t : State) (H1 : Heap) (locs1 : List Loc), t.heap = H1 → s.vm.Alike t.vm → px u → BX E u t → H.size ≤ H1.size → (∀ q : Nat, q < H.size → ¬ AX q → H1[q]? = H[q]?) → va_S A0 H0 H1 locs1 → H1[q9]? = some ce → ce.vm = .none → s.vm.findClass E = some ce.cls → vx_W p l e R s m args below meth c H1 locs1 (cells + mc) (slots + ms) Q (F0 m pc ls rest) q9)
    (kk : ∀ (r : UInt64) (u : S) (t : State) (H1 : Heap) (locs1 : List Loc), t.heap = H1 → s.vm.Alike t.vm → post r u → B u t → H.size ≤ H1.size → (∀ q : Nat, q < H.size → ¬ A1 q → H1[q]? = H[q]?) → va_S A0 H0 H1 locs1 → W p l e R s m args below meth c H1 locs1 (cells + mc) (slots + ms) Q (F0 m (pc + 3) ls (.double r :: rest))) : W p l e R s m args below meth c H locs cells slots Q (F0 m pc ls st0) := by
  intro T hT X
  rcases hr T hT X with ⟨v, st₀, t, T', L, h0, X', hL, e1, e2, ⟨⟨r, u, hv, hp, hb⟩, hF⟩, st⟩ | ⟨q, st₀, t, T', L, E, ce, h0, X', hL, e1, e2, ⟨u, hp, hb, hF⟩, hce, hcv, hcl, st⟩
  · cases hv
    obtain ⟨k1, k2, k3⟩ := vx_keep h0 e1 hS hA hf hL hF
    obtain ⟨t2, a1, b1⟩ := kk r u t T'.heap (locs ++ L) e1.symm (by rw [← e2]; exact X'.warmed.alike) hp hb k1 k2 k3 T' rfl X'
    exact ⟨t2, st t2 a1, b1⟩
  · obtain ⟨k1, k2, k3⟩ := vx_keep h0 e1 hS hAX hf hL hF
    obtain ⟨t2, a1, b1⟩ := kx E ce q u t T'.heap (locs ++ L) e1.symm (by rw [← e2]; exact X'.warmed.alike) hp hb k1 k2 k3 (by rw [e1]; exact hce) hcv hcl T' rfl X'
    exact ⟨t2, st.trans a1, b1⟩
theorem vx_callv {S SX : Type} {post : S → Prop} {px : SX → Prop} {B : S → State → Prop} {BX : String → SX → State → Prop} {AX : Nat → Prop} (hr : vx_Run p l e R s m args below meth c H locs cells slots mc ms (F0 m pc ls st0) rest (va_Qv post B A1 a) (vx_X px BX AX) free) (hS : va_S A0 H0 H locs) (hA : ∀ q, q < H.size → A1 q → A0 q) (hf : ∀ q, free q → A0 q) (hAX : ∀ q, q < H.size → AX q → A0 q)
    (kx : ∀ (E : String) (ce : Cell) (q9 : Addr) (u : SX) (t : State) (H1 : Heap) (locs1 : List Loc), t.heap = H1 → s.vm.Alike t.vm → px u → BX E u t → H.size ≤ H1.size → (∀ q : Nat, q < H.size → ¬ AX q → H1[q]? = H[q]?) → va_S A0 H0 H1 locs1 → H1[q9]? = some ce → ce.vm = .none → s.vm.findClass E = some ce.cls → vx_W p l e R s m args below meth c H1 locs1 (cells + mc) (slots + ms) Q (F0 m pc ls rest) q9)
    (kk : ∀ (u : S) (t : State) (H1 : Heap) (locs1 : List Loc), t.heap = H1 → s.vm.Alike t.vm → post u → B u t → H.size ≤ H1.size → (∀ q : Nat, q < H.size → ¬ A1 q → H1[q]? = H[q]?) → va_S A0 H0 H1 locs1 → W p l e R s m args below meth c H1 locs1 (cells + mc) (slots + ms) Q (F0 m (pc + 3) ls (rest))) : W p l e R s m args below meth c H locs cells slots Q (F0 m pc ls st0) := by
  intro T hT X
  rcases hr T hT X with ⟨v, st₀, t, T', L, h0, X', hL, e1, e2, ⟨⟨u, hv, hp, hb⟩, hF⟩, st⟩ | ⟨q, st₀, t, T', L, E, ce, h0, X', hL, e1, e2, ⟨u, hp, hb, hF⟩, hce, hcv, hcl, st⟩
  · cases hv
    obtain ⟨k1, k2, k3⟩ := vx_keep h0 e1 hS hA hf hL hF
    obtain ⟨t2, a1, b1⟩ := kk u t T'.heap (locs ++ L) e1.symm (by rw [← e2]; exact X'.warmed.alike) hp hb k1 k2 k3 T' rfl X'
    exact ⟨t2, st t2 a1, b1⟩
  · obtain ⟨k1, k2, k3⟩ := vx_keep h0 e1 hS hAX hf hL hF
    obtain ⟨t2, a1, b1⟩ := kx E ce q u t T'.heap (locs ++ L) e1.symm (by rw [← e2]; exact X'.warmed.alike) hp hb k1 k2 k3 (by rw [e1]; exact hce) hcv hcl T' rfl X'
    exact ⟨t2, st.trans a1, b1⟩
/-- caught by the row x of this method's table; the rows ahead don't take it -/
theorem vx_catch {own name : String} {E : String} {ce : Cell} {q : Addr} (hown : s.vm.findClass own = some m.cls) (pre : List ExceptionTableEntry) (x : ExceptionTableEntry) (suf : List ExceptionTableEntry) (hsplit : c.exceptionTable.toList = pre ++ x :: suf)
    (hpass : ∀ z ∈ pre, covers z pc = false ∨ (z.catchType ≠ 0 ∧ ∃ nm : String, (Cond.classLink own z.catchType nm).before args s = true ∧ va_Nc E nm s)) (hx : covers x pc = true) (h0 : x.catchType ≠ 0)
    (hlink : (Cond.classLink own x.catchType name).before args s = true) (hcast : (Cond.castable E name).before args s = true) (hcell : H[q]? = some ce) (hv : ce.vm = .none) (hcl : s.vm.findClass E = some ce.cls)
    (kk : W p l e R s m args below meth c H locs cells slots Q (F0 m x.handlerPc ls [.ref q])) : vx_W p l e R s m args below meth c H locs cells slots Q (F0 m pc ls rest) q := by
  intro T hT X
  have hpl : e.platform.magicAccessors = ({} : Platform).magicAccessors := by rw [X.admits.platform]
  obtain ⟨c3, c4, hc3, hc4, hasg⟩ := Cond.castable_spec hcast
  cases Option.some.inj (hc3.symm.trans hcl)
  obtain ⟨c5, hc5, hcl5⟩ := Cond.classLink_spec hown hlink e.platform hpl
  cases Option.some.inj (hc4.symm.trans hc5)
  obtain ⟨vm', X', st⟩ := X.thenCaughtThrough q (g := F0 m pc ls rest) rfl (Steps.refl _) (by rw [hT]; exact hcell) (by rw [hv]; rfl) (by obtain ⟨k9, h9, -⟩ := Vm.findClass_spec hcl; exact ⟨k9, h9⟩) pre x suf hsplit
    (fun z hz => by
      rcases hpass z hz with h | ⟨hz0, nm, hl1, hn1⟩
      · exact Or.inl h
      · obtain ⟨c6, hc6, hcl6⟩ := Cond.classLink_spec hown hl1 e.platform hpl
        obtain ⟨a8, b8, h1, h2, h3⟩ := hn1
        cases Option.some.inj (h1.symm.trans hcl)
        cases Option.some.inj (h2.symm.trans hc6)
        exact Or.inr ⟨hz0, _, hcl6, h3⟩) hx (Or.inr ⟨h0, c4, hcl5, hasg⟩)
  obtain ⟨t, a1, b1⟩ := kk (T.setVm vm') hT X'
  exact ⟨t, st.trans a1, b1⟩
end Rows
section Ends
variable {p : Program} {l : Launch} {e : Env} {R : Room} {s : State} {m : MethodId} {args : Array Value} {below : List Frame} {meth : Method} {c : Code} {H : Heap} {locs : List Loc} {cells slots : Nat} {Q : State → Prop}
variable {mc ms : Nat} {free : Addr → Prop} {A0 A1 : Nat → Prop} {H0 : Heap} {a : Array Value} {ls : Array Slot} {st0 rest : List Value}
variable {Qc : Array Value → State → Outcome → State → Prop} {XC : String → State → State → Prop}
/-- what a body that may throw owes at its end -/
def vx_MQ (below : List Frame) (Qc : Array Value → State → Outcome → State → Prop) (XC : String → State → State → Prop) (a : Array Value) (s : State) (mc ms : Nat) (free : Addr → Prop) : State → Prop := fun t =>
  ∃ o, t.status = .running ∧ Ended t below o ∧ vx_Q Qc XC mc ms free a s o t
theorem vx_ret {g : JFrame} {mc ms : Nat} (k : W p l e R s m args below meth c H locs cells slots (MQ below Qc args s mc ms free) g) : W p l e R s m args below meth c H locs cells slots (vx_MQ below Qc XC args s mc ms free) g := by
  intro T hT X
  obtain ⟨t, a1, o, b1, b2, b3, b4⟩ := k T hT X
  exact ⟨t, a1, o, b1, b2, Or.inl ⟨b3, b4⟩⟩
/-- not caught here: it goes on to the caller -/
theorem vx_widen {g : JFrame} {q : Addr} {k n : Nat} (h1 : cells ≤ k) (h2 : slots ≤ n) (kk : vx_W p l e R s m args below meth c H locs k n Q g q) : vx_W p l e R s m args below meth c H locs cells slots Q g q := fun T hT X => kk T hT (stand_widen X h1 h2)
theorem vx_out {pc : Nat} {E : String} {ce : Cell} {q : Addr} {mc ms : Nat} (hout : ∀ x ∈ c.exceptionTable.toList, covers x pc = false) (hlocks : meth.locks = false) (hcell : H[q]? = some ce) (hv : ce.vm = .none) (hcl : s.vm.findClass E = some ce.cls)
    (hx : ∀ t : State, t.heap = H → s.vm.Alike t.vm → XC E s t) (hf : ∀ z ∈ locs, free z.base) (hc : cells ≤ mc) (hs : slots ≤ ms) :
    vx_W p l e R s m args below meth c H locs cells slots (vx_MQ below Qc XC args s mc ms free) (F0 m pc ls rest) q := by
  intro T hT X
  obtain ⟨st1, hrun, hend, hW, hsm⟩ := X.leaveThrown q (g := F0 m pc ls rest) rfl rfl rfl hout hlocks
  have hcell9 : (T.setFrames (.throwing q :: below)).heap[q]? = some ce := by
    show T.heap[q]? = some ce
    rw [hT]; exact hcell
  exact ⟨_, st1, .threw q, hrun, hend, Or.inr ⟨q, rfl, E, ce, locs, hx _ hT hW.alike, hcell9, hv, hcl, hW, hsm.mono hc hs, hf⟩⟩
theorem vx_frame {U : State} {k n : Nat} (h : s.sameButNew ({ U with vm := s.vm } : State) locs k n) : s.heap.size ≤ U.heap.size ∧ ∀ q : Nat, q < s.heap.size → (∀ z ∈ locs, z.base ≠ q) → U.heap[q]? = s.heap[q]? := by
  obtain ⟨-, h2, -, -, -, h6⟩ := h
  refine ⟨h2, fun q hq hz => ?_⟩
  obtain ⟨c9, e1, e2, e3, e4⟩ := h6 q _ (Array.getElem?_eq_getElem hq)
  have hs : c9.slots = (s.heap[q]).slots := Array.ext_getElem? fun i => e4 i fun hm => hz _ hm rfl
  have h9 : c9 = s.heap[q] := by
    rw [hs] at e2
    exact e2
  have e5 : U.heap[q]? = some c9 := e1
  rw [e5, h9, Array.getElem?_eq_getElem hq]
/-- the words of a throw but the four that speak of the heap -/
def vx_no (w : Cond) : Bool := decide (w ≠ .isRef (.static Bundle.tN "UNASSIGNED_STACK" Bundle.steD)) && decide (w ≠ .isRef (.static Bundle.tN "SUPPRESSED_SENTINEL" Bundle.listD)) && decide (w ≠ .laysStatic Bundle.tN "UNASSIGNED_STACK" Bundle.steD) && decide (w ≠ .laysStatic Bundle.tN "SUPPRESSED_SENTINEL" Bundle.listD)
def vx_at0 (own : String) (ic : Nat) (X : String) (names : List String) : List Cond := (Bundle.ownAtoms0 own ic X names).filter vx_no
def vx_atS (own : String) (ic : Nat) (X : String) (names : List String) : List Cond := (Bundle.ownAtoms own ic X names).filter vx_no
/-- a word that the tables alone decide, or a good one -/
def vx_ot (w : Cond) : Bool := w.onTables || goodWord w
theorem vx_ot_at {args a' : Array Value} {s U : State} {w : Cond} (hW : s.WarmedH U.vm) (hvm : s.vm = U.vm) (hg : vx_ot w = true) (h : w.before args s = true) : w.before a' U = true := by
  simp only [vx_ot, Bool.or_eq_true] at hg
  rcases hg with hg | hg
  · exact va_tabs hg hvm h
  · exact word_at hW (good_of_word hg) h
/-- a list's words: the good ones out of the method's own list, the others by premises of their own -/
theorem vx_hat {args : Array Value} {s : State} {L B : List Cond} (h1 : ∀ w ∈ L.filter goodWord, w.before args s = true) (h2 : ∀ w ∈ L.filter (fun w => !goodWord w), w ∈ B) (h3 : ∀ w ∈ B, w.before args s = true) : ∀ w ∈ L, w.before args s = true := by
  intro w hw
  by_cases g : goodWord w = true
  · exact h1 w (List.mem_filter.mpr ⟨hw, g⟩)
  · refine h3 w (h2 w (List.mem_filter.mpr ⟨hw, ?_⟩))
    show (!goodWord w) = true
    cases hgw : goodWord w
    · rfl
    · exact absurd hgw g
theorem vx_c {args : Array Value} {s : State} {w : Cond} {B : List Cond} (h : w.before args s = true) (t : ∀ w ∈ B, w.before args s = true) : ∀ w' ∈ w :: B, w'.before args s = true := fun w' h' => (List.mem_cons.mp h').elim (fun e => by rw [e]; exact h) (t w')
theorem vx_n {args : Array Value} {s : State} : ∀ w ∈ ([] : List Cond), w.before args s = true := fun _ h => nomatch h
theorem vx_own {args : Array Value} {s : State} {L : List Cond} (h1 : ∀ w ∈ L.filter vx_no, w.before args s = true)
    (hU : (Cond.isRef (.static Bundle.tN "UNASSIGNED_STACK" Bundle.steD)).before args s = true) (hN : (Cond.isRef (.static Bundle.tN "SUPPRESSED_SENTINEL" Bundle.listD)).before args s = true)
    (lU : (Cond.laysStatic Bundle.tN "UNASSIGNED_STACK" Bundle.steD).before args s = true) (lN : (Cond.laysStatic Bundle.tN "SUPPRESSED_SENTINEL" Bundle.listD).before args s = true) : ∀ w ∈ L, w.before args s = true := by
  intro w hw
  by_cases e1 : w = .isRef (.static Bundle.tN "UNASSIGNED_STACK" Bundle.steD)
  · rw [e1]; exact hU
  · by_cases e2 : w = .isRef (.static Bundle.tN "SUPPRESSED_SENTINEL" Bundle.listD)
    · rw [e2]; exact hN
    · by_cases e3 : w = .laysStatic Bundle.tN "UNASSIGNED_STACK" Bundle.steD
      · rw [e3]; exact lU
      · by_cases e4 : w = .laysStatic Bundle.tN "SUPPRESSED_SENTINEL" Bundle.listD
        · rw [e4]; exact lN
        · exact h1 w (List.mem_filter.mpr ⟨hw, by unfold vx_no; rw [decide_eq_true e1, decide_eq_true e2, decide_eq_true e3, decide_eq_true e4]; rfl⟩)
/-- where a static field lies, its class's statics cell in H -/
def vx_L (C n d : String) (A : Nat → Prop) (U : State) (H : Heap) : Prop := ∃ (c : ClassId) (k : Class) (i : Nat) (f : Field) (a : Nat) (cell : Cell), U.vm.findClass C = some c ∧ U.fieldFound? C n d = some (c, k, i, f) ∧ f.isStatic = true ∧ k.statics = some a ∧ H[a]? = some cell ∧ cell.vm.isStatics = true ∧ cell.cls = c ∧ f.slot < cell.slots.size ∧ k.staticTypes[f.slot]? = some f.type ∧ ¬ A a
theorem vx_L.moved {C n d : String} {A : Nat → Prop} {u U : State} {H : Heap} (hvm : u.vm.Alike U.vm) (h : vx_L C n d A u H) : vx_L C n d A U H := by
  obtain ⟨c, k, i, f, a, cell, h1, h2, h3, h4, h5, h6, h7, h8, h9, h10⟩ := h
  obtain ⟨k', hi', he⟩ := State.fieldFound?_setVm hvm h2
  exact ⟨c, k', i, f, a, cell, by rw [hvm.findClass]; exact h1, hi', h3, by rw [he]; exact h4, h5, h6, h7, h8, by rw [he]; exact h9, h10⟩
theorem vx_L.kept {C n d : String} {A : Nat → Prop} {U : State} {H H1 : Heap} (h : vx_L C n d A U H) (hq : ∀ a : Nat, a < H.size → ¬ A a → H1[a]? = H[a]?) : vx_L C n d A U H1 := by
  obtain ⟨c, k, i, f, a, cell, h1, h2, h3, h4, h5, h6, h7, h8, h9, h10⟩ := h
  exact ⟨c, k, i, f, a, cell, h1, h2, h3, h4, by rw [hq a (Array.getElem?_eq_some_iff.mp h5).1 h10]; exact h5, h6, h7, h8, h9, h10⟩
theorem vx_L.narrow {C n d : String} {A B : Nat → Prop} {U : State} {H : Heap} (h : vx_L C n d A U H) (hAB : ∀ q, B q → A q) : vx_L C n d B U H := by
  obtain ⟨c, k, i, f, a, cell, h1, h2, h3, h4, h5, h6, h7, h8, h9, h10⟩ := h
  exact ⟨c, k, i, f, a, cell, h1, h2, h3, h4, h5, h6, h7, h8, h9, fun z => h10 (hAB _ z)⟩
theorem vx_L.word {C n d : String} {A : Nat → Prop} {s : State} {args : Array Value} (h : vx_L C n d A s s.heap) : (Cond.laysStatic C n d).before args s = true := by
  obtain ⟨c, k, i, f, a, cell, h1, h2, h3, h4, h5, h6, h7, h8, h9, -⟩ := h
  show (Cond.laysStatic C n d).holds args s none s [] = true
  exact Cond.laysStatic_of h1 h2 h3 h4 h5 h6 h7 h8 h9
/-- .. and what it holds: null or some reference -/
def vx_Zq (C n d : String) (A : Nat → Prop) (U : State) (H : Heap) : Prop := va_Zq C n d A U H ∧ vx_L C n d A U H
theorem vx_Zq.moved {C n d : String} {A : Nat → Prop} {u U : State} {H : Heap} (hvm : u.vm.Alike U.vm) (h : vx_Zq C n d A u H) : vx_Zq C n d A U H := ⟨va_Zq.moved hvm h.1, vx_L.moved hvm h.2⟩
theorem vx_Zq.kept {C n d : String} {A : Nat → Prop} {U : State} {H H1 : Heap} (h : vx_Zq C n d A U H) (hq : ∀ a : Nat, a < H.size → ¬ A a → H1[a]? = H[a]?) : vx_Zq C n d A U H1 := ⟨va_Zq.kept h.1 hq, vx_L.kept h.2 hq⟩
theorem vx_Zq.narrow {C n d : String} {A B : Nat → Prop} {U : State} {H : Heap} (h : vx_Zq C n d A U H) (hAB : ∀ q, B q → A q) : vx_Zq C n d B U H := ⟨va_Zq.narrow h.1 hAB, vx_L.narrow h.2 hAB⟩
theorem vx_Zqof {args : Array Value} {s : State} {C n d : String} {A : Nat → Prop} (hl : (Cond.laysStatic C n d).before args s = true) (hini : (Cond.initialized C).before args s = true) (h : (Cond.isRef (.static C n d)).before args s = true) (hA : ∀ a : Nat, a < s.heap.size → ¬ A a) : vx_Zq C n d A s s.heap := by
  refine ⟨va_Zqof hl hini h hA, ?_⟩
  obtain ⟨c, k, i, f, a, cell, h1, h2, h3, h4, h5, h6, h7, h8, h9⟩ := Cond.laysStatic_spec hl
  exact ⟨c, k, i, f, a, cell, h1, h2, h3, h4, h5, h6, h7, h8, h9, hA a (Array.getElem?_eq_some_iff.mp h5).1⟩
theorem vx_isRef {C n d : String} {v : Value} {A : Nat → Prop} {s : State} {args : Array Value} (h : va_Z C n d v A s s.heap) (hv : v.isRef = true) : (Cond.isRef (.static C n d)).before args s = true := by
  obtain ⟨cf, kf, fi, f, a, cell, h1, h2, h3, h4, h5, h6, h7, -⟩ := h
  have he : (Term.static C n d).eval args s none [] s = some v := by
    simp [Term.eval, State.fieldNamed?, h1, h2, h4, h5, h6, h7]
  simp only [Cond.before, Cond.holds, Cond.value, he]
  cases v <;> simp_all [Value.isRef]
theorem vx_isRefq {C n d : String} {A : Nat → Prop} {s : State} {args : Array Value} (h : va_Zq C n d A s s.heap) : (Cond.isRef (.static C n d)).before args s = true := by
  rcases h with h | ⟨t, h⟩
  · exact vx_isRef h rfl
  · exact vx_isRef h rfl
/-- the same frame, seen from here: as if the method were called anew in this heap -/
theorem vx_rebase {T : State} (X : Stand p l e R s m args below meth c T locs cells slots) {R' : Room} (hf : R'.frames ≤ R.frames) (hl : R'.locals ≤ R.locals) (hc : cells + R'.cells ≤ R.cells) (hs : slots + R'.slots ≤ R.slots) :
    Stand p l e R' ((T.setVm s.vm).setFrames (.invoking m args :: below)) m args below meth c T [] 0 0 := by
  have htop : (T.setVm s.vm).topJava?.isSome := X.here.top
  have hF : ((T.setVm s.vm).setFrames (.invoking m args :: below)).frames = .invoking m args :: below := State.frames_setFrames _ (State.cur_lt_of_top htop)
  obtain ⟨g₀, hg0⟩ := Option.isSome_iff_exists.mp htop
  obtain ⟨r, hr⟩ := State.topJava?_eq_some.mp hg0
  have hl9 : e.platform.stackLimits (T.setVm s.vm).me = e.platform.stackLimits s.me := X.limits
  have hb9 : (T.setVm s.vm).me.stackBytes = s.me.stackBytes := X.bytes
  refine ⟨X.admits, X.cas, X.clock, hF, ?_, X.hears, X.method, X.code, X.here, X.tail, X.warmed, ?_, ?_, ?_⟩
  · have h := X.room
    have hU : ((T.setVm s.vm).setFrames (.invoking m args :: below)).localsInUse = s.localsInUse := by
      rw [State.localsInUse_invoking hF (meth := meth) (c := c) X.method X.code, State.localsInUse_invoking X.frames X.method X.code]
    simp only [State.hasRoom, Bool.and_eq_true, decide_eq_true_eq] at h ⊢
    obtain ⟨⟨⟨⟨h1, h2, h3, h4, h5, h6⟩, h7⟩, h8⟩, h9⟩ := h
    rw [X.frames, List.length_cons] at h2 h3
    have q1 := X.heapSize
    have q2 := X.used
    simp only [hF, hU, List.length_cons, State.stackLimits_setFrames, State.stackBytes_setFrames, hl9, hb9]
    refine ⟨⟨⟨⟨by omega, by omega, by omega, by omega, by omega, h6⟩, ?_⟩, ?_⟩, X.book⟩
    · show T.heap.size + R'.cells ≤ e.platform.maxCells
      omega
    · show T.slotsUsed + R'.slots ≤ e.platform.maxSlots
      omega
  · rw [State.stackLimits_setFrames]; rfl
  · rw [State.stackBytes_setFrames]; rfl
  · refine ⟨?_, Nat.le_refl _, Nat.le_refl _, ?_, ?_, fun a c9 h9 => ⟨c9, h9, rfl, rfl, fun _ _ => rfl⟩⟩
    · obtain ⟨t, ht, -⟩ := State.frames_cons hr
      show T.setVm s.vm = { ((T.setVm s.vm).setFrames (.invoking m args :: below)).setFrames (T.setVm s.vm).frames with heap := T.heap, slotsUsed := T.slotsUsed }
      rw [State.setFrames_setFrames, State.setFrames_self ht]
      rfl
    · show T.slotsUsed = T.slotsUsed + ((T.heap.toList.drop T.heap.size).map (·.slots.size)).sum
      rw [List.drop_eq_nil_of_le (Nat.le_of_eq Array.length_toList)]
      rfl
    · show ((T.heap.toList.drop T.heap.size).map (·.slots.size)).sum ≤ 0
      rw [List.drop_eq_nil_of_le (Nat.le_of_eq Array.length_toList)]
      exact Nat.le_refl _
/-- 'throw new E()': new; dup; invokespecial; athrow -/
theorem vx_throw0 {cc : ByteArray} {pc : Nat} (hexec : p.tables.exec = Jvm.exec) (hb : c.code = cc) (hl : l.stackTraces = false) {own cls : String} {names : List String} {ik ic mc ms : Nat} {A : Nat → Prop}
    (hown : s.vm.findClass own = some m.cls) (hcls : Bundle.fit cls = true) (hnames : ∀ n ∈ names, Bundle.fit n = true)
    (hk : (Cond.classLink own ik cls).before args s = true) (hini : (Cond.initialized cls).before args s = true) (hat : ∀ w ∈ vx_at0 own ic cls names, w.before args s = true)
    (hgood : ∀ w ∈ Cond.classLink own ik cls :: Cond.initialized cls :: vx_at0 own ic cls names, vx_ot w = true)
    (hU : vx_Zq Bundle.tN "UNASSIGNED_STACK" Bundle.steD A s s.heap) (hN : vx_Zq Bundle.tN "SUPPRESSED_SENTINEL" Bundle.listD A s s.heap) (hS : va_S A s.heap H locs) (hsize : ls.size = c.maxLocals)
    (d0 : decode cc pc = .ok (.new ik, 3)) (d3 : decode cc (pc + 3) = .ok (.dup, 1)) (d4 : decode cc (pc + 4) = .ok (.invokespecial ic, 3)) (d7 : decode cc (pc + 7) = .ok (.athrow, 1))
    (hout : ∀ x ∈ c.exceptionTable.toList, covers x (pc + 7) = false)
    (hRframes : names.length + 3 < R.frames) (hRlocals : (rest.map fun v => v.category).sum + (13 * (names.length + 1) + 42) ≤ R.locals) (hRcells : cells + 1 ≤ R.cells) (hRslots : slots + 6 ≤ R.slots) (hlocks : meth.locks = false)
    (hx : ∀ t : State, s.vm.Alike t.vm → H.size ≤ t.heap.size → (∀ q : Nat, q < H.size → t.heap[q]? = H[q]?) → XC cls s t)
    (hf : ∀ z ∈ locs, free z.base) (hc : cells + 1 ≤ mc) (hs : slots + 6 ≤ ms) :
    W p l e R s m args below meth c H locs cells slots (vx_MQ below Qc XC args s mc ms free) (F0 m pc ls rest) := by
  intro T hT X
  have htr : e.platform.stackTraces = false := (show e.platform.stackTraces = l.stackTraces by rw [X.admits.platform]).trans hl
  have Y := vx_rebase X (R' := { frames := R.frames, locals := R.locals, cells := 1, slots := 6 }) (Nat.le_refl _) (Nat.le_refl _) hRcells hRslots
  obtain ⟨s', hA⟩ : ∃ z, z = (T.setVm s.vm).setFrames (.invoking m args :: below) := ⟨_, rfl⟩
  rw [← hA] at Y
  have hvm : s'.vm = s.vm := by rw [hA]; rfl
  have hhp : s'.heap = H := by rw [hA]; exact hT
  have hW0 : s.WarmedH s'.vm := by rw [hvm]; exact State.WarmedH.refl s
  have hat' : ∀ w ∈ vx_at0 own ic cls names, w.before args s' = true := fun w hw => vx_ot_at hW0 hvm.symm (hgood w (List.mem_cons_of_mem _ (List.mem_cons_of_mem _ hw))) (hat w hw)
  have hk' : (Cond.classLink own ik cls).before args s' = true := vx_ot_at hW0 hvm.symm (hgood _ List.mem_cons_self) hk
  have hini' : (Cond.initialized cls).before args s' = true := vx_ot_at hW0 hvm.symm (hgood _ (List.mem_cons_of_mem _ List.mem_cons_self)) hini
  have hU' : vx_Zq Bundle.tN "UNASSIGNED_STACK" Bundle.steD A s' s'.heap := by rw [hhp]; exact vx_Zq.moved hW0.alike (hU.kept hS.2.1)
  have hN' : vx_Zq Bundle.tN "SUPPRESSED_SENTINEL" Bundle.listD A s' s'.heap := by rw [hhp]; exact vx_Zq.moved hW0.alike (hN.kept hS.2.1)
  have h : ∀ w ∈ Bundle.ownAtoms0 own ic cls names, w.before args s' = true := vx_own hat' (vx_isRefq hU'.1) (vx_isRefq hN'.1) hU'.2.word hN'.2.word
  have hown' : s'.vm.findClass own = some m.cls := by rw [hvm]; exact hown
  have hins : (Cond.instantiable cls 6).before args s' = true := h _ (by simp [Bundle.ownAtoms0])
  obtain ⟨vm₁, cX, kX, hfX, hkX, -, -, X₁, st1⟩ := Y.newCold hexec (own := own) (C := cls) (index := ik) (n := 6) hown' hk' hins hini'
    (g := F0 m pc ls rest) rfl (by rw [hb]; exact d0) (Nat.le_refl _) (Nat.le_refl _)
  generalize hT1 : (T.setVm vm₁).pushCell { cls := cX, slots := kX.instanceTypes.map defaultValue, vm := .none } = T1 at X₁ st1
  have hcat : (Value.ref T.heap.size).category = 1 := rfl
  have hcellA : T1.heap[T.heap.size]? = some (freshCell cX kX) := by rw [← hT1]; exact State.heap_pushCell_size _ _
  have d3' : decode c.code (pc + 3) = .ok (.dup, 1) := by rw [hb]; exact d3
  obtain ⟨U, hsteps, hrun, hend, hW, hsame, ce, hce, hO⟩ := X₁.ctorThrow0 hexec htr (own := own) (cls := cls) (names := names) (ic := ic) hown' hcls hnames h (fun x hx => nomatch hx) hfX hkX hcellA (by rw [hhp, hT]; exact Nat.le_refl _)
    (g := { method := m, pc := pc + 4, locals := ls, stack := .ref T.heap.size :: .ref T.heap.size :: rest, locked := none }) rfl hsize rfl rfl (rest := rest) rfl
    (by rw [hb]; exact d4) (by rw [hb]; exact d7) hout hRframes (by simp only [List.map_cons, List.sum_cons, hcat]; omega) hlocks
  obtain ⟨f1, f2⟩ := vx_frame hsame
  rw [hhp] at f1 f2
  have hWs : s.WarmedH U.vm := State.WarmedH.trans hW0 hW
  have hcl : s.vm.findClass cls = some ce.cls := by
    have h9 := hO.cls
    rw [hvm] at h9
    exact h9
  have hall : s.sameButNew ({ U with vm := s.vm } : State) locs mc ms := by
    subst hA
    obtain ⟨e1, e2⟩ := hsame
    rw [State.setFrames_setFrames] at e1
    have h2 : (T.setVm s.vm).sameButNew ({ U with vm := s.vm } : State) [] (0 + 1) (0 + 6) := ⟨e1, e2⟩
    have h3 := X.same.trans h2
    rw [List.append_nil] at h3
    exact h3.mono hc hs
  refine ⟨U, ?_, .threw T.heap.size, hrun, hend, Or.inr ⟨T.heap.size, rfl, cls, ce, locs, hx U hWs.alike f1 (fun q hq => f2 q hq (fun z hz => nomatch hz)), hce, hO.vm, hcl, hWs, hall, hf⟩⟩
  refine st1 _ ?_
  show Steps p.tables e below (T1.setTop { method := m, pc := pc + 3, locals := ls, stack := .ref T.heap.size :: rest, locked := none }) _
  jvm_step X₁.here [X₁.here.top, hexec, d3', Value.category]
  exact hsteps
/-- 'throw new E("text")': new; dup; ldc; invokespecial; athrow -/
theorem vx_throwS {cc : ByteArray} {pc : Nat} (hexec : p.tables.exec = Jvm.exec) (hb : c.code = cc) (hl : l.stackTraces = false) {own cls text : String} {names : List String} {ik is ic mc ms sa : Nat} {A : Nat → Prop}
    (hown : s.vm.findClass own = some m.cls) (hcls : Bundle.fit cls = true) (hnames : ∀ n ∈ names, Bundle.fit n = true)
    (hk : (Cond.classLink own ik cls).before args s = true) (hini : (Cond.initialized cls).before args s = true) (hstr : vk_R own is text sa s) (hat : ∀ w ∈ vx_atS own ic cls names, w.before args s = true)
    (hgood : ∀ w ∈ Cond.classLink own ik cls :: Cond.initialized cls :: vx_atS own ic cls names, vx_ot w = true)
    (hU : vx_Zq Bundle.tN "UNASSIGNED_STACK" Bundle.steD A s s.heap) (hN : vx_Zq Bundle.tN "SUPPRESSED_SENTINEL" Bundle.listD A s s.heap) (hS : va_S A s.heap H locs) (hsize : ls.size = c.maxLocals)
    (d0 : decode cc pc = .ok (.new ik, 3)) (d3 : decode cc (pc + 3) = .ok (.dup, 1)) (d4 : decode cc (pc + 4) = .ok (.ldc is, 2)) (d6 : decode cc (pc + 6) = .ok (.invokespecial ic, 3)) (d9 : decode cc (pc + 9) = .ok (.athrow, 1))
    (hout : ∀ x ∈ c.exceptionTable.toList, covers x (pc + 9) = false)
    (hRframes : names.length + 3 < R.frames) (hRlocals : (rest.map fun v => v.category).sum + (13 * (names.length + 1) + 43) ≤ R.locals) (hRcells : cells + 1 ≤ R.cells) (hRslots : slots + 6 ≤ R.slots) (hlocks : meth.locks = false)
    (hx : ∀ t : State, s.vm.Alike t.vm → H.size ≤ t.heap.size → (∀ q : Nat, q < H.size → t.heap[q]? = H[q]?) → XC cls s t)
    (hf : ∀ z ∈ locs, free z.base) (hc : cells + 1 ≤ mc) (hs : slots + 6 ≤ ms) :
    W p l e R s m args below meth c H locs cells slots (vx_MQ below Qc XC args s mc ms free) (F0 m pc ls rest) := by
  intro T hT X
  have htr : e.platform.stackTraces = false := (show e.platform.stackTraces = l.stackTraces by rw [X.admits.platform]).trans hl
  have Y := vx_rebase X (R' := { frames := R.frames, locals := R.locals, cells := 1, slots := 6 }) (Nat.le_refl _) (Nat.le_refl _) hRcells hRslots
  obtain ⟨s', hA⟩ : ∃ z, z = (T.setVm s.vm).setFrames (.invoking m args :: below) := ⟨_, rfl⟩
  rw [← hA] at Y
  have hvm : s'.vm = s.vm := by rw [hA]; rfl
  have hhp : s'.heap = H := by rw [hA]; exact hT
  have hW0 : s.WarmedH s'.vm := by rw [hvm]; exact State.WarmedH.refl s
  have hat' : ∀ w ∈ vx_atS own ic cls names, w.before args s' = true := fun w hw => vx_ot_at hW0 hvm.symm (hgood w (List.mem_cons_of_mem _ (List.mem_cons_of_mem _ hw))) (hat w hw)
  have hk' : (Cond.classLink own ik cls).before args s' = true := vx_ot_at hW0 hvm.symm (hgood _ List.mem_cons_self) hk
  have hini' : (Cond.initialized cls).before args s' = true := vx_ot_at hW0 hvm.symm (hgood _ (List.mem_cons_of_mem _ List.mem_cons_self)) hini
  have hU' : vx_Zq Bundle.tN "UNASSIGNED_STACK" Bundle.steD A s' s'.heap := by rw [hhp]; exact vx_Zq.moved hW0.alike (hU.kept hS.2.1)
  have hN' : vx_Zq Bundle.tN "SUPPRESSED_SENTINEL" Bundle.listD A s' s'.heap := by rw [hhp]; exact vx_Zq.moved hW0.alike (hN.kept hS.2.1)
  have h : ∀ w ∈ Bundle.ownAtoms own ic cls names, w.before args s' = true := vx_own hat' (vx_isRefq hU'.1) (vx_isRefq hN'.1) hU'.2.word hN'.2.word
  have hown' : s'.vm.findClass own = some m.cls := by rw [hvm]; exact hown
  have hins : (Cond.instantiable cls 6).before args s' = true := h _ (by simp [Bundle.ownAtoms])
  obtain ⟨vm₁, cX, kX, hfX, hkX, -, -, X₁, st1⟩ := Y.newCold hexec (own := own) (C := cls) (index := ik) (n := 6) hown' hk' hins hini'
    (g := F0 m pc ls rest) rfl (by rw [hb]; exact d0) (Nat.le_refl _) (Nat.le_refl _)
  generalize hT1 : (T.setVm vm₁).pushCell { cls := cX, slots := kX.instanceTypes.map defaultValue, vm := .none } = T1 at X₁ st1
  have hcat : (Value.ref T.heap.size).category = 1 := rfl
  have hcellA : T1.heap[T.heap.size]? = some (freshCell cX kX) := by rw [← hT1]; exact State.heap_pushCell_size _ _
  have d3' : decode c.code (pc + 3) = .ok (.dup, 1) := by rw [hb]; exact d3
  have d4' : decode c.code (pc + 4) = .ok (.ldc is, 2) := by rw [hb]; exact d4
  have hstr' : vk_R own is text sa s' := vk_R.warm hW0 hstr
  obtain ⟨U, hsteps, hrun, hend, hW, hsame, ce, hce, hO⟩ := X₁.ctorThrowS hexec htr (own := own) (cls := cls) (names := names) (ic := ic) hown' hcls hnames h (fun x hx => nomatch hx) hfX hkX hcellA (by rw [hhp, hT]; exact Nat.le_refl _) (msg := .ref sa) rfl
    (g := { method := m, pc := pc + 6, locals := ls, stack := .ref sa :: .ref T.heap.size :: .ref T.heap.size :: rest, locked := none }) rfl hsize rfl rfl (rest := rest) rfl
    (by rw [hb]; exact d6) (by rw [hb]; exact d9) hout hRframes (by simp only [List.map_cons, List.sum_cons, hcat]; omega) hlocks
  obtain ⟨f1, f2⟩ := vx_frame hsame
  rw [hhp] at f1 f2
  have hWs : s.WarmedH U.vm := State.WarmedH.trans hW0 hW
  have hcl : s.vm.findClass cls = some ce.cls := by
    have h9 := hO.cls
    rw [hvm] at h9
    exact h9
  have hall : s.sameButNew ({ U with vm := s.vm } : State) locs mc ms := by
    subst hA
    obtain ⟨e1, e2⟩ := hsame
    rw [State.setFrames_setFrames] at e1
    have h2 : (T.setVm s.vm).sameButNew ({ U with vm := s.vm } : State) [] (0 + 1) (0 + 6) := ⟨e1, e2⟩
    have h3 := X.same.trans h2
    rw [List.append_nil] at h3
    exact h3.mono hc hs
  refine ⟨U, ?_, .threw T.heap.size, hrun, hend, Or.inr ⟨T.heap.size, rfl, cls, ce, locs, hx U hWs.alike f1 (fun q hq => f2 q hq (fun z hz => nomatch hz)), hce, hO.vm, hcl, hWs, hall, hf⟩⟩
  refine st1 _ ?_
  show Steps p.tables e below (T1.setTop { method := m, pc := pc + 3, locals := ls, stack := .ref T.heap.size :: rest, locked := none }) _
  jvm_step X₁.here [X₁.here.top, hexec, d3', Value.category]
  exact X₁.ldcString hexec (own := own) (text := text) (index := is) (a := sa) hown' hstr'.1 hstr'.2
    (g := { method := m, pc := pc + 4, locals := ls, stack := .ref T.heap.size :: .ref T.heap.size :: rest, locked := none }) rfl d4' _ hsteps
/-- 'throw new E("text")', the text by a wide index -/
theorem vx_throwSW {cc : ByteArray} {pc : Nat} (hexec : p.tables.exec = Jvm.exec) (hb : c.code = cc) (hl : l.stackTraces = false) {own cls text : String} {names : List String} {ik is ic mc ms sa : Nat} {A : Nat → Prop}
    (hown : s.vm.findClass own = some m.cls) (hcls : Bundle.fit cls = true) (hnames : ∀ n ∈ names, Bundle.fit n = true)
    (hk : (Cond.classLink own ik cls).before args s = true) (hini : (Cond.initialized cls).before args s = true) (hstr : vk_R own is text sa s) (hat : ∀ w ∈ vx_atS own ic cls names, w.before args s = true)
    (hgood : ∀ w ∈ Cond.classLink own ik cls :: Cond.initialized cls :: vx_atS own ic cls names, vx_ot w = true)
    (hU : vx_Zq Bundle.tN "UNASSIGNED_STACK" Bundle.steD A s s.heap) (hN : vx_Zq Bundle.tN "SUPPRESSED_SENTINEL" Bundle.listD A s s.heap) (hS : va_S A s.heap H locs) (hsize : ls.size = c.maxLocals)
    (d0 : decode cc pc = .ok (.new ik, 3)) (d3 : decode cc (pc + 3) = .ok (.dup, 1)) (d4 : decode cc (pc + 4) = .ok (.ldc_w is, 3)) (d7 : decode cc (pc + 7) = .ok (.invokespecial ic, 3)) (d10 : decode cc (pc + 10) = .ok (.athrow, 1))
    (hout : ∀ x ∈ c.exceptionTable.toList, covers x (pc + 10) = false)
    (hRframes : names.length + 3 < R.frames) (hRlocals : (rest.map fun v => v.category).sum + (13 * (names.length + 1) + 43) ≤ R.locals) (hRcells : cells + 1 ≤ R.cells) (hRslots : slots + 6 ≤ R.slots) (hlocks : meth.locks = false)
    (hx : ∀ t : State, s.vm.Alike t.vm → H.size ≤ t.heap.size → (∀ q : Nat, q < H.size → t.heap[q]? = H[q]?) → XC cls s t)
    (hf : ∀ z ∈ locs, free z.base) (hc : cells + 1 ≤ mc) (hs : slots + 6 ≤ ms) :
    W p l e R s m args below meth c H locs cells slots (vx_MQ below Qc XC args s mc ms free) (F0 m pc ls rest) := by
  intro T hT X
  have htr : e.platform.stackTraces = false := (show e.platform.stackTraces = l.stackTraces by rw [X.admits.platform]).trans hl
  have Y := vx_rebase X (R' := { frames := R.frames, locals := R.locals, cells := 1, slots := 6 }) (Nat.le_refl _) (Nat.le_refl _) hRcells hRslots
  obtain ⟨s', hA⟩ : ∃ z, z = (T.setVm s.vm).setFrames (.invoking m args :: below) := ⟨_, rfl⟩
  rw [← hA] at Y
  have hvm : s'.vm = s.vm := by rw [hA]; rfl
  have hhp : s'.heap = H := by rw [hA]; exact hT
  have hW0 : s.WarmedH s'.vm := by rw [hvm]; exact State.WarmedH.refl s
  have hat' : ∀ w ∈ vx_atS own ic cls names, w.before args s' = true := fun w hw => vx_ot_at hW0 hvm.symm (hgood w (List.mem_cons_of_mem _ (List.mem_cons_of_mem _ hw))) (hat w hw)
  have hk' : (Cond.classLink own ik cls).before args s' = true := vx_ot_at hW0 hvm.symm (hgood _ List.mem_cons_self) hk
  have hini' : (Cond.initialized cls).before args s' = true := vx_ot_at hW0 hvm.symm (hgood _ (List.mem_cons_of_mem _ List.mem_cons_self)) hini
  have hU' : vx_Zq Bundle.tN "UNASSIGNED_STACK" Bundle.steD A s' s'.heap := by rw [hhp]; exact vx_Zq.moved hW0.alike (hU.kept hS.2.1)
  have hN' : vx_Zq Bundle.tN "SUPPRESSED_SENTINEL" Bundle.listD A s' s'.heap := by rw [hhp]; exact vx_Zq.moved hW0.alike (hN.kept hS.2.1)
  have h : ∀ w ∈ Bundle.ownAtoms own ic cls names, w.before args s' = true := vx_own hat' (vx_isRefq hU'.1) (vx_isRefq hN'.1) hU'.2.word hN'.2.word
  have hown' : s'.vm.findClass own = some m.cls := by rw [hvm]; exact hown
  have hins : (Cond.instantiable cls 6).before args s' = true := h _ (by simp [Bundle.ownAtoms])
  obtain ⟨vm₁, cX, kX, hfX, hkX, -, -, X₁, st1⟩ := Y.newCold hexec (own := own) (C := cls) (index := ik) (n := 6) hown' hk' hins hini'
    (g := F0 m pc ls rest) rfl (by rw [hb]; exact d0) (Nat.le_refl _) (Nat.le_refl _)
  generalize hT1 : (T.setVm vm₁).pushCell { cls := cX, slots := kX.instanceTypes.map defaultValue, vm := .none } = T1 at X₁ st1
  have hcat : (Value.ref T.heap.size).category = 1 := rfl
  have hcellA : T1.heap[T.heap.size]? = some (freshCell cX kX) := by rw [← hT1]; exact State.heap_pushCell_size _ _
  have d3' : decode c.code (pc + 3) = .ok (.dup, 1) := by rw [hb]; exact d3
  have d4' : decode c.code (pc + 4) = .ok (.ldc_w is, 3) := by rw [hb]; exact d4
  have hstr' : vk_R own is text sa s' := vk_R.warm hW0 hstr
  obtain ⟨U, hsteps, hrun, hend, hW, hsame, ce, hce, hO⟩ := X₁.ctorThrowS hexec htr (own := own) (cls := cls) (names := names) (ic := ic) hown' hcls hnames h (fun x hx => nomatch hx) hfX hkX hcellA (by rw [hhp, hT]; exact Nat.le_refl _) (msg := .ref sa) rfl
    (g := { method := m, pc := pc + 7, locals := ls, stack := .ref sa :: .ref T.heap.size :: .ref T.heap.size :: rest, locked := none }) rfl hsize rfl rfl (rest := rest) rfl
    (by rw [hb]; exact d7) (by rw [hb]; exact d10) hout hRframes (by simp only [List.map_cons, List.sum_cons, hcat]; omega) hlocks
  obtain ⟨f1, f2⟩ := vx_frame hsame
  rw [hhp] at f1 f2
  have hWs : s.WarmedH U.vm := State.WarmedH.trans hW0 hW
  have hcl : s.vm.findClass cls = some ce.cls := by
    have h9 := hO.cls
    rw [hvm] at h9
    exact h9
  have hall : s.sameButNew ({ U with vm := s.vm } : State) locs mc ms := by
    subst hA
    obtain ⟨e1, e2⟩ := hsame
    rw [State.setFrames_setFrames] at e1
    have h2 : (T.setVm s.vm).sameButNew ({ U with vm := s.vm } : State) [] (0 + 1) (0 + 6) := ⟨e1, e2⟩
    have h3 := X.same.trans h2
    rw [List.append_nil] at h3
    exact h3.mono hc hs
  refine ⟨U, ?_, .threw T.heap.size, hrun, hend, Or.inr ⟨T.heap.size, rfl, cls, ce, locs, hx U hWs.alike f1 (fun q hq => f2 q hq (fun z hz => nomatch hz)), hce, hO.vm, hcl, hWs, hall, hf⟩⟩
  refine st1 _ ?_
  show Steps p.tables e below (T1.setTop { method := m, pc := pc + 3, locals := ls, stack := .ref T.heap.size :: rest, locked := none }) _
  jvm_step X₁.here [X₁.here.top, hexec, d3', Value.category]
  exact X₁.ldcStringW hexec (own := own) (text := text) (index := is) (a := sa) hown' hstr'.1 hstr'.2
    (g := { method := m, pc := pc + 4, locals := ls, stack := .ref T.heap.size :: .ref T.heap.size :: rest, locked := none }) rfl d4' _ hsteps
end Ends
section Bodies
variable {l : Launch}
theorem vx_ofW {y : MethodName} {ws ws' : List Cond} {rm : Room} {Pc : Array Value → State → Prop} {Qc : Array Value → State → Outcome → State → Prop} {XC : String → State → State → Prop} {mc ms : Nat} {free : Addr → Prop} {cc : ByteArray} {maxL : Nat} {ret : Option FieldType}
    (hy : plainName y.cls = true) (hw : ws = Cond.code y cc maxL ret :: ws')
    (body : ∀ p e s m args below meth c s₁, BodyLoose p l y (headSpec ws rm) cc maxL ret e s m args below meth c s₁ → c.maxLocals = maxL → (∀ x ∈ c.exceptionTable.toList, False) → Pc args s →
      W p l e (headSpec ws rm).room s m args below meth c s.heap [] 0 0 (vx_MQ below Qc XC args s mc ms free) (entryFrame m args maxL)) : vx_Met l y ws rm Pc Qc XC mc ms free := by
  refine MetFree.of_bodyS (code := cc) (maxLocals := maxL) (ret := ret) hy ?_ ?_
  · intro args s m h hn
    obtain ⟨meth, c, h1, h2, h3, h4, h5, h6, -, -⟩ := Cond.code_spec hn (atoms_spec (ws := ws) h _ (by rw [hw]; exact List.mem_cons_self))
    exact ⟨meth, c, h1, h2, h3, h4, h5, h6⟩
  · intro p e s m args below meth c s₁ B hml hP _
    have hh0 : s₁.heap = s.heap := by rw [B.state]; rfl
    have ht : ∀ x ∈ c.exceptionTable.toList, False := by
      obtain ⟨meth9, c9, h1, h2, -, -, -, -, h7, -⟩ := Cond.code_spec B.named (atoms_spec (ws := ws) B.pre _ (by rw [hw]; exact List.mem_cons_self))
      cases Option.some.inj (h1.symm.trans B.method)
      cases Option.some.inj (h2.symm.trans (Stand.of_body B).code)
      intro x hx
      rw [Array.isEmpty_iff.mp h7] at hx
      cases hx
    obtain ⟨t, a1, o, b1, b2, b3⟩ := body p e s m args below meth c s₁ B hml ht hP s₁ hh0 (Stand.of_body B)
    exact ⟨t, o, a1, b1, b2, b3⟩
/-- the table of a body with handlers -/
theorem vx_table {p : Program} {x y : MethodName} {S : Spec} {cc bytes : ByteArray} {maxL maxL' : Nat} {ret ret' : Option FieldType} {e : Env} {s s₁ : State} {m : MethodId} {args : Array Value} {below : List Frame} {meth : Method} {c : Code} {hh : List (Nat × Nat × Nat × Nat)}
    (B : BodyLoose p l y S cc maxL ret e s m args below meth c s₁) (h : (Cond.codeWith y bytes maxL' ret' hh).before args s = true) : c.exceptionTable.toList = tableOf hh := by
  obtain ⟨m9, meth9, c9, hn9, h1, h2, -, -, h6, -⟩ := Cond.codeWith_spec h
  cases Option.some.inj (hn9.symm.trans B.named)
  cases Option.some.inj (h1.symm.trans B.method)
  cases Option.some.inj (h2.symm.trans (Stand.of_body B).code)
  rw [← h6, table_eq]
end Bodies
end VXA
/-! ===== END ===== -/
/-! ===== BEGIN a static call of a method with an exception table ===== -/
section VXS
variable {p : Program} {l : Launch} {e : Env} {R : Room} {s : State} {m : MethodId} {args : Array Value} {below : List Frame} {meth : Method} {c : Code} {T : State} {H : Heap} {locs : List Loc} {cells slots : Nat}
abbrev vx_CSW (R : Room) (s : State) (args : Array Value) (own : String) (index : Nat) (y : MethodName) (bytes : ByteArray) (maxL : Nat) (ret : Option FieldType) (hh : List (Nat × Nat × Nat × Nat)) (ws : List Cond) (rm : Room) (mc ms n : Nat) : Prop :=
  (rm.cells = mc ∧ rm.slots = ms ∧ rm.frames + 1 ≤ R.frames ∧ 8 + (maxL + 11) + rm.locals ≤ R.locals ∧ (∀ w ∈ ws, ∀ (a' : Array Value) (U : State), s.WarmedH U.vm → w.before a' U = true) ∧ Cond.codeWith y bytes maxL ret hh ∈ ws) ∧
  (Cond.codeWith y bytes maxL ret hh).before args s = true ∧ (Cond.initialized y.cls).before args s = true ∧ (y.cls ≠ "java/lang/invoke/MethodHandle" ∧ y.cls ≠ "java/lang/invoke/VarHandle") ∧
  (∀ sig, parseMethodDescriptor y.desc = some sig → n = sig.parameters.length) ∧ (Cond.methodLink own index y).before args s = true ∧ (Cond.static y).before args s = true
theorem vx_cwSW {own : String} {index maxL mc ms : Nat} {y : MethodName} {bytes : ByteArray} {ret : Option FieldType} {hh : List (Nat × Nat × Nat × Nat)} {Ts ws ws' : List Cond} {rm : Room} (n : Nat) (ht : ∀ w ∈ Ts, w.before args s = true) (hT : GoodIn Ts (va_wsS own index y ws)) (hw : ws = Cond.codeWith y bytes maxL ret hh :: ws') (hrc : rm.cells = mc) (hrs : rm.slots = ms)
    (hd : y.cls ≠ "java/lang/invoke/MethodHandle" ∧ y.cls ≠ "java/lang/invoke/VarHandle" ∧ (parseMethodDescriptor y.desc).map (fun d => d.parameters.length) = some n) (hR : rm.frames + 1 ≤ R.frames ∧ 8 + (maxL + 11) + rm.locals ≤ R.locals) :
    vx_CSW R s args own index y bytes maxL ret hh ws rm mc ms n := by
  have ok : ∀ w ∈ va_wsS own index y ws, w.before args s = true := fun w h => ht w (hT w h).1
  have hG : GoodIn Ts ws := fun w h => hT w (by unfold va_wsS; exact List.mem_append_right _ h)
  have hc : Cond.codeWith y bytes maxL ret hh ∈ ws := by rw [hw]; exact List.mem_cons_self
  refine ⟨⟨hrc, hrs, hR.1, hR.2, pay_in ht hG, hc⟩, ht _ (hG _ hc).1, ok _ (by simp [va_wsS]), ⟨hd.1, hd.2.1⟩, fun sig h => ?_, ok _ (by simp [va_wsS]), ok _ (by simp [va_wsS])⟩
  have h2 := hd.2.2
  rw [h] at h2
  exact (Option.some.inj h2).symm
theorem vx_callSW (X : Stand p l e R s m args below meth c T locs cells slots) (hexec : p.tables.exec = Jvm.exec) {own : String} {index : Nat} {y : MethodName} {bytes : ByteArray} {maxL : Nat} {ret : Option FieldType} {hh : List (Nat × Nat × Nat × Nat)}
    (hown : s.vm.findClass own = some m.cls) (hlink : (Cond.methodLink own index y).before args s = true) (hstat : (Cond.static y).before args s = true) (hinit : (Cond.initialized y.cls).before args s = true)
    (hcode : (Cond.codeWith y bytes maxL ret hh).before args s = true) (hy : y.cls ≠ "java/lang/invoke/MethodHandle" ∧ y.cls ≠ "java/lang/invoke/VarHandle")
    {W9 : Nat} {Pre : Pt → Array Value → Prop} {Post : Pt → Array Value → Option Value → Pt → Prop} (hK : Back l R p e below s args y 3 W9 Pre Post)
    {g : JFrame} (hg : g.method = m) (hsize : g.locals.size = c.maxLocals) {argsL rest : List Value} (hlen : ∀ sig, parseMethodDescriptor y.desc = some sig → argsL.length = sig.parameters.length)
    (hstack : g.stack = argsL.reverse ++ rest) (hW : 2 * g.monitorRoom + (rest.map fun v => v.category).sum ≤ W9) (hdg : decode c.code g.pc = .ok (.invokestatic index, 3))
    (hpre : ∀ vm₁, s.WarmedH vm₁ → Pre ⟨T.setVm vm₁, locs, cells, slots⟩ argsL.toArray) :
    ∃ (v : Option Value) (vm₁ : Vm) (B : Pt), s.WarmedH vm₁ ∧ Stand p l e R s m args below meth c B.U B.locs B.cells B.slots ∧ Post ⟨T.setVm vm₁, locs, cells, slots⟩ argsL.toArray v B ∧
      ∀ target, Steps p.tables e below (B.U.setTop { g with pc := g.pc + 3, stack := v.toList ++ rest }) target → Steps p.tables e below (T.setTop g) target := by
  obtain ⟨mk, methM, cM, hnamed, hmethM, -, -, -, -, -, -, hsigM⟩ := Cond.codeWith_spec hcode
  have hstatic : methM.isStatic = true := Cond.static_spec hnamed hmethM hstat
  obtain ⟨kP, hkP, -⟩ := className_of_methodNamed hnamed
  have hinitP : kP.init = .initialized := Cond.initialized_spec (findClass_of_methodNamed hnamed) hkP hinit
  obtain ⟨vm₁, X₁, hstep₁⟩ := X.invokestatic hexec hown hlink hnamed hmethM hstatic hkP hinitP hy (g := g) hg (argsL := argsL) (rest := rest) (hlen _ hsigM) hstack hdg
  obtain ⟨v, B, X', hpost, hsteps⟩ := hK m meth c ⟨T.setVm vm₁, locs, cells, slots⟩ { g with stack := rest } (.invokestatic index) mk argsL.toArray X₁ hg hsize hdg hW (X₁.named hnamed) (hpre vm₁ X₁.warmed)
  exact ⟨v, vm₁, B, X₁.warmed, X', hpost, fun target h => hstep₁ _ fun acts => by rw [doInvoke_state]; exact hsteps.trans h⟩
theorem vx_runSW {y : MethodName} {bytes cc : ByteArray} {maxL nL mc ms n index : Nat} {ret : Option FieldType} {hh : List (Nat × Nat × Nat × Nat)} {ws : List Cond} {rm : Room} {Pc : Array Value → State → Prop} {Qc : Array Value → State → Outcome → State → Prop} {free : Addr → Prop} {Ts : List Cond} {own : String} {As rest : List Value} {g : JFrame}
    (S : CallFix p m c cc nL s args Ts own) (hM : Met l y ws rm Pc Qc mc ms free) (cw : vx_CSW R s args own index y bytes maxL ret hh ws rm mc ms n) (hp : PreS s H Pc As)
    (hg : g.method = m) (hn : As.length = n) (hsize : g.locals.size = nL) (hstack : g.stack = As.reverse ++ rest) (hW : 2 * g.monitorRoom + (rest.map fun v => v.category).sum ≤ 8) (hdg : decode cc g.pc = .ok (.invokestatic index, 3)) (hf : cells + mc ≤ R.cells ∧ slots + ms ≤ R.slots) :
    va_Run p l e R s m args below meth c H locs cells slots mc ms g rest (Qc As.toArray) (free) := by
  obtain ⟨⟨hrc, hrs, hfr, hlo, hws, hcw⟩, hcode, hini, hy, hlen, hl, hstt⟩ := cw
  have hK : Back l R p e below s args y 3 8 (PreOf R mc ms Pc) (PostOf Qc mc ms free) := va_backW (hh := hh) (bytes := bytes) (maxL := maxL) (ret := ret) hM hp.1 hrc hrs hfr hlo hws hcw (fun a' U hW => word_at hW (Or.inl (by first | rfl | simp [Cond.onTables, Cond.keeps, Cond.steady])) hini)
  obtain ⟨hx, hb, hml, ho, -⟩ := S
  intro T hT X
  obtain ⟨v, vm₁, ⟨U', l2, c2, s2⟩, hW₁, X', ⟨g', mk, t, L, e1, e2, hq, h1, hL, h2, h3⟩, st⟩ := vx_callSW X hx (hh := hh) (bytes := bytes) (maxL := maxL) (ret := ret) ho hl hstt hini hcode hy hK hg (hsize.trans hml.symm) (argsL := As) (rest := rest) (fun sig h => hn.trans (hlen sig h)) hstack hW (by rw [hb]; exact hdg)
    (fun vm₁ hW₁ => ⟨hf.1, hf.2, hp.2 (T.setVm vm₁) hT hW₁⟩)
  dsimp only [Pt.U, Pt.locs, Pt.cells, Pt.slots] at X' e1 e2 h1 h2 h3 st
  subst h1; subst h2; subst h3
  exact ⟨v, (T.setVm vm₁).calling g' mk As.toArray, t, U', L, hT, X', hL, e1, e2, hq, st⟩
/-- not caught here, past rows that name other classes: it goes on to the caller -/
theorem vx_outP {p : Program} {l : Launch} {e : Env} {R : Room} {s : State} {m : MethodId} {args : Array Value} {below : List Frame} {meth : Method} {c : Code} {H : Heap} {locs : List Loc} {cells slots : Nat} {free : Addr → Prop} {ls : Array Slot} {rest : List Value} {Qc : Array Value → State → Outcome → State → Prop} {XC : String → State → State → Prop}
    {pc : Nat} {own E : String} {ce : Cell} {q : Addr} {mc ms : Nat} (hown : s.vm.findClass own = some m.cls) (hlocks : meth.locks = false)
    (hpass : ∀ z ∈ c.exceptionTable.toList, covers z pc = false ∨ (z.catchType ≠ 0 ∧ ∃ nm : String, (Cond.classLink own z.catchType nm).before args s = true ∧ va_Nc E nm s)) (hcell : H[q]? = some ce) (hv : ce.vm = .none) (hcl : s.vm.findClass E = some ce.cls)
    (hx : ∀ t : State, t.heap = H → s.vm.Alike t.vm → XC E s t) (hf : ∀ z ∈ locs, free z.base) (hc : cells ≤ mc) (hs : slots ≤ ms) :
    vx_W p l e R s m args below meth c H locs cells slots (vx_MQ below Qc XC args s mc ms free) (F0 m pc ls rest) q := by
  intro T hT X
  have hpl : e.platform.magicAccessors = ({} : Platform).magicAccessors := by rw [X.admits.platform]
  obtain ⟨vm', hW', X', st⟩ := X.outThrough hlocks q (g := F0 m pc ls rest) rfl rfl rfl (cell := ce) (by rw [hT]; exact hcell) (by rw [hv]; rfl)
    (by obtain ⟨k9, h9, -⟩ := Vm.findClass_spec hcl; exact ⟨k9, h9⟩) (fun z hz => by
      rcases hpass z hz with h | ⟨hz0, nm, hl1, hn1⟩
      · exact Or.inl h
      · obtain ⟨c6, hc6, hcl6⟩ := Cond.classLink_spec hown hl1 e.platform hpl
        obtain ⟨a8, b8, h1, h2, h3⟩ := hn1
        cases Option.some.inj (h1.symm.trans hcl)
        cases Option.some.inj (h2.symm.trans hc6)
        exact Or.inr ⟨hz0, _, hcl6, h3⟩)
  obtain ⟨g₀, hfr⟩ := X'.frames_eq
  have hcell9 : ((T.setVm vm').setFrames (.throwing q :: below)).heap[q]? = some ce := by
    show T.heap[q]? = some ce
    rw [hT]; exact hcell
  have hend : Ended ((T.setVm vm').setFrames (.throwing q :: below)) below (.threw q) := State.frames_setFrames _ (State.cur_lt_of_frames hfr)
  refine ⟨(T.setVm vm').setFrames (.throwing q :: below), ?_, .threw q, X'.here.running, hend, Or.inr ⟨q, rfl, E, ce, locs, hx _ hT (X'.ends _).1.alike, hcell9, hv, hcl, (X'.ends _).1, (X'.ends _).2.mono hc hs, hf⟩⟩
  rw [X.pushThrowing_eq]
  exact st
/-- a thing of a world lies in the heap -/
theorem vx_lt {D : va_G} {cl : List vw_C} {ws : va_W} {H1 : Heap} (h : va_P D cl ws H1) {k : Nat} {q : Nat × va_E} (hk : ws[k]? = some q) : q.1 < H1.size := (h k q hk).lt
end VXS
/-! ===== END ===== -/
/-! ===== BEGIN methods with a table of their own: called by a name, returning or throwing ===== -/
section VXH
/-! vx_backW, vx_callVX, vx_callSX, vx_callVW, vx_runVW, vx_runVX, vx_runSX, vx_ofWH follow the same proofs as their sisters above (Free/Laws.lean, Shelf42/LK1.lean); vx_outP calls Shelf42/NT130.lean (outThrough). -/
section
variable {l : Launch} {R : Room} {p : Program} {e : Env} {below : List Frame} {s : State} {sargs : Array Value} {y : MethodName} {len W9 : Nat}
theorem vx_backW {ws : List Cond} {rm : Room} {Pc : Array Value → State → Prop} {Qc : Array Value → State → Outcome → State → Prop} {XC : String → State → State → Prop} {mc ms : Nat} {free : Addr → Prop} {bytes : ByteArray} {maxL : Nat} {ret : Option FieldType} {hh : List (Nat × Nat × Nat × Nat)}
    (hM : vx_Met l y ws rm Pc Qc XC mc ms free) (hblind : FrameBlind Pc) (hrc : rm.cells = mc) (hrs : rm.slots = ms)
    (hframes : rm.frames + 1 ≤ R.frames) (hlocals : W9 + (maxL + 11) + rm.locals ≤ R.locals)
    (hws : ∀ w ∈ ws, ∀ a' U, s.WarmedH U.vm → w.before a' U = true) (hcode : Cond.codeWith y bytes maxL ret hh ∈ ws) (hinit : ∀ a' U, s.WarmedH U.vm → (Cond.initialized y.cls).before a' U = true) :
    vx_Back l R p e below s sargs y len W9 (PreOf R mc ms Pc) (PostOf Qc mc ms free) (vx_Post XC mc ms free) := by
  intro m meth c A g ig mk a X hg hsize hdg hW hn hp
  have h1 : (headSpec ws rm).pre.before a A.U = true := atoms_intro fun w hw => hws w hw _ _ X.warmed
  have h2 : (Cond.codeWith y bytes maxL ret hh).before a A.U = true := hws _ hcode _ _ X.warmed
  have h3 : (Cond.initialized y.cls).before a A.U = true := hinit _ _ X.warmed
  have h4 : A.cells + (headSpec ws rm).room.cells ≤ R.cells := by rw [show (headSpec ws rm).room.cells = mc from hrc]; exact hp.1
  have h5 : A.slots + (headSpec ws rm).room.slots ≤ R.slots := by rw [show (headSpec ws rm).room.slots = ms from hrs]; exact hp.2.1
  have hPc : Pc a (A.U.calling g mk a) := hblind _ _ _ _ hp.2.2
  obtain ⟨U, Ls, c0, s0⟩ := A
  dsimp only [Pt.U, Pt.locs, Pt.cells, Pt.slots] at h1 h2 h3 h4 h5 X hn hPc ⊢
  obtain ⟨m9, methY, cY, hn9, hmY, hcY, -, hlY, -⟩ := Cond.codeWith_spec h2
  cases Option.some.inj (hn9.symm.trans hn)
  obtain ⟨kY, hkY, -⟩ := className_of_methodNamed hn
  have hinitY : kY.init = .initialized := Cond.initialized_spec (findClass_of_methodNamed hn) hkY h3
  have h : At U g.method c below := by rw [hg]; exact X.here
  have hlocals9 : W9 + (maxL + 11) + (headSpec ws rm).room.locals ≤ R.locals := hlocals
  have happ : (headSpec ws rm).appliesLoose y e.platform (U.calling g mk a) = true :=
    Spec.appliesLoose_calling (g := g) h hdg hn hkY hinitY
      (X.room_calling (g := g) (R' := (headSpec ws rm).room) hsize hmY hcY hframes (by rw [hlY]; omega) h4 h5) h1
  obtain ⟨mid, hmid⟩ := h.above
  have hfr : (U.setTop g).frames = (.java g :: mid) ++ below := by rw [State.frames_setTop' g h.top, hmid]; rfl
  obtain ⟨o, s₂, hsteps, -, hend, hq⟩ := Steps.callFree hM p X.admits X.cas X.clock (acts := []) hfr happ hPc trivial
  have hq' : vx_Q Qc XC mc ms free a (U.calling g mk a) o s₂ := hq
  rw [State.frames_setTop' g h.top] at hend
  obtain ⟨g₀, hg0⟩ := Option.isSome_iff_exists.mp h.top
  obtain ⟨r, hr⟩ := State.topJava?_eq_some.mp hg0
  have hr' : (({ U with heap := s₂.heap, slotsUsed := s₂.slotsUsed } : State).setVm s₂.vm).frames = .java g₀ :: r := hr
  rcases hq' with ⟨hqc, L, hfe, hL⟩ | ⟨q, rfl, E, ce, L, hx, hce, hcv, hcl, hW₂, hsm, hL⟩
  · obtain ⟨⟨v, rfl⟩, hW₂, e2, q2, q3, q4, q5, q6⟩ := id hfe
    have e3 : s₂ = ({ (U.calling g mk a).setFrames s₂.frames with heap := s₂.heap, slotsUsed := s₂.slotsUsed } : State).setVm s₂.vm := by
      have : s₂ = ({ s₂ with vm := (U.calling g mk a).vm } : State).setVm s₂.vm := rfl
      rw [e2] at this
      exact this
    obtain ⟨c₂, i₂, len₂, hc₂, hd₂, hf₂⟩ := hend
    have hW' : U.WarmedH s₂.vm := hW₂
    have hcc : c₂ = c := by
      have h1 : s₂.code? g.method = U.code? g.method := by
        rw [State.code?_eq, State.code?_eq, hW'.alike.method?]
      exact Option.some.inj (hc₂.symm.trans (h1.trans h.code))
    subst hcc
    have hlen : len₂ = len := by rw [hdg] at hd₂; cases hd₂; rfl
    subst hlen
    have hs₂ : s₂ = (({ U with heap := s₂.heap, slotsUsed := s₂.slotsUsed } : State).setVm s₂.vm).setTop { g with pc := g.pc + len₂, stack := v.toList ++ g.stack } := by
      refine e3.trans ?_
      rw [hf₂, State.calling_eq h.top, State.setFrames_setFrames, State.setTop_of_frames _ hr', hr]
      rfl
    have hsame : U.sameButNew ({ U with heap := s₂.heap, slotsUsed := s₂.slotsUsed } : State) L mc ms := by
      refine ⟨?_, q2, q3, q4, q5, q6⟩
      obtain ⟨t, ht, -⟩ := State.frames_cons hr
      show ({ U with heap := s₂.heap, slotsUsed := s₂.slotsUsed } : State) = { U.setFrames U.frames with heap := s₂.heap, slotsUsed := s₂.slotsUsed }
      rw [State.setFrames_self ht]
    subst hg
    refine Or.inl ⟨v, ⟨(({ U with heap := s₂.heap, slotsUsed := s₂.slotsUsed } : State).setVm s₂.vm), Ls ++ L, c0 + mc, s0 + ms⟩,
      ⟨X.admits, X.cas, X.clock, X.frames, X.room, X.hears, X.method, X.code, (X.here.setHeapUsed s₂.heap s₂.slotsUsed).setVm hW'.alike, X.tail, State.WarmedH.trans X.warmed hW', X.limits, X.bytes, X.same.trans (hsame.setVm s.vm)⟩,
      ⟨g, mk, s₂, L, rfl, rfl, hqc, rfl, hL, rfl, rfl⟩, ?_⟩
    show Steps p.tables e below _ ((({ U with heap := s₂.heap, slotsUsed := s₂.slotsUsed } : State).setVm s₂.vm).setTop { g with pc := g.pc + len₂, stack := v.toList ++ g.stack })
    rw [← hs₂]
    exact hsteps
  · obtain ⟨e2, q2, q3, q4, q5, q6⟩ := id hsm
    have e3 : s₂ = ({ (U.calling g mk a).setFrames s₂.frames with heap := s₂.heap, slotsUsed := s₂.slotsUsed } : State).setVm s₂.vm := by
      have : s₂ = ({ s₂ with vm := (U.calling g mk a).vm } : State).setVm s₂.vm := rfl
      rw [e2] at this
      exact this
    have hf₂ : s₂.frames = .throwing q :: .java g :: U.frames.tail := hend
    have hW' : U.WarmedH s₂.vm := hW₂
    have hs₂ : s₂ = ((({ U with heap := s₂.heap, slotsUsed := s₂.slotsUsed } : State).setVm s₂.vm).setTop g).pushFrame (.throwing q) := by
      refine e3.trans ?_
      rw [hf₂, State.calling_eq h.top, State.setFrames_setFrames, State.pushFrame, State.frames_setTop _ hr', State.setTop_of_frames _ hr', State.setFrames_setFrames, hr]
      rfl
    have hsame : U.sameButNew ({ U with heap := s₂.heap, slotsUsed := s₂.slotsUsed } : State) L mc ms := by
      refine ⟨?_, q2, q3, q4, q5, q6⟩
      obtain ⟨t, ht, -⟩ := State.frames_cons hr
      show ({ U with heap := s₂.heap, slotsUsed := s₂.slotsUsed } : State) = { U.setFrames U.frames with heap := s₂.heap, slotsUsed := s₂.slotsUsed }
      rw [State.setFrames_self ht]
    subst hg
    refine Or.inr ⟨q, ⟨(({ U with heap := s₂.heap, slotsUsed := s₂.slotsUsed } : State).setVm s₂.vm), Ls ++ L, c0 + mc, s0 + ms⟩,
      ⟨X.admits, X.cas, X.clock, X.frames, X.room, X.hears, X.method, X.code, (X.here.setHeapUsed s₂.heap s₂.slotsUsed).setVm hW'.alike, X.tail, State.WarmedH.trans X.warmed hW', X.limits, X.bytes, X.same.trans (hsame.setVm s.vm)⟩,
      ⟨g, mk, s₂, L, E, ce, rfl, rfl, hx, hce, hcv, hcl, rfl, hL, rfl, rfl⟩, ?_⟩
    show Steps p.tables e below _ (((({ U with heap := s₂.heap, slotsUsed := s₂.slotsUsed } : State).setVm s₂.vm).setTop g).pushFrame (.throwing q))
    rw [← hs₂]
    exact hsteps
end
variable {p : Program} {l : Launch} {e : Env} {R : Room} {s : State} {m : MethodId} {args : Array Value} {below : List Frame} {meth : Method} {c : Code} {T : State} {H : Heap} {locs : List Loc} {cells slots : Nat}
theorem vx_callVX (X : Stand p l e R s m args below meth c T locs cells slots) (hexec : p.tables.exec = Jvm.exec) {own C : String} {index : Nat} {y : MethodName} {bytes : ByteArray} {maxL : Nat} {ret : Option FieldType} {hh : List (Nat × Nat × Nat × Nat)}
    (hown : s.vm.findClass own = some m.cls) (hlink : (Cond.methodLink own index y).before args s = true) (hinst : (Cond.instanceMethod y).before args s = true) (hsel : (Cond.selects C y y).before args s = true)
    (hcode : (Cond.codeWith y bytes maxL ret hh).before args s = true) (hy : y.cls ≠ "java/lang/invoke/MethodHandle" ∧ y.cls ≠ "java/lang/invoke/VarHandle")
    {W9 : Nat} {Pre : Pt → Array Value → Prop} {Post : Pt → Array Value → Option Value → Pt → Prop} {PostX : Pt → Array Value → Addr → Pt → Prop} (hK : vx_Back l R p e below s args y 3 W9 Pre Post PostX)
    {b : Addr} {cellB : Cell} (hcell : T.heap[b]? = some cellB) (hobj : cellB.vm.isStatics = false) (hcls : s.vm.findClass C = some cellB.cls)
    {g : JFrame} (hg : g.method = m) (hsize : g.locals.size = c.maxLocals) {argsL rest : List Value} (hlen : ∀ sig, parseMethodDescriptor y.desc = some sig → argsL.length = sig.parameters.length)
    (hstack : g.stack = argsL.reverse ++ .ref b :: rest) (hW : 2 * g.monitorRoom + (rest.map fun v => v.category).sum ≤ W9) (hdg : decode c.code g.pc = .ok (.invokevirtual index, 3))
    (hpre : ∀ vm₁, s.WarmedH vm₁ → Pre ⟨T.setVm vm₁, locs, cells, slots⟩ (Value.ref b :: argsL).toArray) :
    (∃ (v : Option Value) (vm₁ : Vm) (B : Pt), s.WarmedH vm₁ ∧ Stand p l e R s m args below meth c B.U B.locs B.cells B.slots ∧ Post ⟨T.setVm vm₁, locs, cells, slots⟩ (Value.ref b :: argsL).toArray v B ∧
      ∀ target, Steps p.tables e below (B.U.setTop { g with pc := g.pc + 3, stack := v.toList ++ rest }) target → Steps p.tables e below (T.setTop g) target) ∨
    (∃ (q : Addr) (vm₁ : Vm) (B : Pt), s.WarmedH vm₁ ∧ Stand p l e R s m args below meth c B.U B.locs B.cells B.slots ∧ PostX ⟨T.setVm vm₁, locs, cells, slots⟩ (Value.ref b :: argsL).toArray q B ∧
      Steps p.tables e below (T.setTop g) ((B.U.setTop { g with stack := rest }).pushFrame (.throwing q))) := by
  obtain ⟨mk, methM, hnamed, hmethM, hstM, habM⟩ := Cond.instanceMethod_spec hinst
  obtain ⟨m8, methM', cM, hn8, hmethM', -, -, -, -, -, -, hsigM⟩ := Cond.codeWith_spec hcode
  cases Option.some.inj (hn8.symm.trans hnamed)
  cases hmethM.symm.trans hmethM'
  obtain ⟨c2, r2, m2, q1, q2, q3, q4, kP, hkP, hkPi⟩ := Cond.selects_spec hsel
  cases hcls.symm.trans q1
  cases (State.methodFound?_of_named hnamed hy).symm.trans q2
  cases hnamed.symm.trans q3
  have hselP : selectMethod e.platform s.vm cellB.cls mk = .method mk := by rw [Launch.admits_selectMethod X.admits]; exact q4
  obtain ⟨vm₁, X₁, hstep₁⟩ := X.invokevirtual hexec hown hlink hnamed hmethM hstM hkP hkPi hy (a := b) (cell := cellB) hcell
    (fun z h => by rw [h] at hobj; cases hobj) hselP hmethM habM hkP hkPi (g := g) hg (argsL := argsL) (rest := rest) (hlen _ hsigM) hstack hdg
  rcases hK m meth c ⟨T.setVm vm₁, locs, cells, slots⟩ { g with stack := rest } (.invokevirtual index) mk (Value.ref b :: argsL).toArray X₁ hg hsize hdg hW (X₁.named hnamed) (hpre vm₁ X₁.warmed) with ⟨v, B, X', hpost, hsteps⟩ | ⟨q, B, X', hpost, hsteps⟩
  · exact Or.inl ⟨v, vm₁, B, X₁.warmed, X', hpost, fun target h => hstep₁ _ fun acts => by rw [doInvoke_state]; exact hsteps.trans h⟩
  · exact Or.inr ⟨q, vm₁, B, X₁.warmed, X', hpost, hstep₁ _ fun acts => by rw [doInvoke_state]; exact hsteps⟩
theorem vx_callSX (X : Stand p l e R s m args below meth c T locs cells slots) (hexec : p.tables.exec = Jvm.exec) {own : String} {index : Nat} {y : MethodName} {bytes : ByteArray} {maxL : Nat} {ret : Option FieldType} {hh : List (Nat × Nat × Nat × Nat)}
    (hown : s.vm.findClass own = some m.cls) (hlink : (Cond.methodLink own index y).before args s = true) (hstat : (Cond.static y).before args s = true) (hinit : (Cond.initialized y.cls).before args s = true)
    (hcode : (Cond.codeWith y bytes maxL ret hh).before args s = true) (hy : y.cls ≠ "java/lang/invoke/MethodHandle" ∧ y.cls ≠ "java/lang/invoke/VarHandle")
    {W9 : Nat} {Pre : Pt → Array Value → Prop} {Post : Pt → Array Value → Option Value → Pt → Prop} {PostX : Pt → Array Value → Addr → Pt → Prop} (hK : vx_Back l R p e below s args y 3 W9 Pre Post PostX)
    {g : JFrame} (hg : g.method = m) (hsize : g.locals.size = c.maxLocals) {argsL rest : List Value} (hlen : ∀ sig, parseMethodDescriptor y.desc = some sig → argsL.length = sig.parameters.length)
    (hstack : g.stack = argsL.reverse ++ rest) (hW : 2 * g.monitorRoom + (rest.map fun v => v.category).sum ≤ W9) (hdg : decode c.code g.pc = .ok (.invokestatic index, 3))
    (hpre : ∀ vm₁, s.WarmedH vm₁ → Pre ⟨T.setVm vm₁, locs, cells, slots⟩ argsL.toArray) :
    (∃ (v : Option Value) (vm₁ : Vm) (B : Pt), s.WarmedH vm₁ ∧ Stand p l e R s m args below meth c B.U B.locs B.cells B.slots ∧ Post ⟨T.setVm vm₁, locs, cells, slots⟩ argsL.toArray v B ∧
      ∀ target, Steps p.tables e below (B.U.setTop { g with pc := g.pc + 3, stack := v.toList ++ rest }) target → Steps p.tables e below (T.setTop g) target) ∨
    (∃ (q : Addr) (vm₁ : Vm) (B : Pt), s.WarmedH vm₁ ∧ Stand p l e R s m args below meth c B.U B.locs B.cells B.slots ∧ PostX ⟨T.setVm vm₁, locs, cells, slots⟩ argsL.toArray q B ∧
      Steps p.tables e below (T.setTop g) ((B.U.setTop { g with stack := rest }).pushFrame (.throwing q))) := by
  obtain ⟨mk, methM, cM, hnamed, hmethM, -, -, -, -, -, -, hsigM⟩ := Cond.codeWith_spec hcode
  have hstatic : methM.isStatic = true := Cond.static_spec hnamed hmethM hstat
  obtain ⟨kP, hkP, -⟩ := className_of_methodNamed hnamed
  have hinitP : kP.init = .initialized := Cond.initialized_spec (findClass_of_methodNamed hnamed) hkP hinit
  obtain ⟨vm₁, X₁, hstep₁⟩ := X.invokestatic hexec hown hlink hnamed hmethM hstatic hkP hinitP hy (g := g) hg (argsL := argsL) (rest := rest) (hlen _ hsigM) hstack hdg
  rcases hK m meth c ⟨T.setVm vm₁, locs, cells, slots⟩ { g with stack := rest } (.invokestatic index) mk argsL.toArray X₁ hg hsize hdg hW (X₁.named hnamed) (hpre vm₁ X₁.warmed) with ⟨v, B, X', hpost, hsteps⟩ | ⟨q, B, X', hpost, hsteps⟩
  · exact Or.inl ⟨v, vm₁, B, X₁.warmed, X', hpost, fun target h => hstep₁ _ fun acts => by rw [doInvoke_state]; exact hsteps.trans h⟩
  · exact Or.inr ⟨q, vm₁, B, X₁.warmed, X', hpost, hstep₁ _ fun acts => by rw [doInvoke_state]; exact hsteps⟩
theorem vx_callVW (X : Stand p l e R s m args below meth c T locs cells slots) (hexec : p.tables.exec = Jvm.exec) {own C : String} {index : Nat} {y : MethodName} {bytes : ByteArray} {maxL : Nat} {ret : Option FieldType} {hh : List (Nat × Nat × Nat × Nat)}
    (hown : s.vm.findClass own = some m.cls) (hlink : (Cond.methodLink own index y).before args s = true) (hinst : (Cond.instanceMethod y).before args s = true) (hsel : (Cond.selects C y y).before args s = true)
    (hcode : (Cond.codeWith y bytes maxL ret hh).before args s = true) (hy : y.cls ≠ "java/lang/invoke/MethodHandle" ∧ y.cls ≠ "java/lang/invoke/VarHandle")
    {W9 : Nat} {Pre : Pt → Array Value → Prop} {Post : Pt → Array Value → Option Value → Pt → Prop} (hK : Back l R p e below s args y 3 W9 Pre Post)
    {b : Addr} {cellB : Cell} (hcell : T.heap[b]? = some cellB) (hobj : cellB.vm.isStatics = false) (hcls : s.vm.findClass C = some cellB.cls)
    {g : JFrame} (hg : g.method = m) (hsize : g.locals.size = c.maxLocals) {argsL rest : List Value} (hlen : ∀ sig, parseMethodDescriptor y.desc = some sig → argsL.length = sig.parameters.length)
    (hstack : g.stack = argsL.reverse ++ .ref b :: rest) (hW : 2 * g.monitorRoom + (rest.map fun v => v.category).sum ≤ W9) (hdg : decode c.code g.pc = .ok (.invokevirtual index, 3))
    (hpre : ∀ vm₁, s.WarmedH vm₁ → Pre ⟨T.setVm vm₁, locs, cells, slots⟩ (Value.ref b :: argsL).toArray) :
    ∃ (v : Option Value) (vm₁ : Vm) (B : Pt), s.WarmedH vm₁ ∧ Stand p l e R s m args below meth c B.U B.locs B.cells B.slots ∧ Post ⟨T.setVm vm₁, locs, cells, slots⟩ (Value.ref b :: argsL).toArray v B ∧
      ∀ target, Steps p.tables e below (B.U.setTop { g with pc := g.pc + 3, stack := v.toList ++ rest }) target → Steps p.tables e below (T.setTop g) target := by
  obtain ⟨mk, methM, hnamed, hmethM, hstM, habM⟩ := Cond.instanceMethod_spec hinst
  obtain ⟨m8, methM', cM, hn8, hmethM', -, -, -, -, -, -, hsigM⟩ := Cond.codeWith_spec hcode
  cases Option.some.inj (hn8.symm.trans hnamed)
  cases hmethM.symm.trans hmethM'
  obtain ⟨c2, r2, m2, q1, q2, q3, q4, kP, hkP, hkPi⟩ := Cond.selects_spec hsel
  cases hcls.symm.trans q1
  cases (State.methodFound?_of_named hnamed hy).symm.trans q2
  cases hnamed.symm.trans q3
  have hselP : selectMethod e.platform s.vm cellB.cls mk = .method mk := by rw [Launch.admits_selectMethod X.admits]; exact q4
  obtain ⟨vm₁, X₁, hstep₁⟩ := X.invokevirtual hexec hown hlink hnamed hmethM hstM hkP hkPi hy (a := b) (cell := cellB) hcell
    (fun z h => by rw [h] at hobj; cases hobj) hselP hmethM habM hkP hkPi (g := g) hg (argsL := argsL) (rest := rest) (hlen _ hsigM) hstack hdg
  obtain ⟨v, B, X', hpost, hsteps⟩ := hK m meth c ⟨T.setVm vm₁, locs, cells, slots⟩ { g with stack := rest } (.invokevirtual index) mk (Value.ref b :: argsL).toArray X₁ hg hsize hdg hW (X₁.named hnamed) (hpre vm₁ X₁.warmed)
  exact ⟨v, vm₁, B, X₁.warmed, X', hpost, fun target h => hstep₁ _ fun acts => by rw [doInvoke_state]; exact hsteps.trans h⟩
abbrev vx_CVW (R : Room) (s : State) (args : Array Value) (own C : String) (index : Nat) (y : MethodName) (bytes : ByteArray) (maxL : Nat) (ret : Option FieldType) (hh : List (Nat × Nat × Nat × Nat)) (ws : List Cond) (rm : Room) (mc ms n : Nat) : Prop :=
  (rm.cells = mc ∧ rm.slots = ms ∧ rm.frames + 1 ≤ R.frames ∧ 8 + (maxL + 11) + rm.locals ≤ R.locals ∧ (∀ w ∈ ws, ∀ (a' : Array Value) (U : State), s.WarmedH U.vm → w.before a' U = true) ∧ Cond.codeWith y bytes maxL ret hh ∈ ws) ∧
  (Cond.codeWith y bytes maxL ret hh).before args s = true ∧ (Cond.initialized y.cls).before args s = true ∧ (y.cls ≠ "java/lang/invoke/MethodHandle" ∧ y.cls ≠ "java/lang/invoke/VarHandle") ∧
  (∀ sig, parseMethodDescriptor y.desc = some sig → n = sig.parameters.length) ∧ (Cond.methodLink own index y).before args s = true ∧ (Cond.instanceMethod y).before args s = true ∧ (Cond.selects C y y).before args s = true
theorem vx_cwVW {own C : String} {index maxL mc ms : Nat} {y : MethodName} {bytes : ByteArray} {ret : Option FieldType} {hh : List (Nat × Nat × Nat × Nat)} {Ts ws ws' : List Cond} {rm : Room} (n : Nat) (ht : ∀ w ∈ Ts, w.before args s = true) (hT : GoodIn Ts (wsV own index C y ws)) (hw : ws = Cond.codeWith y bytes maxL ret hh :: ws') (hrc : rm.cells = mc) (hrs : rm.slots = ms)
    (hd : y.cls = C ∧ y.cls ≠ "java/lang/invoke/MethodHandle" ∧ y.cls ≠ "java/lang/invoke/VarHandle" ∧ (parseMethodDescriptor y.desc).map (fun d => d.parameters.length) = some n) (hR : rm.frames + 1 ≤ R.frames ∧ 8 + (maxL + 11) + rm.locals ≤ R.locals) :
    vx_CVW R s args own C index y bytes maxL ret hh ws rm mc ms n := by
  obtain ⟨hC, hd⟩ := hd
  subst hC
  have ok : ∀ w ∈ wsV own index y.cls y ws, w.before args s = true := fun w h => ht w (hT w h).1
  have hG : GoodIn Ts ws := fun w h => hT w (by unfold wsV; exact List.mem_append_right _ h)
  have hc : Cond.codeWith y bytes maxL ret hh ∈ ws := by rw [hw]; exact List.mem_cons_self
  refine ⟨⟨hrc, hrs, hR.1, hR.2, pay_in ht hG, hc⟩, ht _ (hG _ hc).1, ok _ (by simp [wsV]), ⟨hd.1, hd.2.1⟩, fun sig h => ?_, ok _ (by simp [wsV]), ok _ (by simp [wsV]), ok _ (by simp [wsV])⟩
  have h2 := hd.2.2
  rw [h] at h2
  exact (Option.some.inj h2).symm
theorem vx_runVW {y : MethodName} {bytes cc : ByteArray} {maxL nL mc ms n index : Nat} {ret : Option FieldType} {hh : List (Nat × Nat × Nat × Nat)} {ws : List Cond} {rm : Room} {Pc : Array Value → State → Prop} {Qc : Array Value → State → Outcome → State → Prop} {free : Addr → Prop} {Ts : List Cond} {own C : String} {b : Addr} {As rest : List Value} {g : JFrame}
    (S : CallFix p m c cc nL s args Ts own) (hM : Met l y ws rm Pc Qc mc ms free) (cw : vx_CVW R s args own C index y bytes maxL ret hh ws rm mc ms n) (hp : PreV s H C b Pc As)
    (hg : g.method = m) (hn : As.length = n) (hsize : g.locals.size = nL) (hstack : g.stack = As.reverse ++ .ref b :: rest) (hW : 2 * g.monitorRoom + (rest.map fun v => v.category).sum ≤ 8) (hdg : decode cc g.pc = .ok (.invokevirtual index, 3)) (hf : cells + mc ≤ R.cells ∧ slots + ms ≤ R.slots) :
    va_Run p l e R s m args below meth c H locs cells slots mc ms g rest (Qc (Value.ref b :: As).toArray) free := by
  obtain ⟨⟨hrc, hrs, hfr, hlo, hws, hcw⟩, hcode, hini, hy, hlen, hl, hin, hse⟩ := cw
  have hK : Back l R p e below s args y 3 8 (PreOf R mc ms Pc) (PostOf Qc mc ms free) := va_backW (hh := hh) (bytes := bytes) (maxL := maxL) (ret := ret) hM hp.1 hrc hrs hfr hlo hws hcw (fun a' U hW => word_at hW (Or.inl (by first | rfl | simp [Cond.onTables, Cond.keeps, Cond.steady])) hini)
  obtain ⟨hx, hb, hml, ho, -⟩ := S
  obtain ⟨-, ⟨cellB, hcB, hoB, hclB⟩, hPc⟩ := hp
  intro T hT X
  obtain ⟨v, vm₁, ⟨U', l2, c2, s2⟩, hW₁, X', ⟨g', mk, t, L, e1, e2, hq, h1, hL, h2, h3⟩, st⟩ := vx_callVW X hx (C := C) (hh := hh) (bytes := bytes) (maxL := maxL) (ret := ret) ho hl hin hse hcode hy hK (by rw [hT]; exact hcB) hoB hclB hg (hsize.trans hml.symm) (argsL := As) (rest := rest) (fun sig h => hn.trans (hlen sig h)) hstack hW (by rw [hb]; exact hdg)
    (fun vm₁ hW₁ => ⟨hf.1, hf.2, hPc (T.setVm vm₁) hT hW₁⟩)
  dsimp only [Pt.U, Pt.locs, Pt.cells, Pt.slots] at X' e1 e2 h1 h2 h3 st
  subst h1; subst h2; subst h3
  exact ⟨v, (T.setVm vm₁).calling g' mk (Value.ref b :: As).toArray, t, U', L, hT, X', hL, e1, e2, hq, st⟩
section
variable {y : MethodName} {bytes cc : ByteArray} {maxL nL mc ms n index : Nat} {ret : Option FieldType} {ws : List Cond} {rm : Room} {Pc : Array Value → State → Prop} {Qc : Array Value → State → Outcome → State → Prop} {XC : String → State → State → Prop} {free : Addr → Prop} {Ts : List Cond} {own C : String} {b : Addr} {As rest : List Value} {g : JFrame}
theorem vx_runVX {hh : List (Nat × Nat × Nat × Nat)} (S : CallFix p m c cc nL s args Ts own) (hM : vx_Met l y ws rm Pc Qc XC mc ms free) (cw : vx_CVW R s args own C index y bytes maxL ret hh ws rm mc ms n) (hp : PreV s H C b Pc As)
    (hg : g.method = m) (hn : As.length = n) (hsize : g.locals.size = nL) (hstack : g.stack = As.reverse ++ .ref b :: rest) (hW : 2 * g.monitorRoom + (rest.map fun v => v.category).sum ≤ 8) (hdg : decode cc g.pc = .ok (.invokevirtual index, 3)) (hf : cells + mc ≤ R.cells ∧ slots + ms ≤ R.slots) :
    vx_Run p l e R s m args below meth c H locs cells slots mc ms g rest (Qc (Value.ref b :: As).toArray) XC free := by
  obtain ⟨⟨hrc, hrs, hfr, hlo, hws, hcw⟩, hcode, hini, hy, hlen, hl, hin, hse⟩ := cw
  have hK : vx_Back l R p e below s args y 3 8 (PreOf R mc ms Pc) (PostOf Qc mc ms free) (vx_Post XC mc ms free) := vx_backW (hh := hh) (bytes := bytes) (maxL := maxL) (ret := ret) hM hp.1 hrc hrs hfr hlo hws hcw (fun a' U hW => word_at hW (Or.inl (by first | rfl | simp [Cond.onTables, Cond.keeps, Cond.steady])) hini)
  obtain ⟨hx, hb, hml, ho, -⟩ := S
  obtain ⟨-, ⟨cellB, hcB, hoB, hclB⟩, hPc⟩ := hp
  intro T hT X
  rcases vx_callVX X hx (C := C) (hh := hh) (bytes := bytes) (maxL := maxL) (ret := ret) ho hl hin hse hcode hy hK (by rw [hT]; exact hcB) hoB hclB hg (hsize.trans hml.symm) (argsL := As) (rest := rest) (fun sig h => hn.trans (hlen sig h)) hstack hW (by rw [hb]; exact hdg)
    (fun vm₁ hW₁ => ⟨hf.1, hf.2, hPc (T.setVm vm₁) hT hW₁⟩) with ⟨v, vm₁, ⟨U', l2, c2, s2⟩, hW₁, X', ⟨g', mk, t, L, e1, e2, hq, h1, hL, h2, h3⟩, st⟩ | ⟨q, vm₁, ⟨U', l2, c2, s2⟩, hW₁, X', ⟨g', mk, t, L, E, ce, e1, e2, hq, hce, hcv, hcl, h1, hL, h2, h3⟩, st⟩
  · dsimp only [Pt.U, Pt.locs, Pt.cells, Pt.slots] at X' e1 e2 h1 h2 h3 st
    subst h1; subst h2; subst h3
    exact Or.inl ⟨v, (T.setVm vm₁).calling g' mk (Value.ref b :: As).toArray, t, U', L, hT, X', hL, e1, e2, hq, st⟩
  · dsimp only [Pt.U, Pt.locs, Pt.cells, Pt.slots] at X' e1 e2 h1 h2 h3 st hcl
    subst h1; subst h2; subst h3
    exact Or.inr ⟨q, (T.setVm vm₁).calling g' mk (Value.ref b :: As).toArray, t, U', L, E, ce, hT, X', hL, e1, e2, hq, hce, hcv, vx_cls hW₁ hcl, st⟩
theorem vx_runSX {hh : List (Nat × Nat × Nat × Nat)} (S : CallFix p m c cc nL s args Ts own) (hM : vx_Met l y ws rm Pc Qc XC mc ms free) (cw : vx_CSW R s args own index y bytes maxL ret hh ws rm mc ms n) (hp : PreS s H Pc As)
    (hg : g.method = m) (hn : As.length = n) (hsize : g.locals.size = nL) (hstack : g.stack = As.reverse ++ rest) (hW : 2 * g.monitorRoom + (rest.map fun v => v.category).sum ≤ 8) (hdg : decode cc g.pc = .ok (.invokestatic index, 3)) (hf : cells + mc ≤ R.cells ∧ slots + ms ≤ R.slots) :
    vx_Run p l e R s m args below meth c H locs cells slots mc ms g rest (Qc As.toArray) XC free := by
  obtain ⟨⟨hrc, hrs, hfr, hlo, hws, hcw⟩, hcode, hini, hy, hlen, hl, hstt⟩ := cw
  have hK : vx_Back l R p e below s args y 3 8 (PreOf R mc ms Pc) (PostOf Qc mc ms free) (vx_Post XC mc ms free) := vx_backW (hh := hh) (bytes := bytes) (maxL := maxL) (ret := ret) hM hp.1 hrc hrs hfr hlo hws hcw (fun a' U hW => word_at hW (Or.inl (by first | rfl | simp [Cond.onTables, Cond.keeps, Cond.steady])) hini)
  obtain ⟨hx, hb, hml, ho, -⟩ := S
  intro T hT X
  rcases vx_callSX X hx (hh := hh) (bytes := bytes) (maxL := maxL) (ret := ret) ho hl hstt hini hcode hy hK hg (hsize.trans hml.symm) (argsL := As) (rest := rest) (fun sig h => hn.trans (hlen sig h)) hstack hW (by rw [hb]; exact hdg)
    (fun vm₁ hW₁ => ⟨hf.1, hf.2, hp.2 (T.setVm vm₁) hT hW₁⟩) with ⟨v, vm₁, ⟨U', l2, c2, s2⟩, hW₁, X', ⟨g', mk, t, L, e1, e2, hq, h1, hL, h2, h3⟩, st⟩ | ⟨q, vm₁, ⟨U', l2, c2, s2⟩, hW₁, X', ⟨g', mk, t, L, E, ce, e1, e2, hq, hce, hcv, hcl, h1, hL, h2, h3⟩, st⟩
  · dsimp only [Pt.U, Pt.locs, Pt.cells, Pt.slots] at X' e1 e2 h1 h2 h3 st
    subst h1; subst h2; subst h3
    exact Or.inl ⟨v, (T.setVm vm₁).calling g' mk As.toArray, t, U', L, hT, X', hL, e1, e2, hq, st⟩
  · dsimp only [Pt.U, Pt.locs, Pt.cells, Pt.slots] at X' e1 e2 h1 h2 h3 st hcl
    subst h1; subst h2; subst h3
    exact Or.inr ⟨q, (T.setVm vm₁).calling g' mk As.toArray, t, U', L, E, ce, hT, X', hL, e1, e2, hq, hce, hcv, vx_cls hW₁ hcl, st⟩
end
end VXH
theorem vx_ofWH {l : Launch} {y : MethodName} {ws ws' : List Cond} {rm : Room} {Pc : Array Value → State → Prop} {Qc : Array Value → State → Outcome → State → Prop} {XC : String → State → State → Prop} {mc ms : Nat} {free : Addr → Prop} {cc : ByteArray} {maxL : Nat} {ret : Option FieldType} {hh : List (Nat × Nat × Nat × Nat)}
    (hy : plainName y.cls = true) (hw : ws = Cond.codeWith y cc maxL ret hh :: ws')
    (body : ∀ p e s m args below meth c s₁, BodyLoose p l y (headSpec ws rm) cc maxL ret e s m args below meth c s₁ → c.maxLocals = maxL → Pc args s →
      W p l e (headSpec ws rm).room s m args below meth c s.heap [] 0 0 (vx_MQ below Qc XC args s mc ms free) (entryFrame m args maxL)) : vx_Met l y ws rm Pc Qc XC mc ms free := by
  refine MetFree.of_bodyS (code := cc) (maxLocals := maxL) (ret := ret) hy ?_ ?_
  · intro args s m h hn
    obtain ⟨m9, meth, c, hn9, h1, h2, h3, h4, -, h5, h6, -⟩ := Cond.codeWith_spec (atoms_spec (ws := ws) h _ (by rw [hw]; exact List.mem_cons_self))
    cases hn.symm.trans hn9
    exact ⟨meth, c, h1, h2, h3, h4, h5, h6⟩
  · intro p e s m args below meth c s₁ B hml hP _
    have hh0 : s₁.heap = s.heap := by rw [B.state]; rfl
    obtain ⟨t, a1, o, b1, b2, b3⟩ := body p e s m args below meth c s₁ B hml hP s₁ hh0 (Stand.of_body B)
    exact ⟨t, o, a1, b1, b2, b3⟩
/-! ===== END ===== -/
end
section
def R_Li : String := "ShadowHeap$Listing"
def R_Me : String := "ShadowHeap$Memory"
def R_Pr : String := "ShadowHeap$Program"
def R_Ru : String := "ShadowHeap$Run"
def R_S : String := "ShadowHeap"
def R_Mo : String := "ShadowHeapModel"
def R_La : String := "ShadowHeapLaw"
def F_Li : u_T := fun k => match k with
  | 0 => ("ShadowHeap$Listing", "operations", "[I", true)
  | 1 => ("ShadowHeap$Listing", "origins", "[I", true)
  | 2 => ("ShadowHeap$Listing", "firstLines", "[I", true)
  | _ => ("ShadowHeap$Listing", "size", "I", false)
def t_Li : Nat → FieldType := fun k => match k with
  | 0 => .array .int
  | 1 => .array .int
  | 2 => .array .int
  | _ => .int
theorem n_Li : ∀ a, a < 4 → ∀ b, b < 4 → a ≠ b → (F_Li a).2.1 ≠ (F_Li b).2.1 := by decide +kernel
theorem t_Li_ok : ∀ k, k < 4 → parseFieldDescriptor (F_Li k).2.2.1 = some (t_Li k) := by decide +kernel
def F_Me : u_T := fun k => match k with
  | 0 => ("ShadowHeap$Memory", "bytes", "[I", true)
  | 1 => ("ShadowHeap$Memory", "shadows", "[I", true)
  | 2 => ("ShadowHeap$Memory", "blockCells", "[I", true)
  | 3 => ("ShadowHeap$Memory", "quarantined", "[Z", true)
  | 4 => ("ShadowHeap$Memory", "queue", "[I", true)
  | 5 => ("ShadowHeap$Memory", "queuedCells", "I", false)
  | 6 => ("ShadowHeap$Memory", "queued", "I", false)
  | _ => ("ShadowHeap$Memory", "liveCount", "I", false)
def t_Me : Nat → FieldType := fun k => match k with
  | 0 => .array .int
  | 1 => .array .int
  | 2 => .array .int
  | 3 => .array .boolean
  | 4 => .array .int
  | 5 => .int
  | 6 => .int
  | _ => .int
theorem n_Me : ∀ a, a < 8 → ∀ b, b < 8 → a ≠ b → (F_Me a).2.1 ≠ (F_Me b).2.1 := by decide +kernel
theorem t_Me_ok : ∀ k, k < 8 → parseFieldDescriptor (F_Me k).2.2.1 = some (t_Me k) := by decide +kernel
def F_Pr : u_T := fun k => match k with
  | 0 => ("ShadowHeap$Program", "\x72", "[I", true)
  | 1 => ("ShadowHeap$Program", "a", "[I", true)
  | 2 => ("ShadowHeap$Program", "b", "[I", true)
  | 3 => ("ShadowHeap$Program", "k", "[I", true)
  | 4 => ("ShadowHeap$Program", "plain", "LShadowHeap$Listing;", true)
  | _ => ("ShadowHeap$Program", "rewritten", "LShadowHeap$Listing;", true)
def t_Pr : Nat → FieldType := fun k => match k with
  | 0 => .array .int
  | 1 => .array .int
  | 2 => .array .int
  | 3 => .array .int
  | 4 => .object "ShadowHeap$Listing"
  | _ => .object "ShadowHeap$Listing"
theorem n_Pr : ∀ a, a < 6 → ∀ b, b < 6 → a ≠ b → (F_Pr a).2.1 ≠ (F_Pr b).2.1 := by decide +kernel
theorem t_Pr_ok : ∀ k, k < 6 → parseFieldDescriptor (F_Pr k).2.2.1 = some (t_Pr k) := by decide +kernel
def F_Ru : u_T := fun k => match k with
  | 0 => ("ShadowHeap$Run", "program", "LShadowHeap$Program;", true)
  | 1 => ("ShadowHeap$Run", "memory", "LShadowHeap$Memory;", true)
  | 2 => ("ShadowHeap$Run", "registers", "[I", true)
  | 3 => ("ShadowHeap$Run", "printedNumbers", "[I", true)
  | 4 => ("ShadowHeap$Run", "printedCount", "I", false)
  | 5 => ("ShadowHeap$Run", "listing", "LShadowHeap$Listing;", false)
  | 6 => ("ShadowHeap$Run", "state", "I", false)
  | 7 => ("ShadowHeap$Run", "line", "I", false)
  | 8 => ("ShadowHeap$Run", "reportKind", "I", false)
  | _ => ("ShadowHeap$Run", "reportAddress", "I", false)
def t_Ru : Nat → FieldType := fun k => match k with
  | 0 => .object "ShadowHeap$Program"
  | 1 => .object "ShadowHeap$Memory"
  | 2 => .array .int
  | 3 => .array .int
  | 4 => .int
  | 5 => .object "ShadowHeap$Listing"
  | 6 => .int
  | 7 => .int
  | 8 => .int
  | _ => .int
theorem n_Ru : ∀ a, a < 10 → ∀ b, b < 10 → a ≠ b → (F_Ru a).2.1 ≠ (F_Ru b).2.1 := by decide +kernel
theorem t_Ru_ok : ∀ k, k < 10 → parseFieldDescriptor (F_Ru k).2.2.1 = some (t_Ru k) := by decide +kernel
def F_S : u_T := fun k => match k with
  | 0 => ("ShadowHeap", "program", "LShadowHeap$Program;", true)
  | 1 => ("ShadowHeap", "memory", "LShadowHeap$Memory;", true)
  | _ => ("ShadowHeap", "run", "LShadowHeap$Run;", true)
def t_S : Nat → FieldType := fun k => match k with
  | 0 => .object "ShadowHeap$Program"
  | 1 => .object "ShadowHeap$Memory"
  | _ => .object "ShadowHeap$Run"
theorem n_S : ∀ a, a < 3 → ∀ b, b < 3 → a ≠ b → (F_S a).2.1 ≠ (F_S b).2.1 := by decide +kernel
theorem t_S_ok : ∀ k, k < 3 → parseFieldDescriptor (F_S k).2.2.1 = some (t_S k) := by decide +kernel
def F_Mo : u_T := fun k => match k with
  | 0 => ("ShadowHeapModel", "code", "I", false)
  | 1 => ("ShadowHeapModel", "count", "I", false)
  | 2 => ("ShadowHeapModel", "operation", "[I", true)
  | 3 => ("ShadowHeapModel", "rs", "[I", true)
  | 4 => ("ShadowHeapModel", "as", "[I", true)
  | 5 => ("ShadowHeapModel", "bs", "[I", true)
  | 6 => ("ShadowHeapModel", "ks", "[I", true)
  | 7 => ("ShadowHeapModel", "heap", "[I", true)
  | 8 => ("ShadowHeapModel", "shadow", "[I", true)
  | 9 => ("ShadowHeapModel", "owner", "[I", true)
  | 10 => ("ShadowHeapModel", "size", "[I", true)
  | 11 => ("ShadowHeapModel", "waiting", "I", false)
  | 12 => ("ShadowHeapModel", "quarantine", "[I", true)
  | 13 => ("ShadowHeapModel", "state", "I", false)
  | 14 => ("ShadowHeapModel", "checked", "Z", false)
  | 15 => ("ShadowHeapModel", "at", "I", false)
  | 16 => ("ShadowHeapModel", "lastDone", "I", false)
  | 17 => ("ShadowHeapModel", "register", "[I", true)
  | 18 => ("ShadowHeapModel", "prints", "I", false)
  | 19 => ("ShadowHeapModel", "print", "[I", true)
  | 20 => ("ShadowHeapModel", "kind", "I", false)
  | 21 => ("ShadowHeapModel", "where", "I", false)
  | _ => ("ShadowHeapModel", "whose", "I", false)
def t_Mo : Nat → FieldType := fun k => match k with
  | 0 => .int
  | 1 => .int
  | 2 => .array .int
  | 3 => .array .int
  | 4 => .array .int
  | 5 => .array .int
  | 6 => .array .int
  | 7 => .array .int
  | 8 => .array .int
  | 9 => .array .int
  | 10 => .array .int
  | 11 => .int
  | 12 => .array .int
  | 13 => .int
  | 14 => .boolean
  | 15 => .int
  | 16 => .int
  | 17 => .array .int
  | 18 => .int
  | 19 => .array .int
  | 20 => .int
  | 21 => .int
  | _ => .int
theorem n_Mo : ∀ a, a < 23 → ∀ b, b < 23 → a ≠ b → (F_Mo a).2.1 ≠ (F_Mo b).2.1 := by decide +kernel
theorem t_Mo_ok : ∀ k, k < 23 → parseFieldDescriptor (F_Mo k).2.2.1 = some (t_Mo k) := by decide +kernel
abbrev vwCl : List vw_C := [(R_Li, F_Li, 4), (R_Me, F_Me, 8), (R_Pr, F_Pr, 6), (R_Ru, F_Ru, 10), (R_S, F_S, 3), (R_Mo, F_Mo, 23)]
abbrev b_S_init : ByteArray := prog_1_method_1_code
def y_S_init : MethodName := ⟨R_S, "<init>", "()V"⟩
abbrev b_Pr_init : ByteArray := prog_4_method_1_code
def y_Pr_init : MethodName := ⟨R_Pr, "<init>", "()V"⟩
abbrev b_Li_init : ByteArray := prog_2_method_1_code
def y_Li_init : MethodName := ⟨R_Li, "<init>", "(I)V"⟩
abbrev b_Me_init : ByteArray := prog_3_method_1_code
def y_Me_init : MethodName := ⟨R_Me, "<init>", "()V"⟩
abbrev b_Me_reset : ByteArray := prog_3_method_2_code
def y_Me_reset : MethodName := ⟨R_Me, "reset", "()V"⟩
abbrev b_Ru_init : ByteArray := prog_5_method_1_code
def y_Ru_init : MethodName := ⟨R_Ru, "<init>", "(LShadowHeap$Program;LShadowHeap$Memory;)V"⟩
abbrev b_S_clear : ByteArray := prog_1_method_3_code
def y_S_clear : MethodName := ⟨R_S, "clear", "()V"⟩
abbrev b_Ru_drop : ByteArray := prog_5_method_2_code
def y_Ru_drop : MethodName := ⟨R_Ru, "drop", "()V"⟩
abbrev b_Pr_removeAll : ByteArray := prog_4_method_4_code
def y_Pr_removeAll : MethodName := ⟨R_Pr, "removeAll", "()V"⟩
abbrev b_La_code : ByteArray := method_3_code
def y_La_code : MethodName := ⟨R_La, "code", "(LShadowHeap;IIIII[J)I"⟩
abbrev b_S_code : ByteArray := prog_1_method_2_code
def y_S_code : MethodName := ⟨R_S, "code", "(IIIII)I"⟩
abbrev b_S_isRegister : ByteArray := prog_1_method_15_code
def y_S_isRegister : MethodName := ⟨R_S, "isRegister", "(I)Z"⟩
abbrev b_Pr_size : ByteArray := prog_4_method_2_code
def y_Pr_size : MethodName := ⟨R_Pr, "size", "()I"⟩
abbrev b_Pr_add : ByteArray := prog_4_method_3_code
def y_Pr_add : MethodName := ⟨R_Pr, "add", "(IIIII)I"⟩
abbrev b_Li_beginInstruction : ByteArray := prog_2_method_2_code
def y_Li_beginInstruction : MethodName := ⟨R_Li, "beginInstruction", "(I)V"⟩
abbrev b_Li_append : ByteArray := prog_2_method_3_code
def y_Li_append : MethodName := ⟨R_Li, "append", "(II)V"⟩
abbrev b_La_rewrite : ByteArray := method_4_code
def y_La_rewrite : MethodName := ⟨R_La, "rewrite", "(LShadowHeap;[J)I"⟩
abbrev b_S_rewrite : ByteArray := prog_1_method_4_code
def y_S_rewrite : MethodName := ⟨R_S, "rewrite", "()I"⟩
abbrev b_S_refuseGoingOutside : ByteArray := prog_1_method_14_code
def y_S_refuseGoingOutside : MethodName := ⟨R_S, "refuseGoingOutside", "()V"⟩
abbrev b_Pr_goesOnWithin : ByteArray := prog_4_method_5_code
def y_Pr_goesOnWithin : MethodName := ⟨R_Pr, "goesOnWithin", "()Z"⟩
abbrev b_Pr_goesOnElsewhere : ByteArray := prog_4_method_8_code
def y_Pr_goesOnElsewhere : MethodName := ⟨R_Pr, "goesOnElsewhere", "(I)Z"⟩
abbrev b_La_rewritten : ByteArray := method_5_code
def y_La_rewritten : MethodName := ⟨R_La, "rewritten", "(LShadowHeap;II[J)I"⟩
abbrev b_S_rewritten : ByteArray := prog_1_method_5_code
def y_S_rewritten : MethodName := ⟨R_S, "rewritten", "(II)I"⟩
abbrev b_Pr_numberAt : ByteArray := prog_4_method_6_code
def y_Pr_numberAt : MethodName := ⟨R_Pr, "numberAt", "(LShadowHeap$Listing;I)I"⟩
abbrev b_La_start : ByteArray := method_6_code
def y_La_start : MethodName := ⟨R_La, "start", "(LShadowHeap;ZII)I"⟩
abbrev b_S_start : ByteArray := prog_1_method_6_code
def y_S_start : MethodName := ⟨R_S, "start", "(ZII)V"⟩
abbrev b_Ru_begin : ByteArray := prog_5_method_3_code
def y_Ru_begin : MethodName := ⟨R_Ru, "begin", "(ZII)V"⟩
abbrev b_La_step : ByteArray := method_7_code
def y_La_step : MethodName := ⟨R_La, "step", "(LShadowHeap;I[J)I"⟩
abbrev b_S_step : ByteArray := prog_1_method_7_code
def y_S_step : MethodName := ⟨R_S, "step", "(I)I"⟩
abbrev b_Ru_doLine : ByteArray := prog_5_method_4_code
def y_Ru_doLine : MethodName := ⟨R_Ru, "doLine", "()V"⟩
abbrev b_Ru_addressOf : ByteArray := prog_5_method_17_code
def y_Ru_addressOf : MethodName := ⟨R_Ru, "addressOf", "(I)I"⟩
abbrev b_Ru_aOf : ByteArray := prog_5_method_15_code
def y_Ru_aOf : MethodName := ⟨R_Ru, "aOf", "(I)I"⟩
abbrev b_Pr_widthOf : ByteArray := prog_4_method_7_code
def y_Pr_widthOf : MethodName := ⟨R_Pr, "widthOf", "(I)I"⟩
abbrev b_Ru_checkBytes : ByteArray := prog_5_method_11_code
def y_Ru_checkBytes : MethodName := ⟨R_Ru, "checkBytes", "(II)V"⟩
abbrev b_Me_kindOfTouch : ByteArray := prog_3_method_6_code
def y_Me_kindOfTouch : MethodName := ⟨R_Me, "kindOfTouch", "(I)I"⟩
abbrev b_Me_holds : ByteArray := prog_3_method_3_code
def y_Me_holds : MethodName := ⟨R_Me, "holds", "(II)Z"⟩
abbrev b_Ru_endWithReport : ByteArray := prog_5_method_13_code
def y_Ru_endWithReport : MethodName := ⟨R_Ru, "endWithReport", "(II)V"⟩
abbrev b_Ru_checkFree : ByteArray := prog_5_method_12_code
def y_Ru_checkFree : MethodName := ⟨R_Ru, "checkFree", "(I)V"⟩
abbrev b_Me_mayFree : ByteArray := prog_3_method_7_code
def y_Me_mayFree : MethodName := ⟨R_Me, "mayFree", "(I)Z"⟩
abbrev b_Ru_goesOn : ByteArray := prog_5_method_6_code
def y_Ru_goesOn : MethodName := ⟨R_Ru, "goesOn", "(II)Z"⟩
abbrev b_Ru_bOf : ByteArray := prog_5_method_16_code
def y_Ru_bOf : MethodName := ⟨R_Ru, "bOf", "(I)I"⟩
abbrev b_Ru_useHeap : ByteArray := prog_5_method_8_code
def y_Ru_useHeap : MethodName := ⟨R_Ru, "useHeap", "(II)V"⟩
abbrev b_Me_allocate : ByteArray := prog_3_method_8_code
def y_Me_allocate : MethodName := ⟨R_Me, "allocate", "(I)I"⟩
abbrev b_Me_lowestGap : ByteArray := prog_3_method_10_code
def y_Me_lowestGap : MethodName := ⟨R_Me, "lowestGap", "(I)I"⟩
abbrev b_Me_releaseOldest : ByteArray := prog_3_method_12_code
def y_Me_releaseOldest : MethodName := ⟨R_Me, "releaseOldest", "()V"⟩
abbrev b_Me_paint : ByteArray := prog_3_method_13_code
def y_Me_paint : MethodName := ⟨R_Me, "paint", "(III)V"⟩
abbrev b_Me_placeBlock : ByteArray := prog_3_method_11_code
def y_Me_placeBlock : MethodName := ⟨R_Me, "placeBlock", "(III)V"⟩
abbrev b_Ru_freeOrCrash : ByteArray := prog_5_method_9_code
def y_Ru_freeOrCrash : MethodName := ⟨R_Ru, "freeOrCrash", "(I)V"⟩
abbrev b_Me_free : ByteArray := prog_3_method_9_code
def y_Me_free : MethodName := ⟨R_Me, "free", "(I)V"⟩
abbrev b_Ru_touchOrCrash : ByteArray := prog_5_method_10_code
def y_Ru_touchOrCrash : MethodName := ⟨R_Ru, "touchOrCrash", "(II)V"⟩
abbrev b_Me_load : ByteArray := prog_3_method_4_code
def y_Me_load : MethodName := ⟨R_Me, "load", "(II)I"⟩
abbrev b_Me_store : ByteArray := prog_3_method_5_code
def y_Me_store : MethodName := ⟨R_Me, "store", "(III)V"⟩
abbrev b_Ru_print : ByteArray := prog_5_method_14_code
def y_Ru_print : MethodName := ⟨R_Ru, "print", "(I)V"⟩
abbrev b_Ru_computed : ByteArray := prog_5_method_7_code
def y_Ru_computed : MethodName := ⟨R_Ru, "computed", "(II)I"⟩
abbrev b_Ru_goOnAt : ByteArray := prog_5_method_5_code
def y_Ru_goOnAt : MethodName := ⟨R_Ru, "goOnAt", "(I)V"⟩
abbrev b_La_look : ByteArray := method_8_code
def y_La_look : MethodName := ⟨R_La, "look", "(LShadowHeap;I[J)I"⟩
abbrev b_S_look : ByteArray := prog_1_method_8_code
def y_S_look : MethodName := ⟨R_S, "look", "(I)I"⟩
abbrev b_La_register : ByteArray := method_9_code
def y_La_register : MethodName := ⟨R_La, "register", "(LShadowHeap;I[J)I"⟩
abbrev b_S_register : ByteArray := prog_1_method_9_code
def y_S_register : MethodName := ⟨R_S, "register", "(I)I"⟩
abbrev b_La_printed : ByteArray := method_10_code
def y_La_printed : MethodName := ⟨R_La, "printed", "(LShadowHeap;I[J)I"⟩
abbrev b_S_printed : ByteArray := prog_1_method_10_code
def y_S_printed : MethodName := ⟨R_S, "printed", "(I)I"⟩
abbrev b_La_heap : ByteArray := method_11_code
def y_La_heap : MethodName := ⟨R_La, "heap", "(LShadowHeap;I[J)I"⟩
abbrev b_S_heap : ByteArray := prog_1_method_11_code
def y_S_heap : MethodName := ⟨R_S, "heap", "(I)I"⟩
abbrev b_La_shadow : ByteArray := method_12_code
def y_La_shadow : MethodName := ⟨R_La, "shadow", "(LShadowHeap;I[J)I"⟩
abbrev b_S_shadow : ByteArray := prog_1_method_12_code
def y_S_shadow : MethodName := ⟨R_S, "shadow", "(I)I"⟩
abbrev b_La_report : ByteArray := method_13_code
def y_La_report : MethodName := ⟨R_La, "report", "(LShadowHeap;I[J)I"⟩
abbrev b_S_report : ByteArray := prog_1_method_13_code
def y_S_report : MethodName := ⟨R_S, "report", "(I)I"⟩
abbrev b_Mo_init : ByteArray := prog_7_method_1_code
def y_Mo_init : MethodName := ⟨R_Mo, "<init>", "()V"⟩
abbrev b_Mo_empty : ByteArray := prog_7_method_14_code
def y_Mo_empty : MethodName := ⟨R_Mo, "empty", "()V"⟩
abbrev b_Mo_thrown : ByteArray := prog_7_method_2_code
def y_Mo_thrown : MethodName := ⟨R_Mo, "thrown", "()I"⟩
abbrev b_Mo_code : ByteArray := prog_7_method_5_code
def y_Mo_code : MethodName := ⟨R_Mo, "code", "(IIIII)I"⟩
abbrev b_Mo_isRegister : ByteArray := prog_7_method_4_code
def y_Mo_isRegister : MethodName := ⟨R_Mo, "isRegister", "(I)Z"⟩
abbrev b_Mo_refuse : ByteArray := prog_7_method_3_code
def y_Mo_refuse : MethodName := ⟨R_Mo, "refuse", "(I)I"⟩
abbrev b_Mo_clear : ByteArray := prog_7_method_6_code
def y_Mo_clear : MethodName := ⟨R_Mo, "clear", "()V"⟩
abbrev b_Mo_rewrite : ByteArray := prog_7_method_12_code
def y_Mo_rewrite : MethodName := ⟨R_Mo, "rewrite", "()I"⟩
abbrev b_Mo_isSound : ByteArray := prog_7_method_7_code
def y_Mo_isSound : MethodName := ⟨R_Mo, "isSound", "()Z"⟩
abbrev b_Mo_place : ByteArray := prog_7_method_9_code
def y_Mo_place : MethodName := ⟨R_Mo, "place", "(I)I"⟩
abbrev b_Mo_isChecked : ByteArray := prog_7_method_8_code
def y_Mo_isChecked : MethodName := ⟨R_Mo, "isChecked", "(I)Z"⟩
abbrev b_Mo_rewritten : ByteArray := prog_7_method_13_code
def y_Mo_rewritten : MethodName := ⟨R_Mo, "rewritten", "(II)I"⟩
abbrev b_Mo_instructionAt : ByteArray := prog_7_method_10_code
def y_Mo_instructionAt : MethodName := ⟨R_Mo, "instructionAt", "(I)I"⟩
abbrev b_Mo_isCheck : ByteArray := prog_7_method_11_code
def y_Mo_isCheck : MethodName := ⟨R_Mo, "isCheck", "(I)Z"⟩
abbrev b_Mo_start : ByteArray := prog_7_method_23_code
def y_Mo_start : MethodName := ⟨R_Mo, "start", "(ZII)V"⟩
abbrev b_Mo_step : ByteArray := prog_7_method_30_code
def y_Mo_step : MethodName := ⟨R_Mo, "step", "(I)I"⟩
abbrev b_Mo_one : ByteArray := prog_7_method_29_code
def y_Mo_one : MethodName := ⟨R_Mo, "one", "()V"⟩
abbrev b_Mo_check : ByteArray := prog_7_method_25_code
def y_Mo_check : MethodName := ⟨R_Mo, "check", "(I)V"⟩
abbrev b_Mo_isBlock : ByteArray := prog_7_method_18_code
def y_Mo_isBlock : MethodName := ⟨R_Mo, "isBlock", "(I)Z"⟩
abbrev b_Mo_tell : ByteArray := prog_7_method_24_code
def y_Mo_tell : MethodName := ⟨R_Mo, "tell", "(III)V"⟩
abbrev b_Mo_wrongByte : ByteArray := prog_7_method_22_code
def y_Mo_wrongByte : MethodName := ⟨R_Mo, "wrongByte", "(I)I"⟩
abbrev b_Mo_isIn : ByteArray := prog_7_method_21_code
def y_Mo_isIn : MethodName := ⟨R_Mo, "isIn", "(I)Z"⟩
abbrev b_Mo_perform : ByteArray := prog_7_method_28_code
def y_Mo_perform : MethodName := ⟨R_Mo, "perform", "(I)I"⟩
abbrev b_Mo_allocate : ByteArray := prog_7_method_17_code
def y_Mo_allocate : MethodName := ⟨R_Mo, "allocate", "(I)I"⟩
abbrev b_Mo_gap : ByteArray := prog_7_method_15_code
def y_Mo_gap : MethodName := ⟨R_Mo, "gap", "(I)I"⟩
abbrev b_Mo_release : ByteArray := prog_7_method_16_code
def y_Mo_release : MethodName := ⟨R_Mo, "release", "()V"⟩
abbrev b_Mo_free : ByteArray := prog_7_method_19_code
def y_Mo_free : MethodName := ⟨R_Mo, "free", "(I)V"⟩
abbrev b_Mo_quarantined : ByteArray := prog_7_method_20_code
def y_Mo_quarantined : MethodName := ⟨R_Mo, "quarantined", "()I"⟩
abbrev b_Mo_touch : ByteArray := prog_7_method_27_code
def y_Mo_touch : MethodName := ⟨R_Mo, "touch", "(I)V"⟩
abbrev b_Mo_load : ByteArray := prog_7_method_26_code
def y_Mo_load : MethodName := ⟨R_Mo, "load", "(I)I"⟩
abbrev b_Mo_look : ByteArray := prog_7_method_32_code
def y_Mo_look : MethodName := ⟨R_Mo, "look", "(I)I"⟩
abbrev b_Mo_blocks : ByteArray := prog_7_method_31_code
def y_Mo_blocks : MethodName := ⟨R_Mo, "blocks", "(Z)I"⟩
abbrev b_Mo_register : ByteArray := prog_7_method_33_code
def y_Mo_register : MethodName := ⟨R_Mo, "register", "(I)I"⟩
abbrev b_Mo_printed : ByteArray := prog_7_method_34_code
def y_Mo_printed : MethodName := ⟨R_Mo, "printed", "(I)I"⟩
abbrev b_Mo_heap : ByteArray := prog_7_method_35_code
def y_Mo_heap : MethodName := ⟨R_Mo, "heap", "(I)I"⟩
abbrev b_Mo_shadow : ByteArray := prog_7_method_36_code
def y_Mo_shadow : MethodName := ⟨R_Mo, "shadow", "(I)I"⟩
abbrev b_Mo_report : ByteArray := prog_7_method_37_code
def y_Mo_report : MethodName := ⟨R_Mo, "report", "(I)I"⟩
abbrev b_La_law : ByteArray := code
def y_La_law : MethodName := ⟨R_La, "law", "([I)Z"⟩
/-- the good words of the tables: every method takes them all -/
def bw : List Cond := lw_tbl.filter goodWord
theorem bw_mem {w : Cond} (i : Nat) (h : lw_tbl[i]? = some w) (hg : goodWord w = true) : w ∈ bw := List.mem_filter.mpr ⟨List.mem_of_getElem? h, hg⟩
theorem bw_good {h : Cond} : GoodIn (h :: bw) bw := fun w hw => ⟨List.mem_cons_of_mem _ hw, good_of_word (List.mem_filter.mp hw).2⟩
theorem bw_c {h w : Cond} {ws : List Cond} (hw : w ∈ bw) (t : GoodIn (h :: bw) ws) : GoodIn (h :: bw) (w :: ws) := fun x hx => (List.mem_cons.mp hx).elim (fun e => by rw [e]; exact bw_good w hw) (t x)
theorem bw_V {h k : Cond} {own C : String} {idx : Nat} {y : MethodName} (h1 : .methodLink own idx y ∈ bw) (h2 : .instanceMethod y ∈ bw) (h3 : .selects C y y ∈ bw) (h4 : .initialized C ∈ bw) (h5 : k ∈ bw) : GoodIn (h :: bw) (wsV own idx C y (k :: bw)) := bw_c h1 (bw_c h2 (bw_c h3 (bw_c h4 (bw_c h5 bw_good))))
theorem bw_S {h k : Cond} {own : String} {idx : Nat} {y : MethodName} (h1 : .methodLink own idx y ∈ bw) (h2 : .static y ∈ bw) (h3 : .initialized y.cls ∈ bw) (h5 : k ∈ bw) : GoodIn (h :: bw) (va_wsS own idx y (k :: bw)) := bw_c h1 (bw_c h2 (bw_c h3 (bw_c h5 bw_good)))
theorem q_se_S_refuseGoingOutside : Cond.selects R_S y_S_refuseGoingOutside y_S_refuseGoingOutside ∈ bw := bw_mem 1 (by decide +kernel) (by decide +kernel)
theorem q_se_Ru_addressOf : Cond.selects R_Ru y_Ru_addressOf y_Ru_addressOf ∈ bw := bw_mem 2 (by decide +kernel) (by decide +kernel)
theorem q_se_Ru_aOf : Cond.selects R_Ru y_Ru_aOf y_Ru_aOf ∈ bw := bw_mem 3 (by decide +kernel) (by decide +kernel)
theorem q_se_Ru_checkBytes : Cond.selects R_Ru y_Ru_checkBytes y_Ru_checkBytes ∈ bw := bw_mem 4 (by decide +kernel) (by decide +kernel)
theorem q_se_Ru_endWithReport : Cond.selects R_Ru y_Ru_endWithReport y_Ru_endWithReport ∈ bw := bw_mem 5 (by decide +kernel) (by decide +kernel)
theorem q_se_Ru_checkFree : Cond.selects R_Ru y_Ru_checkFree y_Ru_checkFree ∈ bw := bw_mem 6 (by decide +kernel) (by decide +kernel)
theorem q_se_Ru_goesOn : Cond.selects R_Ru y_Ru_goesOn y_Ru_goesOn ∈ bw := bw_mem 7 (by decide +kernel) (by decide +kernel)
theorem q_se_Ru_bOf : Cond.selects R_Ru y_Ru_bOf y_Ru_bOf ∈ bw := bw_mem 8 (by decide +kernel) (by decide +kernel)
theorem q_se_Ru_useHeap : Cond.selects R_Ru y_Ru_useHeap y_Ru_useHeap ∈ bw := bw_mem 9 (by decide +kernel) (by decide +kernel)
theorem q_se_Me_lowestGap : Cond.selects R_Me y_Me_lowestGap y_Me_lowestGap ∈ bw := bw_mem 10 (by decide +kernel) (by decide +kernel)
theorem q_se_Me_releaseOldest : Cond.selects R_Me y_Me_releaseOldest y_Me_releaseOldest ∈ bw := bw_mem 11 (by decide +kernel) (by decide +kernel)
theorem q_se_Me_paint : Cond.selects R_Me y_Me_paint y_Me_paint ∈ bw := bw_mem 12 (by decide +kernel) (by decide +kernel)
theorem q_se_Me_placeBlock : Cond.selects R_Me y_Me_placeBlock y_Me_placeBlock ∈ bw := bw_mem 13 (by decide +kernel) (by decide +kernel)
theorem q_se_Ru_freeOrCrash : Cond.selects R_Ru y_Ru_freeOrCrash y_Ru_freeOrCrash ∈ bw := bw_mem 14 (by decide +kernel) (by decide +kernel)
theorem q_se_Ru_touchOrCrash : Cond.selects R_Ru y_Ru_touchOrCrash y_Ru_touchOrCrash ∈ bw := bw_mem 15 (by decide +kernel) (by decide +kernel)
theorem q_se_Ru_print : Cond.selects R_Ru y_Ru_print y_Ru_print ∈ bw := bw_mem 16 (by decide +kernel) (by decide +kernel)
theorem q_se_Ru_computed : Cond.selects R_Ru y_Ru_computed y_Ru_computed ∈ bw := bw_mem 17 (by decide +kernel) (by decide +kernel)
theorem q_se_Ru_goOnAt : Cond.selects R_Ru y_Ru_goOnAt y_Ru_goOnAt ∈ bw := bw_mem 18 (by decide +kernel) (by decide +kernel)
theorem q_se_Mo_empty : Cond.selects R_Mo y_Mo_empty y_Mo_empty ∈ bw := bw_mem 19 (by decide +kernel) (by decide +kernel)
theorem q_se_Mo_refuse : Cond.selects R_Mo y_Mo_refuse y_Mo_refuse ∈ bw := bw_mem 20 (by decide +kernel) (by decide +kernel)
theorem q_se_Mo_isSound : Cond.selects R_Mo y_Mo_isSound y_Mo_isSound ∈ bw := bw_mem 21 (by decide +kernel) (by decide +kernel)
theorem q_se_Mo_place : Cond.selects R_Mo y_Mo_place y_Mo_place ∈ bw := bw_mem 22 (by decide +kernel) (by decide +kernel)
theorem q_se_Mo_isChecked : Cond.selects R_Mo y_Mo_isChecked y_Mo_isChecked ∈ bw := bw_mem 23 (by decide +kernel) (by decide +kernel)
theorem q_se_Mo_instructionAt : Cond.selects R_Mo y_Mo_instructionAt y_Mo_instructionAt ∈ bw := bw_mem 24 (by decide +kernel) (by decide +kernel)
theorem q_se_Mo_isCheck : Cond.selects R_Mo y_Mo_isCheck y_Mo_isCheck ∈ bw := bw_mem 25 (by decide +kernel) (by decide +kernel)
theorem q_se_Mo_one : Cond.selects R_Mo y_Mo_one y_Mo_one ∈ bw := bw_mem 26 (by decide +kernel) (by decide +kernel)
theorem q_se_Mo_check : Cond.selects R_Mo y_Mo_check y_Mo_check ∈ bw := bw_mem 27 (by decide +kernel) (by decide +kernel)
theorem q_se_Mo_isBlock : Cond.selects R_Mo y_Mo_isBlock y_Mo_isBlock ∈ bw := bw_mem 28 (by decide +kernel) (by decide +kernel)
theorem q_se_Mo_tell : Cond.selects R_Mo y_Mo_tell y_Mo_tell ∈ bw := bw_mem 29 (by decide +kernel) (by decide +kernel)
theorem q_se_Mo_wrongByte : Cond.selects R_Mo y_Mo_wrongByte y_Mo_wrongByte ∈ bw := bw_mem 30 (by decide +kernel) (by decide +kernel)
theorem q_se_Mo_perform : Cond.selects R_Mo y_Mo_perform y_Mo_perform ∈ bw := bw_mem 31 (by decide +kernel) (by decide +kernel)
theorem q_se_Mo_allocate : Cond.selects R_Mo y_Mo_allocate y_Mo_allocate ∈ bw := bw_mem 32 (by decide +kernel) (by decide +kernel)
theorem q_se_Mo_gap : Cond.selects R_Mo y_Mo_gap y_Mo_gap ∈ bw := bw_mem 33 (by decide +kernel) (by decide +kernel)
theorem q_se_Mo_release : Cond.selects R_Mo y_Mo_release y_Mo_release ∈ bw := bw_mem 34 (by decide +kernel) (by decide +kernel)
theorem q_se_Mo_free : Cond.selects R_Mo y_Mo_free y_Mo_free ∈ bw := bw_mem 35 (by decide +kernel) (by decide +kernel)
theorem q_se_Mo_quarantined : Cond.selects R_Mo y_Mo_quarantined y_Mo_quarantined ∈ bw := bw_mem 36 (by decide +kernel) (by decide +kernel)
theorem q_se_Mo_touch : Cond.selects R_Mo y_Mo_touch y_Mo_touch ∈ bw := bw_mem 37 (by decide +kernel) (by decide +kernel)
theorem q_se_Mo_load : Cond.selects R_Mo y_Mo_load y_Mo_load ∈ bw := bw_mem 38 (by decide +kernel) (by decide +kernel)
theorem q_se_Mo_blocks : Cond.selects R_Mo y_Mo_blocks y_Mo_blocks ∈ bw := bw_mem 39 (by decide +kernel) (by decide +kernel)
theorem q_in_La : Cond.initialized R_La ∈ bw := bw_mem 40 (by decide +kernel) (by decide +kernel)
theorem q_in_S : Cond.initialized R_S ∈ bw := bw_mem 41 (by decide +kernel) (by decide +kernel)
theorem q_in_Pr : Cond.initialized R_Pr ∈ bw := bw_mem 42 (by decide +kernel) (by decide +kernel)
theorem q_in_Li : Cond.initialized R_Li ∈ bw := bw_mem 43 (by decide +kernel) (by decide +kernel)
theorem q_in_Me : Cond.initialized R_Me ∈ bw := bw_mem 44 (by decide +kernel) (by decide +kernel)
theorem q_in_Ru : Cond.initialized R_Ru ∈ bw := bw_mem 45 (by decide +kernel) (by decide +kernel)
theorem q_in_Mo : Cond.initialized R_Mo ∈ bw := bw_mem 46 (by decide +kernel) (by decide +kernel)
theorem q_in_IllegalArgumentException : Cond.initialized "java/lang/IllegalArgumentException" ∈ bw := bw_mem 50 (by decide +kernel) (by decide +kernel)
theorem q_in_IndexOutOfBoundsException : Cond.initialized "java/lang/IndexOutOfBoundsException" ∈ bw := bw_mem 51 (by decide +kernel) (by decide +kernel)
theorem q_in_IllegalStateException : Cond.initialized "java/lang/IllegalStateException" ∈ bw := bw_mem 52 (by decide +kernel) (by decide +kernel)
theorem q_cl_La_8 : Cond.classLink R_La 8 R_S ∈ bw := bw_mem 53 (by decide +kernel) (by decide +kernel)
theorem q_ib_S : Cond.instantiable R_S 3 ∈ bw := bw_mem 54 (by decide +kernel) (by decide +kernel)
theorem q_ml_La_53 : Cond.methodLink R_La 53 y_S_init ∈ bw := bw_mem 55 (by decide +kernel) (by decide +kernel)
theorem q_im_S_init : Cond.instanceMethod y_S_init ∈ bw := bw_mem 56 (by decide +kernel) (by decide +kernel)
theorem q_cd_S_init : Cond.code y_S_init b_S_init 1 none ∈ bw := bw_mem 57 (by decide +kernel) (by decide +kernel)
theorem q_ml_S_1 : Cond.methodLink R_S 1 objectInit ∈ bw := bw_mem 58 (by decide +kernel) (by decide +kernel)
theorem q_im_obj_init : Cond.instanceMethod objectInit ∈ bw := bw_mem 59 (by decide +kernel) (by decide +kernel)
theorem q_cd_obj_init : Cond.code objectInit ⟨#[0xb1]⟩ 1 none ∈ bw := bw_mem 60 (by decide +kernel) (by decide +kernel)
theorem q_cl_S_7 : Cond.classLink R_S 7 R_Pr ∈ bw := bw_mem 61 (by decide +kernel) (by decide +kernel)
theorem q_ib_Pr : Cond.instantiable R_Pr 6 ∈ bw := bw_mem 62 (by decide +kernel) (by decide +kernel)
theorem q_mn_S_9 : Cond.methodLinkNest R_S 9 y_Pr_init R_S ∈ lw_tbl := List.mem_of_getElem? (i := 63) (by decide +kernel)
theorem q_im_Pr_init : Cond.instanceMethod y_Pr_init ∈ bw := bw_mem 64 (by decide +kernel) (by decide +kernel)
theorem q_cd_Pr_init : Cond.code y_Pr_init b_Pr_init 1 none ∈ bw := bw_mem 65 (by decide +kernel) (by decide +kernel)
theorem q_ml_Pr_3 : Cond.methodLink R_Pr 3 objectInit ∈ bw := bw_mem 66 (by decide +kernel) (by decide +kernel)
theorem q_cl_Pr_24 : Cond.classLink R_Pr 24 R_Li ∈ bw := bw_mem 67 (by decide +kernel) (by decide +kernel)
theorem q_ib_Li : Cond.instantiable R_Li 4 ∈ bw := bw_mem 68 (by decide +kernel) (by decide +kernel)
theorem q_ml_Pr_26 : Cond.methodLink R_Pr 26 y_Li_init ∈ bw := bw_mem 69 (by decide +kernel) (by decide +kernel)
theorem q_im_Li_init : Cond.instanceMethod y_Li_init ∈ bw := bw_mem 70 (by decide +kernel) (by decide +kernel)
theorem q_cd_Li_init : Cond.code y_Li_init b_Li_init 2 none ∈ bw := bw_mem 71 (by decide +kernel) (by decide +kernel)
theorem q_ml_Li_3 : Cond.methodLink R_Li 3 objectInit ∈ bw := bw_mem 72 (by decide +kernel) (by decide +kernel)
theorem q_fl_Li_9 : Cond.fieldLink R_Li 9 "ShadowHeap$Listing" "operations" "[I" ∈ bw := bw_mem 73 (by decide +kernel) (by decide +kernel)
theorem q_fl_Ru_53 : Cond.fieldLink R_Ru 53 "ShadowHeap$Listing" "operations" "[I" ∈ bw := bw_mem 74 (by decide +kernel) (by decide +kernel)
theorem q_fl_Pr_50 : Cond.fieldLink R_Pr 50 "ShadowHeap$Listing" "operations" "[I" ∈ bw := bw_mem 75 (by decide +kernel) (by decide +kernel)
theorem q_fl_S_78 : Cond.fieldLink R_S 78 "ShadowHeap$Listing" "operations" "[I" ∈ bw := bw_mem 76 (by decide +kernel) (by decide +kernel)
theorem q_fl_Li_15 : Cond.fieldLink R_Li 15 "ShadowHeap$Listing" "origins" "[I" ∈ bw := bw_mem 77 (by decide +kernel) (by decide +kernel)
theorem q_fl_Ru_58 : Cond.fieldLink R_Ru 58 "ShadowHeap$Listing" "origins" "[I" ∈ bw := bw_mem 78 (by decide +kernel) (by decide +kernel)
theorem q_fl_S_82 : Cond.fieldLink R_S 82 "ShadowHeap$Listing" "origins" "[I" ∈ bw := bw_mem 79 (by decide +kernel) (by decide +kernel)
theorem q_fl_Pr_57 : Cond.fieldLink R_Pr 57 "ShadowHeap$Listing" "origins" "[I" ∈ bw := bw_mem 80 (by decide +kernel) (by decide +kernel)
theorem q_fl_Li_18 : Cond.fieldLink R_Li 18 "ShadowHeap$Listing" "firstLines" "[I" ∈ bw := bw_mem 81 (by decide +kernel) (by decide +kernel)
theorem q_fl_Pr_60 : Cond.fieldLink R_Pr 60 "ShadowHeap$Listing" "firstLines" "[I" ∈ bw := bw_mem 82 (by decide +kernel) (by decide +kernel)
theorem q_fl_Li_21 : Cond.fieldLink R_Li 21 "ShadowHeap$Listing" "size" "I" ∈ bw := bw_mem 83 (by decide +kernel) (by decide +kernel)
theorem q_fl_Pr_36 : Cond.fieldLink R_Pr 36 "ShadowHeap$Listing" "size" "I" ∈ bw := bw_mem 84 (by decide +kernel) (by decide +kernel)
theorem q_fl_S_71 : Cond.fieldLink R_S 71 "ShadowHeap$Listing" "size" "I" ∈ bw := bw_mem 85 (by decide +kernel) (by decide +kernel)
theorem q_fl_Ru_103 : Cond.fieldLink R_Ru 103 "ShadowHeap$Listing" "size" "I" ∈ bw := bw_mem 86 (by decide +kernel) (by decide +kernel)
theorem q_ac_int : Cond.arrayClass .int ∈ bw := bw_mem 96 (by decide +kernel) (by decide +kernel)
theorem q_fl_Pr_9 : Cond.fieldLink R_Pr 9 "ShadowHeap$Program" "\x72" "[I" ∈ bw := bw_mem 97 (by decide +kernel) (by decide +kernel)
theorem q_fl_Ru_93 : Cond.fieldLink R_Ru 93 "ShadowHeap$Program" "\x72" "[I" ∈ bw := bw_mem 98 (by decide +kernel) (by decide +kernel)
theorem q_fl_Pr_15 : Cond.fieldLink R_Pr 15 "ShadowHeap$Program" "a" "[I" ∈ bw := bw_mem 99 (by decide +kernel) (by decide +kernel)
theorem q_fl_Ru_150 : Cond.fieldLink R_Ru 150 "ShadowHeap$Program" "a" "[I" ∈ bw := bw_mem 100 (by decide +kernel) (by decide +kernel)
theorem q_fl_Pr_18 : Cond.fieldLink R_Pr 18 "ShadowHeap$Program" "b" "[I" ∈ bw := bw_mem 101 (by decide +kernel) (by decide +kernel)
theorem q_fl_Ru_153 : Cond.fieldLink R_Ru 153 "ShadowHeap$Program" "b" "[I" ∈ bw := bw_mem 102 (by decide +kernel) (by decide +kernel)
theorem q_fl_Pr_21 : Cond.fieldLink R_Pr 21 "ShadowHeap$Program" "k" "[I" ∈ bw := bw_mem 103 (by decide +kernel) (by decide +kernel)
theorem q_fl_Ru_109 : Cond.fieldLink R_Ru 109 "ShadowHeap$Program" "k" "[I" ∈ bw := bw_mem 104 (by decide +kernel) (by decide +kernel)
theorem q_fl_Ru_26 : Cond.fieldLink R_Ru 26 "ShadowHeap$Program" "plain" "LShadowHeap$Listing;" ∈ bw := bw_mem 105 (by decide +kernel) (by decide +kernel)
theorem q_fl_Pr_29 : Cond.fieldLink R_Pr 29 "ShadowHeap$Program" "plain" "LShadowHeap$Listing;" ∈ bw := bw_mem 106 (by decide +kernel) (by decide +kernel)
theorem q_fl_Pr_33 : Cond.fieldLink R_Pr 33 "ShadowHeap$Program" "rewritten" "LShadowHeap$Listing;" ∈ bw := bw_mem 107 (by decide +kernel) (by decide +kernel)
theorem q_fl_Ru_39 : Cond.fieldLink R_Ru 39 "ShadowHeap$Program" "rewritten" "LShadowHeap$Listing;" ∈ bw := bw_mem 108 (by decide +kernel) (by decide +kernel)
theorem q_fl_S_67 : Cond.fieldLink R_S 67 "ShadowHeap$Program" "rewritten" "LShadowHeap$Listing;" ∈ bw := bw_mem 109 (by decide +kernel) (by decide +kernel)
theorem q_cl_S_16 : Cond.classLink R_S 16 R_Me ∈ bw := bw_mem 123 (by decide +kernel) (by decide +kernel)
theorem q_ib_Me : Cond.instantiable R_Me 8 ∈ bw := bw_mem 124 (by decide +kernel) (by decide +kernel)
theorem q_ml_S_18 : Cond.methodLink R_S 18 y_Me_init ∈ bw := bw_mem 125 (by decide +kernel) (by decide +kernel)
theorem q_im_Me_init : Cond.instanceMethod y_Me_init ∈ bw := bw_mem 126 (by decide +kernel) (by decide +kernel)
theorem q_cd_Me_init : Cond.code y_Me_init b_Me_init 1 none ∈ bw := bw_mem 127 (by decide +kernel) (by decide +kernel)
theorem q_ml_Me_3 : Cond.methodLink R_Me 3 objectInit ∈ bw := bw_mem 128 (by decide +kernel) (by decide +kernel)
theorem q_ml_Me_28 : Cond.methodLink R_Me 28 y_Me_reset ∈ bw := bw_mem 129 (by decide +kernel) (by decide +kernel)
theorem q_im_Me_reset : Cond.instanceMethod y_Me_reset ∈ bw := bw_mem 130 (by decide +kernel) (by decide +kernel)
theorem q_se_Me_reset : Cond.selects R_Me y_Me_reset y_Me_reset ∈ bw := bw_mem 131 (by decide +kernel) (by decide +kernel)
theorem q_cd_Me_reset : Cond.code y_Me_reset b_Me_reset 2 none ∈ bw := bw_mem 132 (by decide +kernel) (by decide +kernel)
theorem q_fl_Me_11 : Cond.fieldLink R_Me 11 "ShadowHeap$Memory" "bytes" "[I" ∈ bw := bw_mem 133 (by decide +kernel) (by decide +kernel)
theorem q_fl_S_138 : Cond.fieldLink R_S 138 "ShadowHeap$Memory" "bytes" "[I" ∈ bw := bw_mem 134 (by decide +kernel) (by decide +kernel)
theorem q_fl_Me_15 : Cond.fieldLink R_Me 15 "ShadowHeap$Memory" "shadows" "[I" ∈ bw := bw_mem 135 (by decide +kernel) (by decide +kernel)
theorem q_fl_S_143 : Cond.fieldLink R_S 143 "ShadowHeap$Memory" "shadows" "[I" ∈ bw := bw_mem 136 (by decide +kernel) (by decide +kernel)
theorem q_fl_Me_18 : Cond.fieldLink R_Me 18 "ShadowHeap$Memory" "blockCells" "[I" ∈ bw := bw_mem 137 (by decide +kernel) (by decide +kernel)
theorem q_fl_Me_21 : Cond.fieldLink R_Me 21 "ShadowHeap$Memory" "quarantined" "[Z" ∈ bw := bw_mem 138 (by decide +kernel) (by decide +kernel)
theorem q_fl_Me_25 : Cond.fieldLink R_Me 25 "ShadowHeap$Memory" "queue" "[I" ∈ bw := bw_mem 139 (by decide +kernel) (by decide +kernel)
theorem q_fl_Me_31 : Cond.fieldLink R_Me 31 "ShadowHeap$Memory" "queuedCells" "I" ∈ bw := bw_mem 140 (by decide +kernel) (by decide +kernel)
theorem q_fl_Me_35 : Cond.fieldLink R_Me 35 "ShadowHeap$Memory" "queued" "I" ∈ bw := bw_mem 141 (by decide +kernel) (by decide +kernel)
theorem q_fl_S_121 : Cond.fieldLink R_S 121 "ShadowHeap$Memory" "queued" "I" ∈ bw := bw_mem 142 (by decide +kernel) (by decide +kernel)
theorem q_fl_Me_38 : Cond.fieldLink R_Me 38 "ShadowHeap$Memory" "liveCount" "I" ∈ bw := bw_mem 143 (by decide +kernel) (by decide +kernel)
theorem q_fl_S_118 : Cond.fieldLink R_S 118 "ShadowHeap$Memory" "liveCount" "I" ∈ bw := bw_mem 144 (by decide +kernel) (by decide +kernel)
theorem q_ac_boolean : Cond.arrayClass .boolean ∈ bw := bw_mem 162 (by decide +kernel) (by decide +kernel)
theorem q_cl_S_23 : Cond.classLink R_S 23 R_Ru ∈ bw := bw_mem 163 (by decide +kernel) (by decide +kernel)
theorem q_ib_Ru : Cond.instantiable R_Ru 10 ∈ bw := bw_mem 164 (by decide +kernel) (by decide +kernel)
theorem q_ml_S_25 : Cond.methodLink R_S 25 y_Ru_init ∈ bw := bw_mem 165 (by decide +kernel) (by decide +kernel)
theorem q_im_Ru_init : Cond.instanceMethod y_Ru_init ∈ bw := bw_mem 166 (by decide +kernel) (by decide +kernel)
theorem q_cd_Ru_init : Cond.code y_Ru_init b_Ru_init 3 none ∈ bw := bw_mem 167 (by decide +kernel) (by decide +kernel)
theorem q_ml_Ru_3 : Cond.methodLink R_Ru 3 objectInit ∈ bw := bw_mem 168 (by decide +kernel) (by decide +kernel)
theorem q_fl_Ru_18 : Cond.fieldLink R_Ru 18 "ShadowHeap$Run" "program" "LShadowHeap$Program;" ∈ bw := bw_mem 169 (by decide +kernel) (by decide +kernel)
theorem q_fl_Ru_22 : Cond.fieldLink R_Ru 22 "ShadowHeap$Run" "memory" "LShadowHeap$Memory;" ∈ bw := bw_mem 170 (by decide +kernel) (by decide +kernel)
theorem q_fl_Ru_9 : Cond.fieldLink R_Ru 9 "ShadowHeap$Run" "registers" "[I" ∈ bw := bw_mem 171 (by decide +kernel) (by decide +kernel)
theorem q_fl_S_124 : Cond.fieldLink R_S 124 "ShadowHeap$Run" "registers" "[I" ∈ bw := bw_mem 172 (by decide +kernel) (by decide +kernel)
theorem q_fl_Ru_15 : Cond.fieldLink R_Ru 15 "ShadowHeap$Run" "printedNumbers" "[I" ∈ bw := bw_mem 173 (by decide +kernel) (by decide +kernel)
theorem q_fl_S_129 : Cond.fieldLink R_S 129 "ShadowHeap$Run" "printedNumbers" "[I" ∈ bw := bw_mem 174 (by decide +kernel) (by decide +kernel)
theorem q_fl_Ru_47 : Cond.fieldLink R_Ru 47 "ShadowHeap$Run" "printedCount" "I" ∈ bw := bw_mem 175 (by decide +kernel) (by decide +kernel)
theorem q_fl_S_115 : Cond.fieldLink R_S 115 "ShadowHeap$Run" "printedCount" "I" ∈ bw := bw_mem 176 (by decide +kernel) (by decide +kernel)
theorem q_fl_Ru_32 : Cond.fieldLink R_Ru 32 "ShadowHeap$Run" "listing" "LShadowHeap$Listing;" ∈ bw := bw_mem 177 (by decide +kernel) (by decide +kernel)
theorem q_fl_S_154 : Cond.fieldLink R_S 154 "ShadowHeap$Run" "listing" "LShadowHeap$Listing;" ∈ bw := bw_mem 178 (by decide +kernel) (by decide +kernel)
theorem q_fl_Ru_35 : Cond.fieldLink R_Ru 35 "ShadowHeap$Run" "state" "I" ∈ bw := bw_mem 179 (by decide +kernel) (by decide +kernel)
theorem q_fl_S_100 : Cond.fieldLink R_S 100 "ShadowHeap$Run" "state" "I" ∈ bw := bw_mem 180 (by decide +kernel) (by decide +kernel)
theorem q_fl_Ru_50 : Cond.fieldLink R_Ru 50 "ShadowHeap$Run" "line" "I" ∈ bw := bw_mem 181 (by decide +kernel) (by decide +kernel)
theorem q_fl_S_112 : Cond.fieldLink R_S 112 "ShadowHeap$Run" "line" "I" ∈ bw := bw_mem 182 (by decide +kernel) (by decide +kernel)
theorem q_fl_Ru_144 : Cond.fieldLink R_Ru 144 "ShadowHeap$Run" "reportKind" "I" ∈ bw := bw_mem 183 (by decide +kernel) (by decide +kernel)
theorem q_fl_S_148 : Cond.fieldLink R_S 148 "ShadowHeap$Run" "reportKind" "I" ∈ bw := bw_mem 184 (by decide +kernel) (by decide +kernel)
theorem q_fl_Ru_147 : Cond.fieldLink R_Ru 147 "ShadowHeap$Run" "reportAddress" "I" ∈ bw := bw_mem 185 (by decide +kernel) (by decide +kernel)
theorem q_fl_S_151 : Cond.fieldLink R_S 151 "ShadowHeap$Run" "reportAddress" "I" ∈ bw := bw_mem 186 (by decide +kernel) (by decide +kernel)
theorem q_fl_S_10 : Cond.fieldLink R_S 10 "ShadowHeap" "program" "LShadowHeap$Program;" ∈ bw := bw_mem 208 (by decide +kernel) (by decide +kernel)
theorem q_fl_S_19 : Cond.fieldLink R_S 19 "ShadowHeap" "memory" "LShadowHeap$Memory;" ∈ bw := bw_mem 209 (by decide +kernel) (by decide +kernel)
theorem q_fl_S_28 : Cond.fieldLink R_S 28 "ShadowHeap" "run" "LShadowHeap$Run;" ∈ bw := bw_mem 210 (by decide +kernel) (by decide +kernel)
theorem q_ml_La_66 : Cond.methodLink R_La 66 y_S_clear ∈ bw := bw_mem 218 (by decide +kernel) (by decide +kernel)
theorem q_im_S_clear : Cond.instanceMethod y_S_clear ∈ bw := bw_mem 219 (by decide +kernel) (by decide +kernel)
theorem q_se_S_clear : Cond.selects R_S y_S_clear y_S_clear ∈ bw := bw_mem 220 (by decide +kernel) (by decide +kernel)
theorem q_cd_S_clear : Cond.code y_S_clear b_S_clear 1 none ∈ bw := bw_mem 221 (by decide +kernel) (by decide +kernel)
theorem q_ml_S_54 : Cond.methodLink R_S 54 y_Ru_drop ∈ bw := bw_mem 222 (by decide +kernel) (by decide +kernel)
theorem q_im_Ru_drop : Cond.instanceMethod y_Ru_drop ∈ bw := bw_mem 223 (by decide +kernel) (by decide +kernel)
theorem q_se_Ru_drop : Cond.selects R_Ru y_Ru_drop y_Ru_drop ∈ bw := bw_mem 224 (by decide +kernel) (by decide +kernel)
theorem q_cd_Ru_drop : Cond.code y_Ru_drop b_Ru_drop 1 none ∈ bw := bw_mem 225 (by decide +kernel) (by decide +kernel)
theorem q_ml_S_61 : Cond.methodLink R_S 61 y_Pr_removeAll ∈ bw := bw_mem 226 (by decide +kernel) (by decide +kernel)
theorem q_im_Pr_removeAll : Cond.instanceMethod y_Pr_removeAll ∈ bw := bw_mem 227 (by decide +kernel) (by decide +kernel)
theorem q_se_Pr_removeAll : Cond.selects R_Pr y_Pr_removeAll y_Pr_removeAll ∈ bw := bw_mem 228 (by decide +kernel) (by decide +kernel)
theorem q_cd_Pr_removeAll : Cond.code y_Pr_removeAll b_Pr_removeAll 1 none ∈ bw := bw_mem 229 (by decide +kernel) (by decide +kernel)
theorem q_ml_La_57 : Cond.methodLink R_La 57 y_La_code ∈ bw := bw_mem 230 (by decide +kernel) (by decide +kernel)
theorem q_st_La_code : Cond.static y_La_code ∈ bw := bw_mem 231 (by decide +kernel) (by decide +kernel)
theorem q_cd_La_code : Cond.codeWith y_La_code b_La_code 8 (some .int) [(0, 16, 19, 13), (0, 16, 23, 15)] ∈ bw := bw_mem 232 (by decide +kernel) (by decide +kernel)
theorem q_cl_La_13 : Cond.classLink R_La 13 "java/lang/IllegalArgumentException" ∈ bw := bw_mem 233 (by decide +kernel) (by decide +kernel)
theorem q_cl_La_15 : Cond.classLink R_La 15 "java/lang/IndexOutOfBoundsException" ∈ bw := bw_mem 234 (by decide +kernel) (by decide +kernel)
theorem q_ml_La_7 : Cond.methodLink R_La 7 y_S_code ∈ bw := bw_mem 235 (by decide +kernel) (by decide +kernel)
theorem q_im_S_code : Cond.instanceMethod y_S_code ∈ bw := bw_mem 236 (by decide +kernel) (by decide +kernel)
theorem q_se_S_code : Cond.selects R_S y_S_code y_S_code ∈ bw := bw_mem 237 (by decide +kernel) (by decide +kernel)
theorem q_cd_S_code : Cond.code y_S_code b_S_code 6 (some .int) ∈ bw := bw_mem 238 (by decide +kernel) (by decide +kernel)
theorem q_cl_S_32 : Cond.classLink R_S 32 "java/lang/IllegalArgumentException" ∈ bw := bw_mem 239 (by decide +kernel) (by decide +kernel)
theorem q_ca_IllegalArgumentException : Cond.castable "java/lang/IllegalArgumentException" "java/lang/IllegalArgumentException" ∈ lw_tbl := List.mem_of_getElem? (i := 241) (by decide +kernel)
theorem q_ml_S_36 : Cond.methodLink R_S 36 ⟨"java/lang/IllegalArgumentException", "<init>", "(Ljava/lang/String;)V"⟩ ∈ bw := bw_mem 281 (by decide +kernel) (by decide +kernel)
theorem q_ac_byte : Cond.arrayClass .byte ∈ bw := bw_mem 306 (by decide +kernel) (by decide +kernel)
theorem q_ml_S_39 : Cond.methodLink R_S 39 y_S_isRegister ∈ bw := bw_mem 307 (by decide +kernel) (by decide +kernel)
theorem q_st_S_isRegister : Cond.static y_S_isRegister ∈ bw := bw_mem 308 (by decide +kernel) (by decide +kernel)
theorem q_cd_S_isRegister : Cond.code y_S_isRegister b_S_isRegister 1 (some .boolean) ∈ bw := bw_mem 309 (by decide +kernel) (by decide +kernel)
theorem q_ml_S_45 : Cond.methodLink R_S 45 y_Pr_size ∈ bw := bw_mem 311 (by decide +kernel) (by decide +kernel)
theorem q_im_Pr_size : Cond.instanceMethod y_Pr_size ∈ bw := bw_mem 312 (by decide +kernel) (by decide +kernel)
theorem q_se_Pr_size : Cond.selects R_Pr y_Pr_size y_Pr_size ∈ bw := bw_mem 313 (by decide +kernel) (by decide +kernel)
theorem q_cd_Pr_size : Cond.code y_Pr_size b_Pr_size 1 (some .int) ∈ bw := bw_mem 314 (by decide +kernel) (by decide +kernel)
theorem q_cl_S_49 : Cond.classLink R_S 49 "java/lang/IndexOutOfBoundsException" ∈ bw := bw_mem 315 (by decide +kernel) (by decide +kernel)
theorem q_ca_IndexOutOfBoundsException : Cond.castable "java/lang/IndexOutOfBoundsException" "java/lang/IndexOutOfBoundsException" ∈ lw_tbl := List.mem_of_getElem? (i := 317) (by decide +kernel)
theorem q_ml_S_53 : Cond.methodLink R_S 53 ⟨"java/lang/IndexOutOfBoundsException", "<init>", "(Ljava/lang/String;)V"⟩ ∈ bw := bw_mem 325 (by decide +kernel) (by decide +kernel)
theorem q_ml_S_57 : Cond.methodLink R_S 57 y_Pr_add ∈ bw := bw_mem 331 (by decide +kernel) (by decide +kernel)
theorem q_im_Pr_add : Cond.instanceMethod y_Pr_add ∈ bw := bw_mem 332 (by decide +kernel) (by decide +kernel)
theorem q_se_Pr_add : Cond.selects R_Pr y_Pr_add y_Pr_add ∈ bw := bw_mem 333 (by decide +kernel) (by decide +kernel)
theorem q_cd_Pr_add : Cond.code y_Pr_add b_Pr_add 7 (some .int) ∈ bw := bw_mem 334 (by decide +kernel) (by decide +kernel)
theorem q_ml_Pr_40 : Cond.methodLink R_Pr 40 y_Pr_size ∈ bw := bw_mem 335 (by decide +kernel) (by decide +kernel)
theorem q_ml_Pr_43 : Cond.methodLink R_Pr 43 y_Li_beginInstruction ∈ bw := bw_mem 336 (by decide +kernel) (by decide +kernel)
theorem q_im_Li_beginInstruction : Cond.instanceMethod y_Li_beginInstruction ∈ bw := bw_mem 337 (by decide +kernel) (by decide +kernel)
theorem q_se_Li_beginInstruction : Cond.selects R_Li y_Li_beginInstruction y_Li_beginInstruction ∈ bw := bw_mem 338 (by decide +kernel) (by decide +kernel)
theorem q_cd_Li_beginInstruction : Cond.code y_Li_beginInstruction b_Li_beginInstruction 2 none ∈ bw := bw_mem 339 (by decide +kernel) (by decide +kernel)
theorem q_ml_Pr_46 : Cond.methodLink R_Pr 46 y_Li_append ∈ bw := bw_mem 340 (by decide +kernel) (by decide +kernel)
theorem q_im_Li_append : Cond.instanceMethod y_Li_append ∈ bw := bw_mem 341 (by decide +kernel) (by decide +kernel)
theorem q_se_Li_append : Cond.selects R_Li y_Li_append y_Li_append ∈ bw := bw_mem 342 (by decide +kernel) (by decide +kernel)
theorem q_cd_Li_append : Cond.code y_Li_append b_Li_append 3 none ∈ bw := bw_mem 343 (by decide +kernel) (by decide +kernel)
theorem q_ml_La_70 : Cond.methodLink R_La 70 y_La_rewrite ∈ bw := bw_mem 344 (by decide +kernel) (by decide +kernel)
theorem q_st_La_rewrite : Cond.static y_La_rewrite ∈ bw := bw_mem 345 (by decide +kernel) (by decide +kernel)
theorem q_cd_La_rewrite : Cond.codeWith y_La_rewrite b_La_rewrite 3 (some .int) [(0, 8, 11, 21)] ∈ bw := bw_mem 346 (by decide +kernel) (by decide +kernel)
theorem q_cl_La_21 : Cond.classLink R_La 21 "java/lang/IllegalStateException" ∈ bw := bw_mem 347 (by decide +kernel) (by decide +kernel)
theorem q_ml_La_17 : Cond.methodLink R_La 17 y_S_rewrite ∈ bw := bw_mem 348 (by decide +kernel) (by decide +kernel)
theorem q_im_S_rewrite : Cond.instanceMethod y_S_rewrite ∈ bw := bw_mem 349 (by decide +kernel) (by decide +kernel)
theorem q_se_S_rewrite : Cond.selects R_S y_S_rewrite y_S_rewrite ∈ bw := bw_mem 350 (by decide +kernel) (by decide +kernel)
theorem q_cd_S_rewrite : Cond.code y_S_rewrite b_S_rewrite 1 (some .int) ∈ bw := bw_mem 351 (by decide +kernel) (by decide +kernel)
theorem q_ml_S_64 : Cond.methodLink R_S 64 y_S_refuseGoingOutside ∈ bw := bw_mem 352 (by decide +kernel) (by decide +kernel)
theorem q_im_S_refuseGoingOutside : Cond.instanceMethod y_S_refuseGoingOutside ∈ bw := bw_mem 354 (by decide +kernel) (by decide +kernel)
theorem q_cd_S_refuseGoingOutside : Cond.code y_S_refuseGoingOutside b_S_refuseGoingOutside 1 none ∈ bw := bw_mem 355 (by decide +kernel) (by decide +kernel)
theorem q_ml_S_157 : Cond.methodLink R_S 157 y_Pr_goesOnWithin ∈ bw := bw_mem 356 (by decide +kernel) (by decide +kernel)
theorem q_im_Pr_goesOnWithin : Cond.instanceMethod y_Pr_goesOnWithin ∈ bw := bw_mem 357 (by decide +kernel) (by decide +kernel)
theorem q_se_Pr_goesOnWithin : Cond.selects R_Pr y_Pr_goesOnWithin y_Pr_goesOnWithin ∈ bw := bw_mem 358 (by decide +kernel) (by decide +kernel)
theorem q_cd_Pr_goesOnWithin : Cond.code y_Pr_goesOnWithin b_Pr_goesOnWithin 2 (some .boolean) ∈ bw := bw_mem 359 (by decide +kernel) (by decide +kernel)
theorem q_ml_Pr_53 : Cond.methodLink R_Pr 53 y_Pr_goesOnElsewhere ∈ bw := bw_mem 360 (by decide +kernel) (by decide +kernel)
theorem q_st_Pr_goesOnElsewhere : Cond.static y_Pr_goesOnElsewhere ∈ bw := bw_mem 361 (by decide +kernel) (by decide +kernel)
theorem q_cd_Pr_goesOnElsewhere : Cond.code y_Pr_goesOnElsewhere b_Pr_goesOnElsewhere 1 (some .boolean) ∈ bw := bw_mem 362 (by decide +kernel) (by decide +kernel)
theorem q_cl_S_91 : Cond.classLink R_S 91 "java/lang/IllegalStateException" ∈ bw := bw_mem 363 (by decide +kernel) (by decide +kernel)
theorem q_ca_IllegalStateException : Cond.castable "java/lang/IllegalStateException" "java/lang/IllegalStateException" ∈ lw_tbl := List.mem_of_getElem? (i := 365) (by decide +kernel)
theorem q_ml_S_95 : Cond.methodLink R_S 95 ⟨"java/lang/IllegalStateException", "<init>", "(Ljava/lang/String;)V"⟩ ∈ bw := bw_mem 373 (by decide +kernel) (by decide +kernel)
theorem q_ml_La_74 : Cond.methodLink R_La 74 y_La_rewritten ∈ bw := bw_mem 379 (by decide +kernel) (by decide +kernel)
theorem q_st_La_rewritten : Cond.static y_La_rewritten ∈ bw := bw_mem 380 (by decide +kernel) (by decide +kernel)
theorem q_cd_La_rewritten : Cond.codeWith y_La_rewritten b_La_rewritten 5 (some .int) [(0, 10, 13, 21), (0, 10, 17, 15), (0, 10, 21, 13)] ∈ bw := bw_mem 381 (by decide +kernel) (by decide +kernel)
theorem q_ml_La_23 : Cond.methodLink R_La 23 y_S_rewritten ∈ bw := bw_mem 382 (by decide +kernel) (by decide +kernel)
theorem q_im_S_rewritten : Cond.instanceMethod y_S_rewritten ∈ bw := bw_mem 383 (by decide +kernel) (by decide +kernel)
theorem q_se_S_rewritten : Cond.selects R_S y_S_rewritten y_S_rewritten ∈ bw := bw_mem 384 (by decide +kernel) (by decide +kernel)
theorem q_cd_S_rewritten : Cond.code y_S_rewritten b_S_rewritten 3 (some .int) ∈ bw := bw_mem 385 (by decide +kernel) (by decide +kernel)
theorem q_ml_S_85 : Cond.methodLink R_S 85 y_Pr_numberAt ∈ bw := bw_mem 387 (by decide +kernel) (by decide +kernel)
theorem q_im_Pr_numberAt : Cond.instanceMethod y_Pr_numberAt ∈ bw := bw_mem 388 (by decide +kernel) (by decide +kernel)
theorem q_se_Pr_numberAt : Cond.selects R_Pr y_Pr_numberAt y_Pr_numberAt ∈ bw := bw_mem 389 (by decide +kernel) (by decide +kernel)
theorem q_cd_Pr_numberAt : Cond.code y_Pr_numberAt b_Pr_numberAt 4 (some .int) ∈ bw := bw_mem 390 (by decide +kernel) (by decide +kernel)
theorem q_ml_La_78 : Cond.methodLink R_La 78 y_La_start ∈ bw := bw_mem 392 (by decide +kernel) (by decide +kernel)
theorem q_st_La_start : Cond.static y_La_start ∈ bw := bw_mem 393 (by decide +kernel) (by decide +kernel)
theorem q_cd_La_start : Cond.codeWith y_La_start b_La_start 5 (some .int) [(0, 7, 10, 21)] ∈ bw := bw_mem 394 (by decide +kernel) (by decide +kernel)
theorem q_ml_La_27 : Cond.methodLink R_La 27 y_S_start ∈ bw := bw_mem 395 (by decide +kernel) (by decide +kernel)
theorem q_im_S_start : Cond.instanceMethod y_S_start ∈ bw := bw_mem 396 (by decide +kernel) (by decide +kernel)
theorem q_se_S_start : Cond.selects R_S y_S_start y_S_start ∈ bw := bw_mem 397 (by decide +kernel) (by decide +kernel)
theorem q_cd_S_start : Cond.code y_S_start b_S_start 4 none ∈ bw := bw_mem 398 (by decide +kernel) (by decide +kernel)
theorem q_ml_S_96 : Cond.methodLink R_S 96 y_Ru_begin ∈ bw := bw_mem 400 (by decide +kernel) (by decide +kernel)
theorem q_im_Ru_begin : Cond.instanceMethod y_Ru_begin ∈ bw := bw_mem 401 (by decide +kernel) (by decide +kernel)
theorem q_se_Ru_begin : Cond.selects R_Ru y_Ru_begin y_Ru_begin ∈ bw := bw_mem 402 (by decide +kernel) (by decide +kernel)
theorem q_cd_Ru_begin : Cond.code y_Ru_begin b_Ru_begin 5 none ∈ bw := bw_mem 403 (by decide +kernel) (by decide +kernel)
theorem q_ml_Ru_42 : Cond.methodLink R_Ru 42 y_Me_reset ∈ bw := bw_mem 404 (by decide +kernel) (by decide +kernel)
theorem q_ml_La_82 : Cond.methodLink R_La 82 y_La_step ∈ bw := bw_mem 405 (by decide +kernel) (by decide +kernel)
theorem q_st_La_step : Cond.static y_La_step ∈ bw := bw_mem 406 (by decide +kernel) (by decide +kernel)
theorem q_cd_La_step : Cond.codeWith y_La_step b_La_step 4 (some .int) [(0, 9, 12, 21), (0, 9, 15, 13)] ∈ bw := bw_mem 407 (by decide +kernel) (by decide +kernel)
theorem q_ml_La_31 : Cond.methodLink R_La 31 y_S_step ∈ bw := bw_mem 408 (by decide +kernel) (by decide +kernel)
theorem q_im_S_step : Cond.instanceMethod y_S_step ∈ bw := bw_mem 409 (by decide +kernel) (by decide +kernel)
theorem q_se_S_step : Cond.selects R_S y_S_step y_S_step ∈ bw := bw_mem 410 (by decide +kernel) (by decide +kernel)
theorem q_cd_S_step : Cond.code y_S_step b_S_step 3 (some .int) ∈ bw := bw_mem 411 (by decide +kernel) (by decide +kernel)
theorem q_ml_S_107 : Cond.methodLink R_S 107 y_Ru_doLine ∈ bw := bw_mem 414 (by decide +kernel) (by decide +kernel)
theorem q_im_Ru_doLine : Cond.instanceMethod y_Ru_doLine ∈ bw := bw_mem 415 (by decide +kernel) (by decide +kernel)
theorem q_se_Ru_doLine : Cond.selects R_Ru y_Ru_doLine y_Ru_doLine ∈ bw := bw_mem 416 (by decide +kernel) (by decide +kernel)
theorem q_cd_Ru_doLine : Cond.code y_Ru_doLine b_Ru_doLine 4 none ∈ bw := bw_mem 417 (by decide +kernel) (by decide +kernel)
theorem q_ml_Ru_61 : Cond.methodLink R_Ru 61 y_Ru_addressOf ∈ bw := bw_mem 418 (by decide +kernel) (by decide +kernel)
theorem q_im_Ru_addressOf : Cond.instanceMethod y_Ru_addressOf ∈ bw := bw_mem 420 (by decide +kernel) (by decide +kernel)
theorem q_cd_Ru_addressOf : Cond.code y_Ru_addressOf b_Ru_addressOf 2 (some .int) ∈ bw := bw_mem 421 (by decide +kernel) (by decide +kernel)
theorem q_ml_Ru_72 : Cond.methodLink R_Ru 72 y_Ru_aOf ∈ bw := bw_mem 422 (by decide +kernel) (by decide +kernel)
theorem q_im_Ru_aOf : Cond.instanceMethod y_Ru_aOf ∈ bw := bw_mem 424 (by decide +kernel) (by decide +kernel)
theorem q_cd_Ru_aOf : Cond.code y_Ru_aOf b_Ru_aOf 2 (some .int) ∈ bw := bw_mem 425 (by decide +kernel) (by decide +kernel)
theorem q_ml_Ru_65 : Cond.methodLink R_Ru 65 y_Pr_widthOf ∈ bw := bw_mem 426 (by decide +kernel) (by decide +kernel)
theorem q_im_Pr_widthOf : Cond.instanceMethod y_Pr_widthOf ∈ bw := bw_mem 427 (by decide +kernel) (by decide +kernel)
theorem q_se_Pr_widthOf : Cond.selects R_Pr y_Pr_widthOf y_Pr_widthOf ∈ bw := bw_mem 428 (by decide +kernel) (by decide +kernel)
theorem q_cd_Pr_widthOf : Cond.code y_Pr_widthOf b_Pr_widthOf 3 (some .int) ∈ bw := bw_mem 429 (by decide +kernel) (by decide +kernel)
theorem q_ml_Ru_68 : Cond.methodLink R_Ru 68 y_Ru_checkBytes ∈ bw := bw_mem 430 (by decide +kernel) (by decide +kernel)
theorem q_im_Ru_checkBytes : Cond.instanceMethod y_Ru_checkBytes ∈ bw := bw_mem 432 (by decide +kernel) (by decide +kernel)
theorem q_cd_Ru_checkBytes : Cond.code y_Ru_checkBytes b_Ru_checkBytes 5 none ∈ bw := bw_mem 433 (by decide +kernel) (by decide +kernel)
theorem q_ml_Ru_138 : Cond.methodLink R_Ru 138 y_Me_kindOfTouch ∈ bw := bw_mem 434 (by decide +kernel) (by decide +kernel)
theorem q_im_Me_kindOfTouch : Cond.instanceMethod y_Me_kindOfTouch ∈ bw := bw_mem 435 (by decide +kernel) (by decide +kernel)
theorem q_se_Me_kindOfTouch : Cond.selects R_Me y_Me_kindOfTouch y_Me_kindOfTouch ∈ bw := bw_mem 436 (by decide +kernel) (by decide +kernel)
theorem q_cd_Me_kindOfTouch : Cond.code y_Me_kindOfTouch b_Me_kindOfTouch 2 (some .int) ∈ bw := bw_mem 437 (by decide +kernel) (by decide +kernel)
theorem q_ml_Me_41 : Cond.methodLink R_Me 41 y_Me_holds ∈ bw := bw_mem 438 (by decide +kernel) (by decide +kernel)
theorem q_st_Me_holds : Cond.static y_Me_holds ∈ bw := bw_mem 439 (by decide +kernel) (by decide +kernel)
theorem q_cd_Me_holds : Cond.code y_Me_holds b_Me_holds 2 (some .boolean) ∈ bw := bw_mem 440 (by decide +kernel) (by decide +kernel)
theorem q_ml_Ru_141 : Cond.methodLink R_Ru 141 y_Ru_endWithReport ∈ bw := bw_mem 441 (by decide +kernel) (by decide +kernel)
theorem q_im_Ru_endWithReport : Cond.instanceMethod y_Ru_endWithReport ∈ bw := bw_mem 443 (by decide +kernel) (by decide +kernel)
theorem q_cd_Ru_endWithReport : Cond.code y_Ru_endWithReport b_Ru_endWithReport 3 none ∈ bw := bw_mem 444 (by decide +kernel) (by decide +kernel)
theorem q_ml_Ru_75 : Cond.methodLink R_Ru 75 y_Ru_checkFree ∈ bw := bw_mem 445 (by decide +kernel) (by decide +kernel)
theorem q_im_Ru_checkFree : Cond.instanceMethod y_Ru_checkFree ∈ bw := bw_mem 447 (by decide +kernel) (by decide +kernel)
theorem q_cd_Ru_checkFree : Cond.code y_Ru_checkFree b_Ru_checkFree 2 none ∈ bw := bw_mem 448 (by decide +kernel) (by decide +kernel)
theorem q_ml_Ru_121 : Cond.methodLink R_Ru 121 y_Me_mayFree ∈ bw := bw_mem 449 (by decide +kernel) (by decide +kernel)
theorem q_im_Me_mayFree : Cond.instanceMethod y_Me_mayFree ∈ bw := bw_mem 450 (by decide +kernel) (by decide +kernel)
theorem q_se_Me_mayFree : Cond.selects R_Me y_Me_mayFree y_Me_mayFree ∈ bw := bw_mem 451 (by decide +kernel) (by decide +kernel)
theorem q_cd_Me_mayFree : Cond.code y_Me_mayFree b_Me_mayFree 3 (some .boolean) ∈ bw := bw_mem 452 (by decide +kernel) (by decide +kernel)
theorem q_ml_Ru_79 : Cond.methodLink R_Ru 79 y_Ru_goesOn ∈ bw := bw_mem 453 (by decide +kernel) (by decide +kernel)
theorem q_im_Ru_goesOn : Cond.instanceMethod y_Ru_goesOn ∈ bw := bw_mem 455 (by decide +kernel) (by decide +kernel)
theorem q_cd_Ru_goesOn : Cond.code y_Ru_goesOn b_Ru_goesOn 3 (some .boolean) ∈ bw := bw_mem 456 (by decide +kernel) (by decide +kernel)
theorem q_ml_Ru_106 : Cond.methodLink R_Ru 106 y_Ru_bOf ∈ bw := bw_mem 457 (by decide +kernel) (by decide +kernel)
theorem q_im_Ru_bOf : Cond.instanceMethod y_Ru_bOf ∈ bw := bw_mem 459 (by decide +kernel) (by decide +kernel)
theorem q_cd_Ru_bOf : Cond.code y_Ru_bOf b_Ru_bOf 2 (some .int) ∈ bw := bw_mem 460 (by decide +kernel) (by decide +kernel)
theorem q_ml_Ru_83 : Cond.methodLink R_Ru 83 y_Pr_numberAt ∈ bw := bw_mem 461 (by decide +kernel) (by decide +kernel)
theorem q_ml_Ru_87 : Cond.methodLink R_Ru 87 y_Ru_useHeap ∈ bw := bw_mem 462 (by decide +kernel) (by decide +kernel)
theorem q_im_Ru_useHeap : Cond.instanceMethod y_Ru_useHeap ∈ bw := bw_mem 464 (by decide +kernel) (by decide +kernel)
theorem q_cd_Ru_useHeap : Cond.code y_Ru_useHeap b_Ru_useHeap 3 none ∈ bw := bw_mem 465 (by decide +kernel) (by decide +kernel)
theorem q_ml_Ru_112 : Cond.methodLink R_Ru 112 y_Me_allocate ∈ bw := bw_mem 466 (by decide +kernel) (by decide +kernel)
theorem q_im_Me_allocate : Cond.instanceMethod y_Me_allocate ∈ bw := bw_mem 467 (by decide +kernel) (by decide +kernel)
theorem q_se_Me_allocate : Cond.selects R_Me y_Me_allocate y_Me_allocate ∈ bw := bw_mem 468 (by decide +kernel) (by decide +kernel)
theorem q_cd_Me_allocate : Cond.code y_Me_allocate b_Me_allocate 5 (some .int) ∈ bw := bw_mem 469 (by decide +kernel) (by decide +kernel)
theorem q_ml_Me_45 : Cond.methodLink R_Me 45 y_Me_lowestGap ∈ bw := bw_mem 470 (by decide +kernel) (by decide +kernel)
theorem q_im_Me_lowestGap : Cond.instanceMethod y_Me_lowestGap ∈ bw := bw_mem 472 (by decide +kernel) (by decide +kernel)
theorem q_cd_Me_lowestGap : Cond.code y_Me_lowestGap b_Me_lowestGap 4 (some .int) ∈ bw := bw_mem 473 (by decide +kernel) (by decide +kernel)
theorem q_ml_Me_49 : Cond.methodLink R_Me 49 y_Me_releaseOldest ∈ bw := bw_mem 474 (by decide +kernel) (by decide +kernel)
theorem q_im_Me_releaseOldest : Cond.instanceMethod y_Me_releaseOldest ∈ bw := bw_mem 476 (by decide +kernel) (by decide +kernel)
theorem q_cd_Me_releaseOldest : Cond.code y_Me_releaseOldest b_Me_releaseOldest 4 none ∈ bw := bw_mem 477 (by decide +kernel) (by decide +kernel)
theorem q_ml_Me_56 : Cond.methodLink R_Me 56 y_Me_paint ∈ bw := bw_mem 478 (by decide +kernel) (by decide +kernel)
theorem q_im_Me_paint : Cond.instanceMethod y_Me_paint ∈ bw := bw_mem 480 (by decide +kernel) (by decide +kernel)
theorem q_cd_Me_paint : Cond.code y_Me_paint b_Me_paint 5 none ∈ bw := bw_mem 481 (by decide +kernel) (by decide +kernel)
theorem q_ml_Me_52 : Cond.methodLink R_Me 52 y_Me_placeBlock ∈ bw := bw_mem 482 (by decide +kernel) (by decide +kernel)
theorem q_im_Me_placeBlock : Cond.instanceMethod y_Me_placeBlock ∈ bw := bw_mem 484 (by decide +kernel) (by decide +kernel)
theorem q_cd_Me_placeBlock : Cond.code y_Me_placeBlock b_Me_placeBlock 6 none ∈ bw := bw_mem 485 (by decide +kernel) (by decide +kernel)
theorem q_ml_Ru_115 : Cond.methodLink R_Ru 115 y_Ru_freeOrCrash ∈ bw := bw_mem 486 (by decide +kernel) (by decide +kernel)
theorem q_im_Ru_freeOrCrash : Cond.instanceMethod y_Ru_freeOrCrash ∈ bw := bw_mem 488 (by decide +kernel) (by decide +kernel)
theorem q_cd_Ru_freeOrCrash : Cond.code y_Ru_freeOrCrash b_Ru_freeOrCrash 2 none ∈ bw := bw_mem 489 (by decide +kernel) (by decide +kernel)
theorem q_ml_Ru_125 : Cond.methodLink R_Ru 125 y_Me_free ∈ bw := bw_mem 490 (by decide +kernel) (by decide +kernel)
theorem q_im_Me_free : Cond.instanceMethod y_Me_free ∈ bw := bw_mem 491 (by decide +kernel) (by decide +kernel)
theorem q_se_Me_free : Cond.selects R_Me y_Me_free y_Me_free ∈ bw := bw_mem 492 (by decide +kernel) (by decide +kernel)
theorem q_cd_Me_free : Cond.code y_Me_free b_Me_free 5 none ∈ bw := bw_mem 493 (by decide +kernel) (by decide +kernel)
theorem q_ml_Ru_118 : Cond.methodLink R_Ru 118 y_Ru_touchOrCrash ∈ bw := bw_mem 494 (by decide +kernel) (by decide +kernel)
theorem q_im_Ru_touchOrCrash : Cond.instanceMethod y_Ru_touchOrCrash ∈ bw := bw_mem 496 (by decide +kernel) (by decide +kernel)
theorem q_cd_Ru_touchOrCrash : Cond.code y_Ru_touchOrCrash b_Ru_touchOrCrash 5 none ∈ bw := bw_mem 497 (by decide +kernel) (by decide +kernel)
theorem q_ml_Ru_128 : Cond.methodLink R_Ru 128 y_Me_holds ∈ bw := bw_mem 498 (by decide +kernel) (by decide +kernel)
theorem q_ml_Ru_131 : Cond.methodLink R_Ru 131 y_Me_load ∈ bw := bw_mem 499 (by decide +kernel) (by decide +kernel)
theorem q_im_Me_load : Cond.instanceMethod y_Me_load ∈ bw := bw_mem 500 (by decide +kernel) (by decide +kernel)
theorem q_se_Me_load : Cond.selects R_Me y_Me_load y_Me_load ∈ bw := bw_mem 501 (by decide +kernel) (by decide +kernel)
theorem q_cd_Me_load : Cond.code y_Me_load b_Me_load 5 (some .int) ∈ bw := bw_mem 502 (by decide +kernel) (by decide +kernel)
theorem q_ml_Ru_134 : Cond.methodLink R_Ru 134 y_Me_store ∈ bw := bw_mem 503 (by decide +kernel) (by decide +kernel)
theorem q_im_Me_store : Cond.instanceMethod y_Me_store ∈ bw := bw_mem 504 (by decide +kernel) (by decide +kernel)
theorem q_se_Me_store : Cond.selects R_Me y_Me_store y_Me_store ∈ bw := bw_mem 505 (by decide +kernel) (by decide +kernel)
theorem q_cd_Me_store : Cond.code y_Me_store b_Me_store 5 none ∈ bw := bw_mem 506 (by decide +kernel) (by decide +kernel)
theorem q_ml_Ru_90 : Cond.methodLink R_Ru 90 y_Ru_print ∈ bw := bw_mem 507 (by decide +kernel) (by decide +kernel)
theorem q_im_Ru_print : Cond.instanceMethod y_Ru_print ∈ bw := bw_mem 509 (by decide +kernel) (by decide +kernel)
theorem q_cd_Ru_print : Cond.code y_Ru_print b_Ru_print 2 none ∈ bw := bw_mem 510 (by decide +kernel) (by decide +kernel)
theorem q_ml_Ru_96 : Cond.methodLink R_Ru 96 y_Ru_computed ∈ bw := bw_mem 511 (by decide +kernel) (by decide +kernel)
theorem q_im_Ru_computed : Cond.instanceMethod y_Ru_computed ∈ bw := bw_mem 513 (by decide +kernel) (by decide +kernel)
theorem q_cd_Ru_computed : Cond.code y_Ru_computed b_Ru_computed 3 (some .int) ∈ bw := bw_mem 514 (by decide +kernel) (by decide +kernel)
theorem q_ml_Ru_100 : Cond.methodLink R_Ru 100 y_Ru_goOnAt ∈ bw := bw_mem 515 (by decide +kernel) (by decide +kernel)
theorem q_im_Ru_goOnAt : Cond.instanceMethod y_Ru_goOnAt ∈ bw := bw_mem 517 (by decide +kernel) (by decide +kernel)
theorem q_cd_Ru_goOnAt : Cond.code y_Ru_goOnAt b_Ru_goOnAt 2 none ∈ bw := bw_mem 518 (by decide +kernel) (by decide +kernel)
theorem q_ml_La_86 : Cond.methodLink R_La 86 y_La_look ∈ bw := bw_mem 519 (by decide +kernel) (by decide +kernel)
theorem q_st_La_look : Cond.static y_La_look ∈ bw := bw_mem 520 (by decide +kernel) (by decide +kernel)
theorem q_cd_La_look : Cond.codeWith y_La_look b_La_look 4 (some .int) [(0, 9, 12, 13)] ∈ bw := bw_mem 521 (by decide +kernel) (by decide +kernel)
theorem q_ml_La_35 : Cond.methodLink R_La 35 y_S_look ∈ bw := bw_mem 522 (by decide +kernel) (by decide +kernel)
theorem q_im_S_look : Cond.instanceMethod y_S_look ∈ bw := bw_mem 523 (by decide +kernel) (by decide +kernel)
theorem q_se_S_look : Cond.selects R_S y_S_look y_S_look ∈ bw := bw_mem 524 (by decide +kernel) (by decide +kernel)
theorem q_cd_S_look : Cond.code y_S_look b_S_look 2 (some .int) ∈ bw := bw_mem 525 (by decide +kernel) (by decide +kernel)
theorem q_ml_La_89 : Cond.methodLink R_La 89 y_La_register ∈ bw := bw_mem 527 (by decide +kernel) (by decide +kernel)
theorem q_st_La_register : Cond.static y_La_register ∈ bw := bw_mem 528 (by decide +kernel) (by decide +kernel)
theorem q_cd_La_register : Cond.codeWith y_La_register b_La_register 4 (some .int) [(0, 9, 12, 13)] ∈ bw := bw_mem 529 (by decide +kernel) (by decide +kernel)
theorem q_ml_La_38 : Cond.methodLink R_La 38 y_S_register ∈ bw := bw_mem 530 (by decide +kernel) (by decide +kernel)
theorem q_im_S_register : Cond.instanceMethod y_S_register ∈ bw := bw_mem 531 (by decide +kernel) (by decide +kernel)
theorem q_se_S_register : Cond.selects R_S y_S_register y_S_register ∈ bw := bw_mem 532 (by decide +kernel) (by decide +kernel)
theorem q_cd_S_register : Cond.code y_S_register b_S_register 2 (some .int) ∈ bw := bw_mem 533 (by decide +kernel) (by decide +kernel)
theorem q_ml_La_92 : Cond.methodLink R_La 92 y_La_printed ∈ bw := bw_mem 534 (by decide +kernel) (by decide +kernel)
theorem q_st_La_printed : Cond.static y_La_printed ∈ bw := bw_mem 535 (by decide +kernel) (by decide +kernel)
theorem q_cd_La_printed : Cond.codeWith y_La_printed b_La_printed 4 (some .int) [(0, 9, 12, 15)] ∈ bw := bw_mem 536 (by decide +kernel) (by decide +kernel)
theorem q_ml_La_41 : Cond.methodLink R_La 41 y_S_printed ∈ bw := bw_mem 537 (by decide +kernel) (by decide +kernel)
theorem q_im_S_printed : Cond.instanceMethod y_S_printed ∈ bw := bw_mem 538 (by decide +kernel) (by decide +kernel)
theorem q_se_S_printed : Cond.selects R_S y_S_printed y_S_printed ∈ bw := bw_mem 539 (by decide +kernel) (by decide +kernel)
theorem q_cd_S_printed : Cond.code y_S_printed b_S_printed 2 (some .int) ∈ bw := bw_mem 540 (by decide +kernel) (by decide +kernel)
theorem q_ml_La_95 : Cond.methodLink R_La 95 y_La_heap ∈ bw := bw_mem 542 (by decide +kernel) (by decide +kernel)
theorem q_st_La_heap : Cond.static y_La_heap ∈ bw := bw_mem 543 (by decide +kernel) (by decide +kernel)
theorem q_cd_La_heap : Cond.codeWith y_La_heap b_La_heap 4 (some .int) [(0, 9, 12, 15)] ∈ bw := bw_mem 544 (by decide +kernel) (by decide +kernel)
theorem q_ml_La_44 : Cond.methodLink R_La 44 y_S_heap ∈ bw := bw_mem 545 (by decide +kernel) (by decide +kernel)
theorem q_im_S_heap : Cond.instanceMethod y_S_heap ∈ bw := bw_mem 546 (by decide +kernel) (by decide +kernel)
theorem q_se_S_heap : Cond.selects R_S y_S_heap y_S_heap ∈ bw := bw_mem 547 (by decide +kernel) (by decide +kernel)
theorem q_cd_S_heap : Cond.code y_S_heap b_S_heap 2 (some .int) ∈ bw := bw_mem 548 (by decide +kernel) (by decide +kernel)
theorem q_ml_S_132 : Cond.methodLink R_S 132 y_Me_holds ∈ bw := bw_mem 549 (by decide +kernel) (by decide +kernel)
theorem q_ml_La_98 : Cond.methodLink R_La 98 y_La_shadow ∈ bw := bw_mem 551 (by decide +kernel) (by decide +kernel)
theorem q_st_La_shadow : Cond.static y_La_shadow ∈ bw := bw_mem 552 (by decide +kernel) (by decide +kernel)
theorem q_cd_La_shadow : Cond.codeWith y_La_shadow b_La_shadow 4 (some .int) [(0, 9, 12, 15)] ∈ bw := bw_mem 553 (by decide +kernel) (by decide +kernel)
theorem q_ml_La_47 : Cond.methodLink R_La 47 y_S_shadow ∈ bw := bw_mem 554 (by decide +kernel) (by decide +kernel)
theorem q_im_S_shadow : Cond.instanceMethod y_S_shadow ∈ bw := bw_mem 555 (by decide +kernel) (by decide +kernel)
theorem q_se_S_shadow : Cond.selects R_S y_S_shadow y_S_shadow ∈ bw := bw_mem 556 (by decide +kernel) (by decide +kernel)
theorem q_cd_S_shadow : Cond.code y_S_shadow b_S_shadow 2 (some .int) ∈ bw := bw_mem 557 (by decide +kernel) (by decide +kernel)
theorem q_ml_La_101 : Cond.methodLink R_La 101 y_La_report ∈ bw := bw_mem 559 (by decide +kernel) (by decide +kernel)
theorem q_st_La_report : Cond.static y_La_report ∈ bw := bw_mem 560 (by decide +kernel) (by decide +kernel)
theorem q_cd_La_report : Cond.codeWith y_La_report b_La_report 4 (some .int) [(0, 9, 12, 21), (0, 9, 15, 13)] ∈ bw := bw_mem 561 (by decide +kernel) (by decide +kernel)
theorem q_ml_La_50 : Cond.methodLink R_La 50 y_S_report ∈ bw := bw_mem 562 (by decide +kernel) (by decide +kernel)
theorem q_im_S_report : Cond.instanceMethod y_S_report ∈ bw := bw_mem 563 (by decide +kernel) (by decide +kernel)
theorem q_se_S_report : Cond.selects R_S y_S_report y_S_report ∈ bw := bw_mem 564 (by decide +kernel) (by decide +kernel)
theorem q_cd_S_report : Cond.code y_S_report b_S_report 2 (some .int) ∈ bw := bw_mem 565 (by decide +kernel) (by decide +kernel)
theorem q_cl_La_54 : Cond.classLink R_La 54 R_Mo ∈ bw := bw_mem 567 (by decide +kernel) (by decide +kernel)
theorem q_ib_Mo : Cond.instantiable R_Mo 23 ∈ bw := bw_mem 568 (by decide +kernel) (by decide +kernel)
theorem q_ml_La_56 : Cond.methodLink R_La 56 y_Mo_init ∈ bw := bw_mem 569 (by decide +kernel) (by decide +kernel)
theorem q_im_Mo_init : Cond.instanceMethod y_Mo_init ∈ bw := bw_mem 570 (by decide +kernel) (by decide +kernel)
theorem q_cd_Mo_init : Cond.code y_Mo_init b_Mo_init 1 none ∈ bw := bw_mem 571 (by decide +kernel) (by decide +kernel)
theorem q_ml_Mo_1 : Cond.methodLink R_Mo 1 objectInit ∈ bw := bw_mem 572 (by decide +kernel) (by decide +kernel)
theorem q_ml_Mo_46 : Cond.methodLink R_Mo 46 y_Mo_empty ∈ bw := bw_mem 573 (by decide +kernel) (by decide +kernel)
theorem q_im_Mo_empty : Cond.instanceMethod y_Mo_empty ∈ bw := bw_mem 575 (by decide +kernel) (by decide +kernel)
theorem q_cd_Mo_empty : Cond.code y_Mo_empty b_Mo_empty 2 none ∈ bw := bw_mem 576 (by decide +kernel) (by decide +kernel)
theorem q_fl_Mo_49 : Cond.fieldLink R_Mo 49 "ShadowHeapModel" "code" "I" ∈ bw := bw_mem 577 (by decide +kernel) (by decide +kernel)
theorem q_fl_Mo_61 : Cond.fieldLink R_Mo 61 "ShadowHeapModel" "count" "I" ∈ bw := bw_mem 578 (by decide +kernel) (by decide +kernel)
theorem q_fl_Mo_7 : Cond.fieldLink R_Mo 7 "ShadowHeapModel" "operation" "[I" ∈ bw := bw_mem 579 (by decide +kernel) (by decide +kernel)
theorem q_fl_Mo_13 : Cond.fieldLink R_Mo 13 "ShadowHeapModel" "rs" "[I" ∈ bw := bw_mem 580 (by decide +kernel) (by decide +kernel)
theorem q_fl_Mo_16 : Cond.fieldLink R_Mo 16 "ShadowHeapModel" "as" "[I" ∈ bw := bw_mem 581 (by decide +kernel) (by decide +kernel)
theorem q_fl_Mo_19 : Cond.fieldLink R_Mo 19 "ShadowHeapModel" "bs" "[I" ∈ bw := bw_mem 582 (by decide +kernel) (by decide +kernel)
theorem q_fl_Mo_22 : Cond.fieldLink R_Mo 22 "ShadowHeapModel" "ks" "[I" ∈ bw := bw_mem 583 (by decide +kernel) (by decide +kernel)
theorem q_fl_Mo_25 : Cond.fieldLink R_Mo 25 "ShadowHeapModel" "heap" "[I" ∈ bw := bw_mem 584 (by decide +kernel) (by decide +kernel)
theorem q_fl_Mo_28 : Cond.fieldLink R_Mo 28 "ShadowHeapModel" "shadow" "[I" ∈ bw := bw_mem 585 (by decide +kernel) (by decide +kernel)
theorem q_fl_Mo_31 : Cond.fieldLink R_Mo 31 "ShadowHeapModel" "owner" "[I" ∈ bw := bw_mem 586 (by decide +kernel) (by decide +kernel)
theorem q_fl_Mo_34 : Cond.fieldLink R_Mo 34 "ShadowHeapModel" "size" "[I" ∈ bw := bw_mem 587 (by decide +kernel) (by decide +kernel)
theorem q_fl_Mo_83 : Cond.fieldLink R_Mo 83 "ShadowHeapModel" "waiting" "I" ∈ bw := bw_mem 588 (by decide +kernel) (by decide +kernel)
theorem q_fl_Mo_37 : Cond.fieldLink R_Mo 37 "ShadowHeapModel" "quarantine" "[I" ∈ bw := bw_mem 589 (by decide +kernel) (by decide +kernel)
theorem q_fl_Mo_64 : Cond.fieldLink R_Mo 64 "ShadowHeapModel" "state" "I" ∈ bw := bw_mem 590 (by decide +kernel) (by decide +kernel)
theorem q_fl_Mo_99 : Cond.fieldLink R_Mo 99 "ShadowHeapModel" "checked" "Z" ∈ bw := bw_mem 591 (by decide +kernel) (by decide +kernel)
theorem q_fl_Mo_103 : Cond.fieldLink R_Mo 103 "ShadowHeapModel" "at" "I" ∈ bw := bw_mem 592 (by decide +kernel) (by decide +kernel)
theorem q_fl_Mo_106 : Cond.fieldLink R_Mo 106 "ShadowHeapModel" "lastDone" "I" ∈ bw := bw_mem 593 (by decide +kernel) (by decide +kernel)
theorem q_fl_Mo_40 : Cond.fieldLink R_Mo 40 "ShadowHeapModel" "register" "[I" ∈ bw := bw_mem 594 (by decide +kernel) (by decide +kernel)
theorem q_fl_Mo_109 : Cond.fieldLink R_Mo 109 "ShadowHeapModel" "prints" "I" ∈ bw := bw_mem 595 (by decide +kernel) (by decide +kernel)
theorem q_fl_Mo_43 : Cond.fieldLink R_Mo 43 "ShadowHeapModel" "print" "[I" ∈ bw := bw_mem 596 (by decide +kernel) (by decide +kernel)
theorem q_fl_Mo_112 : Cond.fieldLink R_Mo 112 "ShadowHeapModel" "kind" "I" ∈ bw := bw_mem 597 (by decide +kernel) (by decide +kernel)
theorem q_fl_Mo_115 : Cond.fieldLink R_Mo 115 "ShadowHeapModel" "where" "I" ∈ bw := bw_mem 598 (by decide +kernel) (by decide +kernel)
theorem q_fl_Mo_118 : Cond.fieldLink R_Mo 118 "ShadowHeapModel" "whose" "I" ∈ bw := bw_mem 599 (by decide +kernel) (by decide +kernel)
theorem q_ml_La_63 : Cond.methodLink R_La 63 y_Mo_thrown ∈ bw := bw_mem 647 (by decide +kernel) (by decide +kernel)
theorem q_im_Mo_thrown : Cond.instanceMethod y_Mo_thrown ∈ bw := bw_mem 648 (by decide +kernel) (by decide +kernel)
theorem q_se_Mo_thrown : Cond.selects R_Mo y_Mo_thrown y_Mo_thrown ∈ bw := bw_mem 649 (by decide +kernel) (by decide +kernel)
theorem q_cd_Mo_thrown : Cond.code y_Mo_thrown b_Mo_thrown 1 (some .int) ∈ bw := bw_mem 650 (by decide +kernel) (by decide +kernel)
theorem q_ml_La_62 : Cond.methodLink R_La 62 y_Mo_code ∈ bw := bw_mem 651 (by decide +kernel) (by decide +kernel)
theorem q_im_Mo_code : Cond.instanceMethod y_Mo_code ∈ bw := bw_mem 652 (by decide +kernel) (by decide +kernel)
theorem q_se_Mo_code : Cond.selects R_Mo y_Mo_code y_Mo_code ∈ bw := bw_mem 653 (by decide +kernel) (by decide +kernel)
theorem q_cd_Mo_code : Cond.code y_Mo_code b_Mo_code 6 (some .int) ∈ bw := bw_mem 654 (by decide +kernel) (by decide +kernel)
theorem q_ml_Mo_53 : Cond.methodLink R_Mo 53 y_Mo_isRegister ∈ bw := bw_mem 655 (by decide +kernel) (by decide +kernel)
theorem q_st_Mo_isRegister : Cond.static y_Mo_isRegister ∈ bw := bw_mem 656 (by decide +kernel) (by decide +kernel)
theorem q_cd_Mo_isRegister : Cond.code y_Mo_isRegister b_Mo_isRegister 1 (some .boolean) ∈ bw := bw_mem 657 (by decide +kernel) (by decide +kernel)
theorem q_ml_Mo_57 : Cond.methodLink R_Mo 57 y_Mo_refuse ∈ bw := bw_mem 658 (by decide +kernel) (by decide +kernel)
theorem q_im_Mo_refuse : Cond.instanceMethod y_Mo_refuse ∈ bw := bw_mem 660 (by decide +kernel) (by decide +kernel)
theorem q_cd_Mo_refuse : Cond.code y_Mo_refuse b_Mo_refuse 2 (some .int) ∈ bw := bw_mem 661 (by decide +kernel) (by decide +kernel)
theorem q_ml_La_69 : Cond.methodLink R_La 69 y_Mo_clear ∈ bw := bw_mem 662 (by decide +kernel) (by decide +kernel)
theorem q_im_Mo_clear : Cond.instanceMethod y_Mo_clear ∈ bw := bw_mem 663 (by decide +kernel) (by decide +kernel)
theorem q_se_Mo_clear : Cond.selects R_Mo y_Mo_clear y_Mo_clear ∈ bw := bw_mem 664 (by decide +kernel) (by decide +kernel)
theorem q_cd_Mo_clear : Cond.code y_Mo_clear b_Mo_clear 1 none ∈ bw := bw_mem 665 (by decide +kernel) (by decide +kernel)
theorem q_ml_La_73 : Cond.methodLink R_La 73 y_Mo_rewrite ∈ bw := bw_mem 666 (by decide +kernel) (by decide +kernel)
theorem q_im_Mo_rewrite : Cond.instanceMethod y_Mo_rewrite ∈ bw := bw_mem 667 (by decide +kernel) (by decide +kernel)
theorem q_se_Mo_rewrite : Cond.selects R_Mo y_Mo_rewrite y_Mo_rewrite ∈ bw := bw_mem 668 (by decide +kernel) (by decide +kernel)
theorem q_cd_Mo_rewrite : Cond.code y_Mo_rewrite b_Mo_rewrite 1 (some .int) ∈ bw := bw_mem 669 (by decide +kernel) (by decide +kernel)
theorem q_ml_Mo_76 : Cond.methodLink R_Mo 76 y_Mo_isSound ∈ bw := bw_mem 670 (by decide +kernel) (by decide +kernel)
theorem q_im_Mo_isSound : Cond.instanceMethod y_Mo_isSound ∈ bw := bw_mem 672 (by decide +kernel) (by decide +kernel)
theorem q_cd_Mo_isSound : Cond.code y_Mo_isSound b_Mo_isSound 3 (some .boolean) ∈ bw := bw_mem 673 (by decide +kernel) (by decide +kernel)
theorem q_ml_Mo_70 : Cond.methodLink R_Mo 70 y_Mo_place ∈ bw := bw_mem 674 (by decide +kernel) (by decide +kernel)
theorem q_im_Mo_place : Cond.instanceMethod y_Mo_place ∈ bw := bw_mem 676 (by decide +kernel) (by decide +kernel)
theorem q_cd_Mo_place : Cond.code y_Mo_place b_Mo_place 4 (some .int) ∈ bw := bw_mem 677 (by decide +kernel) (by decide +kernel)
theorem q_ml_Mo_67 : Cond.methodLink R_Mo 67 y_Mo_isChecked ∈ bw := bw_mem 678 (by decide +kernel) (by decide +kernel)
theorem q_im_Mo_isChecked : Cond.instanceMethod y_Mo_isChecked ∈ bw := bw_mem 680 (by decide +kernel) (by decide +kernel)
theorem q_cd_Mo_isChecked : Cond.code y_Mo_isChecked b_Mo_isChecked 2 (some .boolean) ∈ bw := bw_mem 681 (by decide +kernel) (by decide +kernel)
theorem q_ml_La_77 : Cond.methodLink R_La 77 y_Mo_rewritten ∈ bw := bw_mem 682 (by decide +kernel) (by decide +kernel)
theorem q_im_Mo_rewritten : Cond.instanceMethod y_Mo_rewritten ∈ bw := bw_mem 683 (by decide +kernel) (by decide +kernel)
theorem q_se_Mo_rewritten : Cond.selects R_Mo y_Mo_rewritten y_Mo_rewritten ∈ bw := bw_mem 684 (by decide +kernel) (by decide +kernel)
theorem q_cd_Mo_rewritten : Cond.code y_Mo_rewritten b_Mo_rewritten 5 (some .int) ∈ bw := bw_mem 685 (by decide +kernel) (by decide +kernel)
theorem q_ml_Mo_73 : Cond.methodLink R_Mo 73 y_Mo_instructionAt ∈ bw := bw_mem 686 (by decide +kernel) (by decide +kernel)
theorem q_im_Mo_instructionAt : Cond.instanceMethod y_Mo_instructionAt ∈ bw := bw_mem 688 (by decide +kernel) (by decide +kernel)
theorem q_cd_Mo_instructionAt : Cond.code y_Mo_instructionAt b_Mo_instructionAt 3 (some .int) ∈ bw := bw_mem 689 (by decide +kernel) (by decide +kernel)
theorem q_ml_Mo_80 : Cond.methodLink R_Mo 80 y_Mo_isCheck ∈ bw := bw_mem 690 (by decide +kernel) (by decide +kernel)
theorem q_im_Mo_isCheck : Cond.instanceMethod y_Mo_isCheck ∈ bw := bw_mem 692 (by decide +kernel) (by decide +kernel)
theorem q_cd_Mo_isCheck : Cond.code y_Mo_isCheck b_Mo_isCheck 3 (some .boolean) ∈ bw := bw_mem 693 (by decide +kernel) (by decide +kernel)
theorem q_ml_La_81 : Cond.methodLink R_La 81 y_Mo_start ∈ bw := bw_mem 694 (by decide +kernel) (by decide +kernel)
theorem q_im_Mo_start : Cond.instanceMethod y_Mo_start ∈ bw := bw_mem 695 (by decide +kernel) (by decide +kernel)
theorem q_se_Mo_start : Cond.selects R_Mo y_Mo_start y_Mo_start ∈ bw := bw_mem 696 (by decide +kernel) (by decide +kernel)
theorem q_cd_Mo_start : Cond.code y_Mo_start b_Mo_start 5 none ∈ bw := bw_mem 697 (by decide +kernel) (by decide +kernel)
theorem q_ml_La_85 : Cond.methodLink R_La 85 y_Mo_step ∈ bw := bw_mem 698 (by decide +kernel) (by decide +kernel)
theorem q_im_Mo_step : Cond.instanceMethod y_Mo_step ∈ bw := bw_mem 699 (by decide +kernel) (by decide +kernel)
theorem q_se_Mo_step : Cond.selects R_Mo y_Mo_step y_Mo_step ∈ bw := bw_mem 700 (by decide +kernel) (by decide +kernel)
theorem q_cd_Mo_step : Cond.code y_Mo_step b_Mo_step 3 (some .int) ∈ bw := bw_mem 701 (by decide +kernel) (by decide +kernel)
theorem q_ml_Mo_150 : Cond.methodLink R_Mo 150 y_Mo_one ∈ bw := bw_mem 702 (by decide +kernel) (by decide +kernel)
theorem q_im_Mo_one : Cond.instanceMethod y_Mo_one ∈ bw := bw_mem 704 (by decide +kernel) (by decide +kernel)
theorem q_cd_Mo_one : Cond.code y_Mo_one b_Mo_one 3 none ∈ bw := bw_mem 705 (by decide +kernel) (by decide +kernel)
theorem q_ml_Mo_144 : Cond.methodLink R_Mo 144 y_Mo_check ∈ bw := bw_mem 706 (by decide +kernel) (by decide +kernel)
theorem q_im_Mo_check : Cond.instanceMethod y_Mo_check ∈ bw := bw_mem 708 (by decide +kernel) (by decide +kernel)
theorem q_cd_Mo_check : Cond.code y_Mo_check b_Mo_check 6 none ∈ bw := bw_mem 709 (by decide +kernel) (by decide +kernel)
theorem q_ml_Mo_121 : Cond.methodLink R_Mo 121 y_Mo_isBlock ∈ bw := bw_mem 710 (by decide +kernel) (by decide +kernel)
theorem q_im_Mo_isBlock : Cond.instanceMethod y_Mo_isBlock ∈ bw := bw_mem 712 (by decide +kernel) (by decide +kernel)
theorem q_cd_Mo_isBlock : Cond.code y_Mo_isBlock b_Mo_isBlock 3 (some .boolean) ∈ bw := bw_mem 713 (by decide +kernel) (by decide +kernel)
theorem q_ml_Mo_124 : Cond.methodLink R_Mo 124 y_Mo_tell ∈ bw := bw_mem 714 (by decide +kernel) (by decide +kernel)
theorem q_im_Mo_tell : Cond.instanceMethod y_Mo_tell ∈ bw := bw_mem 716 (by decide +kernel) (by decide +kernel)
theorem q_cd_Mo_tell : Cond.code y_Mo_tell b_Mo_tell 4 none ∈ bw := bw_mem 717 (by decide +kernel) (by decide +kernel)
theorem q_ml_Mo_128 : Cond.methodLink R_Mo 128 y_Mo_wrongByte ∈ bw := bw_mem 718 (by decide +kernel) (by decide +kernel)
theorem q_im_Mo_wrongByte : Cond.instanceMethod y_Mo_wrongByte ∈ bw := bw_mem 720 (by decide +kernel) (by decide +kernel)
theorem q_cd_Mo_wrongByte : Cond.code y_Mo_wrongByte b_Mo_wrongByte 3 (some .int) ∈ bw := bw_mem 721 (by decide +kernel) (by decide +kernel)
theorem q_ml_Mo_96 : Cond.methodLink R_Mo 96 y_Mo_isIn ∈ bw := bw_mem 722 (by decide +kernel) (by decide +kernel)
theorem q_st_Mo_isIn : Cond.static y_Mo_isIn ∈ bw := bw_mem 723 (by decide +kernel) (by decide +kernel)
theorem q_cd_Mo_isIn : Cond.code y_Mo_isIn b_Mo_isIn 1 (some .boolean) ∈ bw := bw_mem 724 (by decide +kernel) (by decide +kernel)
theorem q_ml_Mo_147 : Cond.methodLink R_Mo 147 y_Mo_perform ∈ bw := bw_mem 725 (by decide +kernel) (by decide +kernel)
theorem q_im_Mo_perform : Cond.instanceMethod y_Mo_perform ∈ bw := bw_mem 727 (by decide +kernel) (by decide +kernel)
theorem q_cd_Mo_perform : Cond.code y_Mo_perform b_Mo_perform 6 (some .int) ∈ bw := bw_mem 728 (by decide +kernel) (by decide +kernel)
theorem q_ml_Mo_134 : Cond.methodLink R_Mo 134 y_Mo_allocate ∈ bw := bw_mem 729 (by decide +kernel) (by decide +kernel)
theorem q_im_Mo_allocate : Cond.instanceMethod y_Mo_allocate ∈ bw := bw_mem 731 (by decide +kernel) (by decide +kernel)
theorem q_cd_Mo_allocate : Cond.code y_Mo_allocate b_Mo_allocate 5 (some .int) ∈ bw := bw_mem 732 (by decide +kernel) (by decide +kernel)
theorem q_ml_Mo_86 : Cond.methodLink R_Mo 86 y_Mo_gap ∈ bw := bw_mem 733 (by decide +kernel) (by decide +kernel)
theorem q_im_Mo_gap : Cond.instanceMethod y_Mo_gap ∈ bw := bw_mem 735 (by decide +kernel) (by decide +kernel)
theorem q_cd_Mo_gap : Cond.code y_Mo_gap b_Mo_gap 4 (some .int) ∈ bw := bw_mem 736 (by decide +kernel) (by decide +kernel)
theorem q_ml_Mo_89 : Cond.methodLink R_Mo 89 y_Mo_release ∈ bw := bw_mem 737 (by decide +kernel) (by decide +kernel)
theorem q_im_Mo_release : Cond.instanceMethod y_Mo_release ∈ bw := bw_mem 739 (by decide +kernel) (by decide +kernel)
theorem q_cd_Mo_release : Cond.code y_Mo_release b_Mo_release 3 none ∈ bw := bw_mem 740 (by decide +kernel) (by decide +kernel)
theorem q_ml_Mo_137 : Cond.methodLink R_Mo 137 y_Mo_free ∈ bw := bw_mem 741 (by decide +kernel) (by decide +kernel)
theorem q_im_Mo_free : Cond.instanceMethod y_Mo_free ∈ bw := bw_mem 743 (by decide +kernel) (by decide +kernel)
theorem q_cd_Mo_free : Cond.code y_Mo_free b_Mo_free 4 none ∈ bw := bw_mem 744 (by decide +kernel) (by decide +kernel)
theorem q_ml_Mo_92 : Cond.methodLink R_Mo 92 y_Mo_quarantined ∈ bw := bw_mem 745 (by decide +kernel) (by decide +kernel)
theorem q_im_Mo_quarantined : Cond.instanceMethod y_Mo_quarantined ∈ bw := bw_mem 747 (by decide +kernel) (by decide +kernel)
theorem q_cd_Mo_quarantined : Cond.code y_Mo_quarantined b_Mo_quarantined 3 (some .int) ∈ bw := bw_mem 748 (by decide +kernel) (by decide +kernel)
theorem q_ml_Mo_141 : Cond.methodLink R_Mo 141 y_Mo_touch ∈ bw := bw_mem 749 (by decide +kernel) (by decide +kernel)
theorem q_im_Mo_touch : Cond.instanceMethod y_Mo_touch ∈ bw := bw_mem 751 (by decide +kernel) (by decide +kernel)
theorem q_cd_Mo_touch : Cond.code y_Mo_touch b_Mo_touch 5 none ∈ bw := bw_mem 752 (by decide +kernel) (by decide +kernel)
theorem q_ml_Mo_131 : Cond.methodLink R_Mo 131 y_Mo_load ∈ bw := bw_mem 753 (by decide +kernel) (by decide +kernel)
theorem q_im_Mo_load : Cond.instanceMethod y_Mo_load ∈ bw := bw_mem 755 (by decide +kernel) (by decide +kernel)
theorem q_cd_Mo_load : Cond.code y_Mo_load b_Mo_load 4 (some .int) ∈ bw := bw_mem 756 (by decide +kernel) (by decide +kernel)
theorem q_ml_La_88 : Cond.methodLink R_La 88 y_Mo_look ∈ bw := bw_mem 757 (by decide +kernel) (by decide +kernel)
theorem q_im_Mo_look : Cond.instanceMethod y_Mo_look ∈ bw := bw_mem 758 (by decide +kernel) (by decide +kernel)
theorem q_se_Mo_look : Cond.selects R_Mo y_Mo_look y_Mo_look ∈ bw := bw_mem 759 (by decide +kernel) (by decide +kernel)
theorem q_cd_Mo_look : Cond.code y_Mo_look b_Mo_look 2 (some .int) ∈ bw := bw_mem 760 (by decide +kernel) (by decide +kernel)
theorem q_ml_Mo_153 : Cond.methodLink R_Mo 153 y_Mo_blocks ∈ bw := bw_mem 761 (by decide +kernel) (by decide +kernel)
theorem q_im_Mo_blocks : Cond.instanceMethod y_Mo_blocks ∈ bw := bw_mem 763 (by decide +kernel) (by decide +kernel)
theorem q_cd_Mo_blocks : Cond.code y_Mo_blocks b_Mo_blocks 4 (some .int) ∈ bw := bw_mem 764 (by decide +kernel) (by decide +kernel)
theorem q_ml_La_91 : Cond.methodLink R_La 91 y_Mo_register ∈ bw := bw_mem 765 (by decide +kernel) (by decide +kernel)
theorem q_im_Mo_register : Cond.instanceMethod y_Mo_register ∈ bw := bw_mem 766 (by decide +kernel) (by decide +kernel)
theorem q_se_Mo_register : Cond.selects R_Mo y_Mo_register y_Mo_register ∈ bw := bw_mem 767 (by decide +kernel) (by decide +kernel)
theorem q_cd_Mo_register : Cond.code y_Mo_register b_Mo_register 2 (some .int) ∈ bw := bw_mem 768 (by decide +kernel) (by decide +kernel)
theorem q_ml_La_94 : Cond.methodLink R_La 94 y_Mo_printed ∈ bw := bw_mem 769 (by decide +kernel) (by decide +kernel)
theorem q_im_Mo_printed : Cond.instanceMethod y_Mo_printed ∈ bw := bw_mem 770 (by decide +kernel) (by decide +kernel)
theorem q_se_Mo_printed : Cond.selects R_Mo y_Mo_printed y_Mo_printed ∈ bw := bw_mem 771 (by decide +kernel) (by decide +kernel)
theorem q_cd_Mo_printed : Cond.code y_Mo_printed b_Mo_printed 2 (some .int) ∈ bw := bw_mem 772 (by decide +kernel) (by decide +kernel)
theorem q_ml_La_97 : Cond.methodLink R_La 97 y_Mo_heap ∈ bw := bw_mem 773 (by decide +kernel) (by decide +kernel)
theorem q_im_Mo_heap : Cond.instanceMethod y_Mo_heap ∈ bw := bw_mem 774 (by decide +kernel) (by decide +kernel)
theorem q_se_Mo_heap : Cond.selects R_Mo y_Mo_heap y_Mo_heap ∈ bw := bw_mem 775 (by decide +kernel) (by decide +kernel)
theorem q_cd_Mo_heap : Cond.code y_Mo_heap b_Mo_heap 2 (some .int) ∈ bw := bw_mem 776 (by decide +kernel) (by decide +kernel)
theorem q_ml_La_100 : Cond.methodLink R_La 100 y_Mo_shadow ∈ bw := bw_mem 777 (by decide +kernel) (by decide +kernel)
theorem q_im_Mo_shadow : Cond.instanceMethod y_Mo_shadow ∈ bw := bw_mem 778 (by decide +kernel) (by decide +kernel)
theorem q_se_Mo_shadow : Cond.selects R_Mo y_Mo_shadow y_Mo_shadow ∈ bw := bw_mem 779 (by decide +kernel) (by decide +kernel)
theorem q_cd_Mo_shadow : Cond.code y_Mo_shadow b_Mo_shadow 2 (some .int) ∈ bw := bw_mem 780 (by decide +kernel) (by decide +kernel)
theorem q_ml_La_103 : Cond.methodLink R_La 103 y_Mo_report ∈ bw := bw_mem 781 (by decide +kernel) (by decide +kernel)
theorem q_im_Mo_report : Cond.instanceMethod y_Mo_report ∈ bw := bw_mem 782 (by decide +kernel) (by decide +kernel)
theorem q_se_Mo_report : Cond.selects R_Mo y_Mo_report y_Mo_report ∈ bw := bw_mem 783 (by decide +kernel) (by decide +kernel)
theorem q_cd_Mo_report : Cond.code y_Mo_report b_Mo_report 2 (some .int) ∈ bw := bw_mem 784 (by decide +kernel) (by decide +kernel)
theorem q_ac_long : Cond.arrayClass .long ∈ bw := bw_mem 785 (by decide +kernel) (by decide +kernel)
theorem i_Li : ∀ w ∈ u_ws R_Li F_Li 4, w ∈ bw := by decide +kernel
theorem i_Me : ∀ w ∈ u_ws R_Me F_Me 8, w ∈ bw := by decide +kernel
theorem i_Pr : ∀ w ∈ u_ws R_Pr F_Pr 6, w ∈ bw := by decide +kernel
theorem i_Ru : ∀ w ∈ u_ws R_Ru F_Ru 10, w ∈ bw := by decide +kernel
theorem i_S : ∀ w ∈ u_ws R_S F_S 3, w ∈ bw := by decide +kernel
theorem i_Mo : ∀ w ∈ u_ws R_Mo F_Mo 23, w ∈ bw := by decide +kernel
end
section
abbrev k_S_init : Cond := .code y_S_init b_S_init 1 none
abbrev k_Pr_init : Cond := .code y_Pr_init b_Pr_init 1 none
abbrev k_Li_init : Cond := .code y_Li_init b_Li_init 2 none
abbrev k_Me_init : Cond := .code y_Me_init b_Me_init 1 none
abbrev k_Me_reset : Cond := .code y_Me_reset b_Me_reset 2 none
abbrev k_Ru_init : Cond := .code y_Ru_init b_Ru_init 3 none
abbrev k_S_clear : Cond := .code y_S_clear b_S_clear 1 none
abbrev k_Ru_drop : Cond := .code y_Ru_drop b_Ru_drop 1 none
abbrev k_Pr_removeAll : Cond := .code y_Pr_removeAll b_Pr_removeAll 1 none
abbrev k_La_code : Cond := .codeWith y_La_code b_La_code 8 (some .int) [(0, 16, 19, 13), (0, 16, 23, 15)]
abbrev k_S_code : Cond := .code y_S_code b_S_code 6 (some .int)
abbrev k_S_isRegister : Cond := .code y_S_isRegister b_S_isRegister 1 (some .boolean)
abbrev k_Pr_size : Cond := .code y_Pr_size b_Pr_size 1 (some .int)
abbrev k_Pr_add : Cond := .code y_Pr_add b_Pr_add 7 (some .int)
abbrev k_Li_beginInstruction : Cond := .code y_Li_beginInstruction b_Li_beginInstruction 2 none
abbrev k_Li_append : Cond := .code y_Li_append b_Li_append 3 none
abbrev k_La_rewrite : Cond := .codeWith y_La_rewrite b_La_rewrite 3 (some .int) [(0, 8, 11, 21)]
abbrev k_S_rewrite : Cond := .code y_S_rewrite b_S_rewrite 1 (some .int)
abbrev k_S_refuseGoingOutside : Cond := .code y_S_refuseGoingOutside b_S_refuseGoingOutside 1 none
abbrev k_Pr_goesOnWithin : Cond := .code y_Pr_goesOnWithin b_Pr_goesOnWithin 2 (some .boolean)
abbrev k_Pr_goesOnElsewhere : Cond := .code y_Pr_goesOnElsewhere b_Pr_goesOnElsewhere 1 (some .boolean)
abbrev k_La_rewritten : Cond := .codeWith y_La_rewritten b_La_rewritten 5 (some .int) [(0, 10, 13, 21), (0, 10, 17, 15), (0, 10, 21, 13)]
abbrev k_S_rewritten : Cond := .code y_S_rewritten b_S_rewritten 3 (some .int)
abbrev k_Pr_numberAt : Cond := .code y_Pr_numberAt b_Pr_numberAt 4 (some .int)
abbrev k_La_start : Cond := .codeWith y_La_start b_La_start 5 (some .int) [(0, 7, 10, 21)]
abbrev k_S_start : Cond := .code y_S_start b_S_start 4 none
abbrev k_Ru_begin : Cond := .code y_Ru_begin b_Ru_begin 5 none
abbrev k_La_step : Cond := .codeWith y_La_step b_La_step 4 (some .int) [(0, 9, 12, 21), (0, 9, 15, 13)]
abbrev k_S_step : Cond := .code y_S_step b_S_step 3 (some .int)
abbrev k_Ru_doLine : Cond := .code y_Ru_doLine b_Ru_doLine 4 none
abbrev k_Ru_addressOf : Cond := .code y_Ru_addressOf b_Ru_addressOf 2 (some .int)
abbrev k_Ru_aOf : Cond := .code y_Ru_aOf b_Ru_aOf 2 (some .int)
abbrev k_Pr_widthOf : Cond := .code y_Pr_widthOf b_Pr_widthOf 3 (some .int)
abbrev k_Ru_checkBytes : Cond := .code y_Ru_checkBytes b_Ru_checkBytes 5 none
abbrev k_Me_kindOfTouch : Cond := .code y_Me_kindOfTouch b_Me_kindOfTouch 2 (some .int)
abbrev k_Me_holds : Cond := .code y_Me_holds b_Me_holds 2 (some .boolean)
abbrev k_Ru_endWithReport : Cond := .code y_Ru_endWithReport b_Ru_endWithReport 3 none
abbrev k_Ru_checkFree : Cond := .code y_Ru_checkFree b_Ru_checkFree 2 none
abbrev k_Me_mayFree : Cond := .code y_Me_mayFree b_Me_mayFree 3 (some .boolean)
abbrev k_Ru_goesOn : Cond := .code y_Ru_goesOn b_Ru_goesOn 3 (some .boolean)
abbrev k_Ru_bOf : Cond := .code y_Ru_bOf b_Ru_bOf 2 (some .int)
abbrev k_Ru_useHeap : Cond := .code y_Ru_useHeap b_Ru_useHeap 3 none
abbrev k_Me_allocate : Cond := .code y_Me_allocate b_Me_allocate 5 (some .int)
abbrev k_Me_lowestGap : Cond := .code y_Me_lowestGap b_Me_lowestGap 4 (some .int)
abbrev k_Me_releaseOldest : Cond := .code y_Me_releaseOldest b_Me_releaseOldest 4 none
abbrev k_Me_paint : Cond := .code y_Me_paint b_Me_paint 5 none
abbrev k_Me_placeBlock : Cond := .code y_Me_placeBlock b_Me_placeBlock 6 none
abbrev k_Ru_freeOrCrash : Cond := .code y_Ru_freeOrCrash b_Ru_freeOrCrash 2 none
abbrev k_Me_free : Cond := .code y_Me_free b_Me_free 5 none
abbrev k_Ru_touchOrCrash : Cond := .code y_Ru_touchOrCrash b_Ru_touchOrCrash 5 none
abbrev k_Me_load : Cond := .code y_Me_load b_Me_load 5 (some .int)
abbrev k_Me_store : Cond := .code y_Me_store b_Me_store 5 none
abbrev k_Ru_print : Cond := .code y_Ru_print b_Ru_print 2 none
abbrev k_Ru_computed : Cond := .code y_Ru_computed b_Ru_computed 3 (some .int)
abbrev k_Ru_goOnAt : Cond := .code y_Ru_goOnAt b_Ru_goOnAt 2 none
abbrev k_La_look : Cond := .codeWith y_La_look b_La_look 4 (some .int) [(0, 9, 12, 13)]
abbrev k_S_look : Cond := .code y_S_look b_S_look 2 (some .int)
abbrev k_La_register : Cond := .codeWith y_La_register b_La_register 4 (some .int) [(0, 9, 12, 13)]
abbrev k_S_register : Cond := .code y_S_register b_S_register 2 (some .int)
abbrev k_La_printed : Cond := .codeWith y_La_printed b_La_printed 4 (some .int) [(0, 9, 12, 15)]
abbrev k_S_printed : Cond := .code y_S_printed b_S_printed 2 (some .int)
abbrev k_La_heap : Cond := .codeWith y_La_heap b_La_heap 4 (some .int) [(0, 9, 12, 15)]
abbrev k_S_heap : Cond := .code y_S_heap b_S_heap 2 (some .int)
abbrev k_La_shadow : Cond := .codeWith y_La_shadow b_La_shadow 4 (some .int) [(0, 9, 12, 15)]
abbrev k_S_shadow : Cond := .code y_S_shadow b_S_shadow 2 (some .int)
abbrev k_La_report : Cond := .codeWith y_La_report b_La_report 4 (some .int) [(0, 9, 12, 21), (0, 9, 15, 13)]
abbrev k_S_report : Cond := .code y_S_report b_S_report 2 (some .int)
abbrev k_Mo_init : Cond := .code y_Mo_init b_Mo_init 1 none
abbrev k_Mo_empty : Cond := .code y_Mo_empty b_Mo_empty 2 none
abbrev k_Mo_thrown : Cond := .code y_Mo_thrown b_Mo_thrown 1 (some .int)
abbrev k_Mo_code : Cond := .code y_Mo_code b_Mo_code 6 (some .int)
abbrev k_Mo_isRegister : Cond := .code y_Mo_isRegister b_Mo_isRegister 1 (some .boolean)
abbrev k_Mo_refuse : Cond := .code y_Mo_refuse b_Mo_refuse 2 (some .int)
abbrev k_Mo_clear : Cond := .code y_Mo_clear b_Mo_clear 1 none
abbrev k_Mo_rewrite : Cond := .code y_Mo_rewrite b_Mo_rewrite 1 (some .int)
abbrev k_Mo_isSound : Cond := .code y_Mo_isSound b_Mo_isSound 3 (some .boolean)
abbrev k_Mo_place : Cond := .code y_Mo_place b_Mo_place 4 (some .int)
abbrev k_Mo_isChecked : Cond := .code y_Mo_isChecked b_Mo_isChecked 2 (some .boolean)
abbrev k_Mo_rewritten : Cond := .code y_Mo_rewritten b_Mo_rewritten 5 (some .int)
abbrev k_Mo_instructionAt : Cond := .code y_Mo_instructionAt b_Mo_instructionAt 3 (some .int)
abbrev k_Mo_isCheck : Cond := .code y_Mo_isCheck b_Mo_isCheck 3 (some .boolean)
abbrev k_Mo_start : Cond := .code y_Mo_start b_Mo_start 5 none
abbrev k_Mo_step : Cond := .code y_Mo_step b_Mo_step 3 (some .int)
abbrev k_Mo_one : Cond := .code y_Mo_one b_Mo_one 3 none
abbrev k_Mo_check : Cond := .code y_Mo_check b_Mo_check 6 none
abbrev k_Mo_isBlock : Cond := .code y_Mo_isBlock b_Mo_isBlock 3 (some .boolean)
abbrev k_Mo_tell : Cond := .code y_Mo_tell b_Mo_tell 4 none
abbrev k_Mo_wrongByte : Cond := .code y_Mo_wrongByte b_Mo_wrongByte 3 (some .int)
abbrev k_Mo_isIn : Cond := .code y_Mo_isIn b_Mo_isIn 1 (some .boolean)
abbrev k_Mo_perform : Cond := .code y_Mo_perform b_Mo_perform 6 (some .int)
abbrev k_Mo_allocate : Cond := .code y_Mo_allocate b_Mo_allocate 5 (some .int)
abbrev k_Mo_gap : Cond := .code y_Mo_gap b_Mo_gap 4 (some .int)
abbrev k_Mo_release : Cond := .code y_Mo_release b_Mo_release 3 none
abbrev k_Mo_free : Cond := .code y_Mo_free b_Mo_free 4 none
abbrev k_Mo_quarantined : Cond := .code y_Mo_quarantined b_Mo_quarantined 3 (some .int)
abbrev k_Mo_touch : Cond := .code y_Mo_touch b_Mo_touch 5 none
abbrev k_Mo_load : Cond := .code y_Mo_load b_Mo_load 4 (some .int)
abbrev k_Mo_look : Cond := .code y_Mo_look b_Mo_look 2 (some .int)
abbrev k_Mo_blocks : Cond := .code y_Mo_blocks b_Mo_blocks 4 (some .int)
abbrev k_Mo_register : Cond := .code y_Mo_register b_Mo_register 2 (some .int)
abbrev k_Mo_printed : Cond := .code y_Mo_printed b_Mo_printed 2 (some .int)
abbrev k_Mo_heap : Cond := .code y_Mo_heap b_Mo_heap 2 (some .int)
abbrev k_Mo_shadow : Cond := .code y_Mo_shadow b_Mo_shadow 2 (some .int)
abbrev k_Mo_report : Cond := .code y_Mo_report b_Mo_report 2 (some .int)
end
section
/-! pure rows: updates, painted rows, counts, sums; the memory as one value -/
def zI (b : Bool) : Int32 := if b then 1 else 0
def xu {α : Type} (f : Nat → α) (k : Nat) (x : α) : Nat → α := fun j => if j = k then x else f j
def xp {α : Type} (f : Nat → α) (a b : Nat) (x : α) : Nat → α := fun k => if a ≤ k ∧ k < b then x else f k
theorem xu_s {α : Type} {f : Nat → α} {k : Nat} {x : α} : xu f k x k = x := if_pos rfl
theorem xu_n {α : Type} {f : Nat → α} {k j : Nat} {x : α} (h : j ≠ k) : xu f k x j = f j := if_neg h
theorem xu_upd {f : Nat → Int32} {k : Nat} {x : Int32} : upd f k x = xu f k x := rfl
theorem xu_nI {g : Nat → Nat} {k x : Nat} : upd (fun i => nI (g i)) k (nI x) = fun i => nI (xu g k x i) := by
  funext j; unfold upd xu; split <;> rfl
theorem xp_in {α : Type} {f : Nat → α} {a b k : Nat} {x : α} (h1 : a ≤ k) (h2 : k < b) : xp f a b x k = x := if_pos ⟨h1, h2⟩
theorem xp_out {α : Type} {f : Nat → α} {a b k : Nat} {x : α} (h : ¬ (a ≤ k ∧ k < b)) : xp f a b x k = f k := if_neg h
theorem xp_0 {α : Type} (f : Nat → α) (a : Nat) (x : α) : xp f a a x = f := by
  funext k; exact xp_out (by omega)
theorem xp_s {α : Type} {f : Nat → α} {a i : Nat} {x : α} (h : a ≤ i) : xu (xp f a i x) i x = xp f a (i + 1) x := by
  funext k
  by_cases hk : k = i
  · subst hk; rw [xu_s, xp_in h (by omega)]
  · rw [xu_n hk]
    by_cases h1 : a ≤ k ∧ k < i
    · rw [xp_in h1.1 h1.2, xp_in h1.1 (by omega)]
    · rw [xp_out h1, xp_out (by omega)]
/-- how many places below n have P -/
def xc (P : Nat → Bool) : Nat → Nat
  | 0 => 0
  | n + 1 => xc P n + if P n then 1 else 0
/-- the sum of f below n -/
def xs (f : Nat → Nat) : Nat → Nat
  | 0 => 0
  | n + 1 => xs f n + f n
theorem xc_le (P : Nat → Bool) (n : Nat) : xc P n ≤ n := by
  induction n with
  | zero => exact Nat.le_refl _
  | succ n ih => unfold xc; split <;> omega
theorem xc_ext {P R : Nat → Bool} {n : Nat} (h : ∀ k, k < n → P k = R k) : xc P n = xc R n := by
  induction n with
  | zero => rfl
  | succ n ih => unfold xc; rw [ih (fun k hk => h k (by omega)), h n (by omega)]
/-- one place more -/
theorem xc_on {P R : Nat → Bool} {n s : Nat} (hs : s < n) (h : ∀ k, k < n → k ≠ s → P k = R k) (h0 : P s = false) (h1 : R s = true) : xc R n = xc P n + 1 := by
  induction n with
  | zero => omega
  | succ n ih =>
    unfold xc
    by_cases hn : s = n
    · subst hn
      rw [xc_ext (P := R) (R := P) (fun k hk => (h k (by omega) (by omega)).symm), h0, h1]
      simp
    · rw [ih (by omega) (fun k hk => h k (by omega)), h n (by omega) (fun e => hn e.symm)]
      omega
theorem xs_ext {f g : Nat → Nat} {n : Nat} (h : ∀ k, k < n → f k = g k) : xs f n = xs g n := by
  induction n with
  | zero => rfl
  | succ n ih => unfold xs; rw [ih (fun k hk => h k (by omega)), h n (by omega)]
/-- the first summand taken out -/
theorem xs_0 (f : Nat → Nat) (n : Nat) : xs f (n + 1) = f 0 + xs (fun i => f (i + 1)) n := by
  induction n with
  | zero => simp [xs]
  | succ n ih => rw [xs, ih, xs]; omega
theorem xs_ge {f : Nat → Nat} {n c : Nat} (h : ∀ k, k < n → c ≤ f k) : c * n ≤ xs f n := by
  induction n with
  | zero => simp
  | succ n ih =>
    have h1 := ih (fun k hk => h k (by omega))
    have h2 := h n (by omega)
    rw [xs, Nat.mul_succ]; omega
theorem xs_le {f : Nat → Nat} {n k : Nat} (h : k < n) : f k ≤ xs f n := by
  induction n with
  | zero => omega
  | succ n ih =>
    rw [xs]
    by_cases hk : k = n
    · subst hk; omega
    · have := ih (by omega); omega
theorem xs_mul (f : Nat → Nat) (c n : Nat) : xs (fun i => c * f i) n = c * xs f n := by
  induction n with
  | zero => rfl
  | succ n ih => rw [xs, ih, xs, Nat.mul_add]
/-! the memory: bytes, shadow, owner, size of a block at its beginning, how many wait, the queue -/
abbrev xMem : Type := (Nat → Int32) × (Nat → Int32) × (Nat → Nat) × (Nat → Nat) × Nat × (Nat → Nat)
abbrev mHp (M : xMem) : Nat → Int32 := M.1
abbrev mSh (M : xMem) : Nat → Int32 := M.2.1
abbrev mOw (M : xMem) : Nat → Nat := M.2.2.1
abbrev mSz (M : xMem) : Nat → Nat := M.2.2.2.1
abbrev mQn (M : xMem) : Nat := M.2.2.2.2.1
abbrev mQf (M : xMem) : Nat → Nat := M.2.2.2.2.2
/-- is a block of owner w -/
abbrev mIs (M : xMem) (w : Nat) : Nat → Bool := fun s => decide (0 < mSz M s ∧ mOw M s = w)
/-- the cells in the queue -/
abbrev mSum (M : xMem) : Nat := xs (fun i => mSz M (mQf M i)) (mQn M)
/-- what holds of the memory; B bounds the queue's cells -/
def mOk (B : Nat) (M : xMem) : Prop :=
  (∀ s, 0 < mSz M s → 3 ≤ mSz M s ∧ s + mSz M s ≤ 64 ∧ (mOw M s = 1 ∨ mOw M s = 2) ∧ ∀ k, s ≤ k → k < s + mSz M s → mOw M k = mOw M s) ∧
  (∀ k, k < 64 → mOw M k ≠ 0 → ∃ s, 0 < mSz M s ∧ s ≤ k ∧ k < s + mSz M s) ∧
  (∀ s t, 0 < mSz M s → 0 < mSz M t → s < t → s + mSz M s ≤ t) ∧
  (∀ i, i < mQn M → 0 < mSz M (mQf M i) ∧ mOw M (mQf M i) = 2) ∧
  (∀ i j, i < mQn M → j < mQn M → i ≠ j → mQf M i ≠ mQf M j) ∧
  xc (mIs M 2) 64 = mQn M ∧ mSum M ≤ B
theorem mOk_qn {B : Nat} {M : xMem} (h : mOk B M) : 3 * mQn M ≤ B := by
  obtain ⟨h1, -, -, h4, -, -, h7⟩ := h
  exact Nat.le_trans (xs_ge (fun k hk => (h1 _ (h4 k hk).1).1)) h7
theorem mOk_mono {B C : Nat} {M : xMem} (h : mOk B M) (hBC : mSum M ≤ C) : mOk C M := by
  obtain ⟨h1, h2, h3, h4, h5, h6, h7⟩ := h
  exact ⟨h1, h2, h3, h4, h5, h6, hBC⟩
/-- the memory when a run begins -/
def mNew (M : xMem) : xMem := (xp (mHp M) 0 512 0, xp (mSh M) 0 64 (-3), xp (mOw M) 0 64 0, xp (mSz M) 0 64 0, 0, mQf M)
/-- no size beyond the row: so that a block's beginning lies within it -/
def mZ (M : xMem) : Prop := ∀ s, 64 ≤ s → mSz M s = 0
theorem mNew_ok {M : xMem} (hz : mZ M) : mOk 20 (mNew M) := by
  have h0 : ∀ s, mSz (mNew M) s = 0 := by
    intro s
    by_cases h : s < 64
    · exact xp_in (Nat.zero_le _) h
    · show xp (mSz M) 0 64 0 s = 0
      rw [xp_out (by omega)]; exact hz s (by omega)
  have hw : ∀ k, k < 64 → mOw (mNew M) k = 0 := fun k hk => xp_in (Nat.zero_le _) hk
  refine ⟨fun s h => ?_, fun k hk h => absurd (hw k hk) h, fun s t h => ?_, fun i h => absurd h (Nat.not_lt_zero _), fun i j h => absurd h (Nat.not_lt_zero _), ?_, Nat.zero_le _⟩
  · rw [h0] at h; omega
  · rw [h0] at h; omega
  · rw [xc_ext (R := fun _ => false) (fun k _ => by simp [mIs, h0])]; show xc (fun _ => false) 64 = 0; decide
/-- the oldest block leaves the queue -/
def mRel (M : xMem) : xMem :=
  let s := mQf M 0
  (mHp M, xp (mSh M) s (s + mSz M s) (-3), xp (mOw M) s (s + mSz M s) 0, xu (mSz M) s 0, mQn M - 1, fun i => if i < mQn M - 1 then mQf M (i + 1) else mQf M i)
theorem mRel_sum {B : Nat} {M : xMem} (h : mOk B M) (hq : 0 < mQn M) : mSum M = mSz M (mQf M 0) + mSum (mRel M) := by
  obtain ⟨h1, h2, h3, h4, h5, h6, h7⟩ := h
  obtain ⟨n, hn⟩ : ∃ n, mQn M = n + 1 := ⟨mQn M - 1, by omega⟩
  show xs (fun i => mSz M (mQf M i)) (mQn M) = _ + xs (fun i => mSz (mRel M) (mQf (mRel M) i)) (mQn M - 1)
  rw [hn, xs_0, show n + 1 - 1 = n by omega]
  congr 1
  refine xs_ext (fun k hk => ?_)
  show mSz M (mQf M (k + 1)) = xu (mSz M) (mQf M 0) 0 (if k < mQn M - 1 then mQf M (k + 1) else mQf M k)
  rw [if_pos (by omega), xu_n (h5 (k + 1) 0 (by omega) (by omega) (by omega))]
theorem mRel_ok {B : Nat} {M : xMem} (h : mOk B M) (hq : 0 < mQn M) : mOk B (mRel M) := by
  have hsum := mRel_sum h hq
  obtain ⟨h1, h2, h3, h4, h5, h6, h7⟩ := id h
  have hq0 := h4 0 hq
  have hs := h1 _ hq0.1
  generalize hS : mQf M 0 = s at hq0 hs hsum
  have eSz : mSz (mRel M) = xu (mSz M) s 0 := by rw [← hS]; rfl
  have eOw : mOw (mRel M) = xp (mOw M) s (s + mSz M s) 0 := by rw [← hS]; rfl
  have eQn : mQn (mRel M) = mQn M - 1 := rfl
  have eQf : ∀ i, i < mQn M - 1 → mQf (mRel M) i = mQf M (i + 1) := fun i hi => if_pos hi
  have hne : ∀ t, 0 < mSz (mRel M) t → t ≠ s ∧ mSz (mRel M) t = mSz M t ∧ 0 < mSz M t := by
    intro t ht
    rw [eSz] at ht ⊢
    by_cases e : t = s
    · subst e; rw [xu_s] at ht; omega
    · rw [xu_n e] at ht ⊢; exact ⟨e, rfl, ht⟩
  -- other blocks keep their owner
  have hok : ∀ t k, t ≠ s → 0 < mSz M t → t ≤ k → k < t + mSz M t → mOw (mRel M) k = mOw M k := by
    intro t k hts ht h4' h5'
    rw [eOw, xp_out]
    intro hk
    rcases Nat.lt_or_gt_of_ne hts with g | g
    · have := h3 t s ht hq0.1 g; omega
    · have := h3 s t hq0.1 ht g; omega
  refine ⟨fun t ht => ?_, fun k hk hw => ?_, fun t u ht hu hlt => ?_, fun i hi => ?_, fun i j hi hj hij => ?_, ?_, by omega⟩
  · obtain ⟨hts, e, ht'⟩ := hne t ht
    obtain ⟨g1, g2, g3, g4⟩ := h1 t ht'
    rw [e, hok t t hts ht' (Nat.le_refl _) (by omega)]
    exact ⟨g1, g2, g3, fun k hk1 hk2 => by rw [hok t k hts ht' hk1 hk2]; exact g4 k hk1 hk2⟩
  · rw [eOw] at hw
    by_cases hin : s ≤ k ∧ k < s + mSz M s
    · rw [xp_in hin.1 hin.2] at hw; exact absurd rfl hw
    · rw [xp_out hin] at hw
      obtain ⟨t, ht, g1, g2⟩ := h2 k hk hw
      have hts : t ≠ s := fun e => hin (by rw [← e]; exact ⟨g1, g2⟩)
      exact ⟨t, by rw [eSz, xu_n hts]; exact ⟨ht, g1, g2⟩⟩
  · obtain ⟨hts, e, ht'⟩ := hne t ht
    obtain ⟨hus, e', hu'⟩ := hne u hu
    rw [e]; exact h3 t u ht' hu' hlt
  · rw [eQn] at hi
    rw [eQf i hi]
    have g := h4 (i + 1) (by omega)
    have gs : mQf M (i + 1) ≠ s := by rw [← hS]; exact h5 (i + 1) 0 (by omega) hq (by omega)
    have := (h1 _ g.1).1
    rw [eSz, xu_n gs, hok _ _ gs g.1 (Nat.le_refl _) (by omega)]
    exact g
  · rw [eQn] at hi hj
    rw [eQf i hi, eQf j hj]
    exact h5 (i + 1) (j + 1) (by omega) (by omega) (by omega)
  · have := xc_on (P := mIs (mRel M) 2) (R := mIs M 2) (n := 64) (s := s) (by omega) (fun k hk hks => ?_) ?_ ?_
    · rw [eQn]; omega
    · simp only [mIs, eSz, xu_n hks]
      by_cases hz : 0 < mSz M k
      · have := (h1 k hz).1
        rw [hok k k hks hz (Nat.le_refl _) (by omega)]
      · simp [hz]
    · simp [mIs, eSz, xu_s]
    · simp [mIs, hq0.1, hq0.2]
theorem mRel_z {M : xMem} (hz : mZ M) : mZ (mRel M) := by
  intro t ht
  show xu (mSz M) (mQf M 0) 0 t = 0
  by_cases e : t = mQf M 0
  · rw [e, xu_s]
  · rw [xu_n e]; exact hz t ht
theorem mRel_live {B : Nat} {M : xMem} (h : mOk B M) (hq : 0 < mQn M) : xc (mIs (mRel M) 1) 64 = xc (mIs M 1) 64 := by
  obtain ⟨h1, h2, h3, h4, h5, h6, h7⟩ := id h
  have hq0 := h4 0 hq
  refine xc_ext (fun k hk => ?_)
  have eSz : mSz (mRel M) = xu (mSz M) (mQf M 0) 0 := rfl
  have eOw : mOw (mRel M) = xp (mOw M) (mQf M 0) (mQf M 0 + mSz M (mQf M 0)) 0 := rfl
  simp only [mIs, eSz, eOw]
  by_cases e : k = mQf M 0
  · rw [e, xu_s]; simp [hq0.2]
  · rw [xu_n e]
    by_cases hz : 0 < mSz M k
    · rw [xp_out]
      intro hc
      rcases Nat.lt_or_gt_of_ne e with g | g
      · have := h3 k _ hz hq0.1 g; have := (h1 k hz).1; omega
      · have := h3 _ k hq0.1 hz g; omega
    · simp [hz]
end
section
theorem mOk_z {B : Nat} {M : xMem} (h : mOk B M) : mZ M := by
  intro s hs
  by_cases h0 : 0 < mSz M s
  · have := h.1 s h0; omega
  · omega
theorem mRel_is {B : Nat} {M : xMem} (h : mOk B M) (hq : 0 < mQn M) (w k : Nat) (hk : k ≠ mQf M 0) : mIs (mRel M) w k = mIs M w k := by
  obtain ⟨h1, h2, h3, h4, h5, h6, h7⟩ := id h
  have hq0 := h4 0 hq
  have eSz : mSz (mRel M) = xu (mSz M) (mQf M 0) 0 := rfl
  have eOw : mOw (mRel M) = xp (mOw M) (mQf M 0) (mQf M 0 + mSz M (mQf M 0)) 0 := rfl
  simp only [mIs, eSz, eOw]
  rw [xu_n hk]
  by_cases hz : 0 < mSz M k
  · rw [xp_out]
    intro hc
    rcases Nat.lt_or_gt_of_ne hk with g | g
    · have := h3 k _ hz hq0.1 g; have := (h1 k hz).1; omega
    · have := h3 _ k hq0.1 hz g; omega
  · simp [hz]
theorem mRel_is0 {M : xMem} (w : Nat) : mIs (mRel M) w (mQf M 0) = false := by
  have eSz : mSz (mRel M) = xu (mSz M) (mQf M 0) 0 := rfl
  simp [mIs, eSz, xu_s]
/-! the least place -/
def xl (P : Nat → Bool) : Nat → Option Nat
  | 0 => none
  | n + 1 => match xl P n with
    | some s => some s
    | none => if P n then some n else none
theorem xl_none {P : Nat → Bool} {n : Nat} (h : ∀ t, t < n → P t = false) : xl P n = none := by
  induction n with
  | zero => rfl
  | succ n ih => rw [xl, ih (fun t ht => h t (by omega))]; simp [h n (by omega)]
theorem xl_some {P : Nat → Bool} {n s : Nat} (hs : s < n) (h1 : P s = true) (h : ∀ t, t < s → P t = false) : xl P n = some s := by
  induction n with
  | zero => omega
  | succ n ih =>
    rw [xl]
    by_cases e : s = n
    · subst e; rw [xl_none h]; simp [h1]
    · rw [ih (by omega)]
theorem xl_inv {P : Nat → Bool} {n s : Nat} (h : xl P n = some s) : s < n ∧ P s = true ∧ ∀ t, t < s → P t = false := by
  induction n with
  | zero => rw [xl] at h; cases h
  | succ n ih =>
    rw [xl] at h
    cases e : xl P n with
    | some t =>
      rw [e] at h; cases h
      have := ih e
      exact ⟨by omega, this.2⟩
    | none =>
      rw [e] at h
      simp only at h
      split at h
      · rename_i hp
        cases h
        refine ⟨by omega, hp, fun t ht => ?_⟩
        cases ht' : P t with
        | false => rfl
        | true =>
          exfalso
          have hx : ∀ (m : Nat), xl P m = none → ∀ t, t < m → P t = false := by
            intro m
            induction m with
            | zero => intro _ t ht; omega
            | succ m ihm =>
              intro hm t ht
              rw [xl] at hm
              cases e2 : xl P m with
              | some z => rw [e2] at hm; cases hm
              | none =>
                rw [e2] at hm
                simp only at hm
                split at hm
                · cases hm
                · rename_i hp'
                  by_cases em : t = m
                  · subst em; simpa using hp'
                  · exact ihm e2 t (by omega)
          rw [hx _ e t ht] at ht'; cases ht'
      · cases h
theorem xl_inv0 {P : Nat → Bool} {n : Nat} (h : xl P n = none) : ∀ t, t < n → P t = false := by
  induction n with
  | zero => intro t ht; omega
  | succ n ih =>
    intro t ht
    rw [xl] at h
    cases e : xl P n with
    | some z => rw [e] at h; cases h
    | none =>
      rw [e] at h
      simp only at h
      split at h
      · cases h
      · rename_i hp
        by_cases em : t = n
        · subst em; simpa using hp
        · exact ih e t (by omega)
/-- need cells are free from s on -/
abbrev mFits (M : xMem) (need s : Nat) : Bool := decide (s + need ≤ 64 ∧ ∀ k, k < need → mOw M (s + k) = 0)
theorem mGap_ex (M : xMem) (need : Nat) : ∃ o : Option Nat, o = xl (mFits M need) 65 := ⟨_, rfl⟩
noncomputable def mGap (M : xMem) (need : Nat) : Option Nat := Classical.choose (mGap_ex M need)
theorem mGap_def (M : xMem) (need : Nat) : mGap M need = xl (mFits M need) 65 := Classical.choose_spec (mGap_ex M need)
def oI (o : Option Nat) : Int32 := match o with
  | some s => nI s
  | none => -1
theorem mGap_s {M : xMem} {need s : Nat} (h1 : s + need ≤ 64) (h2 : ∀ k, k < need → mOw M (s + k) = 0) (h3 : ∀ t, t < s → ∃ k, k < need ∧ mOw M (t + k) ≠ 0) : mGap M need = some s := by
  rw [mGap_def]
  refine xl_some (by omega) (by simp only [mFits, decide_eq_true_eq]; exact ⟨h1, h2⟩) (fun t ht => ?_)
  simp only [mFits, decide_eq_false_iff_not]
  intro hc
  obtain ⟨k, hk, hw⟩ := h3 t ht
  exact hw (hc.2 k hk)
theorem mGap_n {M : xMem} {need : Nat} (h3 : ∀ t, t + need ≤ 64 → ∃ k, k < need ∧ mOw M (t + k) ≠ 0) : mGap M need = none := by
  rw [mGap_def]
  refine xl_none (fun t ht => ?_)
  simp only [mFits, decide_eq_false_iff_not]
  intro hc
  obtain ⟨k, hk, hw⟩ := h3 t hc.1
  exact hw (hc.2 k hk)
theorem mGap_inv {M : xMem} {need s : Nat} (h : mGap M need = some s) : s + need ≤ 64 ∧ ∀ k, s ≤ k → k < s + need → mOw M k = 0 := by
  rw [mGap_def] at h
  have := (xl_inv h).2.1
  simp only [mFits, decide_eq_true_eq] at this
  exact ⟨this.1, fun k h1 h2 => by have := this.2 (k - s) (by omega); rwa [show s + (k - s) = k by omega] at this⟩
/-- a new block of b + 2 cells at s, for n bytes -/
def mPut (M : xMem) (s b n : Nat) : xMem :=
  (xp (mHp M) (8 * s + 8) (8 * s + 8 + 8 * b) 0,
   xu (xu (xu (xp (mSh M) s (s + b + 2) 0) s (-1)) (s + b) (nI (n % 8))) (s + b + 1) (-1),
   xp (mOw M) s (s + b + 2) 1, xu (mSz M) s (b + 2), mQn M, mQf M)
theorem mPut_sh {f : Nat → Int32} {s b : Nat} {x : Int32} (h : 1 ≤ b) : xu (xu (xp (xu f s (-1)) (s + 1) (s + b + 1) 0) (s + b) x) (s + b + 1) (-1) = xu (xu (xu (xp f s (s + b + 2) 0) s (-1)) (s + b) x) (s + b + 1) (-1) := by
  funext k
  simp only [xu, xp]
  by_cases c1 : k = s + b + 1
  · simp [c1]
  · by_cases c2 : k = s + b
    · rw [if_neg c1, if_pos c2, if_neg c1, if_pos c2]
    · rw [if_neg c1, if_neg c2, if_neg c1, if_neg c2]
      by_cases c3 : k = s
      · rw [if_neg (by omega), if_pos c3, if_pos c3]
      · rw [if_neg c3, if_neg c3]
        by_cases c4 : s + 1 ≤ k ∧ k < s + b + 1
        · rw [if_pos c4, if_pos (by omega)]
        · rw [if_neg c4, if_neg (by omega)]
theorem mPut_free {B : Nat} {M : xMem} {s need : Nat} (h : mOk B M) (hn : 3 ≤ need) (hf : ∀ k, s ≤ k → k < s + need → mOw M k = 0) {t : Nat} (ht : 0 < mSz M t) : t + mSz M t ≤ s ∨ s + need ≤ t := by
  obtain ⟨h1, -, -, -, -, -, -⟩ := h
  obtain ⟨g1, g2, g3, g4⟩ := h1 t ht
  by_cases c : t + mSz M t ≤ s
  · exact Or.inl c
  · by_cases c2 : s + need ≤ t
    · exact Or.inr c2
    · exfalso
      by_cases c3 : t ≤ s
      · have e1 := g4 s c3 (by omega)
        have e2 := hf s (Nat.le_refl _) (by omega)
        omega
      · have e2 := hf t (by omega) (by omega)
        omega
theorem mPut_is {B : Nat} {M : xMem} {s b n : Nat} (h : mOk B M) (hn : 1 ≤ b) (hf : ∀ k, s ≤ k → k < s + b + 2 → mOw M k = 0) (w k : Nat) (hk : k ≠ s) : mIs (mPut M s b n) w k = mIs M w k := by
  have eSz : mSz (mPut M s b n) = xu (mSz M) s (b + 2) := rfl
  have eOw : mOw (mPut M s b n) = xp (mOw M) s (s + b + 2) 1 := rfl
  simp only [mIs, eSz, eOw, xu_n hk]
  by_cases hz : 0 < mSz M k
  · have := mPut_free h (need := b + 2) (by omega) hf hz
    have := (h.1 k hz).1
    rw [xp_out (by omega)]
  · simp [hz]
theorem mPut_is0 {B : Nat} {M : xMem} {s need : Nat} (h : mOk B M) (hn : 3 ≤ need) (hf : ∀ k, s ≤ k → k < s + need → mOw M k = 0) (w : Nat) : mIs M w s = false := by
  have h0 := hf s (Nat.le_refl _) (by omega)
  simp only [mIs, decide_eq_false_iff_not]
  intro hc
  have := (h.1 s hc.1).2.2.1
  omega
theorem mPut_is1 {M : xMem} {s b n : Nat} (hn : 1 ≤ b) (w : Nat) : mIs (mPut M s b n) w s = decide (w = 1) := by
  have eSz : mSz (mPut M s b n) = xu (mSz M) s (b + 2) := rfl
  have eOw : mOw (mPut M s b n) = xp (mOw M) s (s + b + 2) 1 := rfl
  simp only [mIs, eSz, eOw, xu_s, xp_in (Nat.le_refl s) (show s < s + b + 2 by omega)]
  have : 0 < b + 2 := by omega
  simp [this, eq_comm]
theorem mPut_live {B : Nat} {M : xMem} {s b n : Nat} (h : mOk B M) (hn : 1 ≤ b) (hs : s + b + 2 ≤ 64) (hf : ∀ k, s ≤ k → k < s + b + 2 → mOw M k = 0) : xc (mIs (mPut M s b n) 1) 64 = xc (mIs M 1) 64 + 1 :=
  xc_on (s := s) (by omega) (fun k _ hk => (mPut_is h hn hf 1 k hk).symm) (mPut_is0 h (need := b + 2) (by omega) hf 1) (mPut_is1 hn 1)
theorem mPut_ok {B : Nat} {M : xMem} {s b n : Nat} (h : mOk B M) (hn : 1 ≤ b) (hs : s + b + 2 ≤ 64) (hf : ∀ k, s ≤ k → k < s + b + 2 → mOw M k = 0) : mOk B (mPut M s b n) := by
  have hfr := fun {t : Nat} (ht : 0 < mSz M t) => mPut_free h (need := b + 2) (by omega) hf ht
  have his := mPut_is (n := n) h hn hf 2
  have his0 := mPut_is0 h (need := b + 2) (by omega) hf 2
  obtain ⟨h1, h2, h3, h4, h5, h6, h7⟩ := id h
  have eSz : mSz (mPut M s b n) = xu (mSz M) s (b + 2) := rfl
  have eOw : mOw (mPut M s b n) = xp (mOw M) s (s + b + 2) 1 := rfl
  have eQn : mQn (mPut M s b n) = mQn M := rfl
  have eQf : mQf (mPut M s b n) = mQf M := rfl
  have hne : ∀ i, i < mQn M → mQf M i ≠ s := by
    intro i hi e
    have := h4 i hi
    rw [e] at this
    have := hf s (Nat.le_refl _) (by omega)
    omega
  refine ⟨fun t ht => ?_, fun k hk hw => ?_, fun t u ht hu hlt => ?_, fun i hi => ?_, fun i j hi hj hij => h5 i j hi hj hij, ?_, ?_⟩
  · rw [eSz] at ht ⊢
    by_cases e : t = s
    · subst e
      rw [xu_s, eOw, xp_in (Nat.le_refl _) (by omega)]
      exact ⟨by omega, hs, Or.inl rfl, fun k g1 g2 => xp_in g1 g2⟩
    · rw [xu_n e] at ht ⊢
      obtain ⟨g1, g2, g3, g4⟩ := h1 t ht
      have := hfr ht
      rw [eOw, xp_out (by omega)]
      exact ⟨g1, g2, g3, fun k k1 k2 => by rw [xp_out (by omega)]; exact g4 k k1 k2⟩
  · rw [eOw] at hw
    by_cases hin : s ≤ k ∧ k < s + b + 2
    · exact ⟨s, by rw [eSz, xu_s]; exact ⟨by omega, hin⟩⟩
    · rw [xp_out hin] at hw
      obtain ⟨t, ht, g1, g2⟩ := h2 k hk hw
      have : t ≠ s := by
        intro e; rw [e] at ht
        have a1 := hf s (Nat.le_refl _) (by omega)
        have a2 := (h1 s ht).2.2.1
        omega
      exact ⟨t, by rw [eSz, xu_n this]; exact ⟨ht, g1, g2⟩⟩
  · rw [eSz] at ht hu ⊢
    by_cases e : t = s
    · subst e
      rw [xu_s]
      rw [xu_n (by omega)] at hu
      have := hfr hu
      have := (h1 u hu).1
      omega
    · rw [xu_n e] at ht ⊢
      by_cases e2 : u = s
      · subst e2
        have := hfr ht
        omega
      · rw [xu_n e2] at hu; exact h3 t u ht hu hlt
  · rw [eQf, eSz, eOw, xu_n (hne i hi)]
    have g := h4 i hi
    have := hfr g.1
    have := (h1 _ g.1).1
    rw [xp_out (by omega)]; exact g
  · rw [eQn, ← h6]
    refine xc_ext (fun k hk => ?_)
    by_cases e : k = s
    · subst e; rw [mPut_is1 hn 2, his0]; rfl
    · exact his k e
  · show xs (fun i => xu (mSz M) s (b + 2) (mQf M i)) (mQn M) ≤ B
    rw [xs_ext (g := fun i => mSz M (mQf M i)) (fun k hk => xu_n (hne k hk))]
    exact h7
/-- a block goes into the queue -/
def mFre (M : xMem) (s : Nat) : xMem :=
  (mHp M, xp (mSh M) (s + 1) (s + mSz M s - 1) (-2), xp (mOw M) s (s + mSz M s) 2, mSz M, mQn M + 1, xu (mQf M) (mQn M) s)
theorem mFre_out {B : Nat} {M : xMem} {s : Nat} (h : mOk B M) (hs : 0 < mSz M s) {t k : Nat} (hts : t ≠ s) (ht : 0 < mSz M t) (h1 : t ≤ k) (h2 : k < t + mSz M t) : mOw (mFre M s) k = mOw M k := by
  show xp (mOw M) s (s + mSz M s) 2 k = _
  rw [xp_out]
  intro hc
  rcases Nat.lt_or_gt_of_ne hts with g | g
  · have := h.2.2.1 t s ht hs g; omega
  · have := h.2.2.1 s t hs ht g; omega
theorem mFre_is {B : Nat} {M : xMem} {s : Nat} (h : mOk B M) (hs : 0 < mSz M s) (w k : Nat) (hk : k ≠ s) : mIs (mFre M s) w k = mIs M w k := by
  have eSz : mSz (mFre M s) = mSz M := rfl
  simp only [mIs, eSz]
  by_cases hz : 0 < mSz M k
  · rw [mFre_out h hs hk hz (Nat.le_refl _) (by omega)]
  · simp [hz]
theorem mFre_is1 {M : xMem} {s : Nat} (hs : 0 < mSz M s) (w : Nat) : mIs (mFre M s) w s = decide (w = 2) := by
  have eSz : mSz (mFre M s) = mSz M := rfl
  have eOw : mOw (mFre M s) = xp (mOw M) s (s + mSz M s) 2 := rfl
  simp only [mIs, eSz, eOw, xp_in (Nat.le_refl s) (show s < s + mSz M s by omega)]
  simp [hs, eq_comm]
theorem mFre_live {B : Nat} {M : xMem} {s : Nat} (h : mOk B M) (hs : 0 < mSz M s) (hw : mOw M s = 1) : xc (mIs M 1) 64 = xc (mIs (mFre M s) 1) 64 + 1 :=
  xc_on (s := s) (by have := (h.1 s hs).2.1; omega) (fun k _ hk => mFre_is h hs 1 k hk) (mFre_is1 hs 1) (by simp [mIs, hs, hw])
theorem mFre_sum {M : xMem} {s : Nat} : mSum (mFre M s) = mSum M + mSz M s := by
  show xs (fun i => mSz M (xu (mQf M) (mQn M) s i)) (mQn M + 1) = _
  rw [xs, xu_s, xs_ext (g := fun i => mSz M (mQf M i)) (fun k hk => by rw [xu_n (by omega)])]
theorem mFre_ok {B : Nat} {M : xMem} {s : Nat} (h : mOk B M) (hs : 0 < mSz M s) (hw : mOw M s = 1) : mOk (B + 64) (mFre M s) := by
  have hsum := mFre_sum (M := M) (s := s)
  have hout := fun {t k : Nat} => mFre_out (t := t) (k := k) h hs
  have his := mFre_is h hs 2
  obtain ⟨h1, h2, h3, h4, h5, h6, h7⟩ := id h
  have hs1 := h1 s hs
  have eSz : mSz (mFre M s) = mSz M := rfl
  have eOw : mOw (mFre M s) = xp (mOw M) s (s + mSz M s) 2 := rfl
  have eQn : mQn (mFre M s) = mQn M + 1 := rfl
  have eQf : mQf (mFre M s) = xu (mQf M) (mQn M) s := rfl
  have hne : ∀ i, i < mQn M → mQf M i ≠ s := by
    intro i hi e
    have := (h4 i hi).2
    rw [e, hw] at this
    omega
  refine ⟨fun t ht => ?_, fun k hk hw' => ?_, fun t u ht hu hlt => h3 t u ht hu hlt, fun i hi => ?_, fun i j hi hj hij => ?_, ?_, by omega⟩
  · rw [eSz] at ht ⊢
    obtain ⟨g1, g2, g3, g4⟩ := h1 t ht
    by_cases e : t = s
    · subst e
      rw [eOw, xp_in (Nat.le_refl _) (by omega)]
      exact ⟨g1, g2, Or.inr rfl, fun k k1 k2 => xp_in k1 k2⟩
    · rw [hout e ht (Nat.le_refl _) (by omega)]
      exact ⟨g1, g2, g3, fun k k1 k2 => by rw [hout e ht k1 k2]; exact g4 k k1 k2⟩
  · rw [eSz]
    rw [eOw] at hw'
    by_cases hin : s ≤ k ∧ k < s + mSz M s
    · exact ⟨s, hs, hin.1, hin.2⟩
    · rw [xp_out hin] at hw'; exact h2 k hk hw'
  · rw [eQn] at hi
    rw [eSz, eQf]
    by_cases e : i = mQn M
    · subst e; rw [xu_s, eOw, xp_in (Nat.le_refl _) (by omega)]; exact ⟨hs, rfl⟩
    · have g := h4 i (by omega)
      rw [xu_n e, hout (hne i (by omega)) g.1 (Nat.le_refl _) (by omega)]; exact g
  · rw [eQn] at hi hj
    rw [eQf]
    by_cases e : i = mQn M
    · subst e; rw [xu_s, xu_n (by omega)]; exact fun x => hne j (by omega) x.symm
    · rw [xu_n e]
      by_cases e2 : j = mQn M
      · subst e2; rw [xu_s]; exact hne i (by omega)
      · rw [xu_n e2]; exact h5 i j (by omega) (by omega) hij
  · rw [eQn, ← h6]
    exact xc_on (s := s) (by omega) (fun k _ hk => (his k hk).symm) (by simp [mIs, hw]) (mFre_is1 hs 2)
/-- the queue shrinks until its cells are at most 20 -/
def mTrF : Nat → xMem → xMem
  | 0, M => M
  | f + 1, M => if mSum M ≤ 20 then M else mTrF f (mRel M)
def mTr (M : xMem) : xMem := mTrF (mQn M) M
theorem mTr_le {M : xMem} (h : mSum M ≤ 20) : mTr M = M := by
  unfold mTr
  cases mQn M with
  | zero => rfl
  | succ n => exact if_pos h
theorem mSum_pos {M : xMem} (h : 0 < mSum M) : 0 < mQn M := by
  apply Nat.pos_of_ne_zero
  intro e
  unfold mSum at h
  rw [e] at h
  exact absurd h (Nat.not_lt_zero _)
theorem mTr_gt {M : xMem} (h : 20 < mSum M) : mTr M = mTr (mRel M) := by
  have hq := mSum_pos (M := M) (by omega)
  unfold mTr
  have e : mQn (mRel M) = mQn M - 1 := rfl
  rw [e]
  obtain ⟨n, hn⟩ : ∃ n, mQn M = n + 1 := ⟨mQn M - 1, by omega⟩
  rw [hn]
  exact if_neg (by omega)
/-- blocks leave the queue until need cells are free, or none waits -/
noncomputable def mMkF (need : Nat) : Nat → xMem → xMem
  | 0, M => M
  | f + 1, M => match mGap M need with
    | some _ => M
    | none => mMkF need f (mRel M)
noncomputable def mMk (need : Nat) (M : xMem) : xMem := mMkF need (mQn M) M
theorem mMk_0 {need : Nat} {M : xMem} (h : mQn M = 0) : mMk need M = M := by
  unfold mMk; rw [h]; rfl
theorem mMk_s {need s : Nat} {M : xMem} (h : mGap M need = some s) : mMk need M = M := by
  unfold mMk
  cases mQn M with
  | zero => rfl
  | succ n => simp only [mMkF, h]
theorem mMk_n {need : Nat} {M : xMem} (h : mGap M need = none) (hq : 0 < mQn M) : mMk need M = mMk need (mRel M) := by
  unfold mMk
  have e : mQn (mRel M) = mQn M - 1 := rfl
  rw [e]
  obtain ⟨n, hn⟩ : ∃ n, mQn M = n + 1 := ⟨mQn M - 1, by omega⟩
  rw [hn]
  simp only [mMkF, h]
  rw [Nat.add_sub_cancel]
theorem mTr_ok {B : Nat} : ∀ {n : Nat} {M : xMem}, mQn M = n → mOk B M → mOk 20 (mTr M) := by
  intro n
  induction n with
  | zero =>
    intro M hn h
    have : mSum M = 0 := by unfold mSum; rw [hn]; rfl
    rw [mTr_le (by omega)]; exact mOk_mono h (by omega)
  | succ n ih =>
    intro M hn h
    by_cases c : mSum M ≤ 20
    · rw [mTr_le c]; exact mOk_mono h c
    · rw [mTr_gt (by omega)]
      exact ih (by show mQn M - 1 = n; omega) (mRel_ok h (by omega))
theorem mMk_ok {B need : Nat} : ∀ {n : Nat} {M : xMem}, mQn M = n → mOk B M → mOk B (mMk need M) := by
  intro n
  induction n with
  | zero => intro M hn h; rw [mMk_0 hn]; exact h
  | succ n ih =>
    intro M hn h
    cases c : mGap M need with
    | some s => rw [mMk_s c]; exact h
    | none =>
      rw [mMk_n c (by omega)]
      exact ih (by show mQn M - 1 = n; omega) (mRel_ok h (by omega))
/-- a block for a bytes: the memory behind it, and its address -/
noncomputable def mAl (M : xMem) (a : Int32) : xMem × Int32 :=
  if a < 1 ∨ 100 < a then (M, 0)
  else
    let n := a.toNatClampNeg
    let need := (n + 7) / 8 + 2
    match mGap (mMk need M) need with
    | some s => (mPut (mMk need M) s ((n + 7) / 8) n, nI (8 * s + 8))
    | none => (mMk need M, 0)
theorem mAl_ok {M : xMem} (a : Int32) (h : mOk 20 M) : mOk 20 (mAl M a).1 := by
  unfold mAl
  split
  · exact h
  · simp only
    have hk := mMk_ok (need := (a.toNatClampNeg + 7) / 8 + 2) rfl h
    rename_i hc
    have h1 : 1 ≤ a.toNatClampNeg := by
      have : ¬ a < 1 := fun x => hc (Or.inl x)
      rw [Int32.lt_iff_toInt_lt] at this
      have e : (1 : Int32).toInt = 1 := by decide
      rw [e] at this
      unfold Int32.toNatClampNeg
      omega
    split
    · rename_i s hs
      have := mGap_inv hs
      exact mPut_ok hk (by omega) this.1 this.2
    · exact hk
/-- a block is freed -/
def mFr (M : xMem) (s : Nat) : xMem := mTr (mFre M s)
theorem mFr_ok {M : xMem} {s : Nat} (h : mOk 20 M) (hs : 0 < mSz M s) (hw : mOw M s = 1) : mOk 20 (mFr M s) := mTr_ok rfl (mFre_ok h hs hw)
end
section
/-! the program: n, operation, r, a, b, k -/
abbrev xPg : Type := Nat × (Nat → Nat) × (Nat → Nat) × (Nat → Nat) × (Nat → Nat) × (Nat → Int32)
abbrev pN (P : xPg) : Nat := P.1
abbrev pO (P : xPg) : Nat → Nat := P.2.1
abbrev pR (P : xPg) : Nat → Nat := P.2.2.1
abbrev pA (P : xPg) : Nat → Nat := P.2.2.2.1
abbrev pB (P : xPg) : Nat → Nat := P.2.2.2.2.1
abbrev pK (P : xPg) : Nat → Int32 := P.2.2.2.2.2
def pOk (P : xPg) : Prop := pN P ≤ 40 ∧ ∀ i, i < pN P → pO P i ≤ 14 ∧ pR P i < 8 ∧ pA P i < 8 ∧ pB P i < 8
/-- has a check ahead of it -/
abbrev pC (P : xPg) : Nat → Bool := fun i => decide (4 < pO P i ∧ pO P i < 10)
/-- where an instruction's lines begin in the rewritten program -/
def pl (P : xPg) (i : Nat) : Nat := i + xc (pC P) i
theorem pl_0 (P : xPg) : pl P 0 = 0 := rfl
theorem pl_s (P : xPg) (i : Nat) : pl P (i + 1) = pl P i + 1 + (if pC P i then 1 else 0) := by
  unfold pl; rw [xc]; omega
theorem pl_ge (P : xPg) (i : Nat) : i ≤ pl P i := Nat.le_add_right _ _
theorem pl_le (P : xPg) (i : Nat) : pl P i ≤ 2 * i := by
  have := xc_le (pC P) i
  unfold pl; omega
theorem pl_lt {P : xPg} {i j : Nat} (h : i < j) : pl P i < pl P j := by
  induction j with
  | zero => omega
  | succ j ih =>
    rw [pl_s]
    by_cases e : i = j
    · subst e; omega
    · have := ih (by omega); omega
theorem pl_mono {P : xPg} {i j : Nat} (h : i ≤ j) : pl P i ≤ pl P j := by
  by_cases e : i = j
  · subst e; exact Nat.le_refl _
  · exact Nat.le_of_lt (pl_lt (by omega))
theorem pl_inj {P : xPg} {i j : Nat} (h : pl P i = pl P j) : i = j := by
  rcases Nat.lt_trichotomy i j with g | g | g
  · have := pl_lt (P := P) g; omega
  · exact g
  · have := pl_lt (P := P) g; omega
theorem pl_ex {P : xPg} {n p : Nat} (h : p < pl P n) : ∃ i, i < n ∧ pl P i ≤ p ∧ p < pl P (i + 1) := by
  induction n with
  | zero => rw [pl_0] at h; omega
  | succ n ih =>
    by_cases c : p < pl P n
    · obtain ⟨i, h1, h2⟩ := ih c; exact ⟨i, by omega, h2⟩
    · exact ⟨n, by omega, by omega, h⟩
/-- the instruction whose line it is -/
def pI (P : xPg) (p : Nat) : Nat := xc (fun i => decide (pl P (i + 1) ≤ p)) p
theorem xc_cut {P : Nat → Bool} {i n : Nat} (h : i ≤ n) (h1 : ∀ j, j < i → P j = true) (h2 : ∀ j, i ≤ j → P j = false) : xc P n = i := by
  induction n with
  | zero => rw [xc]; omega
  | succ n ih =>
    rw [xc]
    by_cases e : i = n + 1
    · have : ∀ m, m ≤ i → xc P m = m := by
        intro m
        induction m with
        | zero => intro _; rfl
        | succ m ihm => intro hm; rw [xc, ihm (by omega), h1 m (by omega)]; rfl
      rw [this n (by omega), h1 n (by omega), e]; rfl
    · rw [ih (by omega), h2 n (by omega)]; rfl
theorem pI_eq {P : xPg} {p i : Nat} (h1 : pl P i ≤ p) (h2 : p < pl P (i + 1)) : pI P p = i := by
  refine xc_cut (Nat.le_trans (pl_ge P i) h1) (fun j hj => ?_) (fun j hj => ?_)
  · have := pl_mono (P := P) (show j + 1 ≤ i by omega)
    simp only [decide_eq_true_eq]; omega
  · have := pl_mono (P := P) (show i + 1 ≤ j + 1 by omega)
    simp only [decide_eq_false_iff_not]; omega
theorem pI_sp {P : xPg} {n p : Nat} (h : p < pl P n) : pI P p < n ∧ pl P (pI P p) ≤ p ∧ p < pl P (pI P p + 1) := by
  obtain ⟨i, h1, h2, h3⟩ := pl_ex h
  rw [pI_eq h2 h3]; exact ⟨h1, h2, h3⟩
/-- is the line a check -/
def pH (P : xPg) (p : Nat) : Bool := pC P (pI P p) && decide (p = pl P (pI P p))
/-- the operation of a line -/
def pOp (P : xPg) (p : Nat) : Nat := if pH P p then (if pO P (pI P p) = 5 then 16 else 15) else pO P (pI P p)
/-- goes on elsewhere -/
abbrev pJ (P : xPg) (i : Nat) : Bool := decide (pO P i = 10 ∨ pO P i = 11)
/-- every instruction goes on within -/
def pSd (P : xPg) : Prop := ∀ i, i < pN P → (pO P i = 10 ∨ pO P i = 11) → 0 ≤ pK P i ∧ pK P i < nI (pN P)
/-- an instruction more -/
def pAdd (P : xPg) (o r a b : Nat) (k : Int32) : xPg := (pN P + 1, xu (pO P) (pN P) o, xu (pR P) (pN P) r, xu (pA P) (pN P) a, xu (pB P) (pN P) b, xu (pK P) (pN P) k)
theorem pAdd_ok {P : xPg} {o r a b : Nat} {k : Int32} (h : pOk P) (hn : pN P < 40) (ho : o ≤ 14) (hr : r < 8) (ha : a < 8) (hb : b < 8) : pOk (pAdd P o r a b k) := by
  refine ⟨?_, fun i hi => ?_⟩
  · show pN P + 1 ≤ 40; omega
  · have hi' : i < pN P + 1 := hi
    show xu (pO P) (pN P) o i ≤ 14 ∧ xu (pR P) (pN P) r i < 8 ∧ xu (pA P) (pN P) a i < 8 ∧ xu (pB P) (pN P) b i < 8
    by_cases e : i = pN P
    · subst e; rw [xu_s, xu_s, xu_s, xu_s]; exact ⟨ho, hr, ha, hb⟩
    · rw [xu_n e, xu_n e, xu_n e, xu_n e]; exact h.2 i (by omega)
theorem pAdd_pl {P : xPg} {o r a b : Nat} {k : Int32} {i : Nat} (h : i ≤ pN P) : pl (pAdd P o r a b k) i = pl P i := by
  unfold pl
  rw [xc_ext (R := pC P) (fun j hj => ?_)]
  show decide (4 < xu (pO P) (pN P) o j ∧ xu (pO P) (pN P) o j < 10) = _
  rw [xu_n (by omega)]
theorem pAdd_pls {P : xPg} {o r a b : Nat} {k : Int32} : pl (pAdd P o r a b k) (pN P + 1) = pl P (pN P) + 1 + if 4 < o ∧ o < 10 then 1 else 0 := by
  rw [pl_s, pAdd_pl (Nat.le_refl _)]
  congr 1
  have : pC (pAdd P o r a b k) (pN P) = decide (4 < o ∧ o < 10) := by
    show decide (4 < xu (pO P) (pN P) o (pN P) ∧ xu (pO P) (pN P) o (pN P) < 10) = _
    rw [xu_s]
  rw [this]; simp
theorem pAdd_pI {P : xPg} {o r a b : Nat} {k : Int32} {p : Nat} (h : p < pl P (pN P)) : pI (pAdd P o r a b k) p = pI P p := by
  obtain ⟨h1, h2, h3⟩ := pI_sp h
  refine pI_eq ?_ ?_
  · rw [pAdd_pl (by omega)]; exact h2
  · rw [pAdd_pl (by omega)]; exact h3
theorem pAdd_pI1 {P : xPg} {o r a b : Nat} {k : Int32} {p : Nat} (h1 : pl P (pN P) ≤ p) (h2 : p < pl (pAdd P o r a b k) (pN P + 1)) : pI (pAdd P o r a b k) p = pN P :=
  pI_eq (by rw [pAdd_pl (Nat.le_refl _)]; exact h1) h2
theorem pAdd_o {P : xPg} {o r a b : Nat} {k : Int32} {i : Nat} (h : i < pN P) : pO (pAdd P o r a b k) i = pO P i := xu_n (by omega)
theorem pAdd_o1 {P : xPg} {o r a b : Nat} {k : Int32} : pO (pAdd P o r a b k) (pN P) = o := xu_s
theorem pAdd_op {P : xPg} {o r a b : Nat} {k : Int32} {p : Nat} (h : p < pl P (pN P)) : pOp (pAdd P o r a b k) p = pOp P p := by
  obtain ⟨h1, h2, h3⟩ := pI_sp h
  unfold pOp pH
  rw [pAdd_pI h, pAdd_o h1, pAdd_pl (by omega)]
  have : pC (pAdd P o r a b k) (pI P p) = pC P (pI P p) := by
    show decide (4 < pO (pAdd P o r a b k) _ ∧ pO (pAdd P o r a b k) _ < 10) = _
    rw [pAdd_o h1]
  rw [this]
/-- the two listings: origins and first lines of the plain one; operations, origins, first lines of the rewritten one -/
abbrev xLs : Type := (Nat → Nat) × (Nat → Nat) × (Nat → Nat) × (Nat → Nat) × (Nat → Nat)
def lOk (P : xPg) (L : xLs) : Prop := (∀ i, i < pN P → L.1 i = i ∧ L.2.1 i = i ∧ L.2.2.2.2 i = pl P i) ∧ ∀ p, p < pl P (pN P) → L.2.2.1 p = pOp P p ∧ L.2.2.2.1 p = pI P p
theorem lOk_0 {P : xPg} (L : xLs) (h : pN P = 0) : lOk P L := by
  refine ⟨fun i hi => ?_, fun p hp => ?_⟩
  · omega
  · rw [h, pl_0] at hp; omega
/-- behind an instruction without a check -/
def lAdd1 (P : xPg) (L : xLs) (o : Nat) : xLs := (xu L.1 (pN P) (pN P), xu L.2.1 (pN P) (pN P), xu L.2.2.1 (pl P (pN P)) o, xu L.2.2.2.1 (pl P (pN P)) (pN P), xu L.2.2.2.2 (pN P) (pl P (pN P)))
/-- behind one with the check c -/
def lAdd2 (P : xPg) (L : xLs) (c o : Nat) : xLs := (xu L.1 (pN P) (pN P), xu L.2.1 (pN P) (pN P), xu (xu L.2.2.1 (pl P (pN P)) c) (pl P (pN P) + 1) o, xu (xu L.2.2.2.1 (pl P (pN P)) (pN P)) (pl P (pN P) + 1) (pN P), xu L.2.2.2.2 (pN P) (pl P (pN P)))
theorem lAdd1_ok {P : xPg} {L : xLs} {o r a b : Nat} {k : Int32} (h : lOk P L) (ho : ¬ (4 < o ∧ o < 10)) : lOk (pAdd P o r a b k) (lAdd1 P L o) := by
  have hpls := pAdd_pls (P := P) (o := o) (r := r) (a := a) (b := b) (k := k)
  rw [if_neg ho] at hpls
  have hN : pN (pAdd P o r a b k) = pN P + 1 := rfl
  refine ⟨fun i hi => ?_, fun p hp => ?_⟩
  · rw [hN] at hi
    show xu L.1 (pN P) (pN P) i = i ∧ xu L.2.1 (pN P) (pN P) i = i ∧ xu L.2.2.2.2 (pN P) (pl P (pN P)) i = _
    rw [pAdd_pl (by omega)]
    by_cases e : i = pN P
    · subst e; rw [xu_s, xu_s, xu_s]; exact ⟨rfl, rfl, rfl⟩
    · rw [xu_n e, xu_n e, xu_n e]; exact h.1 i (by omega)
  · rw [hN] at hp
    show xu L.2.2.1 (pl P (pN P)) o p = _ ∧ xu L.2.2.2.1 (pl P (pN P)) (pN P) p = _
    by_cases e : p = pl P (pN P)
    · have hI := pAdd_pI1 (r := r) (a := a) (b := b) (k := k) (Nat.le_of_eq e.symm) hp
      rw [hI]
      rw [e, xu_s, xu_s]
      refine ⟨?_, rfl⟩
      rw [← e]
      unfold pOp pH
      rw [hI]
      have hc : pC (pAdd P o r a b k) (pN P) = false := by
        show decide (4 < pO (pAdd P o r a b k) _ ∧ pO (pAdd P o r a b k) _ < 10) = _
        rw [pAdd_o1]; simpa using ho
      rw [hc, pAdd_o1]; rfl
    · have hp' : p < pl P (pN P) := by omega
      rw [xu_n e, xu_n e, pAdd_op hp', pAdd_pI hp']; exact h.2 p hp'
theorem lAdd2_ok {P : xPg} {L : xLs} {c o r a b : Nat} {k : Int32} (h : lOk P L) (ho : 4 < o ∧ o < 10) (hc : c = if o = 5 then 16 else 15) : lOk (pAdd P o r a b k) (lAdd2 P L c o) := by
  have hpls := pAdd_pls (P := P) (o := o) (r := r) (a := a) (b := b) (k := k)
  rw [if_pos ho] at hpls
  have hN : pN (pAdd P o r a b k) = pN P + 1 := rfl
  have hC : pC (pAdd P o r a b k) (pN P) = true := by
    show decide (4 < pO (pAdd P o r a b k) _ ∧ pO (pAdd P o r a b k) _ < 10) = _
    rw [pAdd_o1]; simpa using ho
  refine ⟨fun i hi => ?_, fun p hp => ?_⟩
  · rw [hN] at hi
    show xu L.1 (pN P) (pN P) i = i ∧ xu L.2.1 (pN P) (pN P) i = i ∧ xu L.2.2.2.2 (pN P) (pl P (pN P)) i = _
    rw [pAdd_pl (by omega)]
    by_cases e : i = pN P
    · subst e; rw [xu_s, xu_s, xu_s]; exact ⟨rfl, rfl, rfl⟩
    · rw [xu_n e, xu_n e, xu_n e]; exact h.1 i (by omega)
  · rw [hN] at hp
    show xu (xu L.2.2.1 (pl P (pN P)) c) (pl P (pN P) + 1) o p = _ ∧ xu (xu L.2.2.2.1 (pl P (pN P)) (pN P)) (pl P (pN P) + 1) (pN P) p = _
    by_cases e : p = pl P (pN P)
    · have hI := pAdd_pI1 (r := r) (a := a) (b := b) (k := k) (Nat.le_of_eq e.symm) hp
      have e3 : p ≠ pl P (pN P) + 1 := by omega
      rw [hI, xu_n e3, xu_n e3]
      rw [e, xu_s, xu_s]
      refine ⟨?_, rfl⟩
      rw [← e]
      unfold pOp pH
      rw [hI, hC, pAdd_o1, pAdd_pl (Nat.le_refl _), hc]
      simp [e]
    · by_cases e2 : p = pl P (pN P) + 1
      · have hI := pAdd_pI1 (P := P) (o := o) (r := r) (a := a) (b := b) (k := k) (p := p) (by omega) hp
        rw [hI]
        rw [e2, xu_s, xu_s]
        refine ⟨?_, rfl⟩
        rw [← e2]
        unfold pOp pH
        rw [hI, hC, pAdd_o1, pAdd_pl (Nat.le_refl _)]
        simp [e]
      · have hp' : p < pl P (pN P) := by omega
        rw [xu_n e2, xu_n e2, xu_n e, xu_n e, pAdd_op hp', pAdd_pI hp']; exact h.2 p hp'
end
section
/-! the run: state, checked, at, last done, registers, how many prints, prints, kind, where, whose -/
abbrev xRn : Type := Nat × Bool × Nat × Nat × (Nat → Int32) × Nat × (Nat → Int32) × Nat × Int32 × Nat
abbrev rSt (R : xRn) : Nat := R.1
abbrev rCk (R : xRn) : Bool := R.2.1
abbrev rAt (R : xRn) : Nat := R.2.2.1
abbrev rLd (R : xRn) : Nat := R.2.2.2.1
abbrev rRg (R : xRn) : Nat → Int32 := R.2.2.2.2.1
abbrev rPn (R : xRn) : Nat := R.2.2.2.2.2.1
abbrev rPr (R : xRn) : Nat → Int32 := R.2.2.2.2.2.2.1
abbrev rKd (R : xRn) : Nat := R.2.2.2.2.2.2.2.1
abbrev rWh (R : xRn) : Int32 := R.2.2.2.2.2.2.2.2.1
abbrev rWo (R : xRn) : Nat := R.2.2.2.2.2.2.2.2.2
abbrev rSetS (R : xRn) (s : Nat) : xRn := (s, rCk R, rAt R, rLd R, rRg R, rPn R, rPr R, rKd R, rWh R, rWo R)
abbrev rSetA (R : xRn) (a : Nat) : xRn := (rSt R, rCk R, a, rLd R, rRg R, rPn R, rPr R, rKd R, rWh R, rWo R)
abbrev rSetL (R : xRn) (a : Nat) : xRn := (rSt R, rCk R, rAt R, a, rRg R, rPn R, rPr R, rKd R, rWh R, rWo R)
abbrev rSetR (R : xRn) (r : Nat) (v : Int32) : xRn := (rSt R, rCk R, rAt R, rLd R, xu (rRg R) r v, rPn R, rPr R, rKd R, rWh R, rWo R)
abbrev rTell (R : xRn) (k : Nat) (a : Int32) (i : Nat) : xRn := (3, rCk R, rAt R, rLd R, rRg R, rPn R, rPr R, k, a, i)
abbrev rPrint (R : xRn) (v : Int32) : xRn := if rPn R < 60 then (rSt R, rCk R, rAt R, rLd R, rRg R, rPn R + 1, xu (rPr R) (rPn R) v, rKd R, rWh R, rWo R) else R
abbrev rLim (P : xPg) (R : xRn) : Nat := if rCk R then pl P (pN P) else pN P
def rOk (P : xPg) (R : xRn) : Prop := rSt R ≤ 4 ∧ rPn R ≤ 60 ∧ (rSt R ≠ 0 → pSd P ∧ 0 < pN P) ∧ (rSt R = 1 → rAt R < rLim P R) ∧ (rSt R = 3 → rCk R = true ∧ rLd R < pl P (pN P) ∧ rWo R = pI P (rLd R))
/-- x is one of the numbers below n -/
def xr (x : Int32) (n : Nat) : Bool := decide (0 ≤ x ∧ x < nI n)
/-- why the byte at x may not be touched; 0: it may -/
def mTc (s : Int32) (j : Nat) : Nat := if s = 0 ∨ (0 < s ∧ nI j < s) then 0 else if s = -2 then 2 else if s = -3 then 3 else 1
def mWr (M : xMem) (x : Int32) : Nat := if xr x 512 = true then mTc (mSh M (x.toNatClampNeg / 8)) (x.toNatClampNeg % 8) else 5
/-- a block that is not in the queue has its address there -/
def mBl (M : xMem) (x : Int32) : Bool := xr x 512 && decide (0 < x.toNatClampNeg ∧ x.toNatClampNeg % 8 = 0 ∧ 0 < mSz M (x.toNatClampNeg / 8 - 1) ∧ mOw M (x.toNatClampNeg / 8 - 1) = 1)
/-- the first of m places from k on -/
def xf (P : Nat → Bool) : Nat → Nat → Option Nat
  | 0, _ => none
  | m + 1, k => if P k then some k else xf P m (k + 1)
def rMany (P : xPg) (i : Nat) : Nat := if pO P i % 2 = 0 then 1 else 4
abbrev rX (P : xPg) (R : xRn) (i : Nat) : Int32 := rRg R (pA P i) + pK P i
def rBad (P : xPg) (M : xMem) (R : xRn) (i : Nat) : Nat → Bool := fun j => decide (mWr M (rX P R i + nI j) ≠ 0)
def rTo (P : xPg) (M : xMem) (R : xRn) (i : Nat) (o : Option Nat) : xRn := match o with
  | some j => rTell R (mWr M (rX P R i + nI j)) (rX P R i + nI j) i
  | none => R
def rChk (P : xPg) (M : xMem) (R : xRn) (i : Nat) : xRn :=
  if pO P i = 5 then (if rRg R (pA P i) ≠ 0 ∧ mBl M (rRg R (pA P i)) = false then rTell R 4 (rRg R (pA P i)) i else R)
  else rTo P M R i (xf (rBad P M R i) (rMany P i) 0)
/-- w bytes from x on, the first j of them from above read -/
def xld (hp : Nat → Int32) (x w : Nat) : Nat → Int32
  | 0 => 0
  | j + 1 => (xld hp x w j <<< (nI 8 &&& 31)) ||| hp (x + (w - 1 - j))
def xbt (v : Int32) (j : Nat) : Int32 := (v >>> (nI (8 * j) &&& 31)) &&& nI 255
def xst (hp : Nat → Int32) (x : Nat) (v : Int32) : Nat → Nat → Int32
  | 0 => hp
  | j + 1 => xu (xst hp x v j) (x + j) (xbt v j)
/-- w bytes from x on lie in the heap -/
def xIn (x : Int32) (w : Nat) : Prop := xr x 512 = true ∧ x.toNatClampNeg + w ≤ 512
theorem xIn_dec (x : Int32) (w : Nat) : ∃ b : Bool, b = true ↔ xIn x w := by
  by_cases h : xIn x w
  · exact ⟨true, by simp [h]⟩
  · exact ⟨false, by simp [h]⟩
noncomputable def xInb (x : Int32) (w : Nat) : Bool := Classical.choose (xIn_dec x w)
theorem xInb_i (x : Int32) (w : Nat) : xInb x w = true ↔ xIn x w := Classical.choose_spec (xIn_dec x w)
noncomputable def rTch (P : xPg) (M : xMem) (R : xRn) (i : Nat) : xMem × xRn :=
  if xInb (rX P R i) (rMany P i) = true then
    (if pO P i = 6 then (M, rSetR R (pR P i) (mHp M (rX P R i).toNatClampNeg))
    else if pO P i = 7 then (M, rSetR R (pR P i) (xld (mHp M) (rX P R i).toNatClampNeg 4 4))
    else ((xst (mHp M) (rX P R i).toNatClampNeg (rRg R (pB P i)) (rMany P i), mSh M, mOw M, mSz M, mQn M, mQf M), R))
  else (M, rSetS R 4)
abbrev rA (P : xPg) (R : xRn) (i : Nat) : Int32 := rRg R (pA P i)
abbrev rB (P : xPg) (R : xRn) (i : Nat) : Int32 := rRg R (pB P i)
/-- where an instruction that goes on elsewhere goes on -/
def rNx (P : xPg) (R : xRn) (i : Nat) : Nat := if (pO P i = 10 ∧ rA P R i = 0) ∨ (pO P i = 11 ∧ rA P R i < rB P R i) then (pK P i).toNatClampNeg else i + 1
noncomputable def rPf (P : xPg) (M : xMem) (R : xRn) (i : Nat) : xMem × xRn :=
  if pO P i = 0 then (M, rSetR R (pR P i) (pK P i))
  else if pO P i = 1 then (M, rSetR R (pR P i) (rA P R i + rB P R i))
  else if pO P i = 2 then (M, rSetR R (pR P i) (rA P R i - rB P R i))
  else if pO P i = 3 then (M, rSetR R (pR P i) (rA P R i * rB P R i))
  else if pO P i = 4 then ((mAl M (rA P R i)).1, rSetR R (pR P i) (mAl M (rA P R i)).2)
  else if pO P i = 5 then (if mBl M (rA P R i) = true then (mFr M ((rA P R i).toNatClampNeg / 8 - 1), R) else if rA P R i ≠ 0 then (M, rSetS R 4) else (M, R))
  else if pO P i ≤ 9 then rTch P M R i
  else if pO P i ≤ 11 then (M, R)
  else if pO P i = 12 then (M, rPrint R (rA P R i))
  else if pO P i = 13 then (M, rSetR R (pR P i) (rA P R i + pK P i))
  else (M, rSetS R 2)
/-- the instruction at which the run is -/
abbrev rI (P : xPg) (R : xRn) : Nat := if rCk R then pI P (rAt R) else rAt R
abbrev rH (P : xPg) (R : xRn) : Bool := rCk R && pH P (rAt R)
def rEnd (P : xPg) (R : xRn) (nx : Nat) : xRn := if rSt R = 1 ∧ nx = pN P then rSetS (rSetA R (if rCk R then pl P nx else nx)) 2 else rSetA R (if rCk R then pl P nx else nx)
noncomputable def rOne (P : xPg) (M : xMem) (R : xRn) : xMem × xRn :=
  if rH P R = true then (M, rSetA (rChk P M (rSetL R (rAt R)) (rI P R)) (rAt R + 1))
  else ((rPf P M (rSetL R (rAt R)) (rI P R)).1, rEnd P (rPf P M (rSetL R (rAt R)) (rI P R)).2 (rNx P R (rI P R)))
/-- n steps, and how many were done -/
noncomputable def rGo (P : xPg) : Nat → xMem × xRn → xMem × xRn
  | 0, V => V
  | n + 1, V => if rSt V.2 = 1 then rGo P n (rOne P V.1 V.2) else V
noncomputable def rCnt (P : xPg) : Nat → xMem × xRn → Nat
  | 0, _ => 0
  | n + 1, V => if rSt V.2 = 1 then rCnt P n (rOne P V.1 V.2) + 1 else 0
/-! what holds stays so -/
theorem xI_toInt {n : Nat} (h : n < 2 ^ 31) : (nI n).toInt = (n : Int) := Int32.toInt_ofNat_of_lt h
theorem nI_clampS {x : Int32} (h : 0 ≤ x) : nI x.toNatClampNeg = x := by
  rw [Int32.le_iff_toInt_le] at h
  have e : (0 : Int32).toInt = 0 := by decide
  rw [e] at h
  have h2 := Int32.toInt_lt x
  have h3 : x.toNatClampNeg < 2 ^ 31 := by unfold Int32.toNatClampNeg; omega
  apply Int32.toInt_inj.mp
  rw [xI_toInt h3]
  unfold Int32.toNatClampNeg; omega
theorem nI_clampLt {x : Int32} {n : Nat} (h : x < nI n) (hn : n < 2 ^ 31) (h0 : 0 ≤ x) : x.toNatClampNeg < n := by
  rw [Int32.lt_iff_toInt_lt, xI_toInt hn] at h
  rw [Int32.le_iff_toInt_le] at h0
  have e : (0 : Int32).toInt = 0 := by decide
  rw [e] at h0
  unfold Int32.toNatClampNeg
  omega
theorem rI_lt {P : xPg} {R : xRn} (h : rAt R < rLim P R) : rI P R < pN P := by
  unfold rI
  unfold rLim at h
  split
  · rename_i hc; rw [if_pos hc] at h; exact (pI_sp h).1
  · rename_i hc; rw [if_neg hc] at h; exact h
theorem rNx_le {P : xPg} {R : xRn} {i : Nat} (hp : pOk P) (hs : pSd P) (hi : i < pN P) : rNx P R i ≤ pN P := by
  unfold rNx
  split
  · rename_i hc
    have := hs i hi (by omega)
    exact Nat.le_of_lt (nI_clampLt this.2 (by have := hp.1; omega) this.1)
  · omega
theorem rPf_ind {P : xPg} {M : xMem} {R : xRn} {i : Nat} {C : xMem × xRn → Prop} (h0 : ∀ r v, C (M, rSetR R r v)) (h1 : C ((mAl M (rA P R i)).1, rSetR R (pR P i) (mAl M (rA P R i)).2)) (h2 : mBl M (rA P R i) = true → C (mFr M ((rA P R i).toNatClampNeg / 8 - 1), R)) (h3 : C (M, rSetS R 4)) (h4 : C (M, R)) (h5 : ∀ hp, C ((hp, mSh M, mOw M, mSz M, mQn M, mQf M), R)) (h6 : ∀ v, C (M, rPrint R v)) (h7 : C (M, rSetS R 2)) : C (rPf P M R i) := by
  unfold rPf rTch
  by_cases c0 : pO P i = 0
  · rw [if_pos c0]; exact h0 _ _
  rw [if_neg c0]
  by_cases c1 : pO P i = 1
  · rw [if_pos c1]; exact h0 _ _
  rw [if_neg c1]
  by_cases c2 : pO P i = 2
  · rw [if_pos c2]; exact h0 _ _
  rw [if_neg c2]
  by_cases c3 : pO P i = 3
  · rw [if_pos c3]; exact h0 _ _
  rw [if_neg c3]
  by_cases c4 : pO P i = 4
  · rw [if_pos c4]; exact h1
  rw [if_neg c4]
  by_cases c5 : pO P i = 5
  · rw [if_pos c5]
    by_cases d1 : mBl M (rA P R i) = true
    · rw [if_pos d1]; exact h2 d1
    rw [if_neg d1]
    by_cases d2 : rA P R i ≠ 0
    · rw [if_pos d2]; exact h3
    rw [if_neg d2]; exact h4
  rw [if_neg c5]
  by_cases c6 : pO P i ≤ 9
  · rw [if_pos c6]
    by_cases d1 : xInb (rX P R i) (rMany P i) = true
    · rw [if_pos d1]
      by_cases d2 : pO P i = 6
      · rw [if_pos d2]; exact h0 _ _
      rw [if_neg d2]
      by_cases d3 : pO P i = 7
      · rw [if_pos d3]; exact h0 _ _
      rw [if_neg d3]; exact h5 _
    rw [if_neg d1]; exact h3
  rw [if_neg c6]
  by_cases c7 : pO P i ≤ 11
  · rw [if_pos c7]; exact h4
  rw [if_neg c7]
  by_cases c8 : pO P i = 12
  · rw [if_pos c8]; exact h6 _
  rw [if_neg c8]
  by_cases c9 : pO P i = 13
  · rw [if_pos c9]; exact h0 _ _
  rw [if_neg c9]; exact h7
theorem rPrint_k {R : xRn} {v : Int32} {C : xRn → Prop} (h0 : C R) (h1 : rPn R < 60 → C (rSt R, rCk R, rAt R, rLd R, rRg R, rPn R + 1, xu (rPr R) (rPn R) v, rKd R, rWh R, rWo R)) : C (rPrint R v) := by
  unfold rPrint
  by_cases c : rPn R < 60
  · rw [if_pos c]; exact h1 c
  · rw [if_neg c]; exact h0
theorem rPf_st {P : xPg} {M : xMem} {R : xRn} {i : Nat} : rSt (rPf P M R i).2 = rSt R ∨ rSt (rPf P M R i).2 = 2 ∨ rSt (rPf P M R i).2 = 4 :=
  rPf_ind (C := fun V => rSt V.2 = rSt R ∨ rSt V.2 = 2 ∨ rSt V.2 = 4) (fun _ _ => Or.inl rfl) (Or.inl rfl) (fun _ => Or.inl rfl) (Or.inr (Or.inr rfl)) (Or.inl rfl) (fun _ => Or.inl rfl) (fun _ => Or.inl (rPrint_k (C := fun X => rSt X = rSt R) rfl (fun _ => rfl))) (Or.inr (Or.inl rfl))
theorem rPf_keep {P : xPg} {M : xMem} {R : xRn} {i : Nat} (h : rPn R ≤ 60) : rCk (rPf P M R i).2 = rCk R ∧ rPn (rPf P M R i).2 ≤ 60 ∧ rLd (rPf P M R i).2 = rLd R ∧ rWo (rPf P M R i).2 = rWo R ∧ rAt (rPf P M R i).2 = rAt R :=
  rPf_ind (C := fun V => rCk V.2 = rCk R ∧ rPn V.2 ≤ 60 ∧ rLd V.2 = rLd R ∧ rWo V.2 = rWo R ∧ rAt V.2 = rAt R) (fun _ _ => ⟨rfl, h, rfl, rfl, rfl⟩) ⟨rfl, h, rfl, rfl, rfl⟩ (fun _ => ⟨rfl, h, rfl, rfl, rfl⟩) ⟨rfl, h, rfl, rfl, rfl⟩ ⟨rfl, h, rfl, rfl, rfl⟩ (fun _ => ⟨rfl, h, rfl, rfl, rfl⟩)
    (fun v => rPrint_k (C := fun X => rCk X = rCk R ∧ rPn X ≤ 60 ∧ rLd X = rLd R ∧ rWo X = rWo R ∧ rAt X = rAt R) ⟨rfl, h, rfl, rfl, rfl⟩ (fun hc => ⟨rfl, hc, rfl, rfl, rfl⟩)) ⟨rfl, h, rfl, rfl, rfl⟩
theorem mOk_hp {B : Nat} {M : xMem} (h : mOk B M) (hp : Nat → Int32) : mOk B (hp, mSh M, mOw M, mSz M, mQn M, mQf M) := h
theorem rPf_mok {P : xPg} {M : xMem} {R : xRn} {i : Nat} (h : mOk 20 M) : mOk 20 (rPf P M R i).1 :=
  rPf_ind (C := fun V => mOk 20 V.1) (fun _ _ => h) (mAl_ok _ h) (fun hb => by simp only [mBl, Bool.and_eq_true, decide_eq_true_eq] at hb; exact mFr_ok h hb.2.2.2.1 hb.2.2.2.2) h h (fun hp => mOk_hp h hp) (fun _ => h) h
theorem rChk_keep {P : xPg} {M : xMem} {R : xRn} {i : Nat} : rChk P M R i = R ∨ ∃ (k : Nat) (a : Int32), rChk P M R i = rTell R k a i := by
  unfold rChk rTo
  repeat' split
  all_goals first | exact Or.inl rfl | exact Or.inr ⟨_, _, rfl⟩
theorem rOne_ok {P : xPg} {M : xMem} {R : xRn} (hp : pOk P) (hm : mOk 20 M) (hr : rOk P R) (h1 : rSt R = 1) : mOk 20 (rOne P M R).1 ∧ rOk P (rOne P M R).2 := by
  obtain ⟨g1, g2, g3, g4, g5⟩ := id hr
  have hat := g4 h1
  have hsd := g3 (by omega)
  have hI := rI_lt hat
  unfold rOne
  split
  · rename_i hH
    refine ⟨hm, ?_⟩
    simp only [rH, Bool.and_eq_true] at hH
    have hck := hH.1
    have hL : rLim P R = pl P (pN P) := by unfold rLim; rw [if_pos hck]
    rw [hL] at hat
    have hII : rI P R = pI P (rAt R) := by unfold rI; rw [if_pos hck]
    rcases rChk_keep (P := P) (M := M) (R := rSetL R (rAt R)) (i := rI P R) with e | ⟨k, a, e⟩
    · rw [e]
      refine ⟨g1, g2, g3, fun _ => ?_, fun h3 => absurd (h1.symm.trans h3) (by omega)⟩
      show rAt R + 1 < rLim P R
      rw [hL]
      have hh := hH.2
      simp only [pH, Bool.and_eq_true, decide_eq_true_eq] at hh
      obtain ⟨s1, s2, s3⟩ := pI_sp hat
      have hps := pl_s P (pI P (rAt R))
      rw [if_pos (by simpa using hh.1)] at hps
      have := pl_mono (P := P) (show pI P (rAt R) + 1 ≤ pN P by omega)
      omega
    · rw [e]
      refine ⟨?_, g2, fun _ => hsd, fun h => absurd h ?_, fun _ => ⟨hck, hat, hII⟩⟩
      · show 3 ≤ 4; omega
      · show ¬ (3 = 1); omega
  · have hk := rPf_keep (P := P) (M := M) (R := rSetL R (rAt R)) (i := rI P R) g2
    have hst := rPf_st (P := P) (M := M) (R := rSetL R (rAt R)) (i := rI P R)
    refine ⟨rPf_mok hm, ?_⟩
    have hnx := rNx_le (R := R) hp hsd.1 hI
    generalize rPf P M (rSetL R (rAt R)) (rI P R) = V at hk hst
    obtain ⟨k1, k2, k3, k4, k5⟩ := hk
    have hst' : rSt V.2 = 1 ∨ rSt V.2 = 2 ∨ rSt V.2 = 4 := by
      rcases hst with e | e | e
      · left; rw [e]; exact h1
      · right; left; exact e
      · right; right; exact e
    generalize rNx P R (rI P R) = nx at hnx
    unfold rEnd
    split
    · refine ⟨?_, k2, fun _ => hsd, fun h => absurd h ?_, fun h => absurd h ?_⟩
      · show 2 ≤ 4; omega
      · show ¬ 2 = 1; omega
      · show ¬ 2 = 3; omega
    · rename_i hc
      refine ⟨?_, k2, fun _ => hsd, fun h => ?_, fun h => ?_⟩
      · show rSt V.2 ≤ 4; omega
      · have h' : rSt V.2 = 1 := h
        have hne : nx ≠ pN P := fun e => hc ⟨h', e⟩
        show (if rCk V.2 then pl P nx else nx) < if rCk V.2 then pl P (pN P) else pN P
        split
        · exact pl_lt (by omega)
        · omega
      · have h' : rSt V.2 = 3 := h
        omega
end
section
abbrev xT (cI cZ cJ : ClassId) : List (ClassId × FieldType) := [(cI, .int), (cZ, .boolean), (cJ, .long)]
abbrev xP (D : va_G) (tys : List (ClassId × FieldType)) (ws : va_W) (sz : Nat) (av : List Value) : Array Value → State → Prop :=
  va_Pc av (fun U => U.heap.size = sz ∧ va_P D vwCl ws U.heap ∧ va_K D vwCl tys U ∧ va_D (fun _ => True) ws)
abbrev xB {S : Type} (D : va_G) (tys : List (ClassId × FieldType)) (A : Nat → Prop) (W1 : S → va_W) : S → State → Prop := fun u t =>
  va_P D vwCl (W1 u) t.heap ∧ va_K D vwCl tys t ∧ va_D A (W1 u)
abbrev xCi (l : Launch) (D : va_G) (tys : List (ClassId × FieldType)) (y : MethodName) (k : Cond) (rm : Room) (sz : Nat) (ws0 : va_W) (av : List Value) (r : Int32) (ws1 : va_W) (mc ms : Nat) : Prop :=
  Met l y (k :: bw) rm (xP D tys ws0 sz av) (va_Qi (fun (v : Int32) (_ : Unit) => v = r) (xB D tys (va_A ws0 sz) (fun _ => ws1)) (va_A ws0 sz)) mc ms (va_A ws0 sz)
abbrev xCv (l : Launch) (D : va_G) (tys : List (ClassId × FieldType)) (y : MethodName) (k : Cond) (rm : Room) (sz : Nat) (ws0 : va_W) (av : List Value) (ws1 : va_W) (mc ms : Nat) : Prop :=
  Met l y (k :: bw) rm (xP D tys ws0 sz av) (va_Qv (fun (_ : Unit) => True) (xB D tys (va_A ws0 sz) (fun _ => ws1)) (va_A ws0 sz)) mc ms (va_A ws0 sz)
theorem x_dec {n : Nat} (h : 0 < n) : nI n + Int32.ofInt (-1) = nI (n - 1) := by
  rw [show Int32.ofInt (-1) = -1 by decide]; exact sb_m1 h
theorem x_zn (b : Bool) : narrow .boolean (.int (zI b)) = .int (zI b) := by cases b <;> decide
theorem x_zf (b : Bool) : fits .boolean (.int (zI b)) = true := by cases b <;> decide
theorem x_z1 {b : Bool} (h : b = true) : nI 1 = zI b := by rw [h]; rfl
theorem x_z0 {b : Bool} (h : b = false) : nI 0 = zI b := by rw [h]; rfl
theorem x_tlo {x : Nat} (h : x < 2 ^ 31) : ¬ (nI x).toInt < 0 := by rw [xI_toInt h]; omega
theorem x_thi {x n : Nat} (h : x < 2 ^ 31) (h2 : x ≤ n) : ¬ ((n : Nat) : Int) < (nI x).toInt := by rw [xI_toInt h]; omega
theorem x_tout {x n : Nat} (h : x < 2 ^ 31) (h2 : n < x) : ((n : Nat) : Int) < (nI x).toInt := by rw [xI_toInt h]; omega
def xM (p : Program) (s : State) (m : MethodId) (args : Array Value) (meth : Method) (c : Code) (cc : ByteArray) (nL : Nat) (ret : Option FieldType) (own nm : String) (Ts : List Cond) : Prop :=
  p.tables.exec = Jvm.exec ∧ c.code = cc ∧ meth.sig.returnType = ret ∧ c.maxLocals = nL ∧ s.vm.findClass own = some m.cls ∧ (∀ w ∈ Ts, w.before args s = true) ∧ meth.locks = false ∧ meth.name = nm
section XO
variable {l : Launch} {cc : ByteArray} {D : va_G} {tys : List (ClassId × FieldType)} {y : MethodName} {k : Cond} {rm : Room} {nL mc ms sz : Nat} {ret : Option FieldType} {ws0 ws1 : va_W} {av : List Value}
theorem x_ofi {r : Int32} (hy : plainName y.cls = true) (hk : k = .code y cc nL ret) (hlen : (lg_sl av).length ≤ nL)
    (body : ∀ (p : Program) (e : Env) (s : State) (m : MethodId) (args : Array Value) (below : List Frame) (meth : Method) (c : Code) (ls : Array Slot) (A : Nat → Prop) (Q : State → Prop), Q = MQ below (va_Qi (fun (v : Int32) (_ : Unit) => v = r) (xB D tys A (fun _ => ws1)) A) args s mc ms A → xM p s m args meth c cc nL ret y.cls y.name (k :: bw) → s.heap.size = sz → va_P D vwCl ws0 s.heap → va_K D vwCl tys s → va_D A ws0 → (∀ q, s.heap.size ≤ q → A q) → lv_has ls nL (lv_args 0 av) →
      W p l e rm s m args below meth c s.heap [] 0 0 Q (F0 m 0 ls [])) :
    xCi l D tys y k rm sz ws0 av r ws1 mc ms := by
  refine Met.ofW (cc := cc) (maxL := nL) (ret := ret) (ws' := bw) hy (by rw [hk]) ?_
  intro p e s m args below meth c s₁ B hml hv
  obtain ⟨rfl, hsz, hP, hK, hD0⟩ := hv
  subst hsz
  have hl := lv_entry av hlen
  rw [lg_entry_eq]
  exact body p e s m _ below meth c _ (va_A ws0 s.heap.size) _ rfl ⟨B.exec, B.bytes, B.returns, hml, findClass_of_methodNamed B.named, atoms_spec (ws := k :: bw) B.pre, B.notSynchronized, (name_of_methodNamed B.named B.method).1⟩ rfl hP hK hD0.self (fun q h => Or.inr h) hl
theorem x_ofv (hy : plainName y.cls = true) (hk : k = .code y cc nL ret) (hlen : (lg_sl av).length ≤ nL)
    (body : ∀ (p : Program) (e : Env) (s : State) (m : MethodId) (args : Array Value) (below : List Frame) (meth : Method) (c : Code) (ls : Array Slot) (A : Nat → Prop) (Q : State → Prop), Q = MQ below (va_Qv (fun (_ : Unit) => True) (xB D tys A (fun _ => ws1)) A) args s mc ms A → xM p s m args meth c cc nL ret y.cls y.name (k :: bw) → s.heap.size = sz → va_P D vwCl ws0 s.heap → va_K D vwCl tys s → va_D A ws0 → (∀ q, s.heap.size ≤ q → A q) → lv_has ls nL (lv_args 0 av) →
      W p l e rm s m args below meth c s.heap [] 0 0 Q (F0 m 0 ls [])) :
    xCv l D tys y k rm sz ws0 av ws1 mc ms := by
  refine Met.ofW (cc := cc) (maxL := nL) (ret := ret) (ws' := bw) hy (by rw [hk]) ?_
  intro p e s m args below meth c s₁ B hml hv
  obtain ⟨rfl, hsz, hP, hK, hD0⟩ := hv
  subst hsz
  have hl := lv_entry av hlen
  rw [lg_entry_eq]
  exact body p e s m _ below meth c _ (va_A ws0 s.heap.size) _ rfl ⟨B.exec, B.bytes, B.returns, hml, findClass_of_methodNamed B.named, atoms_spec (ws := k :: bw) B.pre, B.notSynchronized, (name_of_methodNamed B.named B.method).1⟩ rfl hP hK hD0.self (fun q h => Or.inr h) hl
end XO
section XR
variable {p : Program} {l : Launch} {e : Env} {R : Room} {s : State} {m : MethodId} {args : Array Value} {below : List Frame} {meth : Method} {c : Code} {H : Heap} {locs : List Loc} {cells slots : Nat} {Q : State → Prop}
variable {cc : ByteArray} {pc nL : Nat} {ls : Array Slot} {rest : List Value} {D : va_G} {A : Nat → Prop} {a : Nat} {tys : List (ClassId × FieldType)} {ws : va_W} {H0 : Heap} {ret : Option FieldType} {own nm : String} {k0 : Cond}
theorem x_iret {r v : Int32} {ws1 : va_W} (M : xM p s m args meth c cc nL (some .int) own nm (k0 :: bw)) (hQ : Q = MQ below (va_Qi (fun (v : Int32) (_ : Unit) => v = r) (xB D tys A (fun _ => ws1)) A) args s cells slots A) (hv : v = r) (hw : ws = ws1) (hP : va_P D vwCl ws H) (hK : va_K D vwCl tys s) (hD : va_D A ws) (hS : va_S A s.heap H locs) (hd : decode cc pc = .ok (.ireturn, 1)) :
    W p l e R s m args below meth c H locs cells slots Q (F0 m pc ls [.int v]) := by
  subst hw; subst hQ
  exact W.iret M.1 M.2.1 M.2.2.1 (fun t ht hW => ⟨⟨v, (), rfl, hv, by rw [ht]; exact hP, va_K.moved hW.alike hK, hD⟩, hS.F ht⟩) hS.2.2 hd M.2.2.2.2.2.2.1
theorem x_zret {r v : Int32} {ws1 : va_W} (M : xM p s m args meth c cc nL (some .boolean) own nm (k0 :: bw)) (hQ : Q = MQ below (va_Qi (fun (v : Int32) (_ : Unit) => v = r) (xB D tys A (fun _ => ws1)) A) args s cells slots A) (hn : narrow .boolean (.int v) = .int v) (hv : v = r) (hw : ws = ws1) (hP : va_P D vwCl ws H) (hK : va_K D vwCl tys s) (hD : va_D A ws) (hS : va_S A s.heap H locs) (hd : decode cc pc = .ok (.ireturn, 1)) :
    W p l e R s m args below meth c H locs cells slots Q (F0 m pc ls [.int v]) := by
  subst hw; subst hQ
  exact W.zret M.1 M.2.1 M.2.2.1 hn (fun t ht hW => ⟨⟨v, (), rfl, hv, by rw [ht]; exact hP, va_K.moved hW.alike hK, hD⟩, hS.F ht⟩) hS.2.2 hd M.2.2.2.2.2.2.1
theorem x_vret {ws1 : va_W} (M : xM p s m args meth c cc nL none own nm (k0 :: bw)) (hQ : Q = MQ below (va_Qv (fun (_ : Unit) => True) (xB D tys A (fun _ => ws1)) A) args s cells slots A) (hw : ws = ws1) (hP : va_P D vwCl ws H) (hK : va_K D vwCl tys s) (hD : va_D A ws) (hS : va_S A s.heap H locs) (hd : decode cc pc = .ok (.return_, 1)) :
    W p l e R s m args below meth c H locs cells slots Q (F0 m pc ls []) := by
  subst hw; subst hQ
  exact W.vret M.1 M.2.1 M.2.2.1 (fun t ht hW => ⟨⟨(), rfl, trivial, by rw [ht]; exact hP, va_K.moved hW.alike hK, hD⟩, hS.F ht⟩) hS.2.2 hd M.2.2.2.2.2.2.1
theorem x_iadd {x y : Nat} (M : xM p s m args meth c cc nL ret own nm (k0 :: bw)) (hd : decode cc pc = .ok (.iadd, 1)) (k : W p l e R s m args below meth c H locs cells slots Q (F0 m (pc + 1) ls (.int (nI (x + y)) :: rest))) :
    W p l e R s m args below meth c H locs cells slots Q (F0 m pc ls (.int (nI y) :: .int (nI x) :: rest)) := lv_iadd M.1 M.2.1 hd (by rw [nI_add]; exact k)
theorem x_isub {x y : Nat} (M : xM p s m args meth c cc nL ret own nm (k0 :: bw)) (h : y ≤ x) (hd : decode cc pc = .ok (.isub, 1)) (k : W p l e R s m args below meth c H locs cells slots Q (F0 m (pc + 1) ls (.int (nI (x - y)) :: rest))) :
    W p l e R s m args below meth c H locs cells slots Q (F0 m pc ls (.int (nI y) :: .int (nI x) :: rest)) := lv_isub M.1 M.2.1 hd (by rw [pk_sub h]; exact k)
theorem x_imul {x y : Nat} (M : xM p s m args meth c cc nL ret own nm (k0 :: bw)) (hd : decode cc pc = .ok (.imul, 1)) (k : W p l e R s m args below meth c H locs cells slots Q (F0 m (pc + 1) ls (.int (nI (x * y)) :: rest))) :
    W p l e R s m args below meth c H locs cells slots Q (F0 m pc ls (.int (nI y) :: .int (nI x) :: rest)) := lv_imul M.1 M.2.1 hd (by rw [pk_mul]; exact k)
theorem x_idiv {x y : Nat} (M : xM p s m args meth c cc nL ret own nm (k0 :: bw)) (hx : x < 2 ^ 31) (h0 : 0 < y) (hy : y < 2 ^ 31) (hd : decode cc pc = .ok (.idiv, 1)) (k : W p l e R s m args below meth c H locs cells slots Q (F0 m (pc + 1) ls (.int (nI (x / y)) :: rest))) :
    W p l e R s m args below meth c H locs cells slots Q (F0 m pc ls (.int (nI y) :: .int (nI x) :: rest)) := lv_idiv M.1 M.2.1 hd (nI_ne0 h0 hy) (by rw [pk_div hx h0 hy]; exact k)
theorem x_irem {x y : Nat} (M : xM p s m args meth c cc nL ret own nm (k0 :: bw)) (hx : x < 2 ^ 31) (h0 : 0 < y) (hy : y < 2 ^ 31) (hd : decode cc pc = .ok (.irem, 1)) (k : W p l e R s m args below meth c H locs cells slots Q (F0 m (pc + 1) ls (.int (nI (x % y)) :: rest))) :
    W p l e R s m args below meth c H locs cells slots Q (F0 m pc ls (.int (nI y) :: .int (nI x) :: rest)) := lv_irem M.1 M.2.1 hd (nI_ne0 h0 hy) (by rw [pk_rem hx h0 hy]; exact k)
theorem x_icmp_ge {x y : Nat} {off : Int} {tgt : Nat} (M : xM p s m args meth c cc nL ret own nm (k0 :: bw)) (hx : x < 2 ^ 31) (hy : y < 2 ^ 31) (hd : decode cc pc = .ok (.if_icmp .ge off, 3)) (ht : (pc : Int) + off = (tgt : Int)) (kt : y ≤ x → W p l e R s m args below meth c H locs cells slots Q (F0 m tgt ls rest)) (kf : x < y → W p l e R s m args below meth c H locs cells slots Q (F0 m (pc + 3) ls rest)) :
    W p l e R s m args below meth c H locs cells slots Q (F0 m pc ls (.int (nI y) :: .int (nI x) :: rest)) := lv_icmp_ge M.1 M.2.1 hd ht (fun h => kt ((nI_leI hy hx).mp h)) (fun h => kf (Nat.lt_of_not_le fun h' => h ((nI_leI hy hx).mpr h')))
theorem x_icmp_lt {x y : Nat} {off : Int} {tgt : Nat} (M : xM p s m args meth c cc nL ret own nm (k0 :: bw)) (hx : x < 2 ^ 31) (hy : y < 2 ^ 31) (hd : decode cc pc = .ok (.if_icmp .lt off, 3)) (ht : (pc : Int) + off = (tgt : Int)) (kt : x < y → W p l e R s m args below meth c H locs cells slots Q (F0 m tgt ls rest)) (kf : y ≤ x → W p l e R s m args below meth c H locs cells slots Q (F0 m (pc + 3) ls rest)) :
    W p l e R s m args below meth c H locs cells slots Q (F0 m pc ls (.int (nI y) :: .int (nI x) :: rest)) := lv_icmp_lt M.1 M.2.1 hd ht (fun h => kt ((nI_ltI hx hy).mp h)) (fun h => kf (Nat.le_of_not_lt fun h' => h ((nI_ltI hx hy).mpr h')))
theorem x_icmp_gt {x y : Nat} {off : Int} {tgt : Nat} (M : xM p s m args meth c cc nL ret own nm (k0 :: bw)) (hx : x < 2 ^ 31) (hy : y < 2 ^ 31) (hd : decode cc pc = .ok (.if_icmp .gt off, 3)) (ht : (pc : Int) + off = (tgt : Int)) (kt : y < x → W p l e R s m args below meth c H locs cells slots Q (F0 m tgt ls rest)) (kf : x ≤ y → W p l e R s m args below meth c H locs cells slots Q (F0 m (pc + 3) ls rest)) :
    W p l e R s m args below meth c H locs cells slots Q (F0 m pc ls (.int (nI y) :: .int (nI x) :: rest)) := lv_icmp_gt M.1 M.2.1 hd ht (fun h => kt ((nI_ltI hy hx).mp h)) (fun h => kf (Nat.le_of_not_lt fun h' => h ((nI_ltI hy hx).mpr h')))
theorem x_icmp_le {x y : Nat} {off : Int} {tgt : Nat} (M : xM p s m args meth c cc nL ret own nm (k0 :: bw)) (hx : x < 2 ^ 31) (hy : y < 2 ^ 31) (hd : decode cc pc = .ok (.if_icmp .le off, 3)) (ht : (pc : Int) + off = (tgt : Int)) (kt : x ≤ y → W p l e R s m args below meth c H locs cells slots Q (F0 m tgt ls rest)) (kf : y < x → W p l e R s m args below meth c H locs cells slots Q (F0 m (pc + 3) ls rest)) :
    W p l e R s m args below meth c H locs cells slots Q (F0 m pc ls (.int (nI y) :: .int (nI x) :: rest)) := lv_icmp_le M.1 M.2.1 hd ht (fun h => kt ((nI_leI hx hy).mp h)) (fun h => kf (Nat.lt_of_not_le fun h' => h ((nI_leI hx hy).mpr h')))
theorem x_icmp_eq {x y : Nat} {off : Int} {tgt : Nat} (M : xM p s m args meth c cc nL ret own nm (k0 :: bw)) (hx : x < 2 ^ 31) (hy : y < 2 ^ 31) (hd : decode cc pc = .ok (.if_icmp .eq off, 3)) (ht : (pc : Int) + off = (tgt : Int)) (kt : x = y → W p l e R s m args below meth c H locs cells slots Q (F0 m tgt ls rest)) (kf : x ≠ y → W p l e R s m args below meth c H locs cells slots Q (F0 m (pc + 3) ls rest)) :
    W p l e R s m args below meth c H locs cells slots Q (F0 m pc ls (.int (nI y) :: .int (nI x) :: rest)) := lv_icmp_eq M.1 M.2.1 hd ht (fun h => kt ((nI_eq hx hy).mp h)) (fun h => kf fun h' => h ((nI_eq hx hy).mpr h'))
theorem x_icmp_ne {x y : Nat} {off : Int} {tgt : Nat} (M : xM p s m args meth c cc nL ret own nm (k0 :: bw)) (hx : x < 2 ^ 31) (hy : y < 2 ^ 31) (hd : decode cc pc = .ok (.if_icmp .ne off, 3)) (ht : (pc : Int) + off = (tgt : Int)) (kt : x ≠ y → W p l e R s m args below meth c H locs cells slots Q (F0 m tgt ls rest)) (kf : x = y → W p l e R s m args below meth c H locs cells slots Q (F0 m (pc + 3) ls rest)) :
    W p l e R s m args below meth c H locs cells slots Q (F0 m pc ls (.int (nI y) :: .int (nI x) :: rest)) := lv_icmp_ne M.1 M.2.1 hd ht (fun h => kt fun h' => h ((nI_eq hx hy).mpr h')) (fun h => kf ((nI_eq hx hy).mp h))
theorem x_if_eq {x : Nat} {off : Int} {tgt : Nat} (M : xM p s m args meth c cc nL ret own nm (k0 :: bw)) (hx : x < 2 ^ 31) (hd : decode cc pc = .ok (.ifCond .eq off, 3)) (ht : (pc : Int) + off = (tgt : Int)) (kt : x = 0 → W p l e R s m args below meth c H locs cells slots Q (F0 m tgt ls rest)) (kf : x ≠ 0 → W p l e R s m args below meth c H locs cells slots Q (F0 m (pc + 3) ls rest)) :
    W p l e R s m args below meth c H locs cells slots Q (F0 m pc ls (.int (nI x) :: rest)) := lv_if_eq M.1 M.2.1 hd ht (fun h => kt ((nI_eq hx (by decide)).mp h)) (fun h => kf fun h' => h (by rw [h']; rfl))
theorem x_if_ne {x : Nat} {off : Int} {tgt : Nat} (M : xM p s m args meth c cc nL ret own nm (k0 :: bw)) (hx : x < 2 ^ 31) (hd : decode cc pc = .ok (.ifCond .ne off, 3)) (ht : (pc : Int) + off = (tgt : Int)) (kt : x ≠ 0 → W p l e R s m args below meth c H locs cells slots Q (F0 m tgt ls rest)) (kf : x = 0 → W p l e R s m args below meth c H locs cells slots Q (F0 m (pc + 3) ls rest)) :
    W p l e R s m args below meth c H locs cells slots Q (F0 m pc ls (.int (nI x) :: rest)) := lv_if_ne M.1 M.2.1 hd ht (fun h => kt fun h' => h (by rw [h']; rfl)) (fun h => kf ((nI_eq hx (by decide)).mp h))
theorem x_if_le {x : Nat} {off : Int} {tgt : Nat} (M : xM p s m args meth c cc nL ret own nm (k0 :: bw)) (hx : x < 2 ^ 31) (hd : decode cc pc = .ok (.ifCond .le off, 3)) (ht : (pc : Int) + off = (tgt : Int)) (kt : x = 0 → W p l e R s m args below meth c H locs cells slots Q (F0 m tgt ls rest)) (kf : 0 < x → W p l e R s m args below meth c H locs cells slots Q (F0 m (pc + 3) ls rest)) :
    W p l e R s m args below meth c H locs cells slots Q (F0 m pc ls (.int (nI x) :: rest)) := lv_if_le M.1 M.2.1 hd ht (fun h => kt (Nat.eq_zero_of_not_pos fun h' => nI_nle h' hx h)) (fun h => kf (Nat.pos_of_ne_zero fun h' => h (by rw [h']; exact nI_pos' (n := 0) (by decide))))
theorem x_if_gt {x : Nat} {off : Int} {tgt : Nat} (M : xM p s m args meth c cc nL ret own nm (k0 :: bw)) (hx : x < 2 ^ 31) (hd : decode cc pc = .ok (.ifCond .gt off, 3)) (ht : (pc : Int) + off = (tgt : Int)) (kt : 0 < x → W p l e R s m args below meth c H locs cells slots Q (F0 m tgt ls rest)) (kf : x = 0 → W p l e R s m args below meth c H locs cells slots Q (F0 m (pc + 3) ls rest)) :
    W p l e R s m args below meth c H locs cells slots Q (F0 m pc ls (.int (nI x) :: rest)) := lv_if_gt M.1 M.2.1 hd ht (fun h => kt (Nat.pos_of_ne_zero fun h' => by rw [h'] at h; exact absurd h (by decide))) (fun h => kf (Nat.eq_zero_of_not_pos fun h' => h ((nI_ltI (a := 0) (by decide) hx).mpr h')))
theorem x_if_lt {x : Nat} {off : Int} {tgt : Nat} (M : xM p s m args meth c cc nL ret own nm (k0 :: bw)) (hx : x < 2 ^ 31) (hd : decode cc pc = .ok (.ifCond .lt off, 3)) (ht : (pc : Int) + off = (tgt : Int)) (kf : W p l e R s m args below meth c H locs cells slots Q (F0 m (pc + 3) ls rest)) :
    W p l e R s m args below meth c H locs cells slots Q (F0 m pc ls (.int (nI x) :: rest)) := lv_if_lt M.1 M.2.1 hd ht (fun h => absurd h (nI_pos hx)) (fun _ => kf)
theorem x_if_ge {x : Nat} {off : Int} {tgt : Nat} (M : xM p s m args meth c cc nL ret own nm (k0 :: bw)) (hx : x < 2 ^ 31) (hd : decode cc pc = .ok (.ifCond .ge off, 3)) (ht : (pc : Int) + off = (tgt : Int)) (kt : W p l e R s m args below meth c H locs cells slots Q (F0 m tgt ls rest)) :
    W p l e R s m args below meth c H locs cells slots Q (F0 m pc ls (.int (nI x) :: rest)) := lv_if_ge M.1 M.2.1 hd ht (fun _ => kt) (fun h => absurd (nI_pos' hx) h)
theorem x_iald {cA : ClassId} {n j : Nat} {f : Nat → Int32} (M : xM p s m args meth c cc nL ret own nm (k0 :: bw)) (hK : va_K D vwCl tys s) (hP : va_P D vwCl ws H) (q0 t0 : Nat) (ha : ws[q0]? = some (a, .inl (cA, n, .inl f))) (ht : tys[t0]? = some (cA, .int)) (hj : j < n) (hn : n < 2 ^ 31) (hd : decode cc pc = .ok (.iaload, 1))
    (kk : W p l e R s m args below meth c H locs cells slots Q (F0 m (pc + 1) ls (.int (f j) :: rest))) : W p l e R s m args below meth c H locs cells slots Q (F0 m pc ls (.int (nI j) :: .ref a :: rest)) :=
  va_iald M.1 M.2.1 hK hP q0 t0 ha ht (vp_in_nI hj hn) hd (by rw [nI_clamp (Nat.lt_trans hj hn)]; exact kk)
theorem x_zald {cA : ClassId} {n j : Nat} {f : Nat → Int32} (M : xM p s m args meth c cc nL ret own nm (k0 :: bw)) (hK : va_K D vwCl tys s) (hP : va_P D vwCl ws H) (q0 t0 : Nat) (ha : ws[q0]? = some (a, .inl (cA, n, .inl f))) (ht : tys[t0]? = some (cA, .boolean)) (hj : j < n) (hn : n < 2 ^ 31) (hd : decode cc pc = .ok (.baload, 1))
    (kk : W p l e R s m args below meth c H locs cells slots Q (F0 m (pc + 1) ls (.int (f j) :: rest))) : W p l e R s m args below meth c H locs cells slots Q (F0 m pc ls (.int (nI j) :: .ref a :: rest)) :=
  va_zald M.1 M.2.1 hK hP q0 t0 ha ht (vp_in_nI hj hn) hd (by rw [nI_clamp (Nat.lt_trans hj hn)]; exact kk)
theorem x_iast {cA : ClassId} {n j : Nat} {f : Nat → Int32} {x : Int32} (M : xM p s m args meth c cc nL ret own nm (k0 :: bw)) (hK : va_K D vwCl tys s) (hP : va_P D vwCl ws H) (hD : va_D A ws) (hS : va_S A H0 H locs) (q0 t0 : Nat) (ha : ws[q0]? = some (a, .inl (cA, n, .inl f))) (ht : tys[t0]? = some (cA, .int)) (hj : j < n) (hn : n < 2 ^ 31) (hd : decode cc pc = .ok (.iastore, 1))
    (kk : ∀ (H1 : Heap) (locs1 : List Loc), va_P D vwCl (ws.set q0 (a, .inl (cA, n, .inl (upd f j x)))) H1 → va_D A (ws.set q0 (a, .inl (cA, n, .inl (upd f j x)))) → va_S A H0 H1 locs1 → W p l e R s m args below meth c H1 locs1 cells slots Q (F0 m (pc + 1) ls rest)) :
    W p l e R s m args below meth c H locs cells slots Q (F0 m pc ls (.int x :: .int (nI j) :: .ref a :: rest)) :=
  va_iast M.1 M.2.1 hK hP hD hS q0 t0 ha ht (vp_in_nI hj hn) hd (fun H1 l1 h1 h2 h3 => by rw [nI_clamp (Nat.lt_trans hj hn)] at h1 h2; exact kk H1 l1 h1 h2 h3)
theorem x_zast {cA : ClassId} {n j : Nat} {f : Nat → Int32} {x : Int32} (M : xM p s m args meth c cc nL ret own nm (k0 :: bw)) (hK : va_K D vwCl tys s) (hP : va_P D vwCl ws H) (hD : va_D A ws) (hS : va_S A H0 H locs) (q0 t0 : Nat) (ha : ws[q0]? = some (a, .inl (cA, n, .inl f))) (ht : tys[t0]? = some (cA, .boolean)) (hj : j < n) (hn : n < 2 ^ 31) (hx : vp_nar .boolean x = x) (hd : decode cc pc = .ok (.bastore, 1))
    (kk : ∀ (H1 : Heap) (locs1 : List Loc), va_P D vwCl (ws.set q0 (a, .inl (cA, n, .inl (upd f j x)))) H1 → va_D A (ws.set q0 (a, .inl (cA, n, .inl (upd f j x)))) → va_S A H0 H1 locs1 → W p l e R s m args below meth c H1 locs1 cells slots Q (F0 m (pc + 1) ls rest)) :
    W p l e R s m args below meth c H locs cells slots Q (F0 m pc ls (.int x :: .int (nI j) :: .ref a :: rest)) :=
  va_zast M.1 M.2.1 hK hP hD hS q0 t0 ha ht (vp_in_nI hj hn) hd (fun H1 l1 h1 h2 h3 => by rw [nI_clamp (Nat.lt_trans hj hn), hx] at h1 h2; exact kk H1 l1 h1 h2 h3)
theorem x_get {C : String} {T : u_T} {N idx : Nat} (M : xM p s m args meth c cc nL ret own nm (k0 :: bw)) (hK : va_K D vwCl tys s) (hP : va_P D vwCl ws H) (q0 ci k : Nat) (hin : ∀ w ∈ u_ws C T N, w ∈ bw) {fs : List Value} (he : ws[q0]? = some (a, .inr (ci, fs))) (hc : vwCl[ci]? = some (C, T, N)) (hk : k < N) (hq : Cond.fieldLink own idx (T k).1 (T k).2.1 (T k).2.2.1 ∈ bw) {v : Value} (hv : fs[k]? = some v) (hd : decode cc pc = .ok (.getfield idx, 3))
    (kk : W p l e R s m args below meth c H locs cells slots Q (F0 m (pc + 3) ls (v :: rest))) : W p l e R s m args below meth c H locs cells slots Q (F0 m pc ls (.ref a :: rest)) :=
  va_get M.1 M.2.1 M.2.2.2.2.2.1 (fun w h => List.mem_cons_of_mem _ (hin w h)) M.2.2.2.2.1 hK hP q0 he hc k hk (M.2.2.2.2.2.1 _ (List.mem_cons_of_mem _ hq)) (fun _ h => h) hv hd kk
theorem x_put {C : String} {T : u_T} {N idx : Nat} (M : xM p s m args meth c cc nL ret own nm (k0 :: bw)) (hK : va_K D vwCl tys s) (hP : va_P D vwCl ws H) (hD : va_D A ws) (hS : va_S A H0 H locs) (q0 ci k : Nat) (hin : ∀ w ∈ u_ws C T N, w ∈ bw) (ty0 : Nat → FieldType) (hty : ∀ k, k < N → parseFieldDescriptor (T k).2.2.1 = some (ty0 k)) (hnm : ∀ a, a < N → ∀ b, b < N → a ≠ b → (T a).2.1 ≠ (T b).2.1) {fs : List Value} (he : ws[q0]? = some (a, .inr (ci, fs))) (hc : vwCl[ci]? = some (C, T, N)) (hk : k < N) (hq : Cond.fieldLink own idx (T k).1 (T k).2.1 (T k).2.2.1 ∈ bw) (hfin : (T k).2.2.2 = false) {v : Value} (hn : narrow (ty0 k) v = v) (hfit : fits (ty0 k) v = true) (hl : k < fs.length) (hd : decode cc pc = .ok (.putfield idx, 3))
    (kk : ∀ (H1 : Heap) (locs1 : List Loc), va_P D vwCl (ws.set q0 (a, .inr (ci, fs.set k v))) H1 → va_D A (ws.set q0 (a, .inr (ci, fs.set k v))) → va_S A H0 H1 locs1 → W p l e R s m args below meth c H1 locs1 cells slots Q (F0 m (pc + 3) ls rest)) :
    W p l e R s m args below meth c H locs cells slots Q (F0 m pc ls (v :: .ref a :: rest)) :=
  va_put M.1 M.2.1 M.2.2.2.2.2.1 (fun w h => List.mem_cons_of_mem _ (hin w h)) ty0 hty hnm M.2.2.2.2.1 hK hP hD hS q0 he hc k hk (M.2.2.2.2.2.1 _ (List.mem_cons_of_mem _ hq)) (fun _ h => h) hfin (hty k hk) hn hfit hl hd kk
theorem x_putF {C : String} {T : u_T} {N idx : Nat} (M : xM p s m args meth c cc nL ret own "<init>" (k0 :: bw)) (hK : va_K D vwCl tys s) (hP : va_P D vwCl ws H) (hD : va_D A ws) (hS : va_S A H0 H locs) (q0 ci k : Nat) (hin : ∀ w ∈ u_ws C T N, w ∈ bw) (ty0 : Nat → FieldType) (hty : ∀ k, k < N → parseFieldDescriptor (T k).2.2.1 = some (ty0 k)) (hnm : ∀ a, a < N → ∀ b, b < N → a ≠ b → (T a).2.1 ≠ (T b).2.1) {fs : List Value} (he : ws[q0]? = some (a, .inr (ci, fs))) (hc : vwCl[ci]? = some (C, T, N)) (hk : k < N) (hq : Cond.fieldLink own idx (T k).1 (T k).2.1 (T k).2.2.1 ∈ bw) (hfin : (T k).2.2.2 = true) (hdecl : (T k).1 = own) {v : Value} (hn : narrow (ty0 k) v = v) (hfit : fits (ty0 k) v = true) (hl : k < fs.length) (hd : decode cc pc = .ok (.putfield idx, 3))
    (kk : ∀ (H1 : Heap) (locs1 : List Loc), va_P D vwCl (ws.set q0 (a, .inr (ci, fs.set k v))) H1 → va_D A (ws.set q0 (a, .inr (ci, fs.set k v))) → va_S A H0 H1 locs1 → W p l e R s m args below meth c H1 locs1 cells slots Q (F0 m (pc + 3) ls rest)) :
    W p l e R s m args below meth c H locs cells slots Q (F0 m pc ls (v :: .ref a :: rest)) :=
  va_putF M.1 M.2.1 M.2.2.2.2.2.1 (fun w h => List.mem_cons_of_mem _ (hin w h)) ty0 hty hnm M.2.2.2.2.1 hK hP hD hS q0 he hc k hk (M.2.2.2.2.2.1 _ (List.mem_cons_of_mem _ hq)) (fun _ h => h) hfin M.2.2.2.2.2.2.2 hdecl (hty k hk) hn hfit hl hd kk
theorem x_iastN {cA : ClassId} {n j : Nat} {f : Nat → Nat} {x : Nat} (M : xM p s m args meth c cc nL ret own nm (k0 :: bw)) (hK : va_K D vwCl tys s) (hP : va_P D vwCl ws H) (hD : va_D A ws) (hS : va_S A H0 H locs) (q0 t0 : Nat) (ha : ws[q0]? = some (a, .inl (cA, n, .inl (fun i => nI (f i))))) (ht : tys[t0]? = some (cA, .int)) (hj : j < n) (hn : n < 2 ^ 31) (hd : decode cc pc = .ok (.iastore, 1))
    (kk : ∀ (H1 : Heap) (locs1 : List Loc), va_P D vwCl (ws.set q0 (a, .inl (cA, n, .inl (fun i => nI (xu f j x i))))) H1 → va_D A (ws.set q0 (a, .inl (cA, n, .inl (fun i => nI (xu f j x i))))) → va_S A H0 H1 locs1 → W p l e R s m args below meth c H1 locs1 cells slots Q (F0 m (pc + 1) ls rest)) :
    W p l e R s m args below meth c H locs cells slots Q (F0 m pc ls (.int (nI x) :: .int (nI j) :: .ref a :: rest)) :=
  x_iast M hK hP hD hS q0 t0 ha ht hj hn hd (fun H1 l1 h1 h2 h3 => by rw [xu_nI] at h1 h2; exact kk H1 l1 h1 h2 h3)
theorem x_if_eqZ {b : Bool} {off : Int} {tgt : Nat} (M : xM p s m args meth c cc nL ret own nm (k0 :: bw)) (hd : decode cc pc = .ok (.ifCond .eq off, 3)) (ht : (pc : Int) + off = (tgt : Int)) (kt : b = false → W p l e R s m args below meth c H locs cells slots Q (F0 m tgt ls rest)) (kf : b = true → W p l e R s m args below meth c H locs cells slots Q (F0 m (pc + 3) ls rest)) :
    W p l e R s m args below meth c H locs cells slots Q (F0 m pc ls (.int (zI b) :: rest)) := lv_if_eq M.1 M.2.1 hd ht (fun h => kt (by cases b with
      | false => rfl
      | true => exact absurd h (by decide))) (fun h => kf (by cases b with
      | false => exact absurd rfl h
      | true => rfl))
theorem x_if_neZ {b : Bool} {off : Int} {tgt : Nat} (M : xM p s m args meth c cc nL ret own nm (k0 :: bw)) (hd : decode cc pc = .ok (.ifCond .ne off, 3)) (ht : (pc : Int) + off = (tgt : Int)) (kt : b = true → W p l e R s m args below meth c H locs cells slots Q (F0 m tgt ls rest)) (kf : b = false → W p l e R s m args below meth c H locs cells slots Q (F0 m (pc + 3) ls rest)) :
    W p l e R s m args below meth c H locs cells slots Q (F0 m pc ls (.int (zI b) :: rest)) := lv_if_ne M.1 M.2.1 hd ht (fun h => kt (by cases b with
      | false => exact absurd rfl h
      | true => rfl)) (fun h => kf (by cases b with
      | false => rfl
      | true => exact absurd (show zI true ≠ 0 by decide) h))
theorem x_zastB {cA : ClassId} {n j : Nat} {f : Nat → Bool} {b : Bool} {x : Int32} (hx : x = zI b) (M : xM p s m args meth c cc nL ret own nm (k0 :: bw)) (hK : va_K D vwCl tys s) (hP : va_P D vwCl ws H) (hD : va_D A ws) (hS : va_S A H0 H locs) (q0 t0 : Nat) (ha : ws[q0]? = some (a, .inl (cA, n, .inl (fun i => zI (f i))))) (ht : tys[t0]? = some (cA, .boolean)) (hj : j < n) (hn : n < 2 ^ 31) (hd : decode cc pc = .ok (.bastore, 1))
    (kk : ∀ (H1 : Heap) (locs1 : List Loc), va_P D vwCl (ws.set q0 (a, .inl (cA, n, .inl (fun i => zI (xu f j b i))))) H1 → va_D A (ws.set q0 (a, .inl (cA, n, .inl (fun i => zI (xu f j b i))))) → va_S A H0 H1 locs1 → W p l e R s m args below meth c H1 locs1 cells slots Q (F0 m (pc + 1) ls rest)) :
    W p l e R s m args below meth c H locs cells slots Q (F0 m pc ls (.int x :: .int (nI j) :: .ref a :: rest)) := by
  subst hx
  have e : upd (fun i => zI (f i)) j (zI b) = fun i => zI (xu f j b i) := by
    funext k; unfold upd xu; split <;> rfl
  exact x_zast M hK hP hD hS q0 t0 ha ht hj hn (by cases b <;> decide) hd (fun H1 l1 h1 h2 h3 => by rw [e] at h1 h2; exact kk H1 l1 h1 h2 h3)
variable {wc wr : va_W} {mc ms : Nat} {st0 : List Value} {av : Array Value}
theorem x_calli {r : Int32} {ws1 : va_W} (hr : va_Run p l e R s m args below meth c H locs cells slots mc ms (F0 m pc ls st0) rest (va_Qi (fun (v : Int32) (_ : Unit) => v = r) (xB D tys (va_A wc H.size) (fun _ => ws1)) (va_A wc H.size) av) (va_A wc H.size)) (hP : va_P D vwCl ws H) (hD : va_D A ws) (hS : va_S A H0 H locs) (hA : ∀ q, H0.size ≤ q → A q) (isC isR : List Nat) (hC : isC.map (fun i => ws[i]?) = wc.map some) (hR : isR.map (fun i => ws[i]?) = wr.map some) (hn : va_nd isR = true) (hdis : ∀ i ∈ isR, i ∉ isC)
    (kk : ∀ (H1 : Heap) (locs1 : List Loc), va_P D vwCl (wr ++ ws1) H1 → va_D A (wr ++ ws1) → va_S A H0 H1 locs1 → W p l e R s m args below meth c H1 locs1 (cells + mc) (slots + ms) Q (F0 m (pc + 3) ls (.int r :: rest))) :
    W p l e R s m args below meth c H locs cells slots Q (F0 m pc ls st0) := by
  have hF := va_free (wc := wc) hD hS hA isC hC
  refine va_calli hr hS (fun q _ h => hF q h) hF (fun r' u t H1 locs1 ht hvm hp hB hz hk hS1 => ?_)
  subst hp
  obtain ⟨hP1, hK1, hD1⟩ := hB
  rw [ht] at hP1
  obtain ⟨hP2, hD2⟩ := va_join (wr := wr) (w1 := ws1) hP hD isC isR hC hR hn hdis hk hF hP1 hD1
  exact kk H1 locs1 hP2 hD2 hS1
theorem x_callv {ws1 : va_W} (hr : va_Run p l e R s m args below meth c H locs cells slots mc ms (F0 m pc ls st0) rest (va_Qv (fun (_ : Unit) => True) (xB D tys (va_A wc H.size) (fun _ => ws1)) (va_A wc H.size) av) (va_A wc H.size)) (hP : va_P D vwCl ws H) (hD : va_D A ws) (hS : va_S A H0 H locs) (hA : ∀ q, H0.size ≤ q → A q) (isC isR : List Nat) (hC : isC.map (fun i => ws[i]?) = wc.map some) (hR : isR.map (fun i => ws[i]?) = wr.map some) (hn : va_nd isR = true) (hdis : ∀ i ∈ isR, i ∉ isC)
    (kk : ∀ (H1 : Heap) (locs1 : List Loc), va_P D vwCl (wr ++ ws1) H1 → va_D A (wr ++ ws1) → va_S A H0 H1 locs1 → W p l e R s m args below meth c H1 locs1 (cells + mc) (slots + ms) Q (F0 m (pc + 3) ls rest)) :
    W p l e R s m args below meth c H locs cells slots Q (F0 m pc ls st0) := by
  have hF := va_free (wc := wc) hD hS hA isC hC
  refine va_callv hr hS (fun q _ h => hF q h) hF (fun u t H1 locs1 ht hvm hp hB hz hk hS1 => ?_)
  obtain ⟨hP1, hK1, hD1⟩ := hB
  rw [ht] at hP1
  obtain ⟨hP2, hD2⟩ := va_join (wr := wr) (w1 := ws1) hP hD isC isR hC hR hn hdis hk hF hP1 hD1
  exact kk H1 locs1 hP2 hD2 hS1
theorem x_pre {vs : List Value} (hP : va_P D vwCl ws H) (hD : va_D A ws) (hK : va_K D vwCl tys s) (isC : List Nat) (hC : isC.map (fun i => ws[i]?) = wc.map some) (hd : va_nd isC = true) : PreS s H (xP D tys wc H.size vs) vs :=
  ⟨fun a U g mk q => by obtain ⟨q0, q1, qP, qK, qD⟩ := q; exact ⟨q0, q1, qP, va_K.moved (u := U) (U := U.calling g mk a) (Vm.Alike.refl U.vm) qK, qD⟩,
   fun U hU hW => ⟨rfl, by rw [hU], by rw [hU]; exact hP.sub isC (by
      have h : ∀ (l : List Nat) (w : va_W), l.map (fun i => ws[i]?) = w.map some → l.filterMap (fun i => ws[i]?) = w := by
        intro l
        induction l with
        | nil => intro w hw; cases w with
          | nil => rfl
          | cons x t => cases hw
        | cons i t ih => intro w hw; cases w with
          | nil => cases hw
          | cons x t' =>
            simp only [List.map_cons, List.cons.injEq] at hw
            rw [List.filterMap_cons, hw.1]
            simp only
            rw [ih t' hw.2]
      exact h isC wc hC), va_K.moved hW.alike hK, (hD.sub isC hd hC).weaken (fun _ _ _ _ => trivial)⟩⟩
end XR
end
