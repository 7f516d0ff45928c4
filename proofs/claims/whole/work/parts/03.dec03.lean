theorem d_Ru_checkBytes_36 : decode b_Ru_checkBytes 36 = .ok (.iload_n 3, 1) := by decide +kernel
theorem d_Ru_checkBytes_37 : decode b_Ru_checkBytes 37 = .ok (.iadd, 1) := by decide +kernel
theorem d_Ru_checkBytes_38 : decode b_Ru_checkBytes 38 = .ok (.invokevirtual 141, 3) := by decide +kernel
theorem d_Ru_checkBytes_41 : decode b_Ru_checkBytes 41 = .ok (.iinc 3 1, 3) := by decide +kernel
theorem d_Ru_checkBytes_44 : decode b_Ru_checkBytes 44 = .ok (.goto (-42), 3) := by decide +kernel
theorem d_Ru_checkBytes_47 : decode b_Ru_checkBytes 47 = .ok (.return_, 1) := by decide +kernel
theorem d_Me_kindOfTouch_0 : decode b_Me_kindOfTouch 0 = .ok (.iload_n 1, 1) := by decide +kernel
theorem d_Me_kindOfTouch_1 : decode b_Me_kindOfTouch 1 = .ok (.iconst 1, 1) := by decide +kernel
theorem d_Me_kindOfTouch_2 : decode b_Me_kindOfTouch 2 = .ok (.invokestatic 41, 3) := by decide +kernel
theorem d_Me_kindOfTouch_5 : decode b_Me_kindOfTouch 5 = .ok (.ifCond .ne 5, 3) := by decide +kernel
theorem d_Me_kindOfTouch_8 : decode b_Me_kindOfTouch 8 = .ok (.iconst 5, 1) := by decide +kernel
theorem d_Me_kindOfTouch_9 : decode b_Me_kindOfTouch 9 = .ok (.ireturn, 1) := by decide +kernel
theorem d_Me_kindOfTouch_10 : decode b_Me_kindOfTouch 10 = .ok (.aload_n 0, 1) := by decide +kernel
theorem d_Me_kindOfTouch_11 : decode b_Me_kindOfTouch 11 = .ok (.getfield 15, 3) := by decide +kernel
theorem d_Me_kindOfTouch_14 : decode b_Me_kindOfTouch 14 = .ok (.iload_n 1, 1) := by decide +kernel
theorem d_Me_kindOfTouch_15 : decode b_Me_kindOfTouch 15 = .ok (.bipush 8, 2) := by decide +kernel
theorem d_Me_kindOfTouch_17 : decode b_Me_kindOfTouch 17 = .ok (.idiv, 1) := by decide +kernel
theorem d_Me_kindOfTouch_18 : decode b_Me_kindOfTouch 18 = .ok (.iaload, 1) := by decide +kernel
theorem d_Me_kindOfTouch_19 : decode b_Me_kindOfTouch 19 = .ok (.tableswitch 37 (-3) 0 #[35, 33, 31, 29], 29) := by decide +kernel
theorem d_Me_kindOfTouch_48 : decode b_Me_kindOfTouch 48 = .ok (.iconst 0, 1) := by decide +kernel
theorem d_Me_kindOfTouch_49 : decode b_Me_kindOfTouch 49 = .ok (.ireturn, 1) := by decide +kernel
theorem d_Me_kindOfTouch_50 : decode b_Me_kindOfTouch 50 = .ok (.iconst 1, 1) := by decide +kernel
theorem d_Me_kindOfTouch_51 : decode b_Me_kindOfTouch 51 = .ok (.ireturn, 1) := by decide +kernel
theorem d_Me_kindOfTouch_52 : decode b_Me_kindOfTouch 52 = .ok (.iconst 2, 1) := by decide +kernel
theorem d_Me_kindOfTouch_53 : decode b_Me_kindOfTouch 53 = .ok (.ireturn, 1) := by decide +kernel
theorem d_Me_kindOfTouch_54 : decode b_Me_kindOfTouch 54 = .ok (.iconst 3, 1) := by decide +kernel
theorem d_Me_kindOfTouch_55 : decode b_Me_kindOfTouch 55 = .ok (.ireturn, 1) := by decide +kernel
theorem d_Me_kindOfTouch_56 : decode b_Me_kindOfTouch 56 = .ok (.iload_n 1, 1) := by decide +kernel
theorem d_Me_kindOfTouch_57 : decode b_Me_kindOfTouch 57 = .ok (.bipush 8, 2) := by decide +kernel
theorem d_Me_kindOfTouch_59 : decode b_Me_kindOfTouch 59 = .ok (.irem, 1) := by decide +kernel
theorem d_Me_kindOfTouch_60 : decode b_Me_kindOfTouch 60 = .ok (.aload_n 0, 1) := by decide +kernel
theorem d_Me_kindOfTouch_61 : decode b_Me_kindOfTouch 61 = .ok (.getfield 15, 3) := by decide +kernel
theorem d_Me_kindOfTouch_64 : decode b_Me_kindOfTouch 64 = .ok (.iload_n 1, 1) := by decide +kernel
theorem d_Me_kindOfTouch_65 : decode b_Me_kindOfTouch 65 = .ok (.bipush 8, 2) := by decide +kernel
theorem d_Me_kindOfTouch_67 : decode b_Me_kindOfTouch 67 = .ok (.idiv, 1) := by decide +kernel
theorem d_Me_kindOfTouch_68 : decode b_Me_kindOfTouch 68 = .ok (.iaload, 1) := by decide +kernel
theorem d_Me_kindOfTouch_69 : decode b_Me_kindOfTouch 69 = .ok (.if_icmp .ge 7, 3) := by decide +kernel
theorem d_Me_kindOfTouch_72 : decode b_Me_kindOfTouch 72 = .ok (.iconst 0, 1) := by decide +kernel
theorem d_Me_kindOfTouch_73 : decode b_Me_kindOfTouch 73 = .ok (.goto 4, 3) := by decide +kernel
theorem d_Me_kindOfTouch_76 : decode b_Me_kindOfTouch 76 = .ok (.iconst 1, 1) := by decide +kernel
theorem d_Me_kindOfTouch_77 : decode b_Me_kindOfTouch 77 = .ok (.ireturn, 1) := by decide +kernel
theorem d_Me_holds_0 : decode b_Me_holds 0 = .ok (.iload_n 0, 1) := by decide +kernel
theorem d_Me_holds_1 : decode b_Me_holds 1 = .ok (.ifCond .lt 16, 3) := by decide +kernel
theorem d_Me_holds_4 : decode b_Me_holds 4 = .ok (.iload_n 0, 1) := by decide +kernel
theorem d_Me_holds_5 : decode b_Me_holds 5 = .ok (.sipush 512, 3) := by decide +kernel
theorem d_Me_holds_8 : decode b_Me_holds 8 = .ok (.iload_n 1, 1) := by decide +kernel
theorem d_Me_holds_9 : decode b_Me_holds 9 = .ok (.isub, 1) := by decide +kernel
theorem d_Me_holds_10 : decode b_Me_holds 10 = .ok (.if_icmp .gt 7, 3) := by decide +kernel
theorem d_Me_holds_13 : decode b_Me_holds 13 = .ok (.iconst 1, 1) := by decide +kernel
theorem d_Me_holds_14 : decode b_Me_holds 14 = .ok (.goto 4, 3) := by decide +kernel
theorem d_Me_holds_17 : decode b_Me_holds 17 = .ok (.iconst 0, 1) := by decide +kernel
theorem d_Me_holds_18 : decode b_Me_holds 18 = .ok (.ireturn, 1) := by decide +kernel
theorem d_Ru_endWithReport_0 : decode b_Ru_endWithReport 0 = .ok (.aload_n 0, 1) := by decide +kernel
theorem d_Ru_endWithReport_1 : decode b_Ru_endWithReport 1 = .ok (.iload_n 1, 1) := by decide +kernel
theorem d_Ru_endWithReport_2 : decode b_Ru_endWithReport 2 = .ok (.putfield 144, 3) := by decide +kernel
theorem d_Ru_endWithReport_5 : decode b_Ru_endWithReport 5 = .ok (.aload_n 0, 1) := by decide +kernel
theorem d_Ru_endWithReport_6 : decode b_Ru_endWithReport 6 = .ok (.iload_n 2, 1) := by decide +kernel
theorem d_Ru_endWithReport_7 : decode b_Ru_endWithReport 7 = .ok (.putfield 147, 3) := by decide +kernel
theorem d_Ru_endWithReport_10 : decode b_Ru_endWithReport 10 = .ok (.aload_n 0, 1) := by decide +kernel
theorem d_Ru_endWithReport_11 : decode b_Ru_endWithReport 11 = .ok (.iconst 3, 1) := by decide +kernel
theorem d_Ru_endWithReport_12 : decode b_Ru_endWithReport 12 = .ok (.putfield 35, 3) := by decide +kernel
theorem d_Ru_endWithReport_15 : decode b_Ru_endWithReport 15 = .ok (.return_, 1) := by decide +kernel
theorem d_Ru_checkFree_0 : decode b_Ru_checkFree 0 = .ok (.aload_n 0, 1) := by decide +kernel
theorem d_Ru_checkFree_1 : decode b_Ru_checkFree 1 = .ok (.getfield 22, 3) := by decide +kernel
theorem d_Ru_checkFree_4 : decode b_Ru_checkFree 4 = .ok (.iload_n 1, 1) := by decide +kernel
theorem d_Ru_checkFree_5 : decode b_Ru_checkFree 5 = .ok (.invokevirtual 121, 3) := by decide +kernel
theorem d_Ru_checkFree_8 : decode b_Ru_checkFree 8 = .ok (.ifCond .ne 9, 3) := by decide +kernel
theorem d_Ru_checkFree_11 : decode b_Ru_checkFree 11 = .ok (.aload_n 0, 1) := by decide +kernel
theorem d_Ru_checkFree_12 : decode b_Ru_checkFree 12 = .ok (.iconst 4, 1) := by decide +kernel
theorem d_Ru_checkFree_13 : decode b_Ru_checkFree 13 = .ok (.iload_n 1, 1) := by decide +kernel
theorem d_Ru_checkFree_14 : decode b_Ru_checkFree 14 = .ok (.invokevirtual 141, 3) := by decide +kernel
theorem d_Ru_checkFree_17 : decode b_Ru_checkFree 17 = .ok (.return_, 1) := by decide +kernel
theorem d_Me_mayFree_0 : decode b_Me_mayFree 0 = .ok (.iload_n 1, 1) := by decide +kernel
theorem d_Me_mayFree_1 : decode b_Me_mayFree 1 = .ok (.ifCond .ne 5, 3) := by decide +kernel
theorem d_Me_mayFree_4 : decode b_Me_mayFree 4 = .ok (.iconst 1, 1) := by decide +kernel
theorem d_Me_mayFree_5 : decode b_Me_mayFree 5 = .ok (.ireturn, 1) := by decide +kernel
theorem d_Me_mayFree_6 : decode b_Me_mayFree 6 = .ok (.iload_n 1, 1) := by decide +kernel
theorem d_Me_mayFree_7 : decode b_Me_mayFree 7 = .ok (.iconst 1, 1) := by decide +kernel
theorem d_Me_mayFree_8 : decode b_Me_mayFree 8 = .ok (.invokestatic 41, 3) := by decide +kernel
theorem d_Me_mayFree_11 : decode b_Me_mayFree 11 = .ok (.ifCond .eq 10, 3) := by decide +kernel
theorem d_Me_mayFree_14 : decode b_Me_mayFree 14 = .ok (.iload_n 1, 1) := by decide +kernel
theorem d_Me_mayFree_15 : decode b_Me_mayFree 15 = .ok (.bipush 8, 2) := by decide +kernel
theorem d_Me_mayFree_17 : decode b_Me_mayFree 17 = .ok (.irem, 1) := by decide +kernel
theorem d_Me_mayFree_18 : decode b_Me_mayFree 18 = .ok (.ifCond .eq 5, 3) := by decide +kernel
theorem d_Me_mayFree_21 : decode b_Me_mayFree 21 = .ok (.iconst 0, 1) := by decide +kernel
theorem d_Me_mayFree_22 : decode b_Me_mayFree 22 = .ok (.ireturn, 1) := by decide +kernel
theorem d_Me_mayFree_23 : decode b_Me_mayFree 23 = .ok (.iload_n 1, 1) := by decide +kernel
theorem d_Me_mayFree_24 : decode b_Me_mayFree 24 = .ok (.bipush 8, 2) := by decide +kernel
theorem d_Me_mayFree_26 : decode b_Me_mayFree 26 = .ok (.idiv, 1) := by decide +kernel
theorem d_Me_mayFree_27 : decode b_Me_mayFree 27 = .ok (.iconst 1, 1) := by decide +kernel
theorem d_Me_mayFree_28 : decode b_Me_mayFree 28 = .ok (.isub, 1) := by decide +kernel
theorem d_Me_mayFree_29 : decode b_Me_mayFree 29 = .ok (.istore_n 2, 1) := by decide +kernel
theorem d_Me_mayFree_30 : decode b_Me_mayFree 30 = .ok (.aload_n 0, 1) := by decide +kernel
theorem d_Me_mayFree_31 : decode b_Me_mayFree 31 = .ok (.getfield 18, 3) := by decide +kernel
theorem d_Me_mayFree_34 : decode b_Me_mayFree 34 = .ok (.iload_n 2, 1) := by decide +kernel
theorem d_Me_mayFree_35 : decode b_Me_mayFree 35 = .ok (.iaload, 1) := by decide +kernel
theorem d_Me_mayFree_36 : decode b_Me_mayFree 36 = .ok (.ifCond .le 16, 3) := by decide +kernel
theorem d_Me_mayFree_39 : decode b_Me_mayFree 39 = .ok (.aload_n 0, 1) := by decide +kernel
theorem d_Me_mayFree_40 : decode b_Me_mayFree 40 = .ok (.getfield 21, 3) := by decide +kernel
theorem d_Me_mayFree_43 : decode b_Me_mayFree 43 = .ok (.iload_n 2, 1) := by decide +kernel
theorem d_Me_mayFree_44 : decode b_Me_mayFree 44 = .ok (.baload, 1) := by decide +kernel
theorem d_Me_mayFree_45 : decode b_Me_mayFree 45 = .ok (.ifCond .ne 7, 3) := by decide +kernel
theorem d_Me_mayFree_48 : decode b_Me_mayFree 48 = .ok (.iconst 1, 1) := by decide +kernel
theorem d_Me_mayFree_49 : decode b_Me_mayFree 49 = .ok (.goto 4, 3) := by decide +kernel
theorem d_Me_mayFree_52 : decode b_Me_mayFree 52 = .ok (.iconst 0, 1) := by decide +kernel
theorem d_Me_mayFree_53 : decode b_Me_mayFree 53 = .ok (.ireturn, 1) := by decide +kernel
theorem d_Ru_goesOn_0 : decode b_Ru_goesOn 0 = .ok (.iload_n 1, 1) := by decide +kernel
theorem d_Ru_goesOn_1 : decode b_Ru_goesOn 1 = .ok (.bipush 10, 2) := by decide +kernel
theorem d_Ru_goesOn_3 : decode b_Ru_goesOn 3 = .ok (.if_icmp .ne 19, 3) := by decide +kernel
theorem d_Ru_goesOn_6 : decode b_Ru_goesOn 6 = .ok (.aload_n 0, 1) := by decide +kernel
theorem d_Ru_goesOn_7 : decode b_Ru_goesOn 7 = .ok (.iload_n 2, 1) := by decide +kernel
theorem d_Ru_goesOn_8 : decode b_Ru_goesOn 8 = .ok (.invokevirtual 72, 3) := by decide +kernel
theorem d_Ru_goesOn_11 : decode b_Ru_goesOn 11 = .ok (.ifCond .ne 7, 3) := by decide +kernel
theorem d_Ru_goesOn_14 : decode b_Ru_goesOn 14 = .ok (.iconst 1, 1) := by decide +kernel
theorem d_Ru_goesOn_15 : decode b_Ru_goesOn 15 = .ok (.goto 25, 3) := by decide +kernel
theorem d_Ru_goesOn_18 : decode b_Ru_goesOn 18 = .ok (.iconst 0, 1) := by decide +kernel
theorem d_Ru_goesOn_19 : decode b_Ru_goesOn 19 = .ok (.goto 21, 3) := by decide +kernel
theorem d_Ru_goesOn_22 : decode b_Ru_goesOn 22 = .ok (.aload_n 0, 1) := by decide +kernel
theorem d_Ru_goesOn_23 : decode b_Ru_goesOn 23 = .ok (.iload_n 2, 1) := by decide +kernel
theorem d_Ru_goesOn_24 : decode b_Ru_goesOn 24 = .ok (.invokevirtual 72, 3) := by decide +kernel
theorem d_Ru_goesOn_27 : decode b_Ru_goesOn 27 = .ok (.aload_n 0, 1) := by decide +kernel
theorem d_Ru_goesOn_28 : decode b_Ru_goesOn 28 = .ok (.iload_n 2, 1) := by decide +kernel
theorem d_Ru_goesOn_29 : decode b_Ru_goesOn 29 = .ok (.invokevirtual 106, 3) := by decide +kernel
theorem d_Ru_goesOn_32 : decode b_Ru_goesOn 32 = .ok (.if_icmp .ge 7, 3) := by decide +kernel
theorem d_Ru_goesOn_35 : decode b_Ru_goesOn 35 = .ok (.iconst 1, 1) := by decide +kernel
theorem d_Ru_goesOn_36 : decode b_Ru_goesOn 36 = .ok (.goto 4, 3) := by decide +kernel
theorem d_Ru_goesOn_39 : decode b_Ru_goesOn 39 = .ok (.iconst 0, 1) := by decide +kernel
theorem d_Ru_goesOn_40 : decode b_Ru_goesOn 40 = .ok (.ireturn, 1) := by decide +kernel
theorem d_Ru_bOf_0 : decode b_Ru_bOf 0 = .ok (.aload_n 0, 1) := by decide +kernel
theorem d_Ru_bOf_1 : decode b_Ru_bOf 1 = .ok (.getfield 9, 3) := by decide +kernel
theorem d_Ru_bOf_4 : decode b_Ru_bOf 4 = .ok (.aload_n 0, 1) := by decide +kernel
theorem d_Ru_bOf_5 : decode b_Ru_bOf 5 = .ok (.getfield 18, 3) := by decide +kernel
theorem d_Ru_bOf_8 : decode b_Ru_bOf 8 = .ok (.getfield 153, 3) := by decide +kernel
theorem d_Ru_bOf_11 : decode b_Ru_bOf 11 = .ok (.iload_n 1, 1) := by decide +kernel
theorem d_Ru_bOf_12 : decode b_Ru_bOf 12 = .ok (.iaload, 1) := by decide +kernel
theorem d_Ru_bOf_13 : decode b_Ru_bOf 13 = .ok (.iaload, 1) := by decide +kernel
theorem d_Ru_bOf_14 : decode b_Ru_bOf 14 = .ok (.ireturn, 1) := by decide +kernel
theorem d_Ru_useHeap_0 : decode b_Ru_useHeap 0 = .ok (.iload_n 1, 1) := by decide +kernel
theorem d_Ru_useHeap_1 : decode b_Ru_useHeap 1 = .ok (.iconst 4, 1) := by decide +kernel
theorem d_Ru_useHeap_2 : decode b_Ru_useHeap 2 = .ok (.if_icmp .ne 32, 3) := by decide +kernel
theorem d_Ru_useHeap_5 : decode b_Ru_useHeap 5 = .ok (.aload_n 0, 1) := by decide +kernel
theorem d_Ru_useHeap_6 : decode b_Ru_useHeap 6 = .ok (.getfield 9, 3) := by decide +kernel
theorem d_Ru_useHeap_9 : decode b_Ru_useHeap 9 = .ok (.aload_n 0, 1) := by decide +kernel
theorem d_Ru_useHeap_10 : decode b_Ru_useHeap 10 = .ok (.getfield 18, 3) := by decide +kernel
theorem d_Ru_useHeap_13 : decode b_Ru_useHeap 13 = .ok (.getfield 93, 3) := by decide +kernel
theorem d_Ru_useHeap_16 : decode b_Ru_useHeap 16 = .ok (.iload_n 2, 1) := by decide +kernel
theorem d_Ru_useHeap_17 : decode b_Ru_useHeap 17 = .ok (.iaload, 1) := by decide +kernel
theorem d_Ru_useHeap_18 : decode b_Ru_useHeap 18 = .ok (.aload_n 0, 1) := by decide +kernel
theorem d_Ru_useHeap_19 : decode b_Ru_useHeap 19 = .ok (.getfield 22, 3) := by decide +kernel
theorem d_Ru_useHeap_22 : decode b_Ru_useHeap 22 = .ok (.aload_n 0, 1) := by decide +kernel
theorem d_Ru_useHeap_23 : decode b_Ru_useHeap 23 = .ok (.iload_n 2, 1) := by decide +kernel
theorem d_Ru_useHeap_24 : decode b_Ru_useHeap 24 = .ok (.invokevirtual 72, 3) := by decide +kernel
theorem d_Ru_useHeap_27 : decode b_Ru_useHeap 27 = .ok (.invokevirtual 112, 3) := by decide +kernel
theorem d_Ru_useHeap_30 : decode b_Ru_useHeap 30 = .ok (.iastore, 1) := by decide +kernel
theorem d_Ru_useHeap_31 : decode b_Ru_useHeap 31 = .ok (.goto 26, 3) := by decide +kernel
theorem d_Ru_useHeap_34 : decode b_Ru_useHeap 34 = .ok (.iload_n 1, 1) := by decide +kernel
theorem d_Ru_useHeap_35 : decode b_Ru_useHeap 35 = .ok (.iconst 5, 1) := by decide +kernel
theorem d_Ru_useHeap_36 : decode b_Ru_useHeap 36 = .ok (.if_icmp .ne 15, 3) := by decide +kernel
theorem d_Ru_useHeap_39 : decode b_Ru_useHeap 39 = .ok (.aload_n 0, 1) := by decide +kernel
theorem d_Ru_useHeap_40 : decode b_Ru_useHeap 40 = .ok (.aload_n 0, 1) := by decide +kernel
theorem d_Ru_useHeap_41 : decode b_Ru_useHeap 41 = .ok (.iload_n 2, 1) := by decide +kernel
theorem d_Ru_useHeap_42 : decode b_Ru_useHeap 42 = .ok (.invokevirtual 72, 3) := by decide +kernel
theorem d_Ru_useHeap_45 : decode b_Ru_useHeap 45 = .ok (.invokevirtual 115, 3) := by decide +kernel
theorem d_Ru_useHeap_48 : decode b_Ru_useHeap 48 = .ok (.goto 9, 3) := by decide +kernel
theorem d_Ru_useHeap_51 : decode b_Ru_useHeap 51 = .ok (.aload_n 0, 1) := by decide +kernel
theorem d_Ru_useHeap_52 : decode b_Ru_useHeap 52 = .ok (.iload_n 1, 1) := by decide +kernel
theorem d_Ru_useHeap_53 : decode b_Ru_useHeap 53 = .ok (.iload_n 2, 1) := by decide +kernel
theorem d_Ru_useHeap_54 : decode b_Ru_useHeap 54 = .ok (.invokevirtual 118, 3) := by decide +kernel
theorem d_Ru_useHeap_57 : decode b_Ru_useHeap 57 = .ok (.return_, 1) := by decide +kernel
theorem d_Me_allocate_0 : decode b_Me_allocate 0 = .ok (.iload_n 1, 1) := by decide +kernel
theorem d_Me_allocate_1 : decode b_Me_allocate 1 = .ok (.iconst 1, 1) := by decide +kernel
theorem d_Me_allocate_2 : decode b_Me_allocate 2 = .ok (.if_icmp .lt 9, 3) := by decide +kernel
theorem d_Me_allocate_5 : decode b_Me_allocate 5 = .ok (.iload_n 1, 1) := by decide +kernel
theorem d_Me_allocate_6 : decode b_Me_allocate 6 = .ok (.bipush 100, 2) := by decide +kernel
theorem d_Me_allocate_8 : decode b_Me_allocate 8 = .ok (.if_icmp .le 5, 3) := by decide +kernel
theorem d_Me_allocate_11 : decode b_Me_allocate 11 = .ok (.iconst 0, 1) := by decide +kernel
theorem d_Me_allocate_12 : decode b_Me_allocate 12 = .ok (.ireturn, 1) := by decide +kernel
theorem d_Me_allocate_13 : decode b_Me_allocate 13 = .ok (.iload_n 1, 1) := by decide +kernel
theorem d_Me_allocate_14 : decode b_Me_allocate 14 = .ok (.bipush 8, 2) := by decide +kernel
theorem d_Me_allocate_16 : decode b_Me_allocate 16 = .ok (.iadd, 1) := by decide +kernel
theorem d_Me_allocate_17 : decode b_Me_allocate 17 = .ok (.iconst 1, 1) := by decide +kernel
theorem d_Me_allocate_18 : decode b_Me_allocate 18 = .ok (.isub, 1) := by decide +kernel
theorem d_Me_allocate_19 : decode b_Me_allocate 19 = .ok (.bipush 8, 2) := by decide +kernel
theorem d_Me_allocate_21 : decode b_Me_allocate 21 = .ok (.idiv, 1) := by decide +kernel
theorem d_Me_allocate_22 : decode b_Me_allocate 22 = .ok (.iconst 2, 1) := by decide +kernel
theorem d_Me_allocate_23 : decode b_Me_allocate 23 = .ok (.iadd, 1) := by decide +kernel
theorem d_Me_allocate_24 : decode b_Me_allocate 24 = .ok (.istore_n 2, 1) := by decide +kernel
theorem d_Me_allocate_25 : decode b_Me_allocate 25 = .ok (.aload_n 0, 1) := by decide +kernel
theorem d_Me_allocate_26 : decode b_Me_allocate 26 = .ok (.iload_n 2, 1) := by decide +kernel
theorem d_Me_allocate_27 : decode b_Me_allocate 27 = .ok (.invokevirtual 45, 3) := by decide +kernel
theorem d_Me_allocate_30 : decode b_Me_allocate 30 = .ok (.istore_n 3, 1) := by decide +kernel
theorem d_Me_allocate_31 : decode b_Me_allocate 31 = .ok (.aload_n 0, 1) := by decide +kernel
theorem d_Me_allocate_32 : decode b_Me_allocate 32 = .ok (.getfield 35, 3) := by decide +kernel
theorem d_Me_allocate_35 : decode b_Me_allocate 35 = .ok (.istore 4, 2) := by decide +kernel
theorem d_Me_allocate_37 : decode b_Me_allocate 37 = .ok (.iload 4, 2) := by decide +kernel
theorem d_Me_allocate_39 : decode b_Me_allocate 39 = .ok (.ifCond .le 24, 3) := by decide +kernel
theorem d_Me_allocate_42 : decode b_Me_allocate 42 = .ok (.iload_n 3, 1) := by decide +kernel
theorem d_Me_allocate_43 : decode b_Me_allocate 43 = .ok (.iconst (-1), 1) := by decide +kernel
theorem d_Me_allocate_44 : decode b_Me_allocate 44 = .ok (.if_icmp .ne 19, 3) := by decide +kernel
theorem d_Me_allocate_47 : decode b_Me_allocate 47 = .ok (.aload_n 0, 1) := by decide +kernel
theorem d_Me_allocate_48 : decode b_Me_allocate 48 = .ok (.invokevirtual 49, 3) := by decide +kernel
theorem d_Me_allocate_51 : decode b_Me_allocate 51 = .ok (.aload_n 0, 1) := by decide +kernel
theorem d_Me_allocate_52 : decode b_Me_allocate 52 = .ok (.iload_n 2, 1) := by decide +kernel
theorem d_Me_allocate_53 : decode b_Me_allocate 53 = .ok (.invokevirtual 45, 3) := by decide +kernel
theorem d_Me_allocate_56 : decode b_Me_allocate 56 = .ok (.istore_n 3, 1) := by decide +kernel
theorem d_Me_allocate_57 : decode b_Me_allocate 57 = .ok (.iinc 4 (-1), 3) := by decide +kernel
theorem d_Me_allocate_60 : decode b_Me_allocate 60 = .ok (.goto (-23), 3) := by decide +kernel
theorem d_Me_allocate_63 : decode b_Me_allocate 63 = .ok (.iload_n 3, 1) := by decide +kernel
theorem d_Me_allocate_64 : decode b_Me_allocate 64 = .ok (.iconst (-1), 1) := by decide +kernel
theorem d_Me_allocate_65 : decode b_Me_allocate 65 = .ok (.if_icmp .ne 5, 3) := by decide +kernel
theorem d_Me_allocate_68 : decode b_Me_allocate 68 = .ok (.iconst 0, 1) := by decide +kernel
theorem d_Me_allocate_69 : decode b_Me_allocate 69 = .ok (.ireturn, 1) := by decide +kernel
theorem d_Me_allocate_70 : decode b_Me_allocate 70 = .ok (.aload_n 0, 1) := by decide +kernel
theorem d_Me_allocate_71 : decode b_Me_allocate 71 = .ok (.iload_n 3, 1) := by decide +kernel
theorem d_Me_allocate_72 : decode b_Me_allocate 72 = .ok (.iload_n 2, 1) := by decide +kernel
theorem d_Me_allocate_73 : decode b_Me_allocate 73 = .ok (.iload_n 1, 1) := by decide +kernel
theorem d_Me_allocate_74 : decode b_Me_allocate 74 = .ok (.invokevirtual 52, 3) := by decide +kernel
theorem d_Me_allocate_77 : decode b_Me_allocate 77 = .ok (.iload_n 3, 1) := by decide +kernel
theorem d_Me_allocate_78 : decode b_Me_allocate 78 = .ok (.iconst 1, 1) := by decide +kernel
theorem d_Me_allocate_79 : decode b_Me_allocate 79 = .ok (.iadd, 1) := by decide +kernel
theorem d_Me_allocate_80 : decode b_Me_allocate 80 = .ok (.bipush 8, 2) := by decide +kernel
theorem d_Me_allocate_82 : decode b_Me_allocate 82 = .ok (.imul, 1) := by decide +kernel
theorem d_Me_allocate_83 : decode b_Me_allocate 83 = .ok (.ireturn, 1) := by decide +kernel
theorem d_Me_lowestGap_0 : decode b_Me_lowestGap 0 = .ok (.iconst 0, 1) := by decide +kernel
theorem d_Me_lowestGap_1 : decode b_Me_lowestGap 1 = .ok (.istore_n 2, 1) := by decide +kernel
theorem d_Me_lowestGap_2 : decode b_Me_lowestGap 2 = .ok (.iconst 0, 1) := by decide +kernel
theorem d_Me_lowestGap_3 : decode b_Me_lowestGap 3 = .ok (.istore_n 3, 1) := by decide +kernel
theorem d_Me_lowestGap_4 : decode b_Me_lowestGap 4 = .ok (.iload_n 3, 1) := by decide +kernel
theorem d_Me_lowestGap_5 : decode b_Me_lowestGap 5 = .ok (.bipush 64, 2) := by decide +kernel
theorem d_Me_lowestGap_7 : decode b_Me_lowestGap 7 = .ok (.if_icmp .ge 38, 3) := by decide +kernel
theorem d_Me_lowestGap_10 : decode b_Me_lowestGap 10 = .ok (.aload_n 0, 1) := by decide +kernel
theorem d_Me_lowestGap_11 : decode b_Me_lowestGap 11 = .ok (.getfield 18, 3) := by decide +kernel
theorem d_Me_lowestGap_14 : decode b_Me_lowestGap 14 = .ok (.iload_n 3, 1) := by decide +kernel
theorem d_Me_lowestGap_15 : decode b_Me_lowestGap 15 = .ok (.iaload, 1) := by decide +kernel
theorem d_Me_lowestGap_16 : decode b_Me_lowestGap 16 = .ok (.ifCond .le 17, 3) := by decide +kernel
theorem d_Me_lowestGap_19 : decode b_Me_lowestGap 19 = .ok (.iload_n 3, 1) := by decide +kernel
theorem d_Me_lowestGap_20 : decode b_Me_lowestGap 20 = .ok (.aload_n 0, 1) := by decide +kernel
theorem d_Me_lowestGap_21 : decode b_Me_lowestGap 21 = .ok (.getfield 18, 3) := by decide +kernel
theorem d_Me_lowestGap_24 : decode b_Me_lowestGap 24 = .ok (.iload_n 3, 1) := by decide +kernel
theorem d_Me_lowestGap_25 : decode b_Me_lowestGap 25 = .ok (.iaload, 1) := by decide +kernel
theorem d_Me_lowestGap_26 : decode b_Me_lowestGap 26 = .ok (.iadd, 1) := by decide +kernel
theorem d_Me_lowestGap_27 : decode b_Me_lowestGap 27 = .ok (.istore_n 3, 1) := by decide +kernel
theorem d_Me_lowestGap_28 : decode b_Me_lowestGap 28 = .ok (.iload_n 3, 1) := by decide +kernel
theorem d_Me_lowestGap_29 : decode b_Me_lowestGap 29 = .ok (.istore_n 2, 1) := by decide +kernel
theorem d_Me_lowestGap_30 : decode b_Me_lowestGap 30 = .ok (.goto (-26), 3) := by decide +kernel
theorem d_Me_lowestGap_33 : decode b_Me_lowestGap 33 = .ok (.iinc 3 1, 3) := by decide +kernel
theorem d_Me_lowestGap_36 : decode b_Me_lowestGap 36 = .ok (.iload_n 3, 1) := by decide +kernel
theorem d_Me_lowestGap_37 : decode b_Me_lowestGap 37 = .ok (.iload_n 2, 1) := by decide +kernel
theorem d_Me_lowestGap_38 : decode b_Me_lowestGap 38 = .ok (.isub, 1) := by decide +kernel
theorem d_Me_lowestGap_39 : decode b_Me_lowestGap 39 = .ok (.iload_n 1, 1) := by decide +kernel
theorem d_Me_lowestGap_40 : decode b_Me_lowestGap 40 = .ok (.if_icmp .lt (-36), 3) := by decide +kernel
theorem d_Me_lowestGap_43 : decode b_Me_lowestGap 43 = .ok (.iload_n 2, 1) := by decide +kernel
theorem d_Me_lowestGap_44 : decode b_Me_lowestGap 44 = .ok (.ireturn, 1) := by decide +kernel
theorem d_Me_lowestGap_45 : decode b_Me_lowestGap 45 = .ok (.iconst (-1), 1) := by decide +kernel
theorem d_Me_lowestGap_46 : decode b_Me_lowestGap 46 = .ok (.ireturn, 1) := by decide +kernel
theorem d_Me_releaseOldest_0 : decode b_Me_releaseOldest 0 = .ok (.aload_n 0, 1) := by decide +kernel
theorem d_Me_releaseOldest_1 : decode b_Me_releaseOldest 1 = .ok (.getfield 25, 3) := by decide +kernel
theorem d_Me_releaseOldest_4 : decode b_Me_releaseOldest 4 = .ok (.iconst 0, 1) := by decide +kernel
theorem d_Me_releaseOldest_5 : decode b_Me_releaseOldest 5 = .ok (.iaload, 1) := by decide +kernel
theorem d_Me_releaseOldest_6 : decode b_Me_releaseOldest 6 = .ok (.istore_n 1, 1) := by decide +kernel
theorem d_Me_releaseOldest_7 : decode b_Me_releaseOldest 7 = .ok (.aload_n 0, 1) := by decide +kernel
theorem d_Me_releaseOldest_8 : decode b_Me_releaseOldest 8 = .ok (.getfield 18, 3) := by decide +kernel
theorem d_Me_releaseOldest_11 : decode b_Me_releaseOldest 11 = .ok (.iload_n 1, 1) := by decide +kernel
theorem d_Me_releaseOldest_12 : decode b_Me_releaseOldest 12 = .ok (.iaload, 1) := by decide +kernel
theorem d_Me_releaseOldest_13 : decode b_Me_releaseOldest 13 = .ok (.istore_n 2, 1) := by decide +kernel
theorem d_Me_releaseOldest_14 : decode b_Me_releaseOldest 14 = .ok (.aload_n 0, 1) := by decide +kernel
theorem d_Me_releaseOldest_15 : decode b_Me_releaseOldest 15 = .ok (.iload_n 1, 1) := by decide +kernel
theorem d_Me_releaseOldest_16 : decode b_Me_releaseOldest 16 = .ok (.iload_n 1, 1) := by decide +kernel
theorem d_Me_releaseOldest_17 : decode b_Me_releaseOldest 17 = .ok (.iload_n 2, 1) := by decide +kernel
theorem d_Me_releaseOldest_18 : decode b_Me_releaseOldest 18 = .ok (.iadd, 1) := by decide +kernel
theorem d_Me_releaseOldest_19 : decode b_Me_releaseOldest 19 = .ok (.bipush (-3), 2) := by decide +kernel
theorem d_Me_releaseOldest_21 : decode b_Me_releaseOldest 21 = .ok (.invokevirtual 56, 3) := by decide +kernel
theorem d_Me_releaseOldest_24 : decode b_Me_releaseOldest 24 = .ok (.aload_n 0, 1) := by decide +kernel
theorem d_Me_releaseOldest_25 : decode b_Me_releaseOldest 25 = .ok (.getfield 18, 3) := by decide +kernel
theorem d_Me_releaseOldest_28 : decode b_Me_releaseOldest 28 = .ok (.iload_n 1, 1) := by decide +kernel
theorem d_Me_releaseOldest_29 : decode b_Me_releaseOldest 29 = .ok (.iconst 0, 1) := by decide +kernel
theorem d_Me_releaseOldest_30 : decode b_Me_releaseOldest 30 = .ok (.iastore, 1) := by decide +kernel
theorem d_Me_releaseOldest_31 : decode b_Me_releaseOldest 31 = .ok (.aload_n 0, 1) := by decide +kernel
theorem d_Me_releaseOldest_32 : decode b_Me_releaseOldest 32 = .ok (.getfield 21, 3) := by decide +kernel
theorem d_Me_releaseOldest_35 : decode b_Me_releaseOldest 35 = .ok (.iload_n 1, 1) := by decide +kernel
theorem d_Me_releaseOldest_36 : decode b_Me_releaseOldest 36 = .ok (.iconst 0, 1) := by decide +kernel
theorem d_Me_releaseOldest_37 : decode b_Me_releaseOldest 37 = .ok (.bastore, 1) := by decide +kernel
theorem d_Me_releaseOldest_38 : decode b_Me_releaseOldest 38 = .ok (.aload_n 0, 1) := by decide +kernel
theorem d_Me_releaseOldest_39 : decode b_Me_releaseOldest 39 = .ok (.dup, 1) := by decide +kernel
theorem d_Me_releaseOldest_40 : decode b_Me_releaseOldest 40 = .ok (.getfield 35, 3) := by decide +kernel
theorem d_Me_releaseOldest_43 : decode b_Me_releaseOldest 43 = .ok (.iconst 1, 1) := by decide +kernel
theorem d_Me_releaseOldest_44 : decode b_Me_releaseOldest 44 = .ok (.isub, 1) := by decide +kernel
theorem d_Me_releaseOldest_45 : decode b_Me_releaseOldest 45 = .ok (.putfield 35, 3) := by decide +kernel
theorem d_Me_releaseOldest_48 : decode b_Me_releaseOldest 48 = .ok (.aload_n 0, 1) := by decide +kernel
theorem d_Me_releaseOldest_49 : decode b_Me_releaseOldest 49 = .ok (.dup, 1) := by decide +kernel
theorem d_Me_releaseOldest_50 : decode b_Me_releaseOldest 50 = .ok (.getfield 31, 3) := by decide +kernel
theorem d_Me_releaseOldest_53 : decode b_Me_releaseOldest 53 = .ok (.iload_n 2, 1) := by decide +kernel
theorem d_Me_releaseOldest_54 : decode b_Me_releaseOldest 54 = .ok (.isub, 1) := by decide +kernel
theorem d_Me_releaseOldest_55 : decode b_Me_releaseOldest 55 = .ok (.putfield 31, 3) := by decide +kernel
theorem d_Me_releaseOldest_58 : decode b_Me_releaseOldest 58 = .ok (.iconst 0, 1) := by decide +kernel
theorem d_Me_releaseOldest_59 : decode b_Me_releaseOldest 59 = .ok (.istore_n 3, 1) := by decide +kernel
theorem d_Me_releaseOldest_60 : decode b_Me_releaseOldest 60 = .ok (.iload_n 3, 1) := by decide +kernel
theorem d_Me_releaseOldest_61 : decode b_Me_releaseOldest 61 = .ok (.aload_n 0, 1) := by decide +kernel
theorem d_Me_releaseOldest_62 : decode b_Me_releaseOldest 62 = .ok (.getfield 35, 3) := by decide +kernel
theorem d_Me_releaseOldest_65 : decode b_Me_releaseOldest 65 = .ok (.if_icmp .ge 23, 3) := by decide +kernel
theorem d_Me_releaseOldest_68 : decode b_Me_releaseOldest 68 = .ok (.aload_n 0, 1) := by decide +kernel
theorem d_Me_releaseOldest_69 : decode b_Me_releaseOldest 69 = .ok (.getfield 25, 3) := by decide +kernel
theorem d_Me_releaseOldest_72 : decode b_Me_releaseOldest 72 = .ok (.iload_n 3, 1) := by decide +kernel
theorem d_Me_releaseOldest_73 : decode b_Me_releaseOldest 73 = .ok (.aload_n 0, 1) := by decide +kernel
theorem d_Me_releaseOldest_74 : decode b_Me_releaseOldest 74 = .ok (.getfield 25, 3) := by decide +kernel
theorem d_Me_releaseOldest_77 : decode b_Me_releaseOldest 77 = .ok (.iload_n 3, 1) := by decide +kernel
theorem d_Me_releaseOldest_78 : decode b_Me_releaseOldest 78 = .ok (.iconst 1, 1) := by decide +kernel
theorem d_Me_releaseOldest_79 : decode b_Me_releaseOldest 79 = .ok (.iadd, 1) := by decide +kernel
theorem d_Me_releaseOldest_80 : decode b_Me_releaseOldest 80 = .ok (.iaload, 1) := by decide +kernel
theorem d_Me_releaseOldest_81 : decode b_Me_releaseOldest 81 = .ok (.iastore, 1) := by decide +kernel
theorem d_Me_releaseOldest_82 : decode b_Me_releaseOldest 82 = .ok (.iinc 3 1, 3) := by decide +kernel
theorem d_Me_releaseOldest_85 : decode b_Me_releaseOldest 85 = .ok (.goto (-25), 3) := by decide +kernel
theorem d_Me_releaseOldest_88 : decode b_Me_releaseOldest 88 = .ok (.return_, 1) := by decide +kernel
theorem d_Me_paint_0 : decode b_Me_paint 0 = .ok (.iload_n 1, 1) := by decide +kernel
theorem d_Me_paint_1 : decode b_Me_paint 1 = .ok (.istore 4, 2) := by decide +kernel
theorem d_Me_paint_3 : decode b_Me_paint 3 = .ok (.iload 4, 2) := by decide +kernel
theorem d_Me_paint_5 : decode b_Me_paint 5 = .ok (.iload_n 2, 1) := by decide +kernel
theorem d_Me_paint_6 : decode b_Me_paint 6 = .ok (.if_icmp .ge 17, 3) := by decide +kernel
theorem d_Me_paint_9 : decode b_Me_paint 9 = .ok (.aload_n 0, 1) := by decide +kernel
theorem d_Me_paint_10 : decode b_Me_paint 10 = .ok (.getfield 15, 3) := by decide +kernel
theorem d_Me_paint_13 : decode b_Me_paint 13 = .ok (.iload 4, 2) := by decide +kernel
theorem d_Me_paint_15 : decode b_Me_paint 15 = .ok (.iload_n 3, 1) := by decide +kernel
theorem d_Me_paint_16 : decode b_Me_paint 16 = .ok (.iastore, 1) := by decide +kernel
theorem d_Me_paint_17 : decode b_Me_paint 17 = .ok (.iinc 4 1, 3) := by decide +kernel
theorem d_Me_paint_20 : decode b_Me_paint 20 = .ok (.goto (-17), 3) := by decide +kernel
theorem d_Me_paint_23 : decode b_Me_paint 23 = .ok (.return_, 1) := by decide +kernel
theorem d_Me_placeBlock_0 : decode b_Me_placeBlock 0 = .ok (.iload_n 1, 1) := by decide +kernel
theorem d_Me_placeBlock_1 : decode b_Me_placeBlock 1 = .ok (.iload_n 2, 1) := by decide +kernel
theorem d_Me_placeBlock_2 : decode b_Me_placeBlock 2 = .ok (.iadd, 1) := by decide +kernel
theorem d_Me_placeBlock_3 : decode b_Me_placeBlock 3 = .ok (.iconst 1, 1) := by decide +kernel
theorem d_Me_placeBlock_4 : decode b_Me_placeBlock 4 = .ok (.isub, 1) := by decide +kernel
theorem d_Me_placeBlock_5 : decode b_Me_placeBlock 5 = .ok (.istore 4, 2) := by decide +kernel
theorem d_Me_placeBlock_7 : decode b_Me_placeBlock 7 = .ok (.aload_n 0, 1) := by decide +kernel
theorem d_Me_placeBlock_8 : decode b_Me_placeBlock 8 = .ok (.getfield 18, 3) := by decide +kernel
theorem d_Me_placeBlock_11 : decode b_Me_placeBlock 11 = .ok (.iload_n 1, 1) := by decide +kernel
theorem d_Me_placeBlock_12 : decode b_Me_placeBlock 12 = .ok (.iload_n 2, 1) := by decide +kernel
theorem d_Me_placeBlock_13 : decode b_Me_placeBlock 13 = .ok (.iastore, 1) := by decide +kernel
theorem d_Me_placeBlock_14 : decode b_Me_placeBlock 14 = .ok (.aload_n 0, 1) := by decide +kernel
theorem d_Me_placeBlock_15 : decode b_Me_placeBlock 15 = .ok (.dup, 1) := by decide +kernel
theorem d_Me_placeBlock_16 : decode b_Me_placeBlock 16 = .ok (.getfield 38, 3) := by decide +kernel
theorem d_Me_placeBlock_19 : decode b_Me_placeBlock 19 = .ok (.iconst 1, 1) := by decide +kernel
theorem d_Me_placeBlock_20 : decode b_Me_placeBlock 20 = .ok (.iadd, 1) := by decide +kernel
theorem d_Me_placeBlock_21 : decode b_Me_placeBlock 21 = .ok (.putfield 38, 3) := by decide +kernel
theorem d_Me_placeBlock_24 : decode b_Me_placeBlock 24 = .ok (.aload_n 0, 1) := by decide +kernel
theorem d_Me_placeBlock_25 : decode b_Me_placeBlock 25 = .ok (.getfield 15, 3) := by decide +kernel
theorem d_Me_placeBlock_28 : decode b_Me_placeBlock 28 = .ok (.iload_n 1, 1) := by decide +kernel
theorem d_Me_placeBlock_29 : decode b_Me_placeBlock 29 = .ok (.iconst (-1), 1) := by decide +kernel
theorem d_Me_placeBlock_30 : decode b_Me_placeBlock 30 = .ok (.iastore, 1) := by decide +kernel
theorem d_Me_placeBlock_31 : decode b_Me_placeBlock 31 = .ok (.aload_n 0, 1) := by decide +kernel
theorem d_Me_placeBlock_32 : decode b_Me_placeBlock 32 = .ok (.iload_n 1, 1) := by decide +kernel
theorem d_Me_placeBlock_33 : decode b_Me_placeBlock 33 = .ok (.iconst 1, 1) := by decide +kernel
theorem d_Me_placeBlock_34 : decode b_Me_placeBlock 34 = .ok (.iadd, 1) := by decide +kernel
theorem d_Me_placeBlock_35 : decode b_Me_placeBlock 35 = .ok (.iload 4, 2) := by decide +kernel
theorem d_Me_placeBlock_37 : decode b_Me_placeBlock 37 = .ok (.iconst 0, 1) := by decide +kernel
theorem d_Me_placeBlock_38 : decode b_Me_placeBlock 38 = .ok (.invokevirtual 56, 3) := by decide +kernel
theorem d_Me_placeBlock_41 : decode b_Me_placeBlock 41 = .ok (.aload_n 0, 1) := by decide +kernel
theorem d_Me_placeBlock_42 : decode b_Me_placeBlock 42 = .ok (.getfield 15, 3) := by decide +kernel
theorem d_Me_placeBlock_45 : decode b_Me_placeBlock 45 = .ok (.iload 4, 2) := by decide +kernel
theorem d_Me_placeBlock_47 : decode b_Me_placeBlock 47 = .ok (.iconst 1, 1) := by decide +kernel
theorem d_Me_placeBlock_48 : decode b_Me_placeBlock 48 = .ok (.isub, 1) := by decide +kernel
theorem d_Me_placeBlock_49 : decode b_Me_placeBlock 49 = .ok (.iload_n 3, 1) := by decide +kernel
theorem d_Me_placeBlock_50 : decode b_Me_placeBlock 50 = .ok (.bipush 8, 2) := by decide +kernel
theorem d_Me_placeBlock_52 : decode b_Me_placeBlock 52 = .ok (.irem, 1) := by decide +kernel
theorem d_Me_placeBlock_53 : decode b_Me_placeBlock 53 = .ok (.iastore, 1) := by decide +kernel
theorem d_Me_placeBlock_54 : decode b_Me_placeBlock 54 = .ok (.aload_n 0, 1) := by decide +kernel
theorem d_Me_placeBlock_55 : decode b_Me_placeBlock 55 = .ok (.getfield 15, 3) := by decide +kernel
theorem d_Me_placeBlock_58 : decode b_Me_placeBlock 58 = .ok (.iload 4, 2) := by decide +kernel
theorem d_Me_placeBlock_60 : decode b_Me_placeBlock 60 = .ok (.iconst (-1), 1) := by decide +kernel
theorem d_Me_placeBlock_61 : decode b_Me_placeBlock 61 = .ok (.iastore, 1) := by decide +kernel
theorem d_Me_placeBlock_62 : decode b_Me_placeBlock 62 = .ok (.iload_n 1, 1) := by decide +kernel
theorem d_Me_placeBlock_63 : decode b_Me_placeBlock 63 = .ok (.iconst 1, 1) := by decide +kernel
theorem d_Me_placeBlock_64 : decode b_Me_placeBlock 64 = .ok (.iadd, 1) := by decide +kernel
theorem d_Me_placeBlock_65 : decode b_Me_placeBlock 65 = .ok (.bipush 8, 2) := by decide +kernel
theorem d_Me_placeBlock_67 : decode b_Me_placeBlock 67 = .ok (.imul, 1) := by decide +kernel
theorem d_Me_placeBlock_68 : decode b_Me_placeBlock 68 = .ok (.istore 5, 2) := by decide +kernel
theorem d_Me_placeBlock_70 : decode b_Me_placeBlock 70 = .ok (.iload 5, 2) := by decide +kernel
theorem d_Me_placeBlock_72 : decode b_Me_placeBlock 72 = .ok (.iload 4, 2) := by decide +kernel
theorem d_Me_placeBlock_74 : decode b_Me_placeBlock 74 = .ok (.bipush 8, 2) := by decide +kernel
theorem d_Me_placeBlock_76 : decode b_Me_placeBlock 76 = .ok (.imul, 1) := by decide +kernel
theorem d_Me_placeBlock_77 : decode b_Me_placeBlock 77 = .ok (.if_icmp .ge 17, 3) := by decide +kernel
theorem d_Me_placeBlock_80 : decode b_Me_placeBlock 80 = .ok (.aload_n 0, 1) := by decide +kernel
theorem d_Me_placeBlock_81 : decode b_Me_placeBlock 81 = .ok (.getfield 11, 3) := by decide +kernel
theorem d_Me_placeBlock_84 : decode b_Me_placeBlock 84 = .ok (.iload 5, 2) := by decide +kernel
theorem d_Me_placeBlock_86 : decode b_Me_placeBlock 86 = .ok (.iconst 0, 1) := by decide +kernel
theorem d_Me_placeBlock_87 : decode b_Me_placeBlock 87 = .ok (.iastore, 1) := by decide +kernel
theorem d_Me_placeBlock_88 : decode b_Me_placeBlock 88 = .ok (.iinc 5 1, 3) := by decide +kernel
theorem d_Me_placeBlock_91 : decode b_Me_placeBlock 91 = .ok (.goto (-21), 3) := by decide +kernel
theorem d_Me_placeBlock_94 : decode b_Me_placeBlock 94 = .ok (.return_, 1) := by decide +kernel
theorem d_Ru_freeOrCrash_0 : decode b_Ru_freeOrCrash 0 = .ok (.aload_n 0, 1) := by decide +kernel
theorem d_Ru_freeOrCrash_1 : decode b_Ru_freeOrCrash 1 = .ok (.getfield 22, 3) := by decide +kernel
theorem d_Ru_freeOrCrash_4 : decode b_Ru_freeOrCrash 4 = .ok (.iload_n 1, 1) := by decide +kernel
theorem d_Ru_freeOrCrash_5 : decode b_Ru_freeOrCrash 5 = .ok (.invokevirtual 121, 3) := by decide +kernel
theorem d_Ru_freeOrCrash_8 : decode b_Ru_freeOrCrash 8 = .ok (.ifCond .eq 14, 3) := by decide +kernel
theorem d_Ru_freeOrCrash_11 : decode b_Ru_freeOrCrash 11 = .ok (.aload_n 0, 1) := by decide +kernel
theorem d_Ru_freeOrCrash_12 : decode b_Ru_freeOrCrash 12 = .ok (.getfield 22, 3) := by decide +kernel
theorem d_Ru_freeOrCrash_15 : decode b_Ru_freeOrCrash 15 = .ok (.iload_n 1, 1) := by decide +kernel
theorem d_Ru_freeOrCrash_16 : decode b_Ru_freeOrCrash 16 = .ok (.invokevirtual 125, 3) := by decide +kernel
theorem d_Ru_freeOrCrash_19 : decode b_Ru_freeOrCrash 19 = .ok (.goto 8, 3) := by decide +kernel
theorem d_Ru_freeOrCrash_22 : decode b_Ru_freeOrCrash 22 = .ok (.aload_n 0, 1) := by decide +kernel
theorem d_Ru_freeOrCrash_23 : decode b_Ru_freeOrCrash 23 = .ok (.iconst 4, 1) := by decide +kernel
