theorem dX0_init_0 : decode cX0_init 0 = .ok (.aload_n 0, 1) := by decide +kernel
theorem dX0_init_1 : decode cX0_init 1 = .ok (.invokespecial 3, 3) := by decide +kernel
theorem dX0_init_4 : decode cX0_init 4 = .ok (.aload_n 0, 1) := by decide +kernel
theorem dX0_init_5 : decode cX0_init 5 = .ok (.bipush 60, 2) := by decide +kernel
theorem dX0_init_7 : decode cX0_init 7 = .ok (.newarray .int, 2) := by decide +kernel
theorem dX0_init_9 : decode cX0_init 9 = .ok (.putfield 9, 3) := by decide +kernel
theorem dX0_init_12 : decode cX0_init 12 = .ok (.aload_n 0, 1) := by decide +kernel
theorem dX0_init_13 : decode cX0_init 13 = .ok (.iconst 0, 1) := by decide +kernel
theorem dX0_init_14 : decode cX0_init 14 = .ok (.putfield 15, 3) := by decide +kernel
theorem dX0_init_17 : decode cX0_init 17 = .ok (.aload_n 0, 1) := by decide +kernel
theorem dX0_init_18 : decode cX0_init 18 = .ok (.iconst (-1), 1) := by decide +kernel
theorem dX0_init_19 : decode cX0_init 19 = .ok (.putfield 19, 3) := by decide +kernel
theorem dX0_init_22 : decode cX0_init 22 = .ok (.return_, 1) := by decide +kernel
theorem dX0_begin_0 : decode cX0_begin 0 = .ok (.aload_n 0, 1) := by decide +kernel
theorem dX0_begin_1 : decode cX0_begin 1 = .ok (.iload_n 1, 1) := by decide +kernel
theorem dX0_begin_2 : decode cX0_begin 2 = .ok (.putfield 15, 3) := by decide +kernel
theorem dX0_begin_5 : decode cX0_begin 5 = .ok (.aload_n 0, 1) := by decide +kernel
theorem dX0_begin_6 : decode cX0_begin 6 = .ok (.iload_n 2, 1) := by decide +kernel
theorem dX0_begin_7 : decode cX0_begin 7 = .ok (.putfield 19, 3) := by decide +kernel
theorem dX0_begin_10 : decode cX0_begin 10 = .ok (.iconst 0, 1) := by decide +kernel
theorem dX0_begin_11 : decode cX0_begin 11 = .ok (.istore_n 3, 1) := by decide +kernel
theorem dX0_begin_12 : decode cX0_begin 12 = .ok (.iload_n 3, 1) := by decide +kernel
theorem dX0_begin_13 : decode cX0_begin 13 = .ok (.iload_n 2, 1) := by decide +kernel
theorem dX0_begin_14 : decode cX0_begin 14 = .ok (.if_icmp .ge 16, 3) := by decide +kernel
theorem dX0_begin_17 : decode cX0_begin 17 = .ok (.aload_n 0, 1) := by decide +kernel
theorem dX0_begin_18 : decode cX0_begin 18 = .ok (.getfield 9, 3) := by decide +kernel
theorem dX0_begin_21 : decode cX0_begin 21 = .ok (.iload_n 3, 1) := by decide +kernel
theorem dX0_begin_22 : decode cX0_begin 22 = .ok (.iconst 0, 1) := by decide +kernel
theorem dX0_begin_23 : decode cX0_begin 23 = .ok (.iastore, 1) := by decide +kernel
theorem dX0_begin_24 : decode cX0_begin 24 = .ok (.iinc 3 1, 3) := by decide +kernel
theorem dX0_begin_27 : decode cX0_begin 27 = .ok (.goto (-15), 3) := by decide +kernel
theorem dX0_begin_30 : decode cX0_begin 30 = .ok (.return_, 1) := by decide +kernel
theorem dX0_isThere_0 : decode cX0_isThere 0 = .ok (.aload_n 0, 1) := by decide +kernel
theorem dX0_isThere_1 : decode cX0_isThere 1 = .ok (.getfield 19, 3) := by decide +kernel
theorem dX0_isThere_4 : decode cX0_isThere 4 = .ok (.iconst (-1), 1) := by decide +kernel
theorem dX0_isThere_5 : decode cX0_isThere 5 = .ok (.if_icmp .eq 7, 3) := by decide +kernel
theorem dX0_isThere_8 : decode cX0_isThere 8 = .ok (.iconst 1, 1) := by decide +kernel
theorem dX0_isThere_9 : decode cX0_isThere 9 = .ok (.goto 4, 3) := by decide +kernel
theorem dX0_isThere_12 : decode cX0_isThere 12 = .ok (.iconst 0, 1) := by decide +kernel
theorem dX0_isThere_13 : decode cX0_isThere 13 = .ok (.ireturn, 1) := by decide +kernel
theorem dX0_faultAs_0 : decode cX0_faultAs 0 = .ok (.aload_n 0, 1) := by decide +kernel
theorem dX0_faultAs_1 : decode cX0_faultAs 1 = .ok (.invokevirtual 22, 3) := by decide +kernel
theorem dX0_faultAs_4 : decode cX0_faultAs 4 = .ok (.ifCond .ne 5, 3) := by decide +kernel
theorem dX0_faultAs_7 : decode cX0_faultAs 7 = .ok (.iconst 1, 1) := by decide +kernel
theorem dX0_faultAs_8 : decode cX0_faultAs 8 = .ok (.ireturn, 1) := by decide +kernel
theorem dX0_faultAs_9 : decode cX0_faultAs 9 = .ok (.aload_n 0, 1) := by decide +kernel
theorem dX0_faultAs_10 : decode cX0_faultAs 10 = .ok (.getfield 15, 3) := by decide +kernel
theorem dX0_faultAs_13 : decode cX0_faultAs 13 = .ok (.iload_n 1, 1) := by decide +kernel
theorem dX0_faultAs_14 : decode cX0_faultAs 14 = .ok (.if_icmp .ne 7, 3) := by decide +kernel
theorem dX0_faultAs_17 : decode cX0_faultAs 17 = .ok (.iconst 0, 1) := by decide +kernel
theorem dX0_faultAs_18 : decode cX0_faultAs 18 = .ok (.goto 4, 3) := by decide +kernel
theorem dX0_faultAs_21 : decode cX0_faultAs 21 = .ok (.iconst 2, 1) := by decide +kernel
theorem dX0_faultAs_22 : decode cX0_faultAs 22 = .ok (.ireturn, 1) := by decide +kernel
theorem dX0_hasCell_0 : decode cX0_hasCell 0 = .ok (.iload_n 1, 1) := by decide +kernel
theorem dX0_hasCell_1 : decode cX0_hasCell 1 = .ok (.ifCond .lt 15, 3) := by decide +kernel
theorem dX0_hasCell_4 : decode cX0_hasCell 4 = .ok (.iload_n 1, 1) := by decide +kernel
theorem dX0_hasCell_5 : decode cX0_hasCell 5 = .ok (.aload_n 0, 1) := by decide +kernel
theorem dX0_hasCell_6 : decode cX0_hasCell 6 = .ok (.getfield 19, 3) := by decide +kernel
theorem dX0_hasCell_9 : decode cX0_hasCell 9 = .ok (.if_icmp .ge 7, 3) := by decide +kernel
theorem dX0_hasCell_12 : decode cX0_hasCell 12 = .ok (.iconst 1, 1) := by decide +kernel
theorem dX0_hasCell_13 : decode cX0_hasCell 13 = .ok (.goto 4, 3) := by decide +kernel
theorem dX0_hasCell_16 : decode cX0_hasCell 16 = .ok (.iconst 0, 1) := by decide +kernel
theorem dX0_hasCell_17 : decode cX0_hasCell 17 = .ok (.ireturn, 1) := by decide +kernel
theorem dX0_lacks_0 : decode cX0_lacks 0 = .ok (.iload_n 1, 1) := by decide +kernel
theorem dX0_lacks_1 : decode cX0_lacks 1 = .ok (.ifCond .lt 25, 3) := by decide +kernel
theorem dX0_lacks_4 : decode cX0_lacks 4 = .ok (.iload_n 2, 1) := by decide +kernel
theorem dX0_lacks_5 : decode cX0_lacks 5 = .ok (.ifCond .lt 21, 3) := by decide +kernel
theorem dX0_lacks_8 : decode cX0_lacks 8 = .ok (.iload_n 1, 1) := by decide +kernel
theorem dX0_lacks_9 : decode cX0_lacks 9 = .ok (.aload_n 0, 1) := by decide +kernel
theorem dX0_lacks_10 : decode cX0_lacks 10 = .ok (.getfield 19, 3) := by decide +kernel
theorem dX0_lacks_13 : decode cX0_lacks 13 = .ok (.if_icmp .gt 13, 3) := by decide +kernel
theorem dX0_lacks_16 : decode cX0_lacks 16 = .ok (.iload_n 2, 1) := by decide +kernel
theorem dX0_lacks_17 : decode cX0_lacks 17 = .ok (.aload_n 0, 1) := by decide +kernel
theorem dX0_lacks_18 : decode cX0_lacks 18 = .ok (.getfield 19, 3) := by decide +kernel
theorem dX0_lacks_21 : decode cX0_lacks 21 = .ok (.iload_n 1, 1) := by decide +kernel
theorem dX0_lacks_22 : decode cX0_lacks 22 = .ok (.isub, 1) := by decide +kernel
theorem dX0_lacks_23 : decode cX0_lacks 23 = .ok (.if_icmp .le 7, 3) := by decide +kernel
theorem dX0_lacks_26 : decode cX0_lacks 26 = .ok (.iconst 1, 1) := by decide +kernel
theorem dX0_lacks_27 : decode cX0_lacks 27 = .ok (.goto 4, 3) := by decide +kernel
theorem dX0_lacks_30 : decode cX0_lacks 30 = .ok (.iconst 0, 1) := by decide +kernel
theorem dX0_lacks_31 : decode cX0_lacks 31 = .ok (.ireturn, 1) := by decide +kernel
theorem dX0_cutToLane_0 : decode cX0_cutToLane 0 = .ok (.aload_n 0, 1) := by decide +kernel
theorem dX0_cutToLane_1 : decode cX0_cutToLane 1 = .ok (.getfield 15, 3) := by decide +kernel
theorem dX0_cutToLane_4 : decode cX0_cutToLane 4 = .ok (.lookupswitch 34 #[(0, 28), (1, 31)], 28) := by decide +kernel
theorem dX0_cutToLane_32 : decode cX0_cutToLane 32 = .ok (.iload_n 1, 1) := by decide +kernel
theorem dX0_cutToLane_33 : decode cX0_cutToLane 33 = .ok (.i2b, 1) := by decide +kernel
theorem dX0_cutToLane_34 : decode cX0_cutToLane 34 = .ok (.ireturn, 1) := by decide +kernel
theorem dX0_cutToLane_35 : decode cX0_cutToLane 35 = .ok (.iload_n 1, 1) := by decide +kernel
theorem dX0_cutToLane_36 : decode cX0_cutToLane 36 = .ok (.i2s, 1) := by decide +kernel
theorem dX0_cutToLane_37 : decode cX0_cutToLane 37 = .ok (.ireturn, 1) := by decide +kernel
theorem dX0_cutToLane_38 : decode cX0_cutToLane 38 = .ok (.iload_n 1, 1) := by decide +kernel
theorem dX0_cutToLane_39 : decode cX0_cutToLane 39 = .ok (.ireturn, 1) := by decide +kernel
theorem dX1_init_0 : decode cX1_init 0 = .ok (.aload_n 0, 1) := by decide +kernel
theorem dX1_init_1 : decode cX1_init 1 = .ok (.invokespecial 3, 3) := by decide +kernel
theorem dX1_init_4 : decode cX1_init 4 = .ok (.aload_n 0, 1) := by decide +kernel
theorem dX1_init_5 : decode cX1_init 5 = .ok (.iconst 0, 1) := by decide +kernel
theorem dX1_init_6 : decode cX1_init 6 = .ok (.putfield 9, 3) := by decide +kernel
theorem dX1_init_9 : decode cX1_init 9 = .ok (.aload_n 0, 1) := by decide +kernel
theorem dX1_init_10 : decode cX1_init 10 = .ok (.iconst 0, 1) := by decide +kernel
theorem dX1_init_11 : decode cX1_init 11 = .ok (.putfield 15, 3) := by decide +kernel
theorem dX1_init_14 : decode cX1_init 14 = .ok (.aload_n 0, 1) := by decide +kernel
theorem dX1_init_15 : decode cX1_init 15 = .ok (.iconst 0, 1) := by decide +kernel
theorem dX1_init_16 : decode cX1_init 16 = .ok (.putfield 18, 3) := by decide +kernel
theorem dX1_init_19 : decode cX1_init 19 = .ok (.aload_n 0, 1) := by decide +kernel
theorem dX1_init_20 : decode cX1_init 20 = .ok (.iconst 0, 1) := by decide +kernel
theorem dX1_init_21 : decode cX1_init 21 = .ok (.putfield 21, 3) := by decide +kernel
theorem dX1_init_24 : decode cX1_init 24 = .ok (.aload_n 0, 1) := by decide +kernel
theorem dX1_init_25 : decode cX1_init 25 = .ok (.bipush 8, 2) := by decide +kernel
theorem dX1_init_27 : decode cX1_init 27 = .ok (.newarray .int, 2) := by decide +kernel
theorem dX1_init_29 : decode cX1_init 29 = .ok (.putfield 24, 3) := by decide +kernel
theorem dX1_init_32 : decode cX1_init 32 = .ok (.aload_n 0, 1) := by decide +kernel
theorem dX1_init_33 : decode cX1_init 33 = .ok (.bipush 8, 2) := by decide +kernel
theorem dX1_init_35 : decode cX1_init 35 = .ok (.newarray .int, 2) := by decide +kernel
theorem dX1_init_37 : decode cX1_init 37 = .ok (.putfield 28, 3) := by decide +kernel
theorem dX1_init_40 : decode cX1_init 40 = .ok (.aload_n 0, 1) := by decide +kernel
theorem dX1_init_41 : decode cX1_init 41 = .ok (.bipush 8, 2) := by decide +kernel
theorem dX1_init_43 : decode cX1_init 43 = .ok (.newarray .int, 2) := by decide +kernel
theorem dX1_init_45 : decode cX1_init 45 = .ok (.putfield 31, 3) := by decide +kernel
theorem dX1_init_48 : decode cX1_init 48 = .ok (.aload_n 0, 1) := by decide +kernel
theorem dX1_init_49 : decode cX1_init 49 = .ok (.bipush 8, 2) := by decide +kernel
theorem dX1_init_51 : decode cX1_init 51 = .ok (.newarray .int, 2) := by decide +kernel
theorem dX1_init_53 : decode cX1_init 53 = .ok (.putfield 34, 3) := by decide +kernel
theorem dX1_init_56 : decode cX1_init 56 = .ok (.aload_n 0, 1) := by decide +kernel
theorem dX1_init_57 : decode cX1_init 57 = .ok (.bipush 8, 2) := by decide +kernel
theorem dX1_init_59 : decode cX1_init 59 = .ok (.newarray .int, 2) := by decide +kernel
theorem dX1_init_61 : decode cX1_init 61 = .ok (.putfield 37, 3) := by decide +kernel
theorem dX1_init_64 : decode cX1_init 64 = .ok (.aload_n 0, 1) := by decide +kernel
theorem dX1_init_65 : decode cX1_init 65 = .ok (.bipush 8, 2) := by decide +kernel
theorem dX1_init_67 : decode cX1_init 67 = .ok (.newarray .int, 2) := by decide +kernel
theorem dX1_init_69 : decode cX1_init 69 = .ok (.putfield 40, 3) := by decide +kernel
theorem dX1_init_72 : decode cX1_init 72 = .ok (.aload_n 0, 1) := by decide +kernel
theorem dX1_init_73 : decode cX1_init 73 = .ok (.bipush 8, 2) := by decide +kernel
theorem dX1_init_75 : decode cX1_init 75 = .ok (.newarray .int, 2) := by decide +kernel
theorem dX1_init_77 : decode cX1_init 77 = .ok (.putfield 43, 3) := by decide +kernel
theorem dX1_init_80 : decode cX1_init 80 = .ok (.return_, 1) := by decide +kernel
theorem dX1_beginByText_0 : decode cX1_beginByText 0 = .ok (.aload_n 0, 1) := by decide +kernel
theorem dX1_beginByText_1 : decode cX1_beginByText 1 = .ok (.aload_n 1, 1) := by decide +kernel
theorem dX1_beginByText_2 : decode cX1_beginByText 2 = .ok (.iload_n 2, 1) := by decide +kernel
theorem dX1_beginByText_3 : decode cX1_beginByText 3 = .ok (.iconst 1, 1) := by decide +kernel
theorem dX1_beginByText_4 : decode cX1_beginByText 4 = .ok (.iadd, 1) := by decide +kernel
theorem dX1_beginByText_5 : decode cX1_beginByText 5 = .ok (.iaload, 1) := by decide +kernel
theorem dX1_beginByText_6 : decode cX1_beginByText 6 = .ok (.bipush 48, 2) := by decide +kernel
theorem dX1_beginByText_8 : decode cX1_beginByText 8 = .ok (.isub, 1) := by decide +kernel
theorem dX1_beginByText_9 : decode cX1_beginByText 9 = .ok (.bipush 10, 2) := by decide +kernel
theorem dX1_beginByText_11 : decode cX1_beginByText 11 = .ok (.imul, 1) := by decide +kernel
theorem dX1_beginByText_12 : decode cX1_beginByText 12 = .ok (.aload_n 1, 1) := by decide +kernel
theorem dX1_beginByText_13 : decode cX1_beginByText 13 = .ok (.iload_n 2, 1) := by decide +kernel
theorem dX1_beginByText_14 : decode cX1_beginByText 14 = .ok (.iconst 2, 1) := by decide +kernel
theorem dX1_beginByText_15 : decode cX1_beginByText 15 = .ok (.iadd, 1) := by decide +kernel
theorem dX1_beginByText_16 : decode cX1_beginByText 16 = .ok (.iaload, 1) := by decide +kernel
theorem dX1_beginByText_17 : decode cX1_beginByText 17 = .ok (.iadd, 1) := by decide +kernel
theorem dX1_beginByText_18 : decode cX1_beginByText 18 = .ok (.bipush 48, 2) := by decide +kernel
theorem dX1_beginByText_20 : decode cX1_beginByText 20 = .ok (.isub, 1) := by decide +kernel
theorem dX1_beginByText_21 : decode cX1_beginByText 21 = .ok (.putfield 15, 3) := by decide +kernel
theorem dX1_beginByText_24 : decode cX1_beginByText 24 = .ok (.aload_n 0, 1) := by decide +kernel
theorem dX1_beginByText_25 : decode cX1_beginByText 25 = .ok (.iconst 0, 1) := by decide +kernel
theorem dX1_beginByText_26 : decode cX1_beginByText 26 = .ok (.putfield 18, 3) := by decide +kernel
theorem dX1_beginByText_29 : decode cX1_beginByText 29 = .ok (.aload_n 0, 1) := by decide +kernel
theorem dX1_beginByText_30 : decode cX1_beginByText 30 = .ok (.iload_n 3, 1) := by decide +kernel
theorem dX1_beginByText_31 : decode cX1_beginByText 31 = .ok (.iconst 3, 1) := by decide +kernel
theorem dX1_beginByText_32 : decode cX1_beginByText 32 = .ok (.isub, 1) := by decide +kernel
theorem dX1_beginByText_33 : decode cX1_beginByText 33 = .ok (.iconst 4, 1) := by decide +kernel
theorem dX1_beginByText_34 : decode cX1_beginByText 34 = .ok (.idiv, 1) := by decide +kernel
theorem dX1_beginByText_35 : decode cX1_beginByText 35 = .ok (.bipush 8, 2) := by decide +kernel
theorem dX1_beginByText_37 : decode cX1_beginByText 37 = .ok (.invokestatic 46, 3) := by decide +kernel
theorem dX1_beginByText_40 : decode cX1_beginByText 40 = .ok (.putfield 9, 3) := by decide +kernel
theorem dX1_beginByText_43 : decode cX1_beginByText 43 = .ok (.iconst 0, 1) := by decide +kernel
theorem dX1_beginByText_44 : decode cX1_beginByText 44 = .ok (.istore 4, 2) := by decide +kernel
theorem dX1_beginByText_46 : decode cX1_beginByText 46 = .ok (.iload 4, 2) := by decide +kernel
theorem dX1_beginByText_48 : decode cX1_beginByText 48 = .ok (.aload_n 0, 1) := by decide +kernel
theorem dX1_beginByText_49 : decode cX1_beginByText 49 = .ok (.getfield 9, 3) := by decide +kernel
theorem dX1_beginByText_52 : decode cX1_beginByText 52 = .ok (.if_icmp .ge 75, 3) := by decide +kernel
theorem dX1_beginByText_55 : decode cX1_beginByText 55 = .ok (.iload_n 2, 1) := by decide +kernel
theorem dX1_beginByText_56 : decode cX1_beginByText 56 = .ok (.iconst 3, 1) := by decide +kernel
theorem dX1_beginByText_57 : decode cX1_beginByText 57 = .ok (.iadd, 1) := by decide +kernel
theorem dX1_beginByText_58 : decode cX1_beginByText 58 = .ok (.iconst 4, 1) := by decide +kernel
theorem dX1_beginByText_59 : decode cX1_beginByText 59 = .ok (.iload 4, 2) := by decide +kernel
theorem dX1_beginByText_61 : decode cX1_beginByText 61 = .ok (.imul, 1) := by decide +kernel
theorem dX1_beginByText_62 : decode cX1_beginByText 62 = .ok (.iadd, 1) := by decide +kernel
theorem dX1_beginByText_63 : decode cX1_beginByText 63 = .ok (.istore 5, 2) := by decide +kernel
theorem dX1_beginByText_65 : decode cX1_beginByText 65 = .ok (.aload_n 0, 1) := by decide +kernel
theorem dX1_beginByText_66 : decode cX1_beginByText 66 = .ok (.getfield 24, 3) := by decide +kernel
theorem dX1_beginByText_69 : decode cX1_beginByText 69 = .ok (.iload 4, 2) := by decide +kernel
theorem dX1_beginByText_71 : decode cX1_beginByText 71 = .ok (.aload_n 1, 1) := by decide +kernel
theorem dX1_beginByText_72 : decode cX1_beginByText 72 = .ok (.iload 5, 2) := by decide +kernel
theorem dX1_beginByText_74 : decode cX1_beginByText 74 = .ok (.iconst 1, 1) := by decide +kernel
theorem dX1_beginByText_75 : decode cX1_beginByText 75 = .ok (.iadd, 1) := by decide +kernel
theorem dX1_beginByText_76 : decode cX1_beginByText 76 = .ok (.iaload, 1) := by decide +kernel
theorem dX1_beginByText_77 : decode cX1_beginByText 77 = .ok (.invokestatic 52, 3) := by decide +kernel
theorem dX1_beginByText_80 : decode cX1_beginByText 80 = .ok (.iastore, 1) := by decide +kernel
theorem dX1_beginByText_81 : decode cX1_beginByText 81 = .ok (.aload_n 0, 1) := by decide +kernel
theorem dX1_beginByText_82 : decode cX1_beginByText 82 = .ok (.getfield 28, 3) := by decide +kernel
theorem dX1_beginByText_85 : decode cX1_beginByText 85 = .ok (.iload 4, 2) := by decide +kernel
theorem dX1_beginByText_87 : decode cX1_beginByText 87 = .ok (.aload_n 1, 1) := by decide +kernel
theorem dX1_beginByText_88 : decode cX1_beginByText 88 = .ok (.iload 5, 2) := by decide +kernel
theorem dX1_beginByText_90 : decode cX1_beginByText 90 = .ok (.iconst 2, 1) := by decide +kernel
theorem dX1_beginByText_91 : decode cX1_beginByText 91 = .ok (.iadd, 1) := by decide +kernel
theorem dX1_beginByText_92 : decode cX1_beginByText 92 = .ok (.iaload, 1) := by decide +kernel
theorem dX1_beginByText_93 : decode cX1_beginByText 93 = .ok (.bipush 48, 2) := by decide +kernel
theorem dX1_beginByText_95 : decode cX1_beginByText 95 = .ok (.isub, 1) := by decide +kernel
theorem dX1_beginByText_96 : decode cX1_beginByText 96 = .ok (.iastore, 1) := by decide +kernel
theorem dX1_beginByText_97 : decode cX1_beginByText 97 = .ok (.aload_n 0, 1) := by decide +kernel
theorem dX1_beginByText_98 : decode cX1_beginByText 98 = .ok (.getfield 31, 3) := by decide +kernel
theorem dX1_beginByText_101 : decode cX1_beginByText 101 = .ok (.iload 4, 2) := by decide +kernel
theorem dX1_beginByText_103 : decode cX1_beginByText 103 = .ok (.aload_n 1, 1) := by decide +kernel
theorem dX1_beginByText_104 : decode cX1_beginByText 104 = .ok (.iload 5, 2) := by decide +kernel
theorem dX1_beginByText_106 : decode cX1_beginByText 106 = .ok (.iconst 3, 1) := by decide +kernel
theorem dX1_beginByText_107 : decode cX1_beginByText 107 = .ok (.iadd, 1) := by decide +kernel
theorem dX1_beginByText_108 : decode cX1_beginByText 108 = .ok (.iaload, 1) := by decide +kernel
theorem dX1_beginByText_109 : decode cX1_beginByText 109 = .ok (.bipush 48, 2) := by decide +kernel
theorem dX1_beginByText_111 : decode cX1_beginByText 111 = .ok (.isub, 1) := by decide +kernel
theorem dX1_beginByText_112 : decode cX1_beginByText 112 = .ok (.iastore, 1) := by decide +kernel
theorem dX1_beginByText_113 : decode cX1_beginByText 113 = .ok (.aload_n 0, 1) := by decide +kernel
theorem dX1_beginByText_114 : decode cX1_beginByText 114 = .ok (.getfield 34, 3) := by decide +kernel
theorem dX1_beginByText_117 : decode cX1_beginByText 117 = .ok (.iload 4, 2) := by decide +kernel
theorem dX1_beginByText_119 : decode cX1_beginByText 119 = .ok (.iconst 0, 1) := by decide +kernel
theorem dX1_beginByText_120 : decode cX1_beginByText 120 = .ok (.iastore, 1) := by decide +kernel
theorem dX1_beginByText_121 : decode cX1_beginByText 121 = .ok (.iinc 4 1, 3) := by decide +kernel
theorem dX1_beginByText_124 : decode cX1_beginByText 124 = .ok (.goto (-78), 3) := by decide +kernel
theorem dX1_beginByText_127 : decode cX1_beginByText 127 = .ok (.return_, 1) := by decide +kernel
theorem dX1_becomeLike_0 : decode cX1_becomeLike 0 = .ok (.aload_n 0, 1) := by decide +kernel
theorem dX1_becomeLike_1 : decode cX1_becomeLike 1 = .ok (.aload_n 1, 1) := by decide +kernel
theorem dX1_becomeLike_2 : decode cX1_becomeLike 2 = .ok (.getfield 9, 3) := by decide +kernel
theorem dX1_becomeLike_5 : decode cX1_becomeLike 5 = .ok (.putfield 9, 3) := by decide +kernel
theorem dX1_becomeLike_8 : decode cX1_becomeLike 8 = .ok (.aload_n 0, 1) := by decide +kernel
theorem dX1_becomeLike_9 : decode cX1_becomeLike 9 = .ok (.aload_n 1, 1) := by decide +kernel
theorem dX1_becomeLike_10 : decode cX1_becomeLike 10 = .ok (.getfield 15, 3) := by decide +kernel
theorem dX1_becomeLike_13 : decode cX1_becomeLike 13 = .ok (.putfield 15, 3) := by decide +kernel
theorem dX1_becomeLike_16 : decode cX1_becomeLike 16 = .ok (.aload_n 0, 1) := by decide +kernel
theorem dX1_becomeLike_17 : decode cX1_becomeLike 17 = .ok (.aload_n 1, 1) := by decide +kernel
theorem dX1_becomeLike_18 : decode cX1_becomeLike 18 = .ok (.getfield 18, 3) := by decide +kernel
theorem dX1_becomeLike_21 : decode cX1_becomeLike 21 = .ok (.putfield 18, 3) := by decide +kernel
theorem dX1_becomeLike_24 : decode cX1_becomeLike 24 = .ok (.aload_n 0, 1) := by decide +kernel
theorem dX1_becomeLike_25 : decode cX1_becomeLike 25 = .ok (.iconst 0, 1) := by decide +kernel
theorem dX1_becomeLike_26 : decode cX1_becomeLike 26 = .ok (.putfield 21, 3) := by decide +kernel
theorem dX1_becomeLike_29 : decode cX1_becomeLike 29 = .ok (.iconst 0, 1) := by decide +kernel
theorem dX1_becomeLike_30 : decode cX1_becomeLike 30 = .ok (.istore_n 2, 1) := by decide +kernel
theorem dX1_becomeLike_31 : decode cX1_becomeLike 31 = .ok (.iload_n 2, 1) := by decide +kernel
theorem dX1_becomeLike_32 : decode cX1_becomeLike 32 = .ok (.aload_n 0, 1) := by decide +kernel
theorem dX1_becomeLike_33 : decode cX1_becomeLike 33 = .ok (.getfield 9, 3) := by decide +kernel
theorem dX1_becomeLike_36 : decode cX1_becomeLike 36 = .ok (.if_icmp .ge 57, 3) := by decide +kernel
theorem dX1_becomeLike_39 : decode cX1_becomeLike 39 = .ok (.aload_n 0, 1) := by decide +kernel
theorem dX1_becomeLike_40 : decode cX1_becomeLike 40 = .ok (.getfield 24, 3) := by decide +kernel
theorem dX1_becomeLike_43 : decode cX1_becomeLike 43 = .ok (.iload_n 2, 1) := by decide +kernel
theorem dX1_becomeLike_44 : decode cX1_becomeLike 44 = .ok (.aload_n 1, 1) := by decide +kernel
theorem dX1_becomeLike_45 : decode cX1_becomeLike 45 = .ok (.getfield 24, 3) := by decide +kernel
theorem dX1_becomeLike_48 : decode cX1_becomeLike 48 = .ok (.iload_n 2, 1) := by decide +kernel
theorem dX1_becomeLike_49 : decode cX1_becomeLike 49 = .ok (.iaload, 1) := by decide +kernel
theorem dX1_becomeLike_50 : decode cX1_becomeLike 50 = .ok (.iastore, 1) := by decide +kernel
theorem dX1_becomeLike_51 : decode cX1_becomeLike 51 = .ok (.aload_n 0, 1) := by decide +kernel
theorem dX1_becomeLike_52 : decode cX1_becomeLike 52 = .ok (.getfield 28, 3) := by decide +kernel
theorem dX1_becomeLike_55 : decode cX1_becomeLike 55 = .ok (.iload_n 2, 1) := by decide +kernel
theorem dX1_becomeLike_56 : decode cX1_becomeLike 56 = .ok (.aload_n 1, 1) := by decide +kernel
theorem dX1_becomeLike_57 : decode cX1_becomeLike 57 = .ok (.getfield 28, 3) := by decide +kernel
theorem dX1_becomeLike_60 : decode cX1_becomeLike 60 = .ok (.iload_n 2, 1) := by decide +kernel
theorem dX1_becomeLike_61 : decode cX1_becomeLike 61 = .ok (.iaload, 1) := by decide +kernel
theorem dX1_becomeLike_62 : decode cX1_becomeLike 62 = .ok (.iastore, 1) := by decide +kernel
theorem dX1_becomeLike_63 : decode cX1_becomeLike 63 = .ok (.aload_n 0, 1) := by decide +kernel
theorem dX1_becomeLike_64 : decode cX1_becomeLike 64 = .ok (.getfield 31, 3) := by decide +kernel
theorem dX1_becomeLike_67 : decode cX1_becomeLike 67 = .ok (.iload_n 2, 1) := by decide +kernel
theorem dX1_becomeLike_68 : decode cX1_becomeLike 68 = .ok (.aload_n 1, 1) := by decide +kernel
theorem dX1_becomeLike_69 : decode cX1_becomeLike 69 = .ok (.getfield 31, 3) := by decide +kernel
theorem dX1_becomeLike_72 : decode cX1_becomeLike 72 = .ok (.iload_n 2, 1) := by decide +kernel
theorem dX1_becomeLike_73 : decode cX1_becomeLike 73 = .ok (.iaload, 1) := by decide +kernel
theorem dX1_becomeLike_74 : decode cX1_becomeLike 74 = .ok (.iastore, 1) := by decide +kernel
theorem dX1_becomeLike_75 : decode cX1_becomeLike 75 = .ok (.aload_n 0, 1) := by decide +kernel
theorem dX1_becomeLike_76 : decode cX1_becomeLike 76 = .ok (.getfield 34, 3) := by decide +kernel
theorem dX1_becomeLike_79 : decode cX1_becomeLike 79 = .ok (.iload_n 2, 1) := by decide +kernel
theorem dX1_becomeLike_80 : decode cX1_becomeLike 80 = .ok (.aload_n 1, 1) := by decide +kernel
theorem dX1_becomeLike_81 : decode cX1_becomeLike 81 = .ok (.getfield 34, 3) := by decide +kernel
theorem dX1_becomeLike_84 : decode cX1_becomeLike 84 = .ok (.iload_n 2, 1) := by decide +kernel
theorem dX1_becomeLike_85 : decode cX1_becomeLike 85 = .ok (.iaload, 1) := by decide +kernel
theorem dX1_becomeLike_86 : decode cX1_becomeLike 86 = .ok (.iastore, 1) := by decide +kernel
theorem dX1_becomeLike_87 : decode cX1_becomeLike 87 = .ok (.iinc 2 1, 3) := by decide +kernel
theorem dX1_becomeLike_90 : decode cX1_becomeLike 90 = .ok (.goto (-59), 3) := by decide +kernel
theorem dX1_becomeLike_93 : decode cX1_becomeLike 93 = .ok (.return_, 1) := by decide +kernel
theorem dX1_treesOf_0 : decode cX1_treesOf 0 = .ok (.aload_n 0, 1) := by decide +kernel
theorem dX1_treesOf_1 : decode cX1_treesOf 1 = .ok (.getfield 34, 3) := by decide +kernel
theorem dX1_treesOf_4 : decode cX1_treesOf 4 = .ok (.iload_n 1, 1) := by decide +kernel
theorem dX1_treesOf_5 : decode cX1_treesOf 5 = .ok (.iaload, 1) := by decide +kernel
theorem dX1_treesOf_6 : decode cX1_treesOf 6 = .ok (.iconst 4, 1) := by decide +kernel
theorem dX1_treesOf_7 : decode cX1_treesOf 7 = .ok (.idiv, 1) := by decide +kernel
theorem dX1_treesOf_8 : decode cX1_treesOf 8 = .ok (.ireturn, 1) := by decide +kernel
theorem dX1_sourOf_0 : decode cX1_sourOf 0 = .ok (.aload_n 0, 1) := by decide +kernel
theorem dX1_sourOf_1 : decode cX1_sourOf 1 = .ok (.getfield 24, 3) := by decide +kernel
theorem dX1_sourOf_4 : decode cX1_sourOf 4 = .ok (.iload_n 1, 1) := by decide +kernel
theorem dX1_sourOf_5 : decode cX1_sourOf 5 = .ok (.iaload, 1) := by decide +kernel
theorem dX1_sourOf_6 : decode cX1_sourOf 6 = .ok (.lookupswitch 46 #[(1, 26), (2, 35)], 26) := by decide +kernel
theorem dX1_sourOf_32 : decode cX1_sourOf 32 = .ok (.aload_n 0, 1) := by decide +kernel
theorem dX1_sourOf_33 : decode cX1_sourOf 33 = .ok (.getfield 28, 3) := by decide +kernel
theorem dX1_sourOf_36 : decode cX1_sourOf 36 = .ok (.iload_n 1, 1) := by decide +kernel
theorem dX1_sourOf_37 : decode cX1_sourOf 37 = .ok (.iaload, 1) := by decide +kernel
theorem dX1_sourOf_38 : decode cX1_sourOf 38 = .ok (.iconst 1, 1) := by decide +kernel
theorem dX1_sourOf_39 : decode cX1_sourOf 39 = .ok (.iadd, 1) := by decide +kernel
theorem dX1_sourOf_40 : decode cX1_sourOf 40 = .ok (.ireturn, 1) := by decide +kernel
theorem dX1_sourOf_41 : decode cX1_sourOf 41 = .ok (.iconst 2, 1) := by decide +kernel
theorem dX1_sourOf_42 : decode cX1_sourOf 42 = .ok (.aload_n 0, 1) := by decide +kernel
theorem dX1_sourOf_43 : decode cX1_sourOf 43 = .ok (.getfield 28, 3) := by decide +kernel
theorem dX1_sourOf_46 : decode cX1_sourOf 46 = .ok (.iload_n 1, 1) := by decide +kernel
theorem dX1_sourOf_47 : decode cX1_sourOf 47 = .ok (.iaload, 1) := by decide +kernel
theorem dX1_sourOf_48 : decode cX1_sourOf 48 = .ok (.iconst 1, 1) := by decide +kernel
theorem dX1_sourOf_49 : decode cX1_sourOf 49 = .ok (.iadd, 1) := by decide +kernel
theorem dX1_sourOf_50 : decode cX1_sourOf 50 = .ok (.imul, 1) := by decide +kernel
theorem dX1_sourOf_51 : decode cX1_sourOf 51 = .ok (.ireturn, 1) := by decide +kernel
theorem dX1_sourOf_52 : decode cX1_sourOf 52 = .ok (.aload_n 0, 1) := by decide +kernel
theorem dX1_sourOf_53 : decode cX1_sourOf 53 = .ok (.getfield 28, 3) := by decide +kernel
theorem dX1_sourOf_56 : decode cX1_sourOf 56 = .ok (.iload_n 1, 1) := by decide +kernel
theorem dX1_sourOf_57 : decode cX1_sourOf 57 = .ok (.iaload, 1) := by decide +kernel
theorem dX1_sourOf_58 : decode cX1_sourOf 58 = .ok (.ireturn, 1) := by decide +kernel
theorem dX1_dealtTo_0 : decode cX1_dealtTo 0 = .ok (.aload_n 0, 1) := by decide +kernel
theorem dX1_dealtTo_1 : decode cX1_dealtTo 1 = .ok (.iload_n 2, 1) := by decide +kernel
theorem dX1_dealtTo_2 : decode cX1_dealtTo 2 = .ok (.invokevirtual 56, 3) := by decide +kernel
theorem dX1_dealtTo_5 : decode cX1_dealtTo 5 = .ok (.aload_n 0, 1) := by decide +kernel
theorem dX1_dealtTo_6 : decode cX1_dealtTo 6 = .ok (.getfield 40, 3) := by decide +kernel
theorem dX1_dealtTo_9 : decode cX1_dealtTo 9 = .ok (.iload_n 1, 1) := by decide +kernel
theorem dX1_dealtTo_10 : decode cX1_dealtTo 10 = .ok (.iaload, 1) := by decide +kernel
theorem dX1_dealtTo_11 : decode cX1_dealtTo 11 = .ok (.ireturn, 1) := by decide +kernel
theorem dX1_dealOut_0 : decode cX1_dealOut 0 = .ok (.iconst 0, 1) := by decide +kernel
theorem dX1_dealOut_1 : decode cX1_dealOut 1 = .ok (.istore_n 2, 1) := by decide +kernel
theorem dX1_dealOut_2 : decode cX1_dealOut 2 = .ok (.iconst 0, 1) := by decide +kernel
theorem dX1_dealOut_3 : decode cX1_dealOut 3 = .ok (.istore_n 3, 1) := by decide +kernel
theorem dX1_dealOut_4 : decode cX1_dealOut 4 = .ok (.iload_n 3, 1) := by decide +kernel
theorem dX1_dealOut_5 : decode cX1_dealOut 5 = .ok (.aload_n 0, 1) := by decide +kernel
theorem dX1_dealOut_6 : decode cX1_dealOut 6 = .ok (.getfield 9, 3) := by decide +kernel
theorem dX1_dealOut_9 : decode cX1_dealOut 9 = .ok (.if_icmp .ge 29, 3) := by decide +kernel
theorem dX1_dealOut_12 : decode cX1_dealOut 12 = .ok (.aload_n 0, 1) := by decide +kernel
theorem dX1_dealOut_13 : decode cX1_dealOut 13 = .ok (.getfield 37, 3) := by decide +kernel
theorem dX1_dealOut_16 : decode cX1_dealOut 16 = .ok (.iload_n 3, 1) := by decide +kernel
theorem dX1_dealOut_17 : decode cX1_dealOut 17 = .ok (.aload_n 0, 1) := by decide +kernel
theorem dX1_dealOut_18 : decode cX1_dealOut 18 = .ok (.iload_n 3, 1) := by decide +kernel
theorem dX1_dealOut_19 : decode cX1_dealOut 19 = .ok (.invokevirtual 60, 3) := by decide +kernel
theorem dX1_dealOut_22 : decode cX1_dealOut 22 = .ok (.iastore, 1) := by decide +kernel
theorem dX1_dealOut_23 : decode cX1_dealOut 23 = .ok (.iload_n 2, 1) := by decide +kernel
theorem dX1_dealOut_24 : decode cX1_dealOut 24 = .ok (.aload_n 0, 1) := by decide +kernel
theorem dX1_dealOut_25 : decode cX1_dealOut 25 = .ok (.getfield 37, 3) := by decide +kernel
theorem dX1_dealOut_28 : decode cX1_dealOut 28 = .ok (.iload_n 3, 1) := by decide +kernel
theorem dX1_dealOut_29 : decode cX1_dealOut 29 = .ok (.iaload, 1) := by decide +kernel
theorem dX1_dealOut_30 : decode cX1_dealOut 30 = .ok (.iadd, 1) := by decide +kernel
theorem dX1_dealOut_31 : decode cX1_dealOut 31 = .ok (.istore_n 2, 1) := by decide +kernel
theorem dX1_dealOut_32 : decode cX1_dealOut 32 = .ok (.iinc 3 1, 3) := by decide +kernel
theorem dX1_dealOut_35 : decode cX1_dealOut 35 = .ok (.goto (-31), 3) := by decide +kernel
theorem dX1_dealOut_38 : decode cX1_dealOut 38 = .ok (.iload_n 2, 1) := by decide +kernel
theorem dX1_dealOut_39 : decode cX1_dealOut 39 = .ok (.ifCond .le 7, 3) := by decide +kernel
theorem dX1_dealOut_42 : decode cX1_dealOut 42 = .ok (.iload_n 1, 1) := by decide +kernel
theorem dX1_dealOut_43 : decode cX1_dealOut 43 = .ok (.goto 4, 3) := by decide +kernel
theorem dX1_dealOut_46 : decode cX1_dealOut 46 = .ok (.iconst 0, 1) := by decide +kernel
theorem dX1_dealOut_47 : decode cX1_dealOut 47 = .ok (.istore_n 3, 1) := by decide +kernel
theorem dX1_dealOut_48 : decode cX1_dealOut 48 = .ok (.iconst 0, 1) := by decide +kernel
theorem dX1_dealOut_49 : decode cX1_dealOut 49 = .ok (.istore 4, 2) := by decide +kernel
theorem dX1_dealOut_51 : decode cX1_dealOut 51 = .ok (.iload 4, 2) := by decide +kernel
theorem dX1_dealOut_53 : decode cX1_dealOut 53 = .ok (.aload_n 0, 1) := by decide +kernel
theorem dX1_dealOut_54 : decode cX1_dealOut 54 = .ok (.getfield 9, 3) := by decide +kernel
theorem dX1_dealOut_57 : decode cX1_dealOut 57 = .ok (.if_icmp .ge 71, 3) := by decide +kernel
theorem dX1_dealOut_60 : decode cX1_dealOut 60 = .ok (.aload_n 0, 1) := by decide +kernel
theorem dX1_dealOut_61 : decode cX1_dealOut 61 = .ok (.getfield 40, 3) := by decide +kernel
theorem dX1_dealOut_64 : decode cX1_dealOut 64 = .ok (.iload 4, 2) := by decide +kernel
theorem dX1_dealOut_66 : decode cX1_dealOut 66 = .ok (.iload_n 2, 1) := by decide +kernel
theorem dX1_dealOut_67 : decode cX1_dealOut 67 = .ok (.ifCond .le 17, 3) := by decide +kernel
theorem dX1_dealOut_70 : decode cX1_dealOut 70 = .ok (.iload_n 1, 1) := by decide +kernel
theorem dX1_dealOut_71 : decode cX1_dealOut 71 = .ok (.aload_n 0, 1) := by decide +kernel
theorem dX1_dealOut_72 : decode cX1_dealOut 72 = .ok (.getfield 37, 3) := by decide +kernel
theorem dX1_dealOut_75 : decode cX1_dealOut 75 = .ok (.iload 4, 2) := by decide +kernel
theorem dX1_dealOut_77 : decode cX1_dealOut 77 = .ok (.iaload, 1) := by decide +kernel
theorem dX1_dealOut_78 : decode cX1_dealOut 78 = .ok (.imul, 1) := by decide +kernel
theorem dX1_dealOut_79 : decode cX1_dealOut 79 = .ok (.iload_n 2, 1) := by decide +kernel
theorem dX1_dealOut_80 : decode cX1_dealOut 80 = .ok (.idiv, 1) := by decide +kernel
theorem dX1_dealOut_81 : decode cX1_dealOut 81 = .ok (.goto 4, 3) := by decide +kernel
theorem dX1_dealOut_84 : decode cX1_dealOut 84 = .ok (.iconst 0, 1) := by decide +kernel
theorem dX1_dealOut_85 : decode cX1_dealOut 85 = .ok (.iastore, 1) := by decide +kernel
theorem dX1_dealOut_86 : decode cX1_dealOut 86 = .ok (.aload_n 0, 1) := by decide +kernel
theorem dX1_dealOut_87 : decode cX1_dealOut 87 = .ok (.getfield 43, 3) := by decide +kernel
theorem dX1_dealOut_90 : decode cX1_dealOut 90 = .ok (.iload 4, 2) := by decide +kernel
theorem dX1_dealOut_92 : decode cX1_dealOut 92 = .ok (.iload_n 2, 1) := by decide +kernel
theorem dX1_dealOut_93 : decode cX1_dealOut 93 = .ok (.ifCond .le 17, 3) := by decide +kernel
theorem dX1_dealOut_96 : decode cX1_dealOut 96 = .ok (.iload_n 1, 1) := by decide +kernel
theorem dX1_dealOut_97 : decode cX1_dealOut 97 = .ok (.aload_n 0, 1) := by decide +kernel
theorem dX1_dealOut_98 : decode cX1_dealOut 98 = .ok (.getfield 37, 3) := by decide +kernel
theorem dX1_dealOut_101 : decode cX1_dealOut 101 = .ok (.iload 4, 2) := by decide +kernel
theorem dX1_dealOut_103 : decode cX1_dealOut 103 = .ok (.iaload, 1) := by decide +kernel
theorem dX1_dealOut_104 : decode cX1_dealOut 104 = .ok (.imul, 1) := by decide +kernel
theorem dX1_dealOut_105 : decode cX1_dealOut 105 = .ok (.iload_n 2, 1) := by decide +kernel
theorem dX1_dealOut_106 : decode cX1_dealOut 106 = .ok (.irem, 1) := by decide +kernel
theorem dX1_dealOut_107 : decode cX1_dealOut 107 = .ok (.goto 4, 3) := by decide +kernel
theorem dX1_dealOut_110 : decode cX1_dealOut 110 = .ok (.iconst 0, 1) := by decide +kernel
theorem dX1_dealOut_111 : decode cX1_dealOut 111 = .ok (.iastore, 1) := by decide +kernel
theorem dX1_dealOut_112 : decode cX1_dealOut 112 = .ok (.iload_n 3, 1) := by decide +kernel
theorem dX1_dealOut_113 : decode cX1_dealOut 113 = .ok (.aload_n 0, 1) := by decide +kernel
theorem dX1_dealOut_114 : decode cX1_dealOut 114 = .ok (.getfield 40, 3) := by decide +kernel
theorem dX1_dealOut_117 : decode cX1_dealOut 117 = .ok (.iload 4, 2) := by decide +kernel
theorem dX1_dealOut_119 : decode cX1_dealOut 119 = .ok (.iaload, 1) := by decide +kernel
theorem dX1_dealOut_120 : decode cX1_dealOut 120 = .ok (.isub, 1) := by decide +kernel
theorem dX1_dealOut_121 : decode cX1_dealOut 121 = .ok (.istore_n 3, 1) := by decide +kernel
theorem dX1_dealOut_122 : decode cX1_dealOut 122 = .ok (.iinc 4 1, 3) := by decide +kernel
theorem dX1_dealOut_125 : decode cX1_dealOut 125 = .ok (.goto (-74), 3) := by decide +kernel
theorem dX1_dealOut_128 : decode cX1_dealOut 128 = .ok (.iconst 0, 1) := by decide +kernel
theorem dX1_dealOut_129 : decode cX1_dealOut 129 = .ok (.istore 4, 2) := by decide +kernel
theorem dX1_dealOut_131 : decode cX1_dealOut 131 = .ok (.iload 4, 2) := by decide +kernel
theorem dX1_dealOut_133 : decode cX1_dealOut 133 = .ok (.aload_n 0, 1) := by decide +kernel
theorem dX1_dealOut_134 : decode cX1_dealOut 134 = .ok (.getfield 9, 3) := by decide +kernel
theorem dX1_dealOut_137 : decode cX1_dealOut 137 = .ok (.if_icmp .ge 30, 3) := by decide +kernel
theorem dX1_dealOut_140 : decode cX1_dealOut 140 = .ok (.aload_n 0, 1) := by decide +kernel
theorem dX1_dealOut_141 : decode cX1_dealOut 141 = .ok (.iload 4, 2) := by decide +kernel
theorem dX1_dealOut_143 : decode cX1_dealOut 143 = .ok (.invokevirtual 63, 3) := by decide +kernel
theorem dX1_dealOut_146 : decode cX1_dealOut 146 = .ok (.iload_n 3, 1) := by decide +kernel
theorem dX1_dealOut_147 : decode cX1_dealOut 147 = .ok (.if_icmp .ge 14, 3) := by decide +kernel
theorem dX1_dealOut_150 : decode cX1_dealOut 150 = .ok (.aload_n 0, 1) := by decide +kernel
theorem dX1_dealOut_151 : decode cX1_dealOut 151 = .ok (.getfield 40, 3) := by decide +kernel
theorem dX1_dealOut_154 : decode cX1_dealOut 154 = .ok (.iload 4, 2) := by decide +kernel
theorem dX1_dealOut_156 : decode cX1_dealOut 156 = .ok (.dup2, 1) := by decide +kernel
theorem dX1_dealOut_157 : decode cX1_dealOut 157 = .ok (.iaload, 1) := by decide +kernel
theorem dX1_dealOut_158 : decode cX1_dealOut 158 = .ok (.iconst 1, 1) := by decide +kernel
theorem dX1_dealOut_159 : decode cX1_dealOut 159 = .ok (.iadd, 1) := by decide +kernel
theorem dX1_dealOut_160 : decode cX1_dealOut 160 = .ok (.iastore, 1) := by decide +kernel
theorem dX1_dealOut_161 : decode cX1_dealOut 161 = .ok (.iinc 4 1, 3) := by decide +kernel
theorem dX1_dealOut_164 : decode cX1_dealOut 164 = .ok (.goto (-33), 3) := by decide +kernel
theorem dX1_dealOut_167 : decode cX1_dealOut 167 = .ok (.return_, 1) := by decide +kernel
theorem dX1_aheadByRemainder_0 : decode cX1_aheadByRemainder 0 = .ok (.iconst 0, 1) := by decide +kernel
theorem dX1_aheadByRemainder_1 : decode cX1_aheadByRemainder 1 = .ok (.istore_n 2, 1) := by decide +kernel
theorem dX1_aheadByRemainder_2 : decode cX1_aheadByRemainder 2 = .ok (.iconst 0, 1) := by decide +kernel
theorem dX1_aheadByRemainder_3 : decode cX1_aheadByRemainder 3 = .ok (.istore_n 3, 1) := by decide +kernel
theorem dX1_aheadByRemainder_4 : decode cX1_aheadByRemainder 4 = .ok (.iload_n 3, 1) := by decide +kernel
theorem dX1_aheadByRemainder_5 : decode cX1_aheadByRemainder 5 = .ok (.aload_n 0, 1) := by decide +kernel
theorem dX1_aheadByRemainder_6 : decode cX1_aheadByRemainder 6 = .ok (.getfield 9, 3) := by decide +kernel
theorem dX1_aheadByRemainder_9 : decode cX1_aheadByRemainder 9 = .ok (.if_icmp .ge 47, 3) := by decide +kernel
theorem dX1_aheadByRemainder_12 : decode cX1_aheadByRemainder 12 = .ok (.aload_n 0, 1) := by decide +kernel
theorem dX1_aheadByRemainder_13 : decode cX1_aheadByRemainder 13 = .ok (.getfield 43, 3) := by decide +kernel
theorem dX1_aheadByRemainder_16 : decode cX1_aheadByRemainder 16 = .ok (.iload_n 3, 1) := by decide +kernel
theorem dX1_aheadByRemainder_17 : decode cX1_aheadByRemainder 17 = .ok (.iaload, 1) := by decide +kernel
theorem dX1_aheadByRemainder_18 : decode cX1_aheadByRemainder 18 = .ok (.aload_n 0, 1) := by decide +kernel
theorem dX1_aheadByRemainder_19 : decode cX1_aheadByRemainder 19 = .ok (.getfield 43, 3) := by decide +kernel
theorem dX1_aheadByRemainder_22 : decode cX1_aheadByRemainder 22 = .ok (.iload_n 1, 1) := by decide +kernel
theorem dX1_aheadByRemainder_23 : decode cX1_aheadByRemainder 23 = .ok (.iaload, 1) := by decide +kernel
theorem dX1_aheadByRemainder_24 : decode cX1_aheadByRemainder 24 = .ok (.if_icmp .gt 23, 3) := by decide +kernel
theorem dX1_aheadByRemainder_27 : decode cX1_aheadByRemainder 27 = .ok (.aload_n 0, 1) := by decide +kernel
theorem dX1_aheadByRemainder_28 : decode cX1_aheadByRemainder 28 = .ok (.getfield 43, 3) := by decide +kernel
theorem dX1_aheadByRemainder_31 : decode cX1_aheadByRemainder 31 = .ok (.iload_n 3, 1) := by decide +kernel
theorem dX1_aheadByRemainder_32 : decode cX1_aheadByRemainder 32 = .ok (.iaload, 1) := by decide +kernel
theorem dX1_aheadByRemainder_33 : decode cX1_aheadByRemainder 33 = .ok (.aload_n 0, 1) := by decide +kernel
theorem dX1_aheadByRemainder_34 : decode cX1_aheadByRemainder 34 = .ok (.getfield 43, 3) := by decide +kernel
theorem dX1_aheadByRemainder_37 : decode cX1_aheadByRemainder 37 = .ok (.iload_n 1, 1) := by decide +kernel
theorem dX1_aheadByRemainder_38 : decode cX1_aheadByRemainder 38 = .ok (.iaload, 1) := by decide +kernel
theorem dX1_aheadByRemainder_39 : decode cX1_aheadByRemainder 39 = .ok (.if_icmp .ne 11, 3) := by decide +kernel
theorem dX1_aheadByRemainder_42 : decode cX1_aheadByRemainder 42 = .ok (.iload_n 3, 1) := by decide +kernel
theorem dX1_aheadByRemainder_43 : decode cX1_aheadByRemainder 43 = .ok (.iload_n 1, 1) := by decide +kernel
theorem dX1_aheadByRemainder_44 : decode cX1_aheadByRemainder 44 = .ok (.if_icmp .ge 6, 3) := by decide +kernel
theorem dX1_aheadByRemainder_47 : decode cX1_aheadByRemainder 47 = .ok (.iinc 2 1, 3) := by decide +kernel
theorem dX1_aheadByRemainder_50 : decode cX1_aheadByRemainder 50 = .ok (.iinc 3 1, 3) := by decide +kernel
theorem dX1_aheadByRemainder_53 : decode cX1_aheadByRemainder 53 = .ok (.goto (-49), 3) := by decide +kernel
theorem dX1_aheadByRemainder_56 : decode cX1_aheadByRemainder 56 = .ok (.iload_n 2, 1) := by decide +kernel
theorem dX1_aheadByRemainder_57 : decode cX1_aheadByRemainder 57 = .ok (.ireturn, 1) := by decide +kernel
theorem dX1_dealOneByOne_0 : decode cX1_dealOneByOne 0 = .ok (.iconst 0, 1) := by decide +kernel
theorem dX1_dealOneByOne_1 : decode cX1_dealOneByOne 1 = .ok (.istore_n 2, 1) := by decide +kernel
theorem dX1_dealOneByOne_2 : decode cX1_dealOneByOne 2 = .ok (.iload_n 2, 1) := by decide +kernel
theorem dX1_dealOneByOne_3 : decode cX1_dealOneByOne 3 = .ok (.aload_n 0, 1) := by decide +kernel
theorem dX1_dealOneByOne_4 : decode cX1_dealOneByOne 4 = .ok (.getfield 9, 3) := by decide +kernel
theorem dX1_dealOneByOne_7 : decode cX1_dealOneByOne 7 = .ok (.if_icmp .ge 27, 3) := by decide +kernel
theorem dX1_dealOneByOne_10 : decode cX1_dealOneByOne 10 = .ok (.aload_n 0, 1) := by decide +kernel
theorem dX1_dealOneByOne_11 : decode cX1_dealOneByOne 11 = .ok (.getfield 37, 3) := by decide +kernel
theorem dX1_dealOneByOne_14 : decode cX1_dealOneByOne 14 = .ok (.iload_n 2, 1) := by decide +kernel
theorem dX1_dealOneByOne_15 : decode cX1_dealOneByOne 15 = .ok (.aload_n 0, 1) := by decide +kernel
theorem dX1_dealOneByOne_16 : decode cX1_dealOneByOne 16 = .ok (.iload_n 2, 1) := by decide +kernel
theorem dX1_dealOneByOne_17 : decode cX1_dealOneByOne 17 = .ok (.invokevirtual 60, 3) := by decide +kernel
theorem dX1_dealOneByOne_20 : decode cX1_dealOneByOne 20 = .ok (.iastore, 1) := by decide +kernel
theorem dX1_dealOneByOne_21 : decode cX1_dealOneByOne 21 = .ok (.aload_n 0, 1) := by decide +kernel
theorem dX1_dealOneByOne_22 : decode cX1_dealOneByOne 22 = .ok (.getfield 40, 3) := by decide +kernel
theorem dX1_dealOneByOne_25 : decode cX1_dealOneByOne 25 = .ok (.iload_n 2, 1) := by decide +kernel
theorem dX1_dealOneByOne_26 : decode cX1_dealOneByOne 26 = .ok (.iconst 0, 1) := by decide +kernel
theorem dX1_dealOneByOne_27 : decode cX1_dealOneByOne 27 = .ok (.iastore, 1) := by decide +kernel
theorem dX1_dealOneByOne_28 : decode cX1_dealOneByOne 28 = .ok (.iinc 2 1, 3) := by decide +kernel
theorem dX1_dealOneByOne_31 : decode cX1_dealOneByOne 31 = .ok (.goto (-29), 3) := by decide +kernel
theorem dX1_dealOneByOne_34 : decode cX1_dealOneByOne 34 = .ok (.iconst 0, 1) := by decide +kernel
theorem dX1_dealOneByOne_35 : decode cX1_dealOneByOne 35 = .ok (.istore_n 2, 1) := by decide +kernel
theorem dX1_dealOneByOne_36 : decode cX1_dealOneByOne 36 = .ok (.iload_n 2, 1) := by decide +kernel
theorem dX1_dealOneByOne_37 : decode cX1_dealOneByOne 37 = .ok (.iload_n 1, 1) := by decide +kernel
theorem dX1_dealOneByOne_38 : decode cX1_dealOneByOne 38 = .ok (.if_icmp .ge 30, 3) := by decide +kernel
theorem dX1_dealOneByOne_41 : decode cX1_dealOneByOne 41 = .ok (.aload_n 0, 1) := by decide +kernel
theorem dX1_dealOneByOne_42 : decode cX1_dealOneByOne 42 = .ok (.invokevirtual 66, 3) := by decide +kernel
theorem dX1_dealOneByOne_45 : decode cX1_dealOneByOne 45 = .ok (.istore_n 3, 1) := by decide +kernel
theorem dX1_dealOneByOne_46 : decode cX1_dealOneByOne 46 = .ok (.iload_n 3, 1) := by decide +kernel
theorem dX1_dealOneByOne_47 : decode cX1_dealOneByOne 47 = .ok (.bipush (-9), 2) := by decide +kernel
theorem dX1_dealOneByOne_49 : decode cX1_dealOneByOne 49 = .ok (.if_icmp .eq 13, 3) := by decide +kernel
theorem dX1_dealOneByOne_52 : decode cX1_dealOneByOne 52 = .ok (.aload_n 0, 1) := by decide +kernel
theorem dX1_dealOneByOne_53 : decode cX1_dealOneByOne 53 = .ok (.getfield 40, 3) := by decide +kernel
theorem dX1_dealOneByOne_56 : decode cX1_dealOneByOne 56 = .ok (.iload_n 3, 1) := by decide +kernel
theorem dX1_dealOneByOne_57 : decode cX1_dealOneByOne 57 = .ok (.dup2, 1) := by decide +kernel
theorem dX1_dealOneByOne_58 : decode cX1_dealOneByOne 58 = .ok (.iaload, 1) := by decide +kernel
theorem dX1_dealOneByOne_59 : decode cX1_dealOneByOne 59 = .ok (.iconst 1, 1) := by decide +kernel
theorem dX1_dealOneByOne_60 : decode cX1_dealOneByOne 60 = .ok (.iadd, 1) := by decide +kernel
theorem dX1_dealOneByOne_61 : decode cX1_dealOneByOne 61 = .ok (.iastore, 1) := by decide +kernel
theorem dX1_dealOneByOne_62 : decode cX1_dealOneByOne 62 = .ok (.iinc 2 1, 3) := by decide +kernel
theorem dX1_dealOneByOne_65 : decode cX1_dealOneByOne 65 = .ok (.goto (-29), 3) := by decide +kernel
theorem dX1_dealOneByOne_68 : decode cX1_dealOneByOne 68 = .ok (.return_, 1) := by decide +kernel
theorem dX1_nextOneByOne_0 : decode cX1_nextOneByOne 0 = .ok (.bipush (-9), 2) := by decide +kernel
theorem dX1_nextOneByOne_2 : decode cX1_nextOneByOne 2 = .ok (.istore_n 1, 1) := by decide +kernel
theorem dX1_nextOneByOne_3 : decode cX1_nextOneByOne 3 = .ok (.iconst 0, 1) := by decide +kernel
theorem dX1_nextOneByOne_4 : decode cX1_nextOneByOne 4 = .ok (.istore_n 2, 1) := by decide +kernel
theorem dX1_nextOneByOne_5 : decode cX1_nextOneByOne 5 = .ok (.iload_n 2, 1) := by decide +kernel
theorem dX1_nextOneByOne_6 : decode cX1_nextOneByOne 6 = .ok (.aload_n 0, 1) := by decide +kernel
theorem dX1_nextOneByOne_7 : decode cX1_nextOneByOne 7 = .ok (.getfield 9, 3) := by decide +kernel
theorem dX1_nextOneByOne_10 : decode cX1_nextOneByOne 10 = .ok (.if_icmp .ge 35, 3) := by decide +kernel
theorem dX1_nextOneByOne_13 : decode cX1_nextOneByOne 13 = .ok (.aload_n 0, 1) := by decide +kernel
theorem dX1_nextOneByOne_14 : decode cX1_nextOneByOne 14 = .ok (.getfield 37, 3) := by decide +kernel
theorem dX1_nextOneByOne_17 : decode cX1_nextOneByOne 17 = .ok (.iload_n 2, 1) := by decide +kernel
theorem dX1_nextOneByOne_18 : decode cX1_nextOneByOne 18 = .ok (.iaload, 1) := by decide +kernel
theorem dX1_nextOneByOne_19 : decode cX1_nextOneByOne 19 = .ok (.ifCond .le 20, 3) := by decide +kernel
theorem dX1_nextOneByOne_22 : decode cX1_nextOneByOne 22 = .ok (.iload_n 1, 1) := by decide +kernel
theorem dX1_nextOneByOne_23 : decode cX1_nextOneByOne 23 = .ok (.bipush (-9), 2) := by decide +kernel
theorem dX1_nextOneByOne_25 : decode cX1_nextOneByOne 25 = .ok (.if_icmp .eq 12, 3) := by decide +kernel
theorem dX1_nextOneByOne_28 : decode cX1_nextOneByOne 28 = .ok (.aload_n 0, 1) := by decide +kernel
theorem dX1_nextOneByOne_29 : decode cX1_nextOneByOne 29 = .ok (.iload_n 2, 1) := by decide +kernel
theorem dX1_nextOneByOne_30 : decode cX1_nextOneByOne 30 = .ok (.iload_n 1, 1) := by decide +kernel
theorem dX1_nextOneByOne_31 : decode cX1_nextOneByOne 31 = .ok (.invokevirtual 70, 3) := by decide +kernel
theorem dX1_nextOneByOne_34 : decode cX1_nextOneByOne 34 = .ok (.ifCond .eq 5, 3) := by decide +kernel
theorem dX1_nextOneByOne_37 : decode cX1_nextOneByOne 37 = .ok (.iload_n 2, 1) := by decide +kernel
theorem dX1_nextOneByOne_38 : decode cX1_nextOneByOne 38 = .ok (.istore_n 1, 1) := by decide +kernel
theorem dX1_nextOneByOne_39 : decode cX1_nextOneByOne 39 = .ok (.iinc 2 1, 3) := by decide +kernel
theorem dX1_nextOneByOne_42 : decode cX1_nextOneByOne 42 = .ok (.goto (-37), 3) := by decide +kernel
theorem dX1_nextOneByOne_45 : decode cX1_nextOneByOne 45 = .ok (.iload_n 1, 1) := by decide +kernel
theorem dX1_nextOneByOne_46 : decode cX1_nextOneByOne 46 = .ok (.ireturn, 1) := by decide +kernel
theorem dX1_isAheadOneByOne_0 : decode cX1_isAheadOneByOne 0 = .ok (.aload_n 0, 1) := by decide +kernel
theorem dX1_isAheadOneByOne_1 : decode cX1_isAheadOneByOne 1 = .ok (.getfield 37, 3) := by decide +kernel
theorem dX1_isAheadOneByOne_4 : decode cX1_isAheadOneByOne 4 = .ok (.iload_n 1, 1) := by decide +kernel
theorem dX1_isAheadOneByOne_5 : decode cX1_isAheadOneByOne 5 = .ok (.iaload, 1) := by decide +kernel
theorem dX1_isAheadOneByOne_6 : decode cX1_isAheadOneByOne 6 = .ok (.aload_n 0, 1) := by decide +kernel
theorem dX1_isAheadOneByOne_7 : decode cX1_isAheadOneByOne 7 = .ok (.getfield 40, 3) := by decide +kernel
theorem dX1_isAheadOneByOne_10 : decode cX1_isAheadOneByOne 10 = .ok (.iload_n 2, 1) := by decide +kernel
theorem dX1_isAheadOneByOne_11 : decode cX1_isAheadOneByOne 11 = .ok (.iaload, 1) := by decide +kernel
theorem dX1_isAheadOneByOne_12 : decode cX1_isAheadOneByOne 12 = .ok (.iconst 1, 1) := by decide +kernel
theorem dX1_isAheadOneByOne_13 : decode cX1_isAheadOneByOne 13 = .ok (.iadd, 1) := by decide +kernel
theorem dX1_isAheadOneByOne_14 : decode cX1_isAheadOneByOne 14 = .ok (.imul, 1) := by decide +kernel
theorem dX1_isAheadOneByOne_15 : decode cX1_isAheadOneByOne 15 = .ok (.aload_n 0, 1) := by decide +kernel
theorem dX1_isAheadOneByOne_16 : decode cX1_isAheadOneByOne 16 = .ok (.getfield 37, 3) := by decide +kernel
theorem dX1_isAheadOneByOne_19 : decode cX1_isAheadOneByOne 19 = .ok (.iload_n 2, 1) := by decide +kernel
theorem dX1_isAheadOneByOne_20 : decode cX1_isAheadOneByOne 20 = .ok (.iaload, 1) := by decide +kernel
theorem dX1_isAheadOneByOne_21 : decode cX1_isAheadOneByOne 21 = .ok (.aload_n 0, 1) := by decide +kernel
theorem dX1_isAheadOneByOne_22 : decode cX1_isAheadOneByOne 22 = .ok (.getfield 40, 3) := by decide +kernel
theorem dX1_isAheadOneByOne_25 : decode cX1_isAheadOneByOne 25 = .ok (.iload_n 1, 1) := by decide +kernel
theorem dX1_isAheadOneByOne_26 : decode cX1_isAheadOneByOne 26 = .ok (.iaload, 1) := by decide +kernel
theorem dX1_isAheadOneByOne_27 : decode cX1_isAheadOneByOne 27 = .ok (.iconst 1, 1) := by decide +kernel
theorem dX1_isAheadOneByOne_28 : decode cX1_isAheadOneByOne 28 = .ok (.iadd, 1) := by decide +kernel
theorem dX1_isAheadOneByOne_29 : decode cX1_isAheadOneByOne 29 = .ok (.imul, 1) := by decide +kernel
theorem dX1_isAheadOneByOne_30 : decode cX1_isAheadOneByOne 30 = .ok (.if_icmp .le 7, 3) := by decide +kernel
theorem dX1_isAheadOneByOne_33 : decode cX1_isAheadOneByOne 33 = .ok (.iconst 1, 1) := by decide +kernel
theorem dX1_isAheadOneByOne_34 : decode cX1_isAheadOneByOne 34 = .ok (.goto 4, 3) := by decide +kernel
theorem dX1_isAheadOneByOne_37 : decode cX1_isAheadOneByOne 37 = .ok (.iconst 0, 1) := by decide +kernel
theorem dX1_isAheadOneByOne_38 : decode cX1_isAheadOneByOne 38 = .ok (.ireturn, 1) := by decide +kernel
theorem dX1_passWeeks_0 : decode cX1_passWeeks 0 = .ok (.iconst 0, 1) := by decide +kernel
theorem dX1_passWeeks_1 : decode cX1_passWeeks 1 = .ok (.istore_n 2, 1) := by decide +kernel
theorem dX1_passWeeks_2 : decode cX1_passWeeks 2 = .ok (.iload_n 2, 1) := by decide +kernel
theorem dX1_passWeeks_3 : decode cX1_passWeeks 3 = .ok (.iload_n 1, 1) := by decide +kernel
theorem dX1_passWeeks_4 : decode cX1_passWeeks 4 = .ok (.if_icmp .ge 13, 3) := by decide +kernel
theorem dX1_passWeeks_7 : decode cX1_passWeeks 7 = .ok (.aload_n 0, 1) := by decide +kernel
theorem dX1_passWeeks_8 : decode cX1_passWeeks 8 = .ok (.invokevirtual 74, 3) := by decide +kernel
theorem dX1_passWeeks_11 : decode cX1_passWeeks 11 = .ok (.iinc 2 1, 3) := by decide +kernel
theorem dX1_passWeeks_14 : decode cX1_passWeeks 14 = .ok (.goto (-12), 3) := by decide +kernel
theorem dX1_passWeeks_17 : decode cX1_passWeeks 17 = .ok (.return_, 1) := by decide +kernel
theorem dX1_passWeek_0 : decode cX1_passWeek 0 = .ok (.aload_n 0, 1) := by decide +kernel
theorem dX1_passWeek_1 : decode cX1_passWeek 1 = .ok (.aload_n 0, 1) := by decide +kernel
theorem dX1_passWeek_2 : decode cX1_passWeek 2 = .ok (.getfield 15, 3) := by decide +kernel
theorem dX1_passWeek_5 : decode cX1_passWeek 5 = .ok (.invokevirtual 56, 3) := by decide +kernel
theorem dX1_passWeek_8 : decode cX1_passWeek 8 = .ok (.iconst 0, 1) := by decide +kernel
theorem dX1_passWeek_9 : decode cX1_passWeek 9 = .ok (.istore_n 1, 1) := by decide +kernel
theorem dX1_passWeek_10 : decode cX1_passWeek 10 = .ok (.iload_n 1, 1) := by decide +kernel
theorem dX1_passWeek_11 : decode cX1_passWeek 11 = .ok (.aload_n 0, 1) := by decide +kernel
theorem dX1_passWeek_12 : decode cX1_passWeek 12 = .ok (.getfield 9, 3) := by decide +kernel
theorem dX1_passWeek_15 : decode cX1_passWeek 15 = .ok (.if_icmp .ge 35, 3) := by decide +kernel
theorem dX1_passWeek_18 : decode cX1_passWeek 18 = .ok (.aload_n 0, 1) := by decide +kernel
theorem dX1_passWeek_19 : decode cX1_passWeek 19 = .ok (.getfield 31, 3) := by decide +kernel
theorem dX1_passWeek_22 : decode cX1_passWeek 22 = .ok (.iload_n 1, 1) := by decide +kernel
theorem dX1_passWeek_23 : decode cX1_passWeek 23 = .ok (.dup2, 1) := by decide +kernel
theorem dX1_passWeek_24 : decode cX1_passWeek 24 = .ok (.iaload, 1) := by decide +kernel
theorem dX1_passWeek_25 : decode cX1_passWeek 25 = .ok (.aload_n 0, 1) := by decide +kernel
theorem dX1_passWeek_26 : decode cX1_passWeek 26 = .ok (.getfield 40, 3) := by decide +kernel
theorem dX1_passWeek_29 : decode cX1_passWeek 29 = .ok (.iload_n 1, 1) := by decide +kernel
theorem dX1_passWeek_30 : decode cX1_passWeek 30 = .ok (.iaload, 1) := by decide +kernel
theorem dX1_passWeek_31 : decode cX1_passWeek 31 = .ok (.aload_n 0, 1) := by decide +kernel
theorem dX1_passWeek_32 : decode cX1_passWeek 32 = .ok (.iload_n 1, 1) := by decide +kernel
theorem dX1_passWeek_33 : decode cX1_passWeek 33 = .ok (.invokevirtual 77, 3) := by decide +kernel
theorem dX1_passWeek_36 : decode cX1_passWeek 36 = .ok (.iadd, 1) := by decide +kernel
theorem dX1_passWeek_37 : decode cX1_passWeek 37 = .ok (.iadd, 1) := by decide +kernel
theorem dX1_passWeek_38 : decode cX1_passWeek 38 = .ok (.iastore, 1) := by decide +kernel
theorem dX1_passWeek_39 : decode cX1_passWeek 39 = .ok (.aload_n 0, 1) := by decide +kernel
theorem dX1_passWeek_40 : decode cX1_passWeek 40 = .ok (.iload_n 1, 1) := by decide +kernel
theorem dX1_passWeek_41 : decode cX1_passWeek 41 = .ok (.invokevirtual 80, 3) := by decide +kernel
theorem dX1_passWeek_44 : decode cX1_passWeek 44 = .ok (.iinc 1 1, 3) := by decide +kernel
theorem dX1_passWeek_47 : decode cX1_passWeek 47 = .ok (.goto (-37), 3) := by decide +kernel
theorem dX1_passWeek_50 : decode cX1_passWeek 50 = .ok (.aload_n 0, 1) := by decide +kernel
theorem dX1_passWeek_51 : decode cX1_passWeek 51 = .ok (.dup, 1) := by decide +kernel
theorem dX1_passWeek_52 : decode cX1_passWeek 52 = .ok (.getfield 18, 3) := by decide +kernel
theorem dX1_passWeek_55 : decode cX1_passWeek 55 = .ok (.iconst 1, 1) := by decide +kernel
theorem dX1_passWeek_56 : decode cX1_passWeek 56 = .ok (.iadd, 1) := by decide +kernel
theorem dX1_passWeek_57 : decode cX1_passWeek 57 = .ok (.putfield 18, 3) := by decide +kernel
theorem dX1_passWeek_60 : decode cX1_passWeek 60 = .ok (.aload_n 0, 1) := by decide +kernel
theorem dX1_passWeek_61 : decode cX1_passWeek 61 = .ok (.invokevirtual 83, 3) := by decide +kernel
theorem dX1_passWeek_64 : decode cX1_passWeek 64 = .ok (.ifCond .le 13, 3) := by decide +kernel
theorem dX1_passWeek_67 : decode cX1_passWeek 67 = .ok (.aload_n 0, 1) := by decide +kernel
theorem dX1_passWeek_68 : decode cX1_passWeek 68 = .ok (.dup, 1) := by decide +kernel
theorem dX1_passWeek_69 : decode cX1_passWeek 69 = .ok (.getfield 21, 3) := by decide +kernel
theorem dX1_passWeek_72 : decode cX1_passWeek 72 = .ok (.iconst 1, 1) := by decide +kernel
theorem dX1_passWeek_73 : decode cX1_passWeek 73 = .ok (.iadd, 1) := by decide +kernel
theorem dX1_passWeek_74 : decode cX1_passWeek 74 = .ok (.putfield 21, 3) := by decide +kernel
theorem dX1_passWeek_77 : decode cX1_passWeek 77 = .ok (.return_, 1) := by decide +kernel
theorem dX1_suck_0 : decode cX1_suck 0 = .ok (.aload_n 0, 1) := by decide +kernel
theorem dX1_suck_1 : decode cX1_suck 1 = .ok (.getfield 31, 3) := by decide +kernel
theorem dX1_suck_4 : decode cX1_suck 4 = .ok (.iload_n 1, 1) := by decide +kernel
theorem dX1_suck_5 : decode cX1_suck 5 = .ok (.iaload, 1) := by decide +kernel
theorem dX1_suck_6 : decode cX1_suck 6 = .ok (.ifCond .le 44, 3) := by decide +kernel
theorem dX1_suck_9 : decode cX1_suck 9 = .ok (.aload_n 0, 1) := by decide +kernel
theorem dX1_suck_10 : decode cX1_suck 10 = .ok (.getfield 31, 3) := by decide +kernel
theorem dX1_suck_13 : decode cX1_suck 13 = .ok (.iload_n 1, 1) := by decide +kernel
theorem dX1_suck_14 : decode cX1_suck 14 = .ok (.dup2, 1) := by decide +kernel
theorem dX1_suck_15 : decode cX1_suck 15 = .ok (.iaload, 1) := by decide +kernel
theorem dX1_suck_16 : decode cX1_suck 16 = .ok (.iconst 1, 1) := by decide +kernel
theorem dX1_suck_17 : decode cX1_suck 17 = .ok (.isub, 1) := by decide +kernel
theorem dX1_suck_18 : decode cX1_suck 18 = .ok (.iastore, 1) := by decide +kernel
theorem dX1_suck_19 : decode cX1_suck 19 = .ok (.aload_n 0, 1) := by decide +kernel
theorem dX1_suck_20 : decode cX1_suck 20 = .ok (.getfield 28, 3) := by decide +kernel
theorem dX1_suck_23 : decode cX1_suck 23 = .ok (.iload_n 1, 1) := by decide +kernel
theorem dX1_suck_24 : decode cX1_suck 24 = .ok (.aload_n 0, 1) := by decide +kernel
theorem dX1_suck_25 : decode cX1_suck 25 = .ok (.getfield 28, 3) := by decide +kernel
theorem dX1_suck_28 : decode cX1_suck 28 = .ok (.iload_n 1, 1) := by decide +kernel
theorem dX1_suck_29 : decode cX1_suck 29 = .ok (.iaload, 1) := by decide +kernel
theorem dX1_suck_30 : decode cX1_suck 30 = .ok (.iconst 1, 1) := by decide +kernel
theorem dX1_suck_31 : decode cX1_suck 31 = .ok (.isub, 1) := by decide +kernel
theorem dX1_suck_32 : decode cX1_suck 32 = .ok (.iconst 0, 1) := by decide +kernel
theorem dX1_suck_33 : decode cX1_suck 33 = .ok (.invokestatic 86, 3) := by decide +kernel
theorem dX1_suck_36 : decode cX1_suck 36 = .ok (.iastore, 1) := by decide +kernel
theorem dX1_suck_37 : decode cX1_suck 37 = .ok (.aload_n 0, 1) := by decide +kernel
theorem dX1_suck_38 : decode cX1_suck 38 = .ok (.getfield 34, 3) := by decide +kernel
theorem dX1_suck_41 : decode cX1_suck 41 = .ok (.iload_n 1, 1) := by decide +kernel
theorem dX1_suck_42 : decode cX1_suck 42 = .ok (.dup2, 1) := by decide +kernel
theorem dX1_suck_43 : decode cX1_suck 43 = .ok (.iaload, 1) := by decide +kernel
theorem dX1_suck_44 : decode cX1_suck 44 = .ok (.iconst 1, 1) := by decide +kernel
theorem dX1_suck_45 : decode cX1_suck 45 = .ok (.iadd, 1) := by decide +kernel
theorem dX1_suck_46 : decode cX1_suck 46 = .ok (.iastore, 1) := by decide +kernel
theorem dX1_suck_47 : decode cX1_suck 47 = .ok (.goto 22, 3) := by decide +kernel
theorem dX1_suck_50 : decode cX1_suck 50 = .ok (.aload_n 0, 1) := by decide +kernel
theorem dX1_suck_51 : decode cX1_suck 51 = .ok (.getfield 28, 3) := by decide +kernel
theorem dX1_suck_54 : decode cX1_suck 54 = .ok (.iload_n 1, 1) := by decide +kernel
theorem dX1_suck_55 : decode cX1_suck 55 = .ok (.aload_n 0, 1) := by decide +kernel
theorem dX1_suck_56 : decode cX1_suck 56 = .ok (.getfield 28, 3) := by decide +kernel
theorem dX1_suck_59 : decode cX1_suck 59 = .ok (.iload_n 1, 1) := by decide +kernel
theorem dX1_suck_60 : decode cX1_suck 60 = .ok (.iaload, 1) := by decide +kernel
theorem dX1_suck_61 : decode cX1_suck 61 = .ok (.iconst 1, 1) := by decide +kernel
theorem dX1_suck_62 : decode cX1_suck 62 = .ok (.iadd, 1) := by decide +kernel
theorem dX1_suck_63 : decode cX1_suck 63 = .ok (.bipush 9, 2) := by decide +kernel
theorem dX1_suck_65 : decode cX1_suck 65 = .ok (.invokestatic 46, 3) := by decide +kernel
theorem dX1_suck_68 : decode cX1_suck 68 = .ok (.iastore, 1) := by decide +kernel
theorem dX1_suck_69 : decode cX1_suck 69 = .ok (.return_, 1) := by decide +kernel
theorem dX1_giveOneFrom_0 : decode cX1_giveOneFrom 0 = .ok (.aload_n 0, 1) := by decide +kernel
theorem dX1_giveOneFrom_1 : decode cX1_giveOneFrom 1 = .ok (.getfield 31, 3) := by decide +kernel
theorem dX1_giveOneFrom_4 : decode cX1_giveOneFrom 4 = .ok (.iload_n 1, 1) := by decide +kernel
theorem dX1_giveOneFrom_5 : decode cX1_giveOneFrom 5 = .ok (.iaload, 1) := by decide +kernel
theorem dX1_giveOneFrom_6 : decode cX1_giveOneFrom 6 = .ok (.ifCond .gt 5, 3) := by decide +kernel
theorem dX1_giveOneFrom_9 : decode cX1_giveOneFrom 9 = .ok (.iconst 0, 1) := by decide +kernel
theorem dX1_giveOneFrom_10 : decode cX1_giveOneFrom 10 = .ok (.ireturn, 1) := by decide +kernel
theorem dX1_giveOneFrom_11 : decode cX1_giveOneFrom 11 = .ok (.aload_n 0, 1) := by decide +kernel
theorem dX1_giveOneFrom_12 : decode cX1_giveOneFrom 12 = .ok (.getfield 31, 3) := by decide +kernel
theorem dX1_giveOneFrom_15 : decode cX1_giveOneFrom 15 = .ok (.iload_n 1, 1) := by decide +kernel
theorem dX1_giveOneFrom_16 : decode cX1_giveOneFrom 16 = .ok (.dup2, 1) := by decide +kernel
theorem dX1_giveOneFrom_17 : decode cX1_giveOneFrom 17 = .ok (.iaload, 1) := by decide +kernel
theorem dX1_giveOneFrom_18 : decode cX1_giveOneFrom 18 = .ok (.iconst 1, 1) := by decide +kernel
theorem dX1_giveOneFrom_19 : decode cX1_giveOneFrom 19 = .ok (.isub, 1) := by decide +kernel
theorem dX1_giveOneFrom_20 : decode cX1_giveOneFrom 20 = .ok (.iastore, 1) := by decide +kernel
theorem dX1_giveOneFrom_21 : decode cX1_giveOneFrom 21 = .ok (.aload_n 0, 1) := by decide +kernel
theorem dX1_giveOneFrom_22 : decode cX1_giveOneFrom 22 = .ok (.getfield 31, 3) := by decide +kernel
theorem dX1_giveOneFrom_25 : decode cX1_giveOneFrom 25 = .ok (.iload_n 1, 1) := by decide +kernel
theorem dX1_giveOneFrom_26 : decode cX1_giveOneFrom 26 = .ok (.iconst 1, 1) := by decide +kernel
theorem dX1_giveOneFrom_27 : decode cX1_giveOneFrom 27 = .ok (.iadd, 1) := by decide +kernel
theorem dX1_giveOneFrom_28 : decode cX1_giveOneFrom 28 = .ok (.aload_n 0, 1) := by decide +kernel
theorem dX1_giveOneFrom_29 : decode cX1_giveOneFrom 29 = .ok (.getfield 9, 3) := by decide +kernel
theorem dX1_giveOneFrom_32 : decode cX1_giveOneFrom 32 = .ok (.if_icmp .ge 9, 3) := by decide +kernel
theorem dX1_giveOneFrom_35 : decode cX1_giveOneFrom 35 = .ok (.iload_n 1, 1) := by decide +kernel
theorem dX1_giveOneFrom_36 : decode cX1_giveOneFrom 36 = .ok (.iconst 1, 1) := by decide +kernel
theorem dX1_giveOneFrom_37 : decode cX1_giveOneFrom 37 = .ok (.iadd, 1) := by decide +kernel
theorem dX1_giveOneFrom_38 : decode cX1_giveOneFrom 38 = .ok (.goto 4, 3) := by decide +kernel
theorem dX1_giveOneFrom_41 : decode cX1_giveOneFrom 41 = .ok (.iconst 0, 1) := by decide +kernel
theorem dX1_giveOneFrom_42 : decode cX1_giveOneFrom 42 = .ok (.dup2, 1) := by decide +kernel
theorem dX1_giveOneFrom_43 : decode cX1_giveOneFrom 43 = .ok (.iaload, 1) := by decide +kernel
theorem dX1_giveOneFrom_44 : decode cX1_giveOneFrom 44 = .ok (.iconst 1, 1) := by decide +kernel
theorem dX1_giveOneFrom_45 : decode cX1_giveOneFrom 45 = .ok (.iadd, 1) := by decide +kernel
theorem dX1_giveOneFrom_46 : decode cX1_giveOneFrom 46 = .ok (.iastore, 1) := by decide +kernel
theorem dX1_giveOneFrom_47 : decode cX1_giveOneFrom 47 = .ok (.iconst 1, 1) := by decide +kernel
theorem dX1_giveOneFrom_48 : decode cX1_giveOneFrom 48 = .ok (.ireturn, 1) := by decide +kernel
theorem dX1_withoutStock_0 : decode cX1_withoutStock 0 = .ok (.iconst 0, 1) := by decide +kernel
theorem dX1_withoutStock_1 : decode cX1_withoutStock 1 = .ok (.istore_n 1, 1) := by decide +kernel
theorem dX1_withoutStock_2 : decode cX1_withoutStock 2 = .ok (.iconst 0, 1) := by decide +kernel
theorem dX1_withoutStock_3 : decode cX1_withoutStock 3 = .ok (.istore_n 2, 1) := by decide +kernel
theorem dX1_withoutStock_4 : decode cX1_withoutStock 4 = .ok (.iload_n 2, 1) := by decide +kernel
theorem dX1_withoutStock_5 : decode cX1_withoutStock 5 = .ok (.aload_n 0, 1) := by decide +kernel
theorem dX1_withoutStock_6 : decode cX1_withoutStock 6 = .ok (.getfield 9, 3) := by decide +kernel
theorem dX1_withoutStock_9 : decode cX1_withoutStock 9 = .ok (.if_icmp .ge 21, 3) := by decide +kernel
theorem dX1_withoutStock_12 : decode cX1_withoutStock 12 = .ok (.aload_n 0, 1) := by decide +kernel
theorem dX1_withoutStock_13 : decode cX1_withoutStock 13 = .ok (.getfield 31, 3) := by decide +kernel
theorem dX1_withoutStock_16 : decode cX1_withoutStock 16 = .ok (.iload_n 2, 1) := by decide +kernel
theorem dX1_withoutStock_17 : decode cX1_withoutStock 17 = .ok (.iaload, 1) := by decide +kernel
theorem dX1_withoutStock_18 : decode cX1_withoutStock 18 = .ok (.ifCond .gt 6, 3) := by decide +kernel
theorem dX1_withoutStock_21 : decode cX1_withoutStock 21 = .ok (.iinc 1 1, 3) := by decide +kernel
theorem dX1_withoutStock_24 : decode cX1_withoutStock 24 = .ok (.iinc 2 1, 3) := by decide +kernel
theorem dX1_withoutStock_27 : decode cX1_withoutStock 27 = .ok (.goto (-23), 3) := by decide +kernel
theorem dX1_withoutStock_30 : decode cX1_withoutStock 30 = .ok (.iload_n 1, 1) := by decide +kernel
theorem dX1_withoutStock_31 : decode cX1_withoutStock 31 = .ok (.ireturn, 1) := by decide +kernel
theorem dX1_worstTemper_0 : decode cX1_worstTemper 0 = .ok (.iconst 0, 1) := by decide +kernel
theorem dX1_worstTemper_1 : decode cX1_worstTemper 1 = .ok (.istore_n 1, 1) := by decide +kernel
theorem dX1_worstTemper_2 : decode cX1_worstTemper 2 = .ok (.iconst 0, 1) := by decide +kernel
theorem dX1_worstTemper_3 : decode cX1_worstTemper 3 = .ok (.istore_n 2, 1) := by decide +kernel
theorem dX1_worstTemper_4 : decode cX1_worstTemper 4 = .ok (.iload_n 2, 1) := by decide +kernel
theorem dX1_worstTemper_5 : decode cX1_worstTemper 5 = .ok (.aload_n 0, 1) := by decide +kernel
theorem dX1_worstTemper_6 : decode cX1_worstTemper 6 = .ok (.getfield 9, 3) := by decide +kernel
theorem dX1_worstTemper_9 : decode cX1_worstTemper 9 = .ok (.if_icmp .ge 20, 3) := by decide +kernel
theorem dX1_worstTemper_12 : decode cX1_worstTemper 12 = .ok (.iload_n 1, 1) := by decide +kernel
theorem dX1_worstTemper_13 : decode cX1_worstTemper 13 = .ok (.aload_n 0, 1) := by decide +kernel
theorem dX1_worstTemper_14 : decode cX1_worstTemper 14 = .ok (.getfield 28, 3) := by decide +kernel
theorem dX1_worstTemper_17 : decode cX1_worstTemper 17 = .ok (.iload_n 2, 1) := by decide +kernel
theorem dX1_worstTemper_18 : decode cX1_worstTemper 18 = .ok (.iaload, 1) := by decide +kernel
theorem dX1_worstTemper_19 : decode cX1_worstTemper 19 = .ok (.invokestatic 86, 3) := by decide +kernel
theorem dX1_worstTemper_22 : decode cX1_worstTemper 22 = .ok (.istore_n 1, 1) := by decide +kernel
theorem dX1_worstTemper_23 : decode cX1_worstTemper 23 = .ok (.iinc 2 1, 3) := by decide +kernel
theorem dX1_worstTemper_26 : decode cX1_worstTemper 26 = .ok (.goto (-22), 3) := by decide +kernel
theorem dX1_worstTemper_29 : decode cX1_worstTemper 29 = .ok (.iload_n 1, 1) := by decide +kernel
theorem dX1_worstTemper_30 : decode cX1_worstTemper 30 = .ok (.ireturn, 1) := by decide +kernel
theorem dX1_sumOf_0 : decode cX1_sumOf 0 = .ok (.iconst 0, 1) := by decide +kernel
theorem dX1_sumOf_1 : decode cX1_sumOf 1 = .ok (.istore_n 2, 1) := by decide +kernel
theorem dX1_sumOf_2 : decode cX1_sumOf 2 = .ok (.iconst 0, 1) := by decide +kernel
theorem dX1_sumOf_3 : decode cX1_sumOf 3 = .ok (.istore_n 3, 1) := by decide +kernel
theorem dX1_sumOf_4 : decode cX1_sumOf 4 = .ok (.iload_n 3, 1) := by decide +kernel
theorem dX1_sumOf_5 : decode cX1_sumOf 5 = .ok (.aload_n 0, 1) := by decide +kernel
theorem dX1_sumOf_6 : decode cX1_sumOf 6 = .ok (.getfield 9, 3) := by decide +kernel
theorem dX1_sumOf_9 : decode cX1_sumOf 9 = .ok (.if_icmp .ge 15, 3) := by decide +kernel
theorem dX1_sumOf_12 : decode cX1_sumOf 12 = .ok (.iload_n 2, 1) := by decide +kernel
theorem dX1_sumOf_13 : decode cX1_sumOf 13 = .ok (.aload_n 1, 1) := by decide +kernel
theorem dX1_sumOf_14 : decode cX1_sumOf 14 = .ok (.iload_n 3, 1) := by decide +kernel
theorem dX1_sumOf_15 : decode cX1_sumOf 15 = .ok (.iaload, 1) := by decide +kernel
theorem dX1_sumOf_16 : decode cX1_sumOf 16 = .ok (.iadd, 1) := by decide +kernel
theorem dX1_sumOf_17 : decode cX1_sumOf 17 = .ok (.istore_n 2, 1) := by decide +kernel
theorem dX1_sumOf_18 : decode cX1_sumOf 18 = .ok (.iinc 3 1, 3) := by decide +kernel
theorem dX1_sumOf_21 : decode cX1_sumOf 21 = .ok (.goto (-17), 3) := by decide +kernel
theorem dX1_sumOf_24 : decode cX1_sumOf 24 = .ok (.iload_n 2, 1) := by decide +kernel
theorem dX1_sumOf_25 : decode cX1_sumOf 25 = .ok (.ireturn, 1) := by decide +kernel
theorem dX2_init_0 : decode cX2_init 0 = .ok (.aload_n 0, 1) := by decide +kernel
theorem dX2_init_1 : decode cX2_init 1 = .ok (.invokespecial 5, 3) := by decide +kernel
theorem dX2_init_4 : decode cX2_init 4 = .ok (.aload_n 0, 1) := by decide +kernel
theorem dX2_init_5 : decode cX2_init 5 = .ok (.new 11, 3) := by decide +kernel
theorem dX2_init_8 : decode cX2_init 8 = .ok (.dup, 1) := by decide +kernel
theorem dX2_init_9 : decode cX2_init 9 = .ok (.invokespecial 13, 3) := by decide +kernel
theorem dX2_init_12 : decode cX2_init 12 = .ok (.putfield 14, 3) := by decide +kernel
theorem dX2_init_15 : decode cX2_init 15 = .ok (.aload_n 0, 1) := by decide +kernel
theorem dX2_init_16 : decode cX2_init 16 = .ok (.new 11, 3) := by decide +kernel
theorem dX2_init_19 : decode cX2_init 19 = .ok (.dup, 1) := by decide +kernel
theorem dX2_init_20 : decode cX2_init 20 = .ok (.invokespecial 13, 3) := by decide +kernel
theorem dX2_init_23 : decode cX2_init 23 = .ok (.putfield 18, 3) := by decide +kernel
theorem dX2_init_26 : decode cX2_init 26 = .ok (.aload_n 0, 1) := by decide +kernel
theorem dX2_init_27 : decode cX2_init 27 = .ok (.iconst 4, 1) := by decide +kernel
theorem dX2_init_28 : decode cX2_init 28 = .ok (.anewarray 21, 3) := by decide +kernel
theorem dX2_init_31 : decode cX2_init 31 = .ok (.putfield 23, 3) := by decide +kernel
theorem dX2_init_34 : decode cX2_init 34 = .ok (.aload_n 0, 1) := by decide +kernel
theorem dX2_init_35 : decode cX2_init 35 = .ok (.bipush 8, 2) := by decide +kernel
theorem dX2_init_37 : decode cX2_init 37 = .ok (.newarray .int, 2) := by decide +kernel
theorem dX2_init_39 : decode cX2_init 39 = .ok (.putfield 27, 3) := by decide +kernel
theorem dX2_init_42 : decode cX2_init 42 = .ok (.aload_n 0, 1) := by decide +kernel
theorem dX2_init_43 : decode cX2_init 43 = .ok (.bipush 8, 2) := by decide +kernel
theorem dX2_init_45 : decode cX2_init 45 = .ok (.newarray .int, 2) := by decide +kernel
theorem dX2_init_47 : decode cX2_init 47 = .ok (.putfield 31, 3) := by decide +kernel
theorem dX2_init_50 : decode cX2_init 50 = .ok (.aload_n 0, 1) := by decide +kernel
theorem dX2_init_51 : decode cX2_init 51 = .ok (.iconst 0, 1) := by decide +kernel
theorem dX2_init_52 : decode cX2_init 52 = .ok (.putfield 34, 3) := by decide +kernel
theorem dX2_init_55 : decode cX2_init 55 = .ok (.aload_n 0, 1) := by decide +kernel
theorem dX2_init_56 : decode cX2_init 56 = .ok (.iconst 0, 1) := by decide +kernel
theorem dX2_init_57 : decode cX2_init 57 = .ok (.putfield 38, 3) := by decide +kernel
theorem dX2_init_60 : decode cX2_init 60 = .ok (.aload_n 0, 1) := by decide +kernel
theorem dX2_init_61 : decode cX2_init 61 = .ok (.iconst 0, 1) := by decide +kernel
theorem dX2_init_62 : decode cX2_init 62 = .ok (.putfield 41, 3) := by decide +kernel
theorem dX2_init_65 : decode cX2_init 65 = .ok (.iconst 0, 1) := by decide +kernel
theorem dX2_init_66 : decode cX2_init 66 = .ok (.istore_n 1, 1) := by decide +kernel
theorem dX2_init_67 : decode cX2_init 67 = .ok (.iload_n 1, 1) := by decide +kernel
theorem dX2_init_68 : decode cX2_init 68 = .ok (.iconst 4, 1) := by decide +kernel
theorem dX2_init_69 : decode cX2_init 69 = .ok (.if_icmp .ge 22, 3) := by decide +kernel
theorem dX2_init_72 : decode cX2_init 72 = .ok (.aload_n 0, 1) := by decide +kernel
theorem dX2_init_73 : decode cX2_init 73 = .ok (.getfield 23, 3) := by decide +kernel
theorem dX2_init_76 : decode cX2_init 76 = .ok (.iload_n 1, 1) := by decide +kernel
theorem dX2_init_77 : decode cX2_init 77 = .ok (.new 21, 3) := by decide +kernel
theorem dX2_init_80 : decode cX2_init 80 = .ok (.dup, 1) := by decide +kernel
theorem dX2_init_81 : decode cX2_init 81 = .ok (.invokespecial 44, 3) := by decide +kernel
theorem dX2_init_84 : decode cX2_init 84 = .ok (.aastore, 1) := by decide +kernel
theorem dX2_init_85 : decode cX2_init 85 = .ok (.iinc 1 1, 3) := by decide +kernel
theorem dX2_init_88 : decode cX2_init 88 = .ok (.goto (-21), 3) := by decide +kernel
theorem dX2_init_91 : decode cX2_init 91 = .ok (.return_, 1) := by decide +kernel
theorem dX2_street_0 : decode cX2_street 0 = .ok (.aload_n 0, 1) := by decide +kernel
theorem dX2_street_1 : decode cX2_street 1 = .ok (.iconst 0, 1) := by decide +kernel
theorem dX2_street_2 : decode cX2_street 2 = .ok (.putfield 41, 3) := by decide +kernel
theorem dX2_street_5 : decode cX2_street 5 = .ok (.iload_n 1, 1) := by decide +kernel
theorem dX2_street_6 : decode cX2_street 6 = .ok (.invokestatic 45, 3) := by decide +kernel
theorem dX2_street_9 : decode cX2_street 9 = .ok (.ifCond .ne 5, 3) := by decide +kernel
theorem dX2_street_12 : decode cX2_street 12 = .ok (.iconst (-1), 1) := by decide +kernel
theorem dX2_street_13 : decode cX2_street 13 = .ok (.ireturn, 1) := by decide +kernel
theorem dX2_street_14 : decode cX2_street 14 = .ok (.iload_n 2, 1) := by decide +kernel
theorem dX2_street_15 : decode cX2_street 15 = .ok (.invokestatic 49, 3) := by decide +kernel
theorem dX2_street_18 : decode cX2_street 18 = .ok (.ifCond .ne 6, 3) := by decide +kernel
theorem dX2_street_21 : decode cX2_street 21 = .ok (.bipush (-2), 2) := by decide +kernel
theorem dX2_street_23 : decode cX2_street 23 = .ok (.ireturn, 1) := by decide +kernel
theorem dX2_street_24 : decode cX2_street 24 = .ok (.aload_n 0, 1) := by decide +kernel
theorem dX2_street_25 : decode cX2_street 25 = .ok (.getfield 23, 3) := by decide +kernel
theorem dX2_street_28 : decode cX2_street 28 = .ok (.iload_n 1, 1) := by decide +kernel
theorem dX2_street_29 : decode cX2_street 29 = .ok (.aaload, 1) := by decide +kernel
theorem dX2_street_30 : decode cX2_street 30 = .ok (.astore 5, 2) := by decide +kernel
theorem dX2_street_32 : decode cX2_street 32 = .ok (.aload 5, 2) := by decide +kernel
theorem dX2_street_34 : decode cX2_street 34 = .ok (.iload_n 2, 1) := by decide +kernel
theorem dX2_street_35 : decode cX2_street 35 = .ok (.invokevirtual 52, 3) := by decide +kernel
theorem dX2_street_38 : decode cX2_street 38 = .ok (.istore 6, 2) := by decide +kernel
theorem dX2_street_40 : decode cX2_street 40 = .ok (.iload 6, 2) := by decide +kernel
theorem dX2_street_42 : decode cX2_street 42 = .ok (.ifCond .ne 11, 3) := by decide +kernel
theorem dX2_street_45 : decode cX2_street 45 = .ok (.iload 4, 2) := by decide +kernel
theorem dX2_street_47 : decode cX2_street 47 = .ok (.ifCond .ge 6, 3) := by decide +kernel
theorem dX2_street_50 : decode cX2_street 50 = .ok (.iconst 4, 1) := by decide +kernel
theorem dX2_street_51 : decode cX2_street 51 = .ok (.istore 6, 2) := by decide +kernel
theorem dX2_street_53 : decode cX2_street 53 = .ok (.iload 6, 2) := by decide +kernel
theorem dX2_street_55 : decode cX2_street 55 = .ok (.ifCond .ne 17, 3) := by decide +kernel
theorem dX2_street_58 : decode cX2_street 58 = .ok (.aload 5, 2) := by decide +kernel
theorem dX2_street_60 : decode cX2_street 60 = .ok (.iload_n 3, 1) := by decide +kernel
theorem dX2_street_61 : decode cX2_street 61 = .ok (.iload 4, 2) := by decide +kernel
theorem dX2_street_63 : decode cX2_street 63 = .ok (.invokevirtual 56, 3) := by decide +kernel
theorem dX2_street_66 : decode cX2_street 66 = .ok (.ifCond .eq 6, 3) := by decide +kernel
theorem dX2_street_69 : decode cX2_street 69 = .ok (.iconst 3, 1) := by decide +kernel
theorem dX2_street_70 : decode cX2_street 70 = .ok (.istore 6, 2) := by decide +kernel
theorem dX2_street_72 : decode cX2_street 72 = .ok (.iload 6, 2) := by decide +kernel
theorem dX2_street_74 : decode cX2_street 74 = .ok (.ifCond .eq 10, 3) := by decide +kernel
theorem dX2_street_77 : decode cX2_street 77 = .ok (.aload_n 0, 1) := by decide +kernel
theorem dX2_street_78 : decode cX2_street 78 = .ok (.iload 6, 2) := by decide +kernel
theorem dX2_street_80 : decode cX2_street 80 = .ok (.invokevirtual 60, 3) := by decide +kernel
theorem dX2_street_83 : decode cX2_street 83 = .ok (.ireturn, 1) := by decide +kernel
theorem dX2_street_84 : decode cX2_street 84 = .ok (.aload 5, 2) := by decide +kernel
theorem dX2_street_86 : decode cX2_street 86 = .ok (.getfield 63, 3) := by decide +kernel
theorem dX2_street_89 : decode cX2_street 89 = .ok (.iload_n 3, 1) := by decide +kernel
theorem dX2_street_90 : decode cX2_street 90 = .ok (.iload 4, 2) := by decide +kernel
theorem dX2_street_92 : decode cX2_street 92 = .ok (.invokestatic 66, 3) := by decide +kernel
theorem dX2_street_95 : decode cX2_street 95 = .ok (.istore 7, 2) := by decide +kernel
theorem dX2_street_97 : decode cX2_street 97 = .ok (.iload 7, 2) := by decide +kernel
theorem dX2_street_99 : decode cX2_street 99 = .ok (.bipush (-9), 2) := by decide +kernel
theorem dX2_street_101 : decode cX2_street 101 = .ok (.if_icmp .eq 9, 3) := by decide +kernel
theorem dX2_street_104 : decode cX2_street 104 = .ok (.bipush (-100), 2) := by decide +kernel
theorem dX2_street_106 : decode cX2_street 106 = .ok (.iload 7, 2) := by decide +kernel
theorem dX2_street_108 : decode cX2_street 108 = .ok (.isub, 1) := by decide +kernel
theorem dX2_street_109 : decode cX2_street 109 = .ok (.ireturn, 1) := by decide +kernel
theorem dX2_street_110 : decode cX2_street 110 = .ok (.aload_n 0, 1) := by decide +kernel
theorem dX2_street_111 : decode cX2_street 111 = .ok (.getfield 14, 3) := by decide +kernel
theorem dX2_street_114 : decode cX2_street 114 = .ok (.aload 5, 2) := by decide +kernel
theorem dX2_street_116 : decode cX2_street 116 = .ok (.getfield 63, 3) := by decide +kernel
theorem dX2_street_119 : decode cX2_street 119 = .ok (.iload_n 3, 1) := by decide +kernel
theorem dX2_street_120 : decode cX2_street 120 = .ok (.iload 4, 2) := by decide +kernel
theorem dX2_street_122 : decode cX2_street 122 = .ok (.invokevirtual 70, 3) := by decide +kernel
theorem dX2_street_125 : decode cX2_street 125 = .ok (.aload_n 0, 1) := by decide +kernel
theorem dX2_street_126 : decode cX2_street 126 = .ok (.iconst 0, 1) := by decide +kernel
theorem dX2_street_127 : decode cX2_street 127 = .ok (.putfield 34, 3) := by decide +kernel
theorem dX2_street_130 : decode cX2_street 130 = .ok (.aload_n 0, 1) := by decide +kernel
theorem dX2_street_131 : decode cX2_street 131 = .ok (.getfield 14, 3) := by decide +kernel
theorem dX2_street_134 : decode cX2_street 134 = .ok (.getfield 74, 3) := by decide +kernel
theorem dX2_street_137 : decode cX2_street 137 = .ok (.ireturn, 1) := by decide +kernel
theorem dX2_ofHouse_0 : decode cX2_ofHouse 0 = .ok (.aload_n 0, 1) := by decide +kernel
theorem dX2_ofHouse_1 : decode cX2_ofHouse 1 = .ok (.iload_n 1, 1) := by decide +kernel
theorem dX2_ofHouse_2 : decode cX2_ofHouse 2 = .ok (.invokevirtual 77, 3) := by decide +kernel
theorem dX2_ofHouse_5 : decode cX2_ofHouse 5 = .ok (.ifCond .ne 5, 3) := by decide +kernel
theorem dX2_ofHouse_8 : decode cX2_ofHouse 8 = .ok (.iconst (-1), 1) := by decide +kernel
theorem dX2_ofHouse_9 : decode cX2_ofHouse 9 = .ok (.ireturn, 1) := by decide +kernel
theorem dX2_ofHouse_10 : decode cX2_ofHouse 10 = .ok (.iload_n 2, 1) := by decide +kernel
theorem dX2_ofHouse_11 : decode cX2_ofHouse 11 = .ok (.tableswitch 115 0 6 #[41, 51, 61, 71, 81, 90, 99], 41) := by decide +kernel
theorem dX2_ofHouse_52 : decode cX2_ofHouse 52 = .ok (.aload_n 0, 1) := by decide +kernel
theorem dX2_ofHouse_53 : decode cX2_ofHouse 53 = .ok (.getfield 14, 3) := by decide +kernel
theorem dX2_ofHouse_56 : decode cX2_ofHouse 56 = .ok (.getfield 80, 3) := by decide +kernel
theorem dX2_ofHouse_59 : decode cX2_ofHouse 59 = .ok (.iload_n 1, 1) := by decide +kernel
theorem dX2_ofHouse_60 : decode cX2_ofHouse 60 = .ok (.iaload, 1) := by decide +kernel
theorem dX2_ofHouse_61 : decode cX2_ofHouse 61 = .ok (.ireturn, 1) := by decide +kernel
theorem dX2_ofHouse_62 : decode cX2_ofHouse 62 = .ok (.aload_n 0, 1) := by decide +kernel
theorem dX2_ofHouse_63 : decode cX2_ofHouse 63 = .ok (.getfield 14, 3) := by decide +kernel
theorem dX2_ofHouse_66 : decode cX2_ofHouse 66 = .ok (.getfield 83, 3) := by decide +kernel
theorem dX2_ofHouse_69 : decode cX2_ofHouse 69 = .ok (.iload_n 1, 1) := by decide +kernel
theorem dX2_ofHouse_70 : decode cX2_ofHouse 70 = .ok (.iaload, 1) := by decide +kernel
theorem dX2_ofHouse_71 : decode cX2_ofHouse 71 = .ok (.ireturn, 1) := by decide +kernel
theorem dX2_ofHouse_72 : decode cX2_ofHouse 72 = .ok (.aload_n 0, 1) := by decide +kernel
theorem dX2_ofHouse_73 : decode cX2_ofHouse 73 = .ok (.getfield 14, 3) := by decide +kernel
theorem dX2_ofHouse_76 : decode cX2_ofHouse 76 = .ok (.getfield 86, 3) := by decide +kernel
theorem dX2_ofHouse_79 : decode cX2_ofHouse 79 = .ok (.iload_n 1, 1) := by decide +kernel
theorem dX2_ofHouse_80 : decode cX2_ofHouse 80 = .ok (.iaload, 1) := by decide +kernel
theorem dX2_ofHouse_81 : decode cX2_ofHouse 81 = .ok (.ireturn, 1) := by decide +kernel
theorem dX2_ofHouse_82 : decode cX2_ofHouse 82 = .ok (.aload_n 0, 1) := by decide +kernel
theorem dX2_ofHouse_83 : decode cX2_ofHouse 83 = .ok (.getfield 14, 3) := by decide +kernel
theorem dX2_ofHouse_86 : decode cX2_ofHouse 86 = .ok (.getfield 89, 3) := by decide +kernel
theorem dX2_ofHouse_89 : decode cX2_ofHouse 89 = .ok (.iload_n 1, 1) := by decide +kernel
theorem dX2_ofHouse_90 : decode cX2_ofHouse 90 = .ok (.iaload, 1) := by decide +kernel
theorem dX2_ofHouse_91 : decode cX2_ofHouse 91 = .ok (.ireturn, 1) := by decide +kernel
theorem dX2_ofHouse_92 : decode cX2_ofHouse 92 = .ok (.aload_n 0, 1) := by decide +kernel
theorem dX2_ofHouse_93 : decode cX2_ofHouse 93 = .ok (.getfield 14, 3) := by decide +kernel
theorem dX2_ofHouse_96 : decode cX2_ofHouse 96 = .ok (.iload_n 1, 1) := by decide +kernel
theorem dX2_ofHouse_97 : decode cX2_ofHouse 97 = .ok (.invokevirtual 92, 3) := by decide +kernel
theorem dX2_ofHouse_100 : decode cX2_ofHouse 100 = .ok (.ireturn, 1) := by decide +kernel
theorem dX2_ofHouse_101 : decode cX2_ofHouse 101 = .ok (.aload_n 0, 1) := by decide +kernel
theorem dX2_ofHouse_102 : decode cX2_ofHouse 102 = .ok (.getfield 14, 3) := by decide +kernel
theorem dX2_ofHouse_105 : decode cX2_ofHouse 105 = .ok (.iload_n 1, 1) := by decide +kernel
theorem dX2_ofHouse_106 : decode cX2_ofHouse 106 = .ok (.invokevirtual 95, 3) := by decide +kernel
theorem dX2_ofHouse_109 : decode cX2_ofHouse 109 = .ok (.ireturn, 1) := by decide +kernel
theorem dX2_ofHouse_110 : decode cX2_ofHouse 110 = .ok (.aload_n 0, 1) := by decide +kernel
theorem dX2_ofHouse_111 : decode cX2_ofHouse 111 = .ok (.getfield 14, 3) := by decide +kernel
theorem dX2_ofHouse_114 : decode cX2_ofHouse 114 = .ok (.iload_n 1, 1) := by decide +kernel
theorem dX2_ofHouse_115 : decode cX2_ofHouse 115 = .ok (.aload_n 0, 1) := by decide +kernel
theorem dX2_ofHouse_116 : decode cX2_ofHouse 116 = .ok (.getfield 14, 3) := by decide +kernel
theorem dX2_ofHouse_119 : decode cX2_ofHouse 119 = .ok (.getfield 98, 3) := by decide +kernel
theorem dX2_ofHouse_122 : decode cX2_ofHouse 122 = .ok (.invokevirtual 101, 3) := by decide +kernel
theorem dX2_ofHouse_125 : decode cX2_ofHouse 125 = .ok (.ireturn, 1) := by decide +kernel
theorem dX2_ofHouse_126 : decode cX2_ofHouse 126 = .ok (.bipush (-2), 2) := by decide +kernel
theorem dX2_ofHouse_128 : decode cX2_ofHouse 128 = .ok (.ireturn, 1) := by decide +kernel
theorem dX2_anger_0 : decode cX2_anger 0 = .ok (.aload_n 0, 1) := by decide +kernel
theorem dX2_anger_1 : decode cX2_anger 1 = .ok (.iload_n 1, 1) := by decide +kernel
theorem dX2_anger_2 : decode cX2_anger 2 = .ok (.invokevirtual 77, 3) := by decide +kernel
theorem dX2_anger_5 : decode cX2_anger 5 = .ok (.ifCond .ne 5, 3) := by decide +kernel
theorem dX2_anger_8 : decode cX2_anger 8 = .ok (.iconst (-1), 1) := by decide +kernel
theorem dX2_anger_9 : decode cX2_anger 9 = .ok (.ireturn, 1) := by decide +kernel
theorem dX2_anger_10 : decode cX2_anger 10 = .ok (.iload_n 2, 1) := by decide +kernel
theorem dX2_anger_11 : decode cX2_anger 11 = .ok (.invokestatic 105, 3) := by decide +kernel
theorem dX2_anger_14 : decode cX2_anger 14 = .ok (.ifCond .ne 6, 3) := by decide +kernel
theorem dX2_anger_17 : decode cX2_anger 17 = .ok (.bipush (-2), 2) := by decide +kernel
theorem dX2_anger_19 : decode cX2_anger 19 = .ok (.ireturn, 1) := by decide +kernel
theorem dX2_anger_20 : decode cX2_anger 20 = .ok (.aload_n 0, 1) := by decide +kernel
theorem dX2_anger_21 : decode cX2_anger 21 = .ok (.getfield 14, 3) := by decide +kernel
theorem dX2_anger_24 : decode cX2_anger 24 = .ok (.getfield 83, 3) := by decide +kernel
theorem dX2_anger_27 : decode cX2_anger 27 = .ok (.iload_n 1, 1) := by decide +kernel
theorem dX2_anger_28 : decode cX2_anger 28 = .ok (.iaload, 1) := by decide +kernel
theorem dX2_anger_29 : decode cX2_anger 29 = .ok (.istore_n 3, 1) := by decide +kernel
theorem dX2_anger_30 : decode cX2_anger 30 = .ok (.aload_n 0, 1) := by decide +kernel
theorem dX2_anger_31 : decode cX2_anger 31 = .ok (.getfield 14, 3) := by decide +kernel
theorem dX2_anger_34 : decode cX2_anger 34 = .ok (.getfield 83, 3) := by decide +kernel
theorem dX2_anger_37 : decode cX2_anger 37 = .ok (.iload_n 1, 1) := by decide +kernel
theorem dX2_anger_38 : decode cX2_anger 38 = .ok (.iload_n 2, 1) := by decide +kernel
theorem dX2_anger_39 : decode cX2_anger 39 = .ok (.iastore, 1) := by decide +kernel
theorem dX2_anger_40 : decode cX2_anger 40 = .ok (.iload_n 3, 1) := by decide +kernel
theorem dX2_anger_41 : decode cX2_anger 41 = .ok (.ireturn, 1) := by decide +kernel
theorem dX2_crate_0 : decode cX2_crate 0 = .ok (.aload_n 0, 1) := by decide +kernel
theorem dX2_crate_1 : decode cX2_crate 1 = .ok (.invokevirtual 108, 3) := by decide +kernel
theorem dX2_crate_4 : decode cX2_crate 4 = .ok (.ifCond .ne 6, 3) := by decide +kernel
theorem dX2_crate_7 : decode cX2_crate 7 = .ok (.bipush (-3), 2) := by decide +kernel
theorem dX2_crate_9 : decode cX2_crate 9 = .ok (.ireturn, 1) := by decide +kernel
theorem dX2_crate_10 : decode cX2_crate 10 = .ok (.iload_n 1, 1) := by decide +kernel
theorem dX2_crate_11 : decode cX2_crate 11 = .ok (.invokestatic 112, 3) := by decide +kernel
theorem dX2_crate_14 : decode cX2_crate 14 = .ok (.ifCond .ne 6, 3) := by decide +kernel
theorem dX2_crate_17 : decode cX2_crate 17 = .ok (.bipush (-2), 2) := by decide +kernel
theorem dX2_crate_19 : decode cX2_crate 19 = .ok (.ireturn, 1) := by decide +kernel
theorem dX2_crate_20 : decode cX2_crate 20 = .ok (.aload_n 0, 1) := by decide +kernel
theorem dX2_crate_21 : decode cX2_crate 21 = .ok (.getfield 14, 3) := by decide +kernel
theorem dX2_crate_24 : decode cX2_crate 24 = .ok (.getfield 98, 3) := by decide +kernel
theorem dX2_crate_27 : decode cX2_crate 27 = .ok (.istore_n 2, 1) := by decide +kernel
theorem dX2_crate_28 : decode cX2_crate 28 = .ok (.aload_n 0, 1) := by decide +kernel
theorem dX2_crate_29 : decode cX2_crate 29 = .ok (.getfield 14, 3) := by decide +kernel
theorem dX2_crate_32 : decode cX2_crate 32 = .ok (.iload_n 1, 1) := by decide +kernel
theorem dX2_crate_33 : decode cX2_crate 33 = .ok (.putfield 98, 3) := by decide +kernel
theorem dX2_crate_36 : decode cX2_crate 36 = .ok (.iload_n 2, 1) := by decide +kernel
theorem dX2_crate_37 : decode cX2_crate 37 = .ok (.ireturn, 1) := by decide +kernel
theorem dX2_deal_0 : decode cX2_deal 0 = .ok (.aload_n 0, 1) := by decide +kernel
theorem dX2_deal_1 : decode cX2_deal 1 = .ok (.iload_n 1, 1) := by decide +kernel
theorem dX2_deal_2 : decode cX2_deal 2 = .ok (.invokevirtual 77, 3) := by decide +kernel
theorem dX2_deal_5 : decode cX2_deal 5 = .ok (.ifCond .ne 5, 3) := by decide +kernel
theorem dX2_deal_8 : decode cX2_deal 8 = .ok (.iconst (-1), 1) := by decide +kernel
theorem dX2_deal_9 : decode cX2_deal 9 = .ok (.ireturn, 1) := by decide +kernel
theorem dX2_deal_10 : decode cX2_deal 10 = .ok (.iload_n 2, 1) := by decide +kernel
theorem dX2_deal_11 : decode cX2_deal 11 = .ok (.invokestatic 112, 3) := by decide +kernel
theorem dX2_deal_14 : decode cX2_deal 14 = .ok (.ifCond .ne 6, 3) := by decide +kernel
theorem dX2_deal_17 : decode cX2_deal 17 = .ok (.bipush (-2), 2) := by decide +kernel
theorem dX2_deal_19 : decode cX2_deal 19 = .ok (.ireturn, 1) := by decide +kernel
theorem dX2_deal_20 : decode cX2_deal 20 = .ok (.aload_n 0, 1) := by decide +kernel
theorem dX2_deal_21 : decode cX2_deal 21 = .ok (.getfield 14, 3) := by decide +kernel
theorem dX2_deal_24 : decode cX2_deal 24 = .ok (.iload_n 1, 1) := by decide +kernel
theorem dX2_deal_25 : decode cX2_deal 25 = .ok (.iload_n 2, 1) := by decide +kernel
theorem dX2_deal_26 : decode cX2_deal 26 = .ok (.invokevirtual 101, 3) := by decide +kernel
theorem dX2_deal_29 : decode cX2_deal 29 = .ok (.ireturn, 1) := by decide +kernel
theorem dX2_weeks_0 : decode cX2_weeks 0 = .ok (.iload_n 1, 1) := by decide +kernel
theorem dX2_weeks_1 : decode cX2_weeks 1 = .ok (.iconst 1, 1) := by decide +kernel
theorem dX2_weeks_2 : decode cX2_weeks 2 = .ok (.if_icmp .lt 9, 3) := by decide +kernel
theorem dX2_weeks_5 : decode cX2_weeks 5 = .ok (.iload_n 1, 1) := by decide +kernel
theorem dX2_weeks_6 : decode cX2_weeks 6 = .ok (.bipush 60, 2) := by decide +kernel
theorem dX2_weeks_8 : decode cX2_weeks 8 = .ok (.if_icmp .le 6, 3) := by decide +kernel
theorem dX2_weeks_11 : decode cX2_weeks 11 = .ok (.bipush (-2), 2) := by decide +kernel
theorem dX2_weeks_13 : decode cX2_weeks 13 = .ok (.ireturn, 1) := by decide +kernel
theorem dX2_weeks_14 : decode cX2_weeks 14 = .ok (.aload_n 0, 1) := by decide +kernel
theorem dX2_weeks_15 : decode cX2_weeks 15 = .ok (.invokevirtual 108, 3) := by decide +kernel
theorem dX2_weeks_18 : decode cX2_weeks 18 = .ok (.ifCond .ne 6, 3) := by decide +kernel
theorem dX2_weeks_21 : decode cX2_weeks 21 = .ok (.bipush (-3), 2) := by decide +kernel
theorem dX2_weeks_23 : decode cX2_weeks 23 = .ok (.ireturn, 1) := by decide +kernel
theorem dX2_weeks_24 : decode cX2_weeks 24 = .ok (.aload_n 0, 1) := by decide +kernel
theorem dX2_weeks_25 : decode cX2_weeks 25 = .ok (.getfield 14, 3) := by decide +kernel
theorem dX2_weeks_28 : decode cX2_weeks 28 = .ok (.iload_n 1, 1) := by decide +kernel
theorem dX2_weeks_29 : decode cX2_weeks 29 = .ok (.invokevirtual 115, 3) := by decide +kernel
theorem dX2_weeks_32 : decode cX2_weeks 32 = .ok (.aload_n 0, 1) := by decide +kernel
theorem dX2_weeks_33 : decode cX2_weeks 33 = .ok (.getfield 14, 3) := by decide +kernel
theorem dX2_weeks_36 : decode cX2_weeks 36 = .ok (.invokevirtual 119, 3) := by decide +kernel
theorem dX2_weeks_39 : decode cX2_weeks 39 = .ok (.ireturn, 1) := by decide +kernel
theorem dX2_gift_0 : decode cX2_gift 0 = .ok (.aload_n 0, 1) := by decide +kernel
theorem dX2_gift_1 : decode cX2_gift 1 = .ok (.iload_n 1, 1) := by decide +kernel
theorem dX2_gift_2 : decode cX2_gift 2 = .ok (.invokevirtual 77, 3) := by decide +kernel
theorem dX2_gift_5 : decode cX2_gift 5 = .ok (.ifCond .ne 5, 3) := by decide +kernel
theorem dX2_gift_8 : decode cX2_gift 8 = .ok (.iconst (-1), 1) := by decide +kernel
theorem dX2_gift_9 : decode cX2_gift 9 = .ok (.ireturn, 1) := by decide +kernel
theorem dX2_gift_10 : decode cX2_gift 10 = .ok (.aload_n 0, 1) := by decide +kernel
theorem dX2_gift_11 : decode cX2_gift 11 = .ok (.getfield 14, 3) := by decide +kernel
theorem dX2_gift_14 : decode cX2_gift 14 = .ok (.iload_n 1, 1) := by decide +kernel
theorem dX2_gift_15 : decode cX2_gift 15 = .ok (.invokevirtual 123, 3) := by decide +kernel
theorem dX2_gift_18 : decode cX2_gift 18 = .ok (.ifCond .ne 6, 3) := by decide +kernel
theorem dX2_gift_21 : decode cX2_gift 21 = .ok (.bipush (-3), 2) := by decide +kernel
theorem dX2_gift_23 : decode cX2_gift 23 = .ok (.ireturn, 1) := by decide +kernel
theorem dX2_gift_24 : decode cX2_gift 24 = .ok (.aload_n 0, 1) := by decide +kernel
theorem dX2_gift_25 : decode cX2_gift 25 = .ok (.getfield 14, 3) := by decide +kernel
theorem dX2_gift_28 : decode cX2_gift 28 = .ok (.getfield 86, 3) := by decide +kernel
theorem dX2_gift_31 : decode cX2_gift 31 = .ok (.iload_n 1, 1) := by decide +kernel
theorem dX2_gift_32 : decode cX2_gift 32 = .ok (.iaload, 1) := by decide +kernel
theorem dX2_gift_33 : decode cX2_gift 33 = .ok (.ireturn, 1) := by decide +kernel
theorem dX2_season_0 : decode cX2_season 0 = .ok (.aload_n 0, 1) := by decide +kernel
theorem dX2_season_1 : decode cX2_season 1 = .ok (.iconst 0, 1) := by decide +kernel
theorem dX2_season_2 : decode cX2_season 2 = .ok (.putfield 41, 3) := by decide +kernel
theorem dX2_season_5 : decode cX2_season 5 = .ok (.iload_n 1, 1) := by decide +kernel
theorem dX2_season_6 : decode cX2_season 6 = .ok (.invokestatic 45, 3) := by decide +kernel
theorem dX2_season_9 : decode cX2_season 9 = .ok (.ifCond .ne 5, 3) := by decide +kernel
theorem dX2_season_12 : decode cX2_season 12 = .ok (.iconst (-1), 1) := by decide +kernel
theorem dX2_season_13 : decode cX2_season 13 = .ok (.ireturn, 1) := by decide +kernel
theorem dX2_season_14 : decode cX2_season 14 = .ok (.iload_n 2, 1) := by decide +kernel
theorem dX2_season_15 : decode cX2_season 15 = .ok (.invokestatic 49, 3) := by decide +kernel
theorem dX2_season_18 : decode cX2_season 18 = .ok (.ifCond .eq 23, 3) := by decide +kernel
theorem dX2_season_21 : decode cX2_season 21 = .ok (.iload 4, 2) := by decide +kernel
theorem dX2_season_23 : decode cX2_season 23 = .ok (.ifCond .lt 18, 3) := by decide +kernel
theorem dX2_season_26 : decode cX2_season 26 = .ok (.iload 4, 2) := by decide +kernel
theorem dX2_season_28 : decode cX2_season 28 = .ok (.bipush 20, 2) := by decide +kernel
theorem dX2_season_30 : decode cX2_season 30 = .ok (.if_icmp .gt 11, 3) := by decide +kernel
theorem dX2_season_33 : decode cX2_season 33 = .ok (.iload 5, 2) := by decide +kernel
theorem dX2_season_35 : decode cX2_season 35 = .ok (.invokestatic 126, 3) := by decide +kernel
theorem dX2_season_38 : decode cX2_season 38 = .ok (.ifCond .ne 6, 3) := by decide +kernel
theorem dX2_season_41 : decode cX2_season 41 = .ok (.bipush (-2), 2) := by decide +kernel
theorem dX2_season_43 : decode cX2_season 43 = .ok (.ireturn, 1) := by decide +kernel
theorem dX2_season_44 : decode cX2_season 44 = .ok (.aload_n 0, 1) := by decide +kernel
theorem dX2_season_45 : decode cX2_season 45 = .ok (.invokevirtual 108, 3) := by decide +kernel
theorem dX2_season_48 : decode cX2_season 48 = .ok (.ifCond .ne 6, 3) := by decide +kernel
theorem dX2_season_51 : decode cX2_season 51 = .ok (.bipush (-3), 2) := by decide +kernel
theorem dX2_season_53 : decode cX2_season 53 = .ok (.ireturn, 1) := by decide +kernel
theorem dX2_season_54 : decode cX2_season 54 = .ok (.aload_n 0, 1) := by decide +kernel
theorem dX2_season_55 : decode cX2_season 55 = .ok (.getfield 23, 3) := by decide +kernel
theorem dX2_season_58 : decode cX2_season 58 = .ok (.iload_n 1, 1) := by decide +kernel
theorem dX2_season_59 : decode cX2_season 59 = .ok (.aaload, 1) := by decide +kernel
theorem dX2_season_60 : decode cX2_season 60 = .ok (.astore 6, 2) := by decide +kernel
theorem dX2_season_62 : decode cX2_season 62 = .ok (.aload 6, 2) := by decide +kernel
theorem dX2_season_64 : decode cX2_season 64 = .ok (.iload_n 2, 1) := by decide +kernel
theorem dX2_season_65 : decode cX2_season 65 = .ok (.invokevirtual 52, 3) := by decide +kernel
theorem dX2_season_68 : decode cX2_season 68 = .ok (.istore 7, 2) := by decide +kernel
theorem dX2_season_70 : decode cX2_season 70 = .ok (.iload 7, 2) := by decide +kernel
theorem dX2_season_72 : decode cX2_season 72 = .ok (.ifCond .ne 19, 3) := by decide +kernel
theorem dX2_season_75 : decode cX2_season 75 = .ok (.aload 6, 2) := by decide +kernel
theorem dX2_season_77 : decode cX2_season 77 = .ok (.iload_n 3, 1) := by decide +kernel
theorem dX2_season_78 : decode cX2_season 78 = .ok (.iconst 2, 1) := by decide +kernel
theorem dX2_season_79 : decode cX2_season 79 = .ok (.iload 4, 2) := by decide +kernel
theorem dX2_season_81 : decode cX2_season 81 = .ok (.imul, 1) := by decide +kernel
theorem dX2_season_82 : decode cX2_season 82 = .ok (.invokevirtual 56, 3) := by decide +kernel
theorem dX2_season_85 : decode cX2_season 85 = .ok (.ifCond .eq 6, 3) := by decide +kernel
theorem dX2_season_88 : decode cX2_season 88 = .ok (.iconst 3, 1) := by decide +kernel
theorem dX2_season_89 : decode cX2_season 89 = .ok (.istore 7, 2) := by decide +kernel
theorem dX2_season_91 : decode cX2_season 91 = .ok (.iload 7, 2) := by decide +kernel
theorem dX2_season_93 : decode cX2_season 93 = .ok (.ifCond .eq 10, 3) := by decide +kernel
theorem dX2_season_96 : decode cX2_season 96 = .ok (.aload_n 0, 1) := by decide +kernel
theorem dX2_season_97 : decode cX2_season 97 = .ok (.iload 7, 2) := by decide +kernel
theorem dX2_season_99 : decode cX2_season 99 = .ok (.invokevirtual 60, 3) := by decide +kernel
theorem dX2_season_102 : decode cX2_season 102 = .ok (.ireturn, 1) := by decide +kernel
theorem dX2_season_103 : decode cX2_season 103 = .ok (.aload_n 0, 1) := by decide +kernel
theorem dX2_season_104 : decode cX2_season 104 = .ok (.aload 6, 2) := by decide +kernel
theorem dX2_season_106 : decode cX2_season 106 = .ok (.getfield 63, 3) := by decide +kernel
theorem dX2_season_109 : decode cX2_season 109 = .ok (.iload_n 3, 1) := by decide +kernel
theorem dX2_season_110 : decode cX2_season 110 = .ok (.iload 4, 2) := by decide +kernel
theorem dX2_season_112 : decode cX2_season 112 = .ok (.invokevirtual 129, 3) := by decide +kernel
theorem dX2_season_115 : decode cX2_season 115 = .ok (.istore 8, 2) := by decide +kernel
theorem dX2_season_117 : decode cX2_season 117 = .ok (.iload 8, 2) := by decide +kernel
theorem dX2_season_119 : decode cX2_season 119 = .ok (.ifCond .eq 6, 3) := by decide +kernel
theorem dX2_season_122 : decode cX2_season 122 = .ok (.iload 8, 2) := by decide +kernel
theorem dX2_season_124 : decode cX2_season 124 = .ok (.ireturn, 1) := by decide +kernel
theorem dX2_season_125 : decode cX2_season 125 = .ok (.aload_n 0, 1) := by decide +kernel
theorem dX2_season_126 : decode cX2_season 126 = .ok (.getfield 18, 3) := by decide +kernel
theorem dX2_season_129 : decode cX2_season 129 = .ok (.aload_n 0, 1) := by decide +kernel
theorem dX2_season_130 : decode cX2_season 130 = .ok (.getfield 14, 3) := by decide +kernel
theorem dX2_season_133 : decode cX2_season 133 = .ok (.invokevirtual 132, 3) := by decide +kernel
theorem dX2_season_136 : decode cX2_season 136 = .ok (.aload_n 0, 1) := by decide +kernel
theorem dX2_season_137 : decode cX2_season 137 = .ok (.aload 6, 2) := by decide +kernel
theorem dX2_season_139 : decode cX2_season 139 = .ok (.getfield 63, 3) := by decide +kernel
theorem dX2_season_142 : decode cX2_season 142 = .ok (.iload_n 3, 1) := by decide +kernel
theorem dX2_season_143 : decode cX2_season 143 = .ok (.iload 4, 2) := by decide +kernel
theorem dX2_season_145 : decode cX2_season 145 = .ok (.invokevirtual 136, 3) := by decide +kernel
theorem dX2_season_148 : decode cX2_season 148 = .ok (.istore 9, 2) := by decide +kernel
theorem dX2_season_150 : decode cX2_season 150 = .ok (.iload 5, 2) := by decide +kernel
theorem dX2_season_152 : decode cX2_season 152 = .ok (.iconst 1, 1) := by decide +kernel
theorem dX2_season_153 : decode cX2_season 153 = .ok (.if_icmp .ne 6, 3) := by decide +kernel
theorem dX2_season_156 : decode cX2_season 156 = .ok (.iload 9, 2) := by decide +kernel
theorem dX2_season_158 : decode cX2_season 158 = .ok (.ireturn, 1) := by decide +kernel
theorem dX2_season_159 : decode cX2_season 159 = .ok (.iload 9, 2) := by decide +kernel
theorem dX2_season_161 : decode cX2_season 161 = .ok (.bipush (-9), 2) := by decide +kernel
theorem dX2_season_163 : decode cX2_season 163 = .ok (.if_icmp .ne 12, 3) := by decide +kernel
theorem dX2_season_166 : decode cX2_season 166 = .ok (.aload_n 0, 1) := by decide +kernel
theorem dX2_season_167 : decode cX2_season 167 = .ok (.iload 5, 2) := by decide +kernel
theorem dX2_season_169 : decode cX2_season 169 = .ok (.invokevirtual 139, 3) := by decide +kernel
theorem dX2_season_172 : decode cX2_season 172 = .ok (.goto 8, 3) := by decide +kernel
theorem dX2_season_175 : decode cX2_season 175 = .ok (.bipush (-100), 2) := by decide +kernel
theorem dX2_season_177 : decode cX2_season 177 = .ok (.iload 9, 2) := by decide +kernel
theorem dX2_season_179 : decode cX2_season 179 = .ok (.isub, 1) := by decide +kernel
theorem dX2_season_180 : decode cX2_season 180 = .ok (.ireturn, 1) := by decide +kernel
theorem dX2_calm_0 : decode cX2_calm 0 = .ok (.aload_n 0, 1) := by decide +kernel
theorem dX2_calm_1 : decode cX2_calm 1 = .ok (.invokevirtual 108, 3) := by decide +kernel
theorem dX2_calm_4 : decode cX2_calm 4 = .ok (.ifCond .ne 6, 3) := by decide +kernel
theorem dX2_calm_7 : decode cX2_calm 7 = .ok (.bipush (-3), 2) := by decide +kernel
theorem dX2_calm_9 : decode cX2_calm 9 = .ok (.ireturn, 1) := by decide +kernel
theorem dX2_calm_10 : decode cX2_calm 10 = .ok (.iload_n 1, 1) := by decide +kernel
theorem dX2_calm_11 : decode cX2_calm 11 = .ok (.ifCond .lt 16, 3) := by decide +kernel
theorem dX2_calm_14 : decode cX2_calm 14 = .ok (.iload_n 1, 1) := by decide +kernel
theorem dX2_calm_15 : decode cX2_calm 15 = .ok (.bipush 12, 2) := by decide +kernel
theorem dX2_calm_17 : decode cX2_calm 17 = .ok (.if_icmp .gt 10, 3) := by decide +kernel
theorem dX2_calm_20 : decode cX2_calm 20 = .ok (.iload_n 2, 1) := by decide +kernel
theorem dX2_calm_21 : decode cX2_calm 21 = .ok (.invokestatic 105, 3) := by decide +kernel
theorem dX2_calm_24 : decode cX2_calm 24 = .ok (.ifCond .ne 6, 3) := by decide +kernel
theorem dX2_calm_27 : decode cX2_calm 27 = .ok (.bipush (-2), 2) := by decide +kernel
theorem dX2_calm_29 : decode cX2_calm 29 = .ok (.ireturn, 1) := by decide +kernel
theorem dX2_calm_30 : decode cX2_calm 30 = .ok (.iconst 0, 1) := by decide +kernel
theorem dX2_calm_31 : decode cX2_calm 31 = .ok (.istore_n 3, 1) := by decide +kernel
theorem dX2_calm_32 : decode cX2_calm 32 = .ok (.iload_n 3, 1) := by decide +kernel
theorem dX2_calm_33 : decode cX2_calm 33 = .ok (.bipush 99, 2) := by decide +kernel
theorem dX2_calm_35 : decode cX2_calm 35 = .ok (.if_icmp .gt 49, 3) := by decide +kernel
theorem dX2_calm_38 : decode cX2_calm 38 = .ok (.aload_n 0, 1) := by decide +kernel
theorem dX2_calm_39 : decode cX2_calm 39 = .ok (.getfield 18, 3) := by decide +kernel
theorem dX2_calm_42 : decode cX2_calm 42 = .ok (.aload_n 0, 1) := by decide +kernel
theorem dX2_calm_43 : decode cX2_calm 43 = .ok (.getfield 14, 3) := by decide +kernel
theorem dX2_calm_46 : decode cX2_calm 46 = .ok (.invokevirtual 132, 3) := by decide +kernel
theorem dX2_calm_49 : decode cX2_calm 49 = .ok (.aload_n 0, 1) := by decide +kernel
theorem dX2_calm_50 : decode cX2_calm 50 = .ok (.getfield 18, 3) := by decide +kernel
theorem dX2_calm_53 : decode cX2_calm 53 = .ok (.iload_n 3, 1) := by decide +kernel
theorem dX2_calm_54 : decode cX2_calm 54 = .ok (.putfield 98, 3) := by decide +kernel
theorem dX2_calm_57 : decode cX2_calm 57 = .ok (.aload_n 0, 1) := by decide +kernel
theorem dX2_calm_58 : decode cX2_calm 58 = .ok (.getfield 18, 3) := by decide +kernel
theorem dX2_calm_61 : decode cX2_calm 61 = .ok (.iload_n 1, 1) := by decide +kernel
theorem dX2_calm_62 : decode cX2_calm 62 = .ok (.invokevirtual 115, 3) := by decide +kernel
theorem dX2_calm_65 : decode cX2_calm 65 = .ok (.aload_n 0, 1) := by decide +kernel
theorem dX2_calm_66 : decode cX2_calm 66 = .ok (.getfield 18, 3) := by decide +kernel
theorem dX2_calm_69 : decode cX2_calm 69 = .ok (.invokevirtual 142, 3) := by decide +kernel
theorem dX2_calm_72 : decode cX2_calm 72 = .ok (.iload_n 2, 1) := by decide +kernel
theorem dX2_calm_73 : decode cX2_calm 73 = .ok (.if_icmp .gt 5, 3) := by decide +kernel
theorem dX2_calm_76 : decode cX2_calm 76 = .ok (.iload_n 3, 1) := by decide +kernel
theorem dX2_calm_77 : decode cX2_calm 77 = .ok (.ireturn, 1) := by decide +kernel
theorem dX2_calm_78 : decode cX2_calm 78 = .ok (.iinc 3 1, 3) := by decide +kernel
theorem dX2_calm_81 : decode cX2_calm 81 = .ok (.goto (-49), 3) := by decide +kernel
theorem dX2_calm_84 : decode cX2_calm 84 = .ok (.bipush (-9), 2) := by decide +kernel
theorem dX2_calm_86 : decode cX2_calm 86 = .ok (.ireturn, 1) := by decide +kernel
theorem dX2_wonder_0 : decode cX2_wonder 0 = .ok (.aload_n 0, 1) := by decide +kernel
theorem dX2_wonder_1 : decode cX2_wonder 1 = .ok (.invokevirtual 108, 3) := by decide +kernel
theorem dX2_wonder_4 : decode cX2_wonder 4 = .ok (.ifCond .ne 6, 3) := by decide +kernel
theorem dX2_wonder_7 : decode cX2_wonder 7 = .ok (.bipush (-3), 2) := by decide +kernel
theorem dX2_wonder_9 : decode cX2_wonder 9 = .ok (.ireturn, 1) := by decide +kernel
theorem dX2_wonder_10 : decode cX2_wonder 10 = .ok (.iload_n 1, 1) := by decide +kernel
theorem dX2_wonder_11 : decode cX2_wonder 11 = .ok (.ifCond .lt 8, 3) := by decide +kernel
theorem dX2_wonder_14 : decode cX2_wonder 14 = .ok (.iload_n 1, 1) := by decide +kernel
theorem dX2_wonder_15 : decode cX2_wonder 15 = .ok (.iconst 1, 1) := by decide +kernel
theorem dX2_wonder_16 : decode cX2_wonder 16 = .ok (.if_icmp .le 6, 3) := by decide +kernel
theorem dX2_wonder_19 : decode cX2_wonder 19 = .ok (.bipush (-2), 2) := by decide +kernel
theorem dX2_wonder_21 : decode cX2_wonder 21 = .ok (.ireturn, 1) := by decide +kernel
theorem dX2_wonder_22 : decode cX2_wonder 22 = .ok (.aload_n 0, 1) := by decide +kernel
theorem dX2_wonder_23 : decode cX2_wonder 23 = .ok (.getfield 18, 3) := by decide +kernel
theorem dX2_wonder_26 : decode cX2_wonder 26 = .ok (.aload_n 0, 1) := by decide +kernel
theorem dX2_wonder_27 : decode cX2_wonder 27 = .ok (.getfield 14, 3) := by decide +kernel
theorem dX2_wonder_30 : decode cX2_wonder 30 = .ok (.invokevirtual 132, 3) := by decide +kernel
theorem dX2_wonder_33 : decode cX2_wonder 33 = .ok (.aload_n 0, 1) := by decide +kernel
theorem dX2_wonder_34 : decode cX2_wonder 34 = .ok (.getfield 14, 3) := by decide +kernel
theorem dX2_wonder_37 : decode cX2_wonder 37 = .ok (.getfield 98, 3) := by decide +kernel
theorem dX2_wonder_40 : decode cX2_wonder 40 = .ok (.istore_n 2, 1) := by decide +kernel
theorem dX2_wonder_41 : decode cX2_wonder 41 = .ok (.iload_n 2, 1) := by decide +kernel
theorem dX2_wonder_42 : decode cX2_wonder 42 = .ok (.bipush 99, 2) := by decide +kernel
theorem dX2_wonder_44 : decode cX2_wonder 44 = .ok (.if_icmp .ge 31, 3) := by decide +kernel
theorem dX2_wonder_47 : decode cX2_wonder 47 = .ok (.aload_n 0, 1) := by decide +kernel
theorem dX2_wonder_48 : decode cX2_wonder 48 = .ok (.iload_n 2, 1) := by decide +kernel
theorem dX2_wonder_49 : decode cX2_wonder 49 = .ok (.invokevirtual 145, 3) := by decide +kernel
theorem dX2_wonder_52 : decode cX2_wonder 52 = .ok (.istore_n 3, 1) := by decide +kernel
theorem dX2_wonder_53 : decode cX2_wonder 53 = .ok (.iload_n 3, 1) := by decide +kernel
theorem dX2_wonder_54 : decode cX2_wonder 54 = .ok (.bipush (-9), 2) := by decide +kernel
theorem dX2_wonder_56 : decode cX2_wonder 56 = .ok (.if_icmp .eq 13, 3) := by decide +kernel
theorem dX2_wonder_59 : decode cX2_wonder 59 = .ok (.iload_n 1, 1) := by decide +kernel
theorem dX2_wonder_60 : decode cX2_wonder 60 = .ok (.ifCond .ne 7, 3) := by decide +kernel
theorem dX2_wonder_63 : decode cX2_wonder 63 = .ok (.iload_n 2, 1) := by decide +kernel
theorem dX2_wonder_64 : decode cX2_wonder 64 = .ok (.goto 4, 3) := by decide +kernel
theorem dX2_wonder_67 : decode cX2_wonder 67 = .ok (.iload_n 3, 1) := by decide +kernel
theorem dX2_wonder_68 : decode cX2_wonder 68 = .ok (.ireturn, 1) := by decide +kernel
theorem dX2_wonder_69 : decode cX2_wonder 69 = .ok (.iinc 2 1, 3) := by decide +kernel
theorem dX2_wonder_72 : decode cX2_wonder 72 = .ok (.goto (-31), 3) := by decide +kernel
theorem dX2_wonder_75 : decode cX2_wonder 75 = .ok (.bipush (-9), 2) := by decide +kernel
theorem dX2_wonder_77 : decode cX2_wonder 77 = .ok (.ireturn, 1) := by decide +kernel
theorem dX2_otherwise_0 : decode cX2_otherwise 0 = .ok (.aload_n 0, 1) := by decide +kernel
theorem dX2_otherwise_1 : decode cX2_otherwise 1 = .ok (.iload_n 1, 1) := by decide +kernel
theorem dX2_otherwise_2 : decode cX2_otherwise 2 = .ok (.invokevirtual 77, 3) := by decide +kernel
theorem dX2_otherwise_5 : decode cX2_otherwise 5 = .ok (.ifCond .ne 5, 3) := by decide +kernel
theorem dX2_otherwise_8 : decode cX2_otherwise 8 = .ok (.iconst (-1), 1) := by decide +kernel
theorem dX2_otherwise_9 : decode cX2_otherwise 9 = .ok (.ireturn, 1) := by decide +kernel
theorem dX2_otherwise_10 : decode cX2_otherwise 10 = .ok (.aload_n 0, 1) := by decide +kernel
theorem dX2_otherwise_11 : decode cX2_otherwise 11 = .ok (.getfield 14, 3) := by decide +kernel
theorem dX2_otherwise_14 : decode cX2_otherwise 14 = .ok (.aload_n 0, 1) := by decide +kernel
theorem dX2_otherwise_15 : decode cX2_otherwise 15 = .ok (.getfield 14, 3) := by decide +kernel
theorem dX2_otherwise_18 : decode cX2_otherwise 18 = .ok (.getfield 98, 3) := by decide +kernel
theorem dX2_otherwise_21 : decode cX2_otherwise 21 = .ok (.invokevirtual 148, 3) := by decide +kernel
theorem dX2_otherwise_24 : decode cX2_otherwise 24 = .ok (.aload_n 0, 1) := by decide +kernel
theorem dX2_otherwise_25 : decode cX2_otherwise 25 = .ok (.getfield 14, 3) := by decide +kernel
theorem dX2_otherwise_28 : decode cX2_otherwise 28 = .ok (.getfield 151, 3) := by decide +kernel
theorem dX2_otherwise_31 : decode cX2_otherwise 31 = .ok (.iload_n 1, 1) := by decide +kernel
theorem dX2_otherwise_32 : decode cX2_otherwise 32 = .ok (.iaload, 1) := by decide +kernel
theorem dX2_otherwise_33 : decode cX2_otherwise 33 = .ok (.ireturn, 1) := by decide +kernel
theorem dX2_halves_0 : decode cX2_halves 0 = .ok (.aload_n 0, 1) := by decide +kernel
theorem dX2_halves_1 : decode cX2_halves 1 = .ok (.invokevirtual 108, 3) := by decide +kernel
theorem dX2_halves_4 : decode cX2_halves 4 = .ok (.ifCond .ne 6, 3) := by decide +kernel
theorem dX2_halves_7 : decode cX2_halves 7 = .ok (.bipush (-3), 2) := by decide +kernel
theorem dX2_halves_9 : decode cX2_halves 9 = .ok (.ireturn, 1) := by decide +kernel
theorem dX2_halves_10 : decode cX2_halves 10 = .ok (.iload_n 1, 1) := by decide +kernel
theorem dX2_halves_11 : decode cX2_halves 11 = .ok (.ifCond .lt 8, 3) := by decide +kernel
theorem dX2_halves_14 : decode cX2_halves 14 = .ok (.iload_n 1, 1) := by decide +kernel
theorem dX2_halves_15 : decode cX2_halves 15 = .ok (.iconst 1, 1) := by decide +kernel
theorem dX2_halves_16 : decode cX2_halves 16 = .ok (.if_icmp .le 6, 3) := by decide +kernel
theorem dX2_halves_19 : decode cX2_halves 19 = .ok (.bipush (-2), 2) := by decide +kernel
theorem dX2_halves_21 : decode cX2_halves 21 = .ok (.ireturn, 1) := by decide +kernel
theorem dX2_halves_22 : decode cX2_halves 22 = .ok (.iconst 1, 1) := by decide +kernel
theorem dX2_halves_23 : decode cX2_halves 23 = .ok (.istore_n 2, 1) := by decide +kernel
theorem dX2_halves_24 : decode cX2_halves 24 = .ok (.aload_n 0, 1) := by decide +kernel
theorem dX2_halves_25 : decode cX2_halves 25 = .ok (.iload_n 2, 1) := by decide +kernel
theorem dX2_halves_26 : decode cX2_halves 26 = .ok (.invokevirtual 154, 3) := by decide +kernel
theorem dX2_halves_29 : decode cX2_halves 29 = .ok (.istore_n 3, 1) := by decide +kernel
theorem dX2_halves_30 : decode cX2_halves 30 = .ok (.iconst 3, 1) := by decide +kernel
theorem dX2_halves_31 : decode cX2_halves 31 = .ok (.istore 4, 2) := by decide +kernel
theorem dX2_halves_33 : decode cX2_halves 33 = .ok (.iload 4, 2) := by decide +kernel
theorem dX2_halves_35 : decode cX2_halves 35 = .ok (.iconst 1, 1) := by decide +kernel
theorem dX2_halves_36 : decode cX2_halves 36 = .ok (.aload_n 0, 1) := by decide +kernel
theorem dX2_halves_37 : decode cX2_halves 37 = .ok (.getfield 14, 3) := by decide +kernel
theorem dX2_halves_40 : decode cX2_halves 40 = .ok (.getfield 74, 3) := by decide +kernel
theorem dX2_halves_43 : decode cX2_halves 43 = .ok (.ishl, 1) := by decide +kernel
theorem dX2_halves_44 : decode cX2_halves 44 = .ok (.if_icmp .ge 29, 3) := by decide +kernel
theorem dX2_halves_47 : decode cX2_halves 47 = .ok (.aload_n 0, 1) := by decide +kernel
theorem dX2_halves_48 : decode cX2_halves 48 = .ok (.iload 4, 2) := by decide +kernel
theorem dX2_halves_50 : decode cX2_halves 50 = .ok (.invokevirtual 154, 3) := by decide +kernel
theorem dX2_halves_53 : decode cX2_halves 53 = .ok (.istore 5, 2) := by decide +kernel
theorem dX2_halves_55 : decode cX2_halves 55 = .ok (.iload 5, 2) := by decide +kernel
theorem dX2_halves_57 : decode cX2_halves 57 = .ok (.iload_n 3, 1) := by decide +kernel
theorem dX2_halves_58 : decode cX2_halves 58 = .ok (.if_icmp .ge 9, 3) := by decide +kernel
theorem dX2_halves_61 : decode cX2_halves 61 = .ok (.iload 4, 2) := by decide +kernel
theorem dX2_halves_63 : decode cX2_halves 63 = .ok (.istore_n 2, 1) := by decide +kernel
theorem dX2_halves_64 : decode cX2_halves 64 = .ok (.iload 5, 2) := by decide +kernel
theorem dX2_halves_66 : decode cX2_halves 66 = .ok (.istore_n 3, 1) := by decide +kernel
theorem dX2_halves_67 : decode cX2_halves 67 = .ok (.iinc 4 2, 3) := by decide +kernel
theorem dX2_halves_70 : decode cX2_halves 70 = .ok (.goto (-37), 3) := by decide +kernel
theorem dX2_halves_73 : decode cX2_halves 73 = .ok (.iload_n 1, 1) := by decide +kernel
theorem dX2_halves_74 : decode cX2_halves 74 = .ok (.ifCond .ne 7, 3) := by decide +kernel
theorem dX2_halves_77 : decode cX2_halves 77 = .ok (.iload_n 2, 1) := by decide +kernel
theorem dX2_halves_78 : decode cX2_halves 78 = .ok (.goto 4, 3) := by decide +kernel
theorem dX2_halves_81 : decode cX2_halves 81 = .ok (.iload_n 3, 1) := by decide +kernel
theorem dX2_halves_82 : decode cX2_halves 82 = .ok (.ireturn, 1) := by decide +kernel
theorem dX2_reading_0 : decode cX2_reading 0 = .ok (.aload_n 0, 1) := by decide +kernel
theorem dX2_reading_1 : decode cX2_reading 1 = .ok (.iload_n 1, 1) := by decide +kernel
theorem dX2_reading_2 : decode cX2_reading 2 = .ok (.invokevirtual 77, 3) := by decide +kernel
theorem dX2_reading_5 : decode cX2_reading 5 = .ok (.ifCond .ne 5, 3) := by decide +kernel
theorem dX2_reading_8 : decode cX2_reading 8 = .ok (.iconst (-1), 1) := by decide +kernel
theorem dX2_reading_9 : decode cX2_reading 9 = .ok (.ireturn, 1) := by decide +kernel
theorem dX2_reading_10 : decode cX2_reading 10 = .ok (.iload_n 2, 1) := by decide +kernel
theorem dX2_reading_11 : decode cX2_reading 11 = .ok (.invokestatic 112, 3) := by decide +kernel
theorem dX2_reading_14 : decode cX2_reading 14 = .ok (.ifCond .ne 6, 3) := by decide +kernel
theorem dX2_reading_17 : decode cX2_reading 17 = .ok (.bipush (-2), 2) := by decide +kernel
theorem dX2_reading_19 : decode cX2_reading 19 = .ok (.ireturn, 1) := by decide +kernel
theorem dX2_reading_20 : decode cX2_reading 20 = .ok (.aload_n 0, 1) := by decide +kernel
theorem dX2_reading_21 : decode cX2_reading 21 = .ok (.getfield 34, 3) := by decide +kernel
theorem dX2_reading_24 : decode cX2_reading 24 = .ok (.bipush 8, 2) := by decide +kernel
theorem dX2_reading_26 : decode cX2_reading 26 = .ok (.if_icmp .lt 6, 3) := by decide +kernel
theorem dX2_reading_29 : decode cX2_reading 29 = .ok (.bipush (-4), 2) := by decide +kernel
theorem dX2_reading_31 : decode cX2_reading 31 = .ok (.ireturn, 1) := by decide +kernel
theorem dX2_reading_32 : decode cX2_reading 32 = .ok (.aload_n 0, 1) := by decide +kernel
theorem dX2_reading_33 : decode cX2_reading 33 = .ok (.getfield 27, 3) := by decide +kernel
theorem dX2_reading_36 : decode cX2_reading 36 = .ok (.aload_n 0, 1) := by decide +kernel
theorem dX2_reading_37 : decode cX2_reading 37 = .ok (.getfield 34, 3) := by decide +kernel
theorem dX2_reading_40 : decode cX2_reading 40 = .ok (.iload_n 1, 1) := by decide +kernel
theorem dX2_reading_41 : decode cX2_reading 41 = .ok (.iastore, 1) := by decide +kernel
theorem dX2_reading_42 : decode cX2_reading 42 = .ok (.aload_n 0, 1) := by decide +kernel
theorem dX2_reading_43 : decode cX2_reading 43 = .ok (.getfield 31, 3) := by decide +kernel
theorem dX2_reading_46 : decode cX2_reading 46 = .ok (.aload_n 0, 1) := by decide +kernel
theorem dX2_reading_47 : decode cX2_reading 47 = .ok (.getfield 34, 3) := by decide +kernel
theorem dX2_reading_50 : decode cX2_reading 50 = .ok (.iload_n 2, 1) := by decide +kernel
theorem dX2_reading_51 : decode cX2_reading 51 = .ok (.iastore, 1) := by decide +kernel
theorem dX2_reading_52 : decode cX2_reading 52 = .ok (.aload_n 0, 1) := by decide +kernel
theorem dX2_reading_53 : decode cX2_reading 53 = .ok (.dup, 1) := by decide +kernel
theorem dX2_reading_54 : decode cX2_reading 54 = .ok (.getfield 34, 3) := by decide +kernel
theorem dX2_reading_57 : decode cX2_reading 57 = .ok (.iconst 1, 1) := by decide +kernel
theorem dX2_reading_58 : decode cX2_reading 58 = .ok (.iadd, 1) := by decide +kernel
theorem dX2_reading_59 : decode cX2_reading 59 = .ok (.putfield 34, 3) := by decide +kernel
theorem dX2_reading_62 : decode cX2_reading 62 = .ok (.aload_n 0, 1) := by decide +kernel
theorem dX2_reading_63 : decode cX2_reading 63 = .ok (.getfield 34, 3) := by decide +kernel
theorem dX2_reading_66 : decode cX2_reading 66 = .ok (.iconst 1, 1) := by decide +kernel
theorem dX2_reading_67 : decode cX2_reading 67 = .ok (.isub, 1) := by decide +kernel
theorem dX2_reading_68 : decode cX2_reading 68 = .ok (.ireturn, 1) := by decide +kernel
theorem dX2_back_0 : decode cX2_back 0 = .ok (.iload_n 1, 1) := by decide +kernel
theorem dX2_back_1 : decode cX2_back 1 = .ok (.ifCond .lt 11, 3) := by decide +kernel
theorem dX2_back_4 : decode cX2_back 4 = .ok (.iload_n 1, 1) := by decide +kernel
theorem dX2_back_5 : decode cX2_back 5 = .ok (.aload_n 0, 1) := by decide +kernel
theorem dX2_back_6 : decode cX2_back 6 = .ok (.getfield 34, 3) := by decide +kernel
theorem dX2_back_9 : decode cX2_back 9 = .ok (.if_icmp .le 6, 3) := by decide +kernel
theorem dX2_back_12 : decode cX2_back 12 = .ok (.bipush (-2), 2) := by decide +kernel
theorem dX2_back_14 : decode cX2_back 14 = .ok (.ireturn, 1) := by decide +kernel
theorem dX2_back_15 : decode cX2_back 15 = .ok (.aload_n 0, 1) := by decide +kernel
theorem dX2_back_16 : decode cX2_back 16 = .ok (.dup, 1) := by decide +kernel
theorem dX2_back_17 : decode cX2_back 17 = .ok (.getfield 34, 3) := by decide +kernel
theorem dX2_back_20 : decode cX2_back 20 = .ok (.iload_n 1, 1) := by decide +kernel
theorem dX2_back_21 : decode cX2_back 21 = .ok (.isub, 1) := by decide +kernel
theorem dX2_back_22 : decode cX2_back 22 = .ok (.putfield 34, 3) := by decide +kernel
theorem dX2_back_25 : decode cX2_back 25 = .ok (.aload_n 0, 1) := by decide +kernel
theorem dX2_back_26 : decode cX2_back 26 = .ok (.getfield 34, 3) := by decide +kernel
theorem dX2_back_29 : decode cX2_back 29 = .ok (.ireturn, 1) := by decide +kernel
theorem dX2_tempers_0 : decode cX2_tempers 0 = .ok (.aload_n 0, 1) := by decide +kernel
theorem dX2_tempers_1 : decode cX2_tempers 1 = .ok (.iload_n 1, 1) := by decide +kernel
theorem dX2_tempers_2 : decode cX2_tempers 2 = .ok (.invokevirtual 77, 3) := by decide +kernel
theorem dX2_tempers_5 : decode cX2_tempers 5 = .ok (.ifCond .ne 5, 3) := by decide +kernel
theorem dX2_tempers_8 : decode cX2_tempers 8 = .ok (.iconst (-1), 1) := by decide +kernel
theorem dX2_tempers_9 : decode cX2_tempers 9 = .ok (.ireturn, 1) := by decide +kernel
theorem dX2_tempers_10 : decode cX2_tempers 10 = .ok (.aload_n 0, 1) := by decide +kernel
theorem dX2_tempers_11 : decode cX2_tempers 11 = .ok (.getfield 18, 3) := by decide +kernel
theorem dX2_tempers_14 : decode cX2_tempers 14 = .ok (.aload_n 0, 1) := by decide +kernel
theorem dX2_tempers_15 : decode cX2_tempers 15 = .ok (.getfield 14, 3) := by decide +kernel
theorem dX2_tempers_18 : decode cX2_tempers 18 = .ok (.invokevirtual 132, 3) := by decide +kernel
theorem dX2_tempers_21 : decode cX2_tempers 21 = .ok (.iconst 0, 1) := by decide +kernel
theorem dX2_tempers_22 : decode cX2_tempers 22 = .ok (.istore_n 2, 1) := by decide +kernel
theorem dX2_tempers_23 : decode cX2_tempers 23 = .ok (.iconst 0, 1) := by decide +kernel
theorem dX2_tempers_24 : decode cX2_tempers 24 = .ok (.istore_n 3, 1) := by decide +kernel
theorem dX2_tempers_25 : decode cX2_tempers 25 = .ok (.iload_n 3, 1) := by decide +kernel
theorem dX2_tempers_26 : decode cX2_tempers 26 = .ok (.bipush 9, 2) := by decide +kernel
theorem dX2_tempers_28 : decode cX2_tempers 28 = .ok (.if_icmp .gt 32, 3) := by decide +kernel
theorem dX2_tempers_31 : decode cX2_tempers 31 = .ok (.aload_n 0, 1) := by decide +kernel
theorem dX2_tempers_32 : decode cX2_tempers 32 = .ok (.getfield 18, 3) := by decide +kernel
theorem dX2_tempers_35 : decode cX2_tempers 35 = .ok (.getfield 83, 3) := by decide +kernel
theorem dX2_tempers_38 : decode cX2_tempers 38 = .ok (.iload_n 1, 1) := by decide +kernel
theorem dX2_tempers_39 : decode cX2_tempers 39 = .ok (.iload_n 3, 1) := by decide +kernel
theorem dX2_tempers_40 : decode cX2_tempers 40 = .ok (.iastore, 1) := by decide +kernel
theorem dX2_tempers_41 : decode cX2_tempers 41 = .ok (.aload_n 0, 1) := by decide +kernel
theorem dX2_tempers_42 : decode cX2_tempers 42 = .ok (.invokevirtual 157, 3) := by decide +kernel
theorem dX2_tempers_45 : decode cX2_tempers 45 = .ok (.ifCond .eq 9, 3) := by decide +kernel
theorem dX2_tempers_48 : decode cX2_tempers 48 = .ok (.iload_n 2, 1) := by decide +kernel
theorem dX2_tempers_49 : decode cX2_tempers 49 = .ok (.iconst 1, 1) := by decide +kernel
theorem dX2_tempers_50 : decode cX2_tempers 50 = .ok (.iload_n 3, 1) := by decide +kernel
theorem dX2_tempers_51 : decode cX2_tempers 51 = .ok (.ishl, 1) := by decide +kernel
theorem dX2_tempers_52 : decode cX2_tempers 52 = .ok (.ior, 1) := by decide +kernel
theorem dX2_tempers_53 : decode cX2_tempers 53 = .ok (.istore_n 2, 1) := by decide +kernel
theorem dX2_tempers_54 : decode cX2_tempers 54 = .ok (.iinc 3 1, 3) := by decide +kernel
theorem dX2_tempers_57 : decode cX2_tempers 57 = .ok (.goto (-32), 3) := by decide +kernel
theorem dX2_tempers_60 : decode cX2_tempers 60 = .ok (.iload_n 2, 1) := by decide +kernel
theorem dX2_tempers_61 : decode cX2_tempers 61 = .ok (.ireturn, 1) := by decide +kernel
theorem dX2_kinds_0 : decode cX2_kinds 0 = .ok (.aload_n 0, 1) := by decide +kernel
theorem dX2_kinds_1 : decode cX2_kinds 1 = .ok (.iload_n 1, 1) := by decide +kernel
theorem dX2_kinds_2 : decode cX2_kinds 2 = .ok (.invokevirtual 77, 3) := by decide +kernel
theorem dX2_kinds_5 : decode cX2_kinds 5 = .ok (.ifCond .ne 5, 3) := by decide +kernel
theorem dX2_kinds_8 : decode cX2_kinds 8 = .ok (.iconst (-1), 1) := by decide +kernel
theorem dX2_kinds_9 : decode cX2_kinds 9 = .ok (.ireturn, 1) := by decide +kernel
theorem dX2_kinds_10 : decode cX2_kinds 10 = .ok (.aload_n 0, 1) := by decide +kernel
theorem dX2_kinds_11 : decode cX2_kinds 11 = .ok (.getfield 18, 3) := by decide +kernel
theorem dX2_kinds_14 : decode cX2_kinds 14 = .ok (.aload_n 0, 1) := by decide +kernel
theorem dX2_kinds_15 : decode cX2_kinds 15 = .ok (.getfield 14, 3) := by decide +kernel
theorem dX2_kinds_18 : decode cX2_kinds 18 = .ok (.invokevirtual 132, 3) := by decide +kernel
theorem dX2_kinds_21 : decode cX2_kinds 21 = .ok (.iconst 0, 1) := by decide +kernel
theorem dX2_kinds_22 : decode cX2_kinds 22 = .ok (.istore_n 2, 1) := by decide +kernel
theorem dX2_kinds_23 : decode cX2_kinds 23 = .ok (.iconst 0, 1) := by decide +kernel
theorem dX2_kinds_24 : decode cX2_kinds 24 = .ok (.istore_n 3, 1) := by decide +kernel
theorem dX2_kinds_25 : decode cX2_kinds 25 = .ok (.iload_n 3, 1) := by decide +kernel
theorem dX2_kinds_26 : decode cX2_kinds 26 = .ok (.iconst 3, 1) := by decide +kernel
theorem dX2_kinds_27 : decode cX2_kinds 27 = .ok (.if_icmp .ge 32, 3) := by decide +kernel
theorem dX2_kinds_30 : decode cX2_kinds 30 = .ok (.aload_n 0, 1) := by decide +kernel
theorem dX2_kinds_31 : decode cX2_kinds 31 = .ok (.getfield 18, 3) := by decide +kernel
theorem dX2_kinds_34 : decode cX2_kinds 34 = .ok (.getfield 80, 3) := by decide +kernel
theorem dX2_kinds_37 : decode cX2_kinds 37 = .ok (.iload_n 1, 1) := by decide +kernel
theorem dX2_kinds_38 : decode cX2_kinds 38 = .ok (.iload_n 3, 1) := by decide +kernel
theorem dX2_kinds_39 : decode cX2_kinds 39 = .ok (.iastore, 1) := by decide +kernel
theorem dX2_kinds_40 : decode cX2_kinds 40 = .ok (.aload_n 0, 1) := by decide +kernel
theorem dX2_kinds_41 : decode cX2_kinds 41 = .ok (.invokevirtual 157, 3) := by decide +kernel
theorem dX2_kinds_44 : decode cX2_kinds 44 = .ok (.ifCond .eq 9, 3) := by decide +kernel
theorem dX2_kinds_47 : decode cX2_kinds 47 = .ok (.iload_n 2, 1) := by decide +kernel
theorem dX2_kinds_48 : decode cX2_kinds 48 = .ok (.iconst 1, 1) := by decide +kernel
theorem dX2_kinds_49 : decode cX2_kinds 49 = .ok (.iload_n 3, 1) := by decide +kernel
theorem dX2_kinds_50 : decode cX2_kinds 50 = .ok (.ishl, 1) := by decide +kernel
theorem dX2_kinds_51 : decode cX2_kinds 51 = .ok (.ior, 1) := by decide +kernel
theorem dX2_kinds_52 : decode cX2_kinds 52 = .ok (.istore_n 2, 1) := by decide +kernel
theorem dX2_kinds_53 : decode cX2_kinds 53 = .ok (.iinc 3 1, 3) := by decide +kernel
theorem dX2_kinds_56 : decode cX2_kinds 56 = .ok (.goto (-31), 3) := by decide +kernel
theorem dX2_kinds_59 : decode cX2_kinds 59 = .ok (.iload_n 2, 1) := by decide +kernel
theorem dX2_kinds_60 : decode cX2_kinds 60 = .ok (.ireturn, 1) := by decide +kernel
theorem dX2_crates_0 : decode cX2_crates 0 = .ok (.aload_n 0, 1) := by decide +kernel
theorem dX2_crates_1 : decode cX2_crates 1 = .ok (.invokevirtual 108, 3) := by decide +kernel
theorem dX2_crates_4 : decode cX2_crates 4 = .ok (.ifCond .ne 6, 3) := by decide +kernel
theorem dX2_crates_7 : decode cX2_crates 7 = .ok (.bipush (-3), 2) := by decide +kernel
theorem dX2_crates_9 : decode cX2_crates 9 = .ok (.ireturn, 1) := by decide +kernel
theorem dX2_crates_10 : decode cX2_crates 10 = .ok (.iload_n 1, 1) := by decide +kernel
theorem dX2_crates_11 : decode cX2_crates 11 = .ok (.ifCond .lt 8, 3) := by decide +kernel
theorem dX2_crates_14 : decode cX2_crates 14 = .ok (.iload_n 1, 1) := by decide +kernel
theorem dX2_crates_15 : decode cX2_crates 15 = .ok (.iconst 2, 1) := by decide +kernel
theorem dX2_crates_16 : decode cX2_crates 16 = .ok (.if_icmp .le 6, 3) := by decide +kernel
theorem dX2_crates_19 : decode cX2_crates 19 = .ok (.bipush (-2), 2) := by decide +kernel
theorem dX2_crates_21 : decode cX2_crates 21 = .ok (.ireturn, 1) := by decide +kernel
theorem dX2_crates_22 : decode cX2_crates 22 = .ok (.aload_n 0, 1) := by decide +kernel
theorem dX2_crates_23 : decode cX2_crates 23 = .ok (.getfield 18, 3) := by decide +kernel
theorem dX2_crates_26 : decode cX2_crates 26 = .ok (.aload_n 0, 1) := by decide +kernel
theorem dX2_crates_27 : decode cX2_crates 27 = .ok (.getfield 14, 3) := by decide +kernel
theorem dX2_crates_30 : decode cX2_crates 30 = .ok (.invokevirtual 132, 3) := by decide +kernel
theorem dX2_crates_33 : decode cX2_crates 33 = .ok (.iconst 0, 1) := by decide +kernel
theorem dX2_crates_34 : decode cX2_crates 34 = .ok (.istore_n 2, 1) := by decide +kernel
theorem dX2_crates_35 : decode cX2_crates 35 = .ok (.bipush (-9), 2) := by decide +kernel
theorem dX2_crates_37 : decode cX2_crates 37 = .ok (.istore_n 3, 1) := by decide +kernel
theorem dX2_crates_38 : decode cX2_crates 38 = .ok (.bipush (-9), 2) := by decide +kernel
theorem dX2_crates_40 : decode cX2_crates 40 = .ok (.istore 4, 2) := by decide +kernel
theorem dX2_crates_42 : decode cX2_crates 42 = .ok (.iconst 0, 1) := by decide +kernel
theorem dX2_crates_43 : decode cX2_crates 43 = .ok (.istore 5, 2) := by decide +kernel
theorem dX2_crates_45 : decode cX2_crates 45 = .ok (.iload 5, 2) := by decide +kernel
theorem dX2_crates_47 : decode cX2_crates 47 = .ok (.bipush 99, 2) := by decide +kernel
theorem dX2_crates_49 : decode cX2_crates 49 = .ok (.if_icmp .gt 43, 3) := by decide +kernel
theorem dX2_crates_52 : decode cX2_crates 52 = .ok (.aload_n 0, 1) := by decide +kernel
theorem dX2_crates_53 : decode cX2_crates 53 = .ok (.getfield 18, 3) := by decide +kernel
theorem dX2_crates_56 : decode cX2_crates 56 = .ok (.iload 5, 2) := by decide +kernel
theorem dX2_crates_58 : decode cX2_crates 58 = .ok (.putfield 98, 3) := by decide +kernel
theorem dX2_crates_61 : decode cX2_crates 61 = .ok (.aload_n 0, 1) := by decide +kernel
theorem dX2_crates_62 : decode cX2_crates 62 = .ok (.invokevirtual 157, 3) := by decide +kernel
theorem dX2_crates_65 : decode cX2_crates 65 = .ok (.ifCond .eq 21, 3) := by decide +kernel
theorem dX2_crates_68 : decode cX2_crates 68 = .ok (.iload_n 2, 1) := by decide +kernel
theorem dX2_crates_69 : decode cX2_crates 69 = .ok (.ifCond .ne 8, 3) := by decide +kernel
theorem dX2_crates_72 : decode cX2_crates 72 = .ok (.iload 5, 2) := by decide +kernel
theorem dX2_crates_74 : decode cX2_crates 74 = .ok (.goto 4, 3) := by decide +kernel
theorem dX2_crates_77 : decode cX2_crates 77 = .ok (.iload_n 3, 1) := by decide +kernel
theorem dX2_crates_78 : decode cX2_crates 78 = .ok (.istore_n 3, 1) := by decide +kernel
theorem dX2_crates_79 : decode cX2_crates 79 = .ok (.iload 5, 2) := by decide +kernel
theorem dX2_crates_81 : decode cX2_crates 81 = .ok (.istore 4, 2) := by decide +kernel
theorem dX2_crates_83 : decode cX2_crates 83 = .ok (.iinc 2 1, 3) := by decide +kernel
theorem dX2_crates_86 : decode cX2_crates 86 = .ok (.iinc 5 1, 3) := by decide +kernel
theorem dX2_crates_89 : decode cX2_crates 89 = .ok (.goto (-44), 3) := by decide +kernel
theorem dX2_crates_92 : decode cX2_crates 92 = .ok (.iload_n 1, 1) := by decide +kernel
theorem dX2_crates_93 : decode cX2_crates 93 = .ok (.ifCond .ne 5, 3) := by decide +kernel
theorem dX2_crates_96 : decode cX2_crates 96 = .ok (.iload_n 2, 1) := by decide +kernel
theorem dX2_crates_97 : decode cX2_crates 97 = .ok (.ireturn, 1) := by decide +kernel
theorem dX2_crates_98 : decode cX2_crates 98 = .ok (.iload_n 1, 1) := by decide +kernel
theorem dX2_crates_99 : decode cX2_crates 99 = .ok (.iconst 1, 1) := by decide +kernel
theorem dX2_crates_100 : decode cX2_crates 100 = .ok (.if_icmp .ne 7, 3) := by decide +kernel
theorem dX2_crates_103 : decode cX2_crates 103 = .ok (.iload_n 3, 1) := by decide +kernel
theorem dX2_crates_104 : decode cX2_crates 104 = .ok (.goto 5, 3) := by decide +kernel
theorem dX2_crates_107 : decode cX2_crates 107 = .ok (.iload 4, 2) := by decide +kernel
theorem dX2_crates_109 : decode cX2_crates 109 = .ok (.ireturn, 1) := by decide +kernel
theorem dX2_odds_0 : decode cX2_odds 0 = .ok (.aload_n 0, 1) := by decide +kernel
theorem dX2_odds_1 : decode cX2_odds 1 = .ok (.iload_n 1, 1) := by decide +kernel
theorem dX2_odds_2 : decode cX2_odds 2 = .ok (.invokevirtual 77, 3) := by decide +kernel
theorem dX2_odds_5 : decode cX2_odds 5 = .ok (.ifCond .eq 19, 3) := by decide +kernel
theorem dX2_odds_8 : decode cX2_odds 8 = .ok (.iload_n 2, 1) := by decide +kernel
theorem dX2_odds_9 : decode cX2_odds 9 = .ok (.invokestatic 112, 3) := by decide +kernel
theorem dX2_odds_12 : decode cX2_odds 12 = .ok (.ifCond .eq 12, 3) := by decide +kernel
theorem dX2_odds_15 : decode cX2_odds 15 = .ok (.iload_n 3, 1) := by decide +kernel
theorem dX2_odds_16 : decode cX2_odds 16 = .ok (.ifCond .lt 8, 3) := by decide +kernel
theorem dX2_odds_19 : decode cX2_odds 19 = .ok (.iload_n 3, 1) := by decide +kernel
theorem dX2_odds_20 : decode cX2_odds 20 = .ok (.iconst 1, 1) := by decide +kernel
theorem dX2_odds_21 : decode cX2_odds 21 = .ok (.if_icmp .le 7, 3) := by decide +kernel
theorem dX2_odds_24 : decode cX2_odds 24 = .ok (.ldc2_w 160, 3) := by decide +kernel
theorem dX2_odds_27 : decode cX2_odds 27 = .ok (.lreturn, 1) := by decide +kernel
theorem dX2_odds_28 : decode cX2_odds 28 = .ok (.iconst 0, 1) := by decide +kernel
theorem dX2_odds_29 : decode cX2_odds 29 = .ok (.istore 4, 2) := by decide +kernel
theorem dX2_odds_31 : decode cX2_odds 31 = .ok (.iconst 0, 1) := by decide +kernel
theorem dX2_odds_32 : decode cX2_odds 32 = .ok (.istore 5, 2) := by decide +kernel
theorem dX2_odds_34 : decode cX2_odds 34 = .ok (.iload 5, 2) := by decide +kernel
theorem dX2_odds_36 : decode cX2_odds 36 = .ok (.bipush 99, 2) := by decide +kernel
theorem dX2_odds_38 : decode cX2_odds 38 = .ok (.if_icmp .gt 26, 3) := by decide +kernel
theorem dX2_odds_41 : decode cX2_odds 41 = .ok (.aload_n 0, 1) := by decide +kernel
theorem dX2_odds_42 : decode cX2_odds 42 = .ok (.getfield 14, 3) := by decide +kernel
theorem dX2_odds_45 : decode cX2_odds 45 = .ok (.iload_n 1, 1) := by decide +kernel
theorem dX2_odds_46 : decode cX2_odds 46 = .ok (.iload 5, 2) := by decide +kernel
theorem dX2_odds_48 : decode cX2_odds 48 = .ok (.invokevirtual 101, 3) := by decide +kernel
theorem dX2_odds_51 : decode cX2_odds 51 = .ok (.iload_n 2, 1) := by decide +kernel
theorem dX2_odds_52 : decode cX2_odds 52 = .ok (.if_icmp .lt 6, 3) := by decide +kernel
theorem dX2_odds_55 : decode cX2_odds 55 = .ok (.iinc 4 1, 3) := by decide +kernel
theorem dX2_odds_58 : decode cX2_odds 58 = .ok (.iinc 5 1, 3) := by decide +kernel
theorem dX2_odds_61 : decode cX2_odds 61 = .ok (.goto (-27), 3) := by decide +kernel
theorem dX2_odds_64 : decode cX2_odds 64 = .ok (.bipush 100, 2) := by decide +kernel
theorem dX2_odds_66 : decode cX2_odds 66 = .ok (.istore 5, 2) := by decide +kernel
theorem dX2_odds_68 : decode cX2_odds 68 = .ok (.iload 5, 2) := by decide +kernel
theorem dX2_odds_70 : decode cX2_odds 70 = .ok (.iconst 1, 1) := by decide +kernel
theorem dX2_odds_71 : decode cX2_odds 71 = .ok (.if_icmp .le 25, 3) := by decide +kernel
theorem dX2_odds_74 : decode cX2_odds 74 = .ok (.iload 4, 2) := by decide +kernel
theorem dX2_odds_76 : decode cX2_odds 76 = .ok (.iload 5, 2) := by decide +kernel
theorem dX2_odds_78 : decode cX2_odds 78 = .ok (.irem, 1) := by decide +kernel
theorem dX2_odds_79 : decode cX2_odds 79 = .ok (.ifCond .ne 11, 3) := by decide +kernel
theorem dX2_odds_82 : decode cX2_odds 82 = .ok (.bipush 100, 2) := by decide +kernel
theorem dX2_odds_84 : decode cX2_odds 84 = .ok (.iload 5, 2) := by decide +kernel
theorem dX2_odds_86 : decode cX2_odds 86 = .ok (.irem, 1) := by decide +kernel
theorem dX2_odds_87 : decode cX2_odds 87 = .ok (.ifCond .eq 9, 3) := by decide +kernel
theorem dX2_odds_90 : decode cX2_odds 90 = .ok (.iinc 5 (-1), 3) := by decide +kernel
theorem dX2_odds_93 : decode cX2_odds 93 = .ok (.goto (-25), 3) := by decide +kernel
theorem dX2_odds_96 : decode cX2_odds 96 = .ok (.iload_n 3, 1) := by decide +kernel
theorem dX2_odds_97 : decode cX2_odds 97 = .ok (.ifCond .ne 12, 3) := by decide +kernel
theorem dX2_odds_100 : decode cX2_odds 100 = .ok (.iload 4, 2) := by decide +kernel
theorem dX2_odds_102 : decode cX2_odds 102 = .ok (.iload 5, 2) := by decide +kernel
theorem dX2_odds_104 : decode cX2_odds 104 = .ok (.idiv, 1) := by decide +kernel
theorem dX2_odds_105 : decode cX2_odds 105 = .ok (.i2l, 1) := by decide +kernel
theorem dX2_odds_106 : decode cX2_odds 106 = .ok (.goto 9, 3) := by decide +kernel
theorem dX2_odds_109 : decode cX2_odds 109 = .ok (.bipush 100, 2) := by decide +kernel
theorem dX2_odds_111 : decode cX2_odds 111 = .ok (.iload 5, 2) := by decide +kernel
theorem dX2_odds_113 : decode cX2_odds 113 = .ok (.idiv, 1) := by decide +kernel
theorem dX2_odds_114 : decode cX2_odds 114 = .ok (.i2l, 1) := by decide +kernel
theorem dX2_odds_115 : decode cX2_odds 115 = .ok (.lreturn, 1) := by decide +kernel
theorem dX2_sheet_0 : decode cX2_sheet 0 = .ok (.aload_n 0, 1) := by decide +kernel
theorem dX2_sheet_1 : decode cX2_sheet 1 = .ok (.iconst 0, 1) := by decide +kernel
theorem dX2_sheet_2 : decode cX2_sheet 2 = .ok (.putfield 41, 3) := by decide +kernel
theorem dX2_sheet_5 : decode cX2_sheet 5 = .ok (.iload_n 1, 1) := by decide +kernel
theorem dX2_sheet_6 : decode cX2_sheet 6 = .ok (.invokestatic 45, 3) := by decide +kernel
theorem dX2_sheet_9 : decode cX2_sheet 9 = .ok (.ifCond .ne 5, 3) := by decide +kernel
theorem dX2_sheet_12 : decode cX2_sheet 12 = .ok (.iconst (-1), 1) := by decide +kernel
theorem dX2_sheet_13 : decode cX2_sheet 13 = .ok (.ireturn, 1) := by decide +kernel
theorem dX2_sheet_14 : decode cX2_sheet 14 = .ok (.iload_n 2, 1) := by decide +kernel
theorem dX2_sheet_15 : decode cX2_sheet 15 = .ok (.invokestatic 49, 3) := by decide +kernel
theorem dX2_sheet_18 : decode cX2_sheet 18 = .ok (.ifCond .eq 9, 3) := by decide +kernel
theorem dX2_sheet_21 : decode cX2_sheet 21 = .ok (.iload_n 3, 1) := by decide +kernel
theorem dX2_sheet_22 : decode cX2_sheet 22 = .ok (.bipush 60, 2) := by decide +kernel
theorem dX2_sheet_24 : decode cX2_sheet 24 = .ok (.if_icmp .le 6, 3) := by decide +kernel
theorem dX2_sheet_27 : decode cX2_sheet 27 = .ok (.bipush (-2), 2) := by decide +kernel
theorem dX2_sheet_29 : decode cX2_sheet 29 = .ok (.ireturn, 1) := by decide +kernel
theorem dX2_sheet_30 : decode cX2_sheet 30 = .ok (.iload_n 3, 1) := by decide +kernel
theorem dX2_sheet_31 : decode cX2_sheet 31 = .ok (.ifCond .ge 9, 3) := by decide +kernel
theorem dX2_sheet_34 : decode cX2_sheet 34 = .ok (.aload_n 0, 1) := by decide +kernel
theorem dX2_sheet_35 : decode cX2_sheet 35 = .ok (.iconst 4, 1) := by decide +kernel
theorem dX2_sheet_36 : decode cX2_sheet 36 = .ok (.invokevirtual 60, 3) := by decide +kernel
theorem dX2_sheet_39 : decode cX2_sheet 39 = .ok (.ireturn, 1) := by decide +kernel
theorem dX2_sheet_40 : decode cX2_sheet 40 = .ok (.aload_n 0, 1) := by decide +kernel
theorem dX2_sheet_41 : decode cX2_sheet 41 = .ok (.getfield 23, 3) := by decide +kernel
theorem dX2_sheet_44 : decode cX2_sheet 44 = .ok (.iload_n 1, 1) := by decide +kernel
theorem dX2_sheet_45 : decode cX2_sheet 45 = .ok (.aaload, 1) := by decide +kernel
theorem dX2_sheet_46 : decode cX2_sheet 46 = .ok (.iload_n 2, 1) := by decide +kernel
theorem dX2_sheet_47 : decode cX2_sheet 47 = .ok (.iload_n 3, 1) := by decide +kernel
theorem dX2_sheet_48 : decode cX2_sheet 48 = .ok (.invokevirtual 162, 3) := by decide +kernel
theorem dX2_sheet_51 : decode cX2_sheet 51 = .ok (.iconst 1, 1) := by decide +kernel
theorem dX2_sheet_52 : decode cX2_sheet 52 = .ok (.ireturn, 1) := by decide +kernel
theorem dX2_lose_0 : decode cX2_lose 0 = .ok (.iload_n 1, 1) := by decide +kernel
theorem dX2_lose_1 : decode cX2_lose 1 = .ok (.invokestatic 45, 3) := by decide +kernel
theorem dX2_lose_4 : decode cX2_lose 4 = .ok (.ifCond .ne 5, 3) := by decide +kernel
theorem dX2_lose_7 : decode cX2_lose 7 = .ok (.iconst (-1), 1) := by decide +kernel
theorem dX2_lose_8 : decode cX2_lose 8 = .ok (.ireturn, 1) := by decide +kernel
theorem dX2_lose_9 : decode cX2_lose 9 = .ok (.aload_n 0, 1) := by decide +kernel
theorem dX2_lose_10 : decode cX2_lose 10 = .ok (.getfield 23, 3) := by decide +kernel
theorem dX2_lose_13 : decode cX2_lose 13 = .ok (.iload_n 1, 1) := by decide +kernel
theorem dX2_lose_14 : decode cX2_lose 14 = .ok (.aaload, 1) := by decide +kernel
theorem dX2_lose_15 : decode cX2_lose 15 = .ok (.invokevirtual 166, 3) := by decide +kernel
theorem dX2_lose_18 : decode cX2_lose 18 = .ok (.istore_n 2, 1) := by decide +kernel
theorem dX2_lose_19 : decode cX2_lose 19 = .ok (.aload_n 0, 1) := by decide +kernel
theorem dX2_lose_20 : decode cX2_lose 20 = .ok (.getfield 23, 3) := by decide +kernel
theorem dX2_lose_23 : decode cX2_lose 23 = .ok (.iload_n 1, 1) := by decide +kernel
theorem dX2_lose_24 : decode cX2_lose 24 = .ok (.aaload, 1) := by decide +kernel
theorem dX2_lose_25 : decode cX2_lose 25 = .ok (.iconst (-1), 1) := by decide +kernel
theorem dX2_lose_26 : decode cX2_lose 26 = .ok (.putfield 169, 3) := by decide +kernel
theorem dX2_lose_29 : decode cX2_lose 29 = .ok (.iload_n 2, 1) := by decide +kernel
theorem dX2_lose_30 : decode cX2_lose 30 = .ok (.ifCond .eq 7, 3) := by decide +kernel
theorem dX2_lose_33 : decode cX2_lose 33 = .ok (.iconst 1, 1) := by decide +kernel
theorem dX2_lose_34 : decode cX2_lose 34 = .ok (.goto 4, 3) := by decide +kernel
theorem dX2_lose_37 : decode cX2_lose 37 = .ok (.iconst 0, 1) := by decide +kernel
theorem dX2_lose_38 : decode cX2_lose 38 = .ok (.ireturn, 1) := by decide +kernel
theorem dX2_put_0 : decode cX2_put 0 = .ok (.aload_n 0, 1) := by decide +kernel
theorem dX2_put_1 : decode cX2_put 1 = .ok (.iconst 0, 1) := by decide +kernel
theorem dX2_put_2 : decode cX2_put 2 = .ok (.putfield 41, 3) := by decide +kernel
theorem dX2_put_5 : decode cX2_put 5 = .ok (.iload_n 1, 1) := by decide +kernel
theorem dX2_put_6 : decode cX2_put 6 = .ok (.invokestatic 45, 3) := by decide +kernel
theorem dX2_put_9 : decode cX2_put 9 = .ok (.ifCond .ne 5, 3) := by decide +kernel
theorem dX2_put_12 : decode cX2_put 12 = .ok (.iconst (-1), 1) := by decide +kernel
theorem dX2_put_13 : decode cX2_put 13 = .ok (.ireturn, 1) := by decide +kernel
theorem dX2_put_14 : decode cX2_put 14 = .ok (.aload_n 0, 1) := by decide +kernel
theorem dX2_put_15 : decode cX2_put 15 = .ok (.getfield 23, 3) := by decide +kernel
theorem dX2_put_18 : decode cX2_put 18 = .ok (.iload_n 1, 1) := by decide +kernel
theorem dX2_put_19 : decode cX2_put 19 = .ok (.aaload, 1) := by decide +kernel
theorem dX2_put_20 : decode cX2_put 20 = .ok (.astore 4, 2) := by decide +kernel
theorem dX2_put_22 : decode cX2_put 22 = .ok (.aload 4, 2) := by decide +kernel
theorem dX2_put_24 : decode cX2_put 24 = .ok (.invokevirtual 166, 3) := by decide +kernel
theorem dX2_put_27 : decode cX2_put 27 = .ok (.ifCond .ne 9, 3) := by decide +kernel
theorem dX2_put_30 : decode cX2_put 30 = .ok (.aload_n 0, 1) := by decide +kernel
theorem dX2_put_31 : decode cX2_put 31 = .ok (.iconst 1, 1) := by decide +kernel
theorem dX2_put_32 : decode cX2_put 32 = .ok (.invokevirtual 60, 3) := by decide +kernel
theorem dX2_put_35 : decode cX2_put 35 = .ok (.ireturn, 1) := by decide +kernel
theorem dX2_put_36 : decode cX2_put 36 = .ok (.aload 4, 2) := by decide +kernel
theorem dX2_put_38 : decode cX2_put 38 = .ok (.iload_n 2, 1) := by decide +kernel
theorem dX2_put_39 : decode cX2_put 39 = .ok (.invokevirtual 172, 3) := by decide +kernel
theorem dX2_put_42 : decode cX2_put 42 = .ok (.ifCond .ne 9, 3) := by decide +kernel
theorem dX2_put_45 : decode cX2_put 45 = .ok (.aload_n 0, 1) := by decide +kernel
theorem dX2_put_46 : decode cX2_put 46 = .ok (.iconst 3, 1) := by decide +kernel
theorem dX2_put_47 : decode cX2_put 47 = .ok (.invokevirtual 60, 3) := by decide +kernel
theorem dX2_put_50 : decode cX2_put 50 = .ok (.ireturn, 1) := by decide +kernel
theorem dX2_put_51 : decode cX2_put 51 = .ok (.aload 4, 2) := by decide +kernel
theorem dX2_put_53 : decode cX2_put 53 = .ok (.getfield 63, 3) := by decide +kernel
theorem dX2_put_56 : decode cX2_put 56 = .ok (.iload_n 2, 1) := by decide +kernel
theorem dX2_put_57 : decode cX2_put 57 = .ok (.aload 4, 2) := by decide +kernel
theorem dX2_put_59 : decode cX2_put 59 = .ok (.iload_n 3, 1) := by decide +kernel
theorem dX2_put_60 : decode cX2_put 60 = .ok (.invokevirtual 175, 3) := by decide +kernel
theorem dX2_put_63 : decode cX2_put 63 = .ok (.iastore, 1) := by decide +kernel
theorem dX2_put_64 : decode cX2_put 64 = .ok (.iconst 1, 1) := by decide +kernel
theorem dX2_put_65 : decode cX2_put 65 = .ok (.ireturn, 1) := by decide +kernel
theorem dX2_cell_0 : decode cX2_cell 0 = .ok (.aload_n 0, 1) := by decide +kernel
theorem dX2_cell_1 : decode cX2_cell 1 = .ok (.iconst 0, 1) := by decide +kernel
theorem dX2_cell_2 : decode cX2_cell 2 = .ok (.putfield 41, 3) := by decide +kernel
theorem dX2_cell_5 : decode cX2_cell 5 = .ok (.iload_n 1, 1) := by decide +kernel
theorem dX2_cell_6 : decode cX2_cell 6 = .ok (.invokestatic 45, 3) := by decide +kernel
theorem dX2_cell_9 : decode cX2_cell 9 = .ok (.ifCond .eq 10, 3) := by decide +kernel
theorem dX2_cell_12 : decode cX2_cell 12 = .ok (.iload_n 3, 1) := by decide +kernel
theorem dX2_cell_13 : decode cX2_cell 13 = .ok (.invokestatic 49, 3) := by decide +kernel
theorem dX2_cell_16 : decode cX2_cell 16 = .ok (.ifCond .ne 7, 3) := by decide +kernel
theorem dX2_cell_19 : decode cX2_cell 19 = .ok (.ldc2_w 160, 3) := by decide +kernel
theorem dX2_cell_22 : decode cX2_cell 22 = .ok (.lreturn, 1) := by decide +kernel
theorem dX2_cell_23 : decode cX2_cell 23 = .ok (.aload_n 0, 1) := by decide +kernel
theorem dX2_cell_24 : decode cX2_cell 24 = .ok (.getfield 23, 3) := by decide +kernel
theorem dX2_cell_27 : decode cX2_cell 27 = .ok (.iload_n 1, 1) := by decide +kernel
theorem dX2_cell_28 : decode cX2_cell 28 = .ok (.aaload, 1) := by decide +kernel
theorem dX2_cell_29 : decode cX2_cell 29 = .ok (.astore 4, 2) := by decide +kernel
theorem dX2_cell_31 : decode cX2_cell 31 = .ok (.aload 4, 2) := by decide +kernel
theorem dX2_cell_33 : decode cX2_cell 33 = .ok (.iload_n 3, 1) := by decide +kernel
theorem dX2_cell_34 : decode cX2_cell 34 = .ok (.invokevirtual 52, 3) := by decide +kernel
theorem dX2_cell_37 : decode cX2_cell 37 = .ok (.istore 5, 2) := by decide +kernel
theorem dX2_cell_39 : decode cX2_cell 39 = .ok (.iload 5, 2) := by decide +kernel
theorem dX2_cell_41 : decode cX2_cell 41 = .ok (.ifCond .ne 15, 3) := by decide +kernel
theorem dX2_cell_44 : decode cX2_cell 44 = .ok (.aload 4, 2) := by decide +kernel
theorem dX2_cell_46 : decode cX2_cell 46 = .ok (.iload_n 2, 1) := by decide +kernel
theorem dX2_cell_47 : decode cX2_cell 47 = .ok (.invokevirtual 172, 3) := by decide +kernel
theorem dX2_cell_50 : decode cX2_cell 50 = .ok (.ifCond .ne 6, 3) := by decide +kernel
theorem dX2_cell_53 : decode cX2_cell 53 = .ok (.iconst 3, 1) := by decide +kernel
theorem dX2_cell_54 : decode cX2_cell 54 = .ok (.istore 5, 2) := by decide +kernel
theorem dX2_cell_56 : decode cX2_cell 56 = .ok (.iload 5, 2) := by decide +kernel
theorem dX2_cell_58 : decode cX2_cell 58 = .ok (.ifCond .eq 13, 3) := by decide +kernel
theorem dX2_cell_61 : decode cX2_cell 61 = .ok (.aload_n 0, 1) := by decide +kernel
theorem dX2_cell_62 : decode cX2_cell 62 = .ok (.iload 5, 2) := by decide +kernel
theorem dX2_cell_64 : decode cX2_cell 64 = .ok (.putfield 41, 3) := by decide +kernel
theorem dX2_cell_67 : decode cX2_cell 67 = .ok (.ldc2_w 160, 3) := by decide +kernel
theorem dX2_cell_70 : decode cX2_cell 70 = .ok (.lreturn, 1) := by decide +kernel
theorem dX2_cell_71 : decode cX2_cell 71 = .ok (.aload 4, 2) := by decide +kernel
theorem dX2_cell_73 : decode cX2_cell 73 = .ok (.getfield 63, 3) := by decide +kernel
theorem dX2_cell_76 : decode cX2_cell 76 = .ok (.iload_n 2, 1) := by decide +kernel
theorem dX2_cell_77 : decode cX2_cell 77 = .ok (.iaload, 1) := by decide +kernel
theorem dX2_cell_78 : decode cX2_cell 78 = .ok (.i2l, 1) := by decide +kernel
theorem dX2_cell_79 : decode cX2_cell 79 = .ok (.lreturn, 1) := by decide +kernel
theorem dX2_copy_0 : decode cX2_copy 0 = .ok (.aload_n 0, 1) := by decide +kernel
theorem dX2_copy_1 : decode cX2_copy 1 = .ok (.iconst 0, 1) := by decide +kernel
theorem dX2_copy_2 : decode cX2_copy 2 = .ok (.putfield 41, 3) := by decide +kernel
theorem dX2_copy_5 : decode cX2_copy 5 = .ok (.iload_n 1, 1) := by decide +kernel
theorem dX2_copy_6 : decode cX2_copy 6 = .ok (.invokestatic 45, 3) := by decide +kernel
theorem dX2_copy_9 : decode cX2_copy 9 = .ok (.ifCond .eq 10, 3) := by decide +kernel
theorem dX2_copy_12 : decode cX2_copy 12 = .ok (.iload_n 3, 1) := by decide +kernel
theorem dX2_copy_13 : decode cX2_copy 13 = .ok (.invokestatic 45, 3) := by decide +kernel
theorem dX2_copy_16 : decode cX2_copy 16 = .ok (.ifCond .ne 5, 3) := by decide +kernel
theorem dX2_copy_19 : decode cX2_copy 19 = .ok (.iconst (-1), 1) := by decide +kernel
theorem dX2_copy_20 : decode cX2_copy 20 = .ok (.ireturn, 1) := by decide +kernel
theorem dX2_copy_21 : decode cX2_copy 21 = .ok (.aload_n 0, 1) := by decide +kernel
theorem dX2_copy_22 : decode cX2_copy 22 = .ok (.getfield 23, 3) := by decide +kernel
theorem dX2_copy_25 : decode cX2_copy 25 = .ok (.iload_n 1, 1) := by decide +kernel
theorem dX2_copy_26 : decode cX2_copy 26 = .ok (.aaload, 1) := by decide +kernel
theorem dX2_copy_27 : decode cX2_copy 27 = .ok (.astore 6, 2) := by decide +kernel
theorem dX2_copy_29 : decode cX2_copy 29 = .ok (.aload_n 0, 1) := by decide +kernel
theorem dX2_copy_30 : decode cX2_copy 30 = .ok (.getfield 23, 3) := by decide +kernel
theorem dX2_copy_33 : decode cX2_copy 33 = .ok (.iload_n 3, 1) := by decide +kernel
theorem dX2_copy_34 : decode cX2_copy 34 = .ok (.aaload, 1) := by decide +kernel
theorem dX2_copy_35 : decode cX2_copy 35 = .ok (.astore 7, 2) := by decide +kernel
theorem dX2_copy_37 : decode cX2_copy 37 = .ok (.aload 6, 2) := by decide +kernel
theorem dX2_copy_39 : decode cX2_copy 39 = .ok (.invokevirtual 166, 3) := by decide +kernel
theorem dX2_copy_42 : decode cX2_copy 42 = .ok (.ifCond .eq 11, 3) := by decide +kernel
theorem dX2_copy_45 : decode cX2_copy 45 = .ok (.aload 7, 2) := by decide +kernel
theorem dX2_copy_47 : decode cX2_copy 47 = .ok (.invokevirtual 166, 3) := by decide +kernel
theorem dX2_copy_50 : decode cX2_copy 50 = .ok (.ifCond .ne 9, 3) := by decide +kernel
theorem dX2_copy_53 : decode cX2_copy 53 = .ok (.aload_n 0, 1) := by decide +kernel
theorem dX2_copy_54 : decode cX2_copy 54 = .ok (.iconst 1, 1) := by decide +kernel
theorem dX2_copy_55 : decode cX2_copy 55 = .ok (.invokevirtual 60, 3) := by decide +kernel
theorem dX2_copy_58 : decode cX2_copy 58 = .ok (.ireturn, 1) := by decide +kernel
theorem dX2_copy_59 : decode cX2_copy 59 = .ok (.aload 6, 2) := by decide +kernel
theorem dX2_copy_61 : decode cX2_copy 61 = .ok (.getfield 178, 3) := by decide +kernel
theorem dX2_copy_64 : decode cX2_copy 64 = .ok (.aload 7, 2) := by decide +kernel
theorem dX2_copy_66 : decode cX2_copy 66 = .ok (.getfield 178, 3) := by decide +kernel
theorem dX2_copy_69 : decode cX2_copy 69 = .ok (.if_icmp .eq 9, 3) := by decide +kernel
theorem dX2_copy_72 : decode cX2_copy 72 = .ok (.aload_n 0, 1) := by decide +kernel
theorem dX2_copy_73 : decode cX2_copy 73 = .ok (.iconst 2, 1) := by decide +kernel
theorem dX2_copy_74 : decode cX2_copy 74 = .ok (.invokevirtual 60, 3) := by decide +kernel
theorem dX2_copy_77 : decode cX2_copy 77 = .ok (.ireturn, 1) := by decide +kernel
theorem dX2_copy_78 : decode cX2_copy 78 = .ok (.aload 6, 2) := by decide +kernel
theorem dX2_copy_80 : decode cX2_copy 80 = .ok (.iload_n 2, 1) := by decide +kernel
theorem dX2_copy_81 : decode cX2_copy 81 = .ok (.iload 5, 2) := by decide +kernel
theorem dX2_copy_83 : decode cX2_copy 83 = .ok (.invokevirtual 56, 3) := by decide +kernel
theorem dX2_copy_86 : decode cX2_copy 86 = .ok (.ifCond .ne 15, 3) := by decide +kernel
theorem dX2_copy_89 : decode cX2_copy 89 = .ok (.aload 7, 2) := by decide +kernel
theorem dX2_copy_91 : decode cX2_copy 91 = .ok (.iload 4, 2) := by decide +kernel
theorem dX2_copy_93 : decode cX2_copy 93 = .ok (.iload 5, 2) := by decide +kernel
theorem dX2_copy_95 : decode cX2_copy 95 = .ok (.invokevirtual 56, 3) := by decide +kernel
theorem dX2_copy_98 : decode cX2_copy 98 = .ok (.ifCond .eq 9, 3) := by decide +kernel
theorem dX2_copy_101 : decode cX2_copy 101 = .ok (.aload_n 0, 1) := by decide +kernel
theorem dX2_copy_102 : decode cX2_copy 102 = .ok (.iconst 3, 1) := by decide +kernel
theorem dX2_copy_103 : decode cX2_copy 103 = .ok (.invokevirtual 60, 3) := by decide +kernel
theorem dX2_copy_106 : decode cX2_copy 106 = .ok (.ireturn, 1) := by decide +kernel
theorem dX2_copy_107 : decode cX2_copy 107 = .ok (.aload 6, 2) := by decide +kernel
theorem dX2_copy_109 : decode cX2_copy 109 = .ok (.getfield 63, 3) := by decide +kernel
theorem dX2_copy_112 : decode cX2_copy 112 = .ok (.iload_n 2, 1) := by decide +kernel
theorem dX2_copy_113 : decode cX2_copy 113 = .ok (.aload 7, 2) := by decide +kernel
theorem dX2_copy_115 : decode cX2_copy 115 = .ok (.getfield 63, 3) := by decide +kernel
theorem dX2_copy_118 : decode cX2_copy 118 = .ok (.iload 4, 2) := by decide +kernel
theorem dX2_copy_120 : decode cX2_copy 120 = .ok (.iload 5, 2) := by decide +kernel
theorem dX2_copy_122 : decode cX2_copy 122 = .ok (.invokestatic 181, 3) := by decide +kernel
theorem dX2_copy_125 : decode cX2_copy 125 = .ok (.iload 5, 2) := by decide +kernel
theorem dX2_copy_127 : decode cX2_copy 127 = .ok (.ireturn, 1) := by decide +kernel
theorem dX2_tell_0 : decode cX2_tell 0 = .ok (.aload_n 0, 1) := by decide +kernel
theorem dX2_tell_1 : decode cX2_tell 1 = .ok (.iload_n 1, 1) := by decide +kernel
theorem dX2_tell_2 : decode cX2_tell 2 = .ok (.invokevirtual 77, 3) := by decide +kernel
theorem dX2_tell_5 : decode cX2_tell 5 = .ok (.ifCond .ne 5, 3) := by decide +kernel
theorem dX2_tell_8 : decode cX2_tell 8 = .ok (.iconst (-1), 1) := by decide +kernel
theorem dX2_tell_9 : decode cX2_tell 9 = .ok (.ireturn, 1) := by decide +kernel
theorem dX2_tell_10 : decode cX2_tell 10 = .ok (.aload_n 0, 1) := by decide +kernel
theorem dX2_tell_11 : decode cX2_tell 11 = .ok (.getfield 14, 3) := by decide +kernel
theorem dX2_tell_14 : decode cX2_tell 14 = .ok (.getfield 80, 3) := by decide +kernel
theorem dX2_tell_17 : decode cX2_tell 17 = .ok (.iload_n 1, 1) := by decide +kernel
theorem dX2_tell_18 : decode cX2_tell 18 = .ok (.iaload, 1) := by decide +kernel
theorem dX2_tell_19 : decode cX2_tell 19 = .ok (.lookupswitch 37 #[(1, 25), (2, 31)], 25) := by decide +kernel
theorem dX2_tell_44 : decode cX2_tell 44 = .ok (.aload_n 0, 1) := by decide +kernel
theorem dX2_tell_45 : decode cX2_tell 45 = .ok (.iload_n 1, 1) := by decide +kernel
theorem dX2_tell_46 : decode cX2_tell 46 = .ok (.invokevirtual 187, 3) := by decide +kernel
theorem dX2_tell_49 : decode cX2_tell 49 = .ok (.ireturn, 1) := by decide +kernel
theorem dX2_tell_50 : decode cX2_tell 50 = .ok (.aload_n 0, 1) := by decide +kernel
theorem dX2_tell_51 : decode cX2_tell 51 = .ok (.iload_n 1, 1) := by decide +kernel
theorem dX2_tell_52 : decode cX2_tell 52 = .ok (.invokevirtual 190, 3) := by decide +kernel
theorem dX2_tell_55 : decode cX2_tell 55 = .ok (.ireturn, 1) := by decide +kernel
theorem dX2_tell_56 : decode cX2_tell 56 = .ok (.aload_n 0, 1) := by decide +kernel
theorem dX2_tell_57 : decode cX2_tell 57 = .ok (.iload_n 1, 1) := by decide +kernel
theorem dX2_tell_58 : decode cX2_tell 58 = .ok (.invokevirtual 193, 3) := by decide +kernel
theorem dX2_tell_61 : decode cX2_tell 61 = .ok (.ireturn, 1) := by decide +kernel
theorem dX2_knock_0 : decode cX2_knock 0 = .ok (.aload_n 0, 1) := by decide +kernel
theorem dX2_knock_1 : decode cX2_knock 1 = .ok (.iload_n 1, 1) := by decide +kernel
theorem dX2_knock_2 : decode cX2_knock 2 = .ok (.invokevirtual 77, 3) := by decide +kernel
theorem dX2_knock_5 : decode cX2_knock 5 = .ok (.ifCond .ne 5, 3) := by decide +kernel
theorem dX2_knock_8 : decode cX2_knock 8 = .ok (.iconst (-1), 1) := by decide +kernel
theorem dX2_knock_9 : decode cX2_knock 9 = .ok (.ireturn, 1) := by decide +kernel
theorem dX2_knock_10 : decode cX2_knock 10 = .ok (.aload_n 0, 1) := by decide +kernel
theorem dX2_knock_11 : decode cX2_knock 11 = .ok (.getfield 14, 3) := by decide +kernel
theorem dX2_knock_14 : decode cX2_knock 14 = .ok (.getfield 80, 3) := by decide +kernel
theorem dX2_knock_17 : decode cX2_knock 17 = .ok (.iload_n 1, 1) := by decide +kernel
theorem dX2_knock_18 : decode cX2_knock 18 = .ok (.iaload, 1) := by decide +kernel
theorem dX2_knock_19 : decode cX2_knock 19 = .ok (.iconst 2, 1) := by decide +kernel
theorem dX2_knock_20 : decode cX2_knock 20 = .ok (.if_icmp .ne 7, 3) := by decide +kernel
theorem dX2_knock_23 : decode cX2_knock 23 = .ok (.iconst 1, 1) := by decide +kernel
theorem dX2_knock_24 : decode cX2_knock 24 = .ok (.goto 4, 3) := by decide +kernel
theorem dX2_knock_27 : decode cX2_knock 27 = .ok (.iconst 0, 1) := by decide +kernel
theorem dX2_knock_28 : decode cX2_knock 28 = .ok (.istore_n 2, 1) := by decide +kernel
theorem dX2_knock_29 : decode cX2_knock 29 = .ok (.aload_n 0, 1) := by decide +kernel
theorem dX2_knock_30 : decode cX2_knock 30 = .ok (.iload_n 2, 1) := by decide +kernel
theorem dX2_knock_31 : decode cX2_knock 31 = .ok (.ifCond .eq 7, 3) := by decide +kernel
theorem dX2_knock_34 : decode cX2_knock 34 = .ok (.iconst 5, 1) := by decide +kernel
theorem dX2_knock_35 : decode cX2_knock 35 = .ok (.goto 4, 3) := by decide +kernel
theorem dX2_knock_38 : decode cX2_knock 38 = .ok (.iconst 4, 1) := by decide +kernel
theorem dX2_knock_39 : decode cX2_knock 39 = .ok (.invokevirtual 196, 3) := by decide +kernel
theorem dX2_knock_42 : decode cX2_knock 42 = .ok (.iload_n 2, 1) := by decide +kernel
theorem dX2_knock_43 : decode cX2_knock 43 = .ok (.ifCond .eq 8, 3) := by decide +kernel
theorem dX2_knock_46 : decode cX2_knock 46 = .ok (.bipush 30, 2) := by decide +kernel
theorem dX2_knock_48 : decode cX2_knock 48 = .ok (.goto 4, 3) := by decide +kernel
theorem dX2_knock_51 : decode cX2_knock 51 = .ok (.iload_n 1, 1) := by decide +kernel
theorem dX2_knock_52 : decode cX2_knock 52 = .ok (.ireturn, 1) := by decide +kernel
theorem dX2_as_0 : decode cX2_as 0 = .ok (.aload_n 0, 1) := by decide +kernel
theorem dX2_as_1 : decode cX2_as 1 = .ok (.iconst 0, 1) := by decide +kernel
theorem dX2_as_2 : decode cX2_as 2 = .ok (.putfield 41, 3) := by decide +kernel
theorem dX2_as_5 : decode cX2_as 5 = .ok (.aload_n 0, 1) := by decide +kernel
theorem dX2_as_6 : decode cX2_as 6 = .ok (.iload_n 1, 1) := by decide +kernel
theorem dX2_as_7 : decode cX2_as 7 = .ok (.invokevirtual 77, 3) := by decide +kernel
theorem dX2_as_10 : decode cX2_as 10 = .ok (.ifCond .ne 5, 3) := by decide +kernel
theorem dX2_as_13 : decode cX2_as 13 = .ok (.iconst (-1), 1) := by decide +kernel
theorem dX2_as_14 : decode cX2_as 14 = .ok (.ireturn, 1) := by decide +kernel
theorem dX2_as_15 : decode cX2_as 15 = .ok (.iload_n 2, 1) := by decide +kernel
theorem dX2_as_16 : decode cX2_as 16 = .ok (.ifCond .lt 8, 3) := by decide +kernel
theorem dX2_as_19 : decode cX2_as 19 = .ok (.iload_n 2, 1) := by decide +kernel
theorem dX2_as_20 : decode cX2_as 20 = .ok (.iconst 3, 1) := by decide +kernel
theorem dX2_as_21 : decode cX2_as 21 = .ok (.if_icmp .lt 6, 3) := by decide +kernel
theorem dX2_as_24 : decode cX2_as 24 = .ok (.bipush (-2), 2) := by decide +kernel
theorem dX2_as_26 : decode cX2_as 26 = .ok (.ireturn, 1) := by decide +kernel
theorem dX2_as_27 : decode cX2_as 27 = .ok (.aload_n 0, 1) := by decide +kernel
theorem dX2_as_28 : decode cX2_as 28 = .ok (.getfield 14, 3) := by decide +kernel
theorem dX2_as_31 : decode cX2_as 31 = .ok (.getfield 80, 3) := by decide +kernel
theorem dX2_as_34 : decode cX2_as 34 = .ok (.iload_n 1, 1) := by decide +kernel
theorem dX2_as_35 : decode cX2_as 35 = .ok (.iaload, 1) := by decide +kernel
theorem dX2_as_36 : decode cX2_as 36 = .ok (.iload_n 2, 1) := by decide +kernel
theorem dX2_as_37 : decode cX2_as 37 = .ok (.if_icmp .lt 7, 3) := by decide +kernel
theorem dX2_as_40 : decode cX2_as 40 = .ok (.iconst 1, 1) := by decide +kernel
theorem dX2_as_41 : decode cX2_as 41 = .ok (.goto 8, 3) := by decide +kernel
theorem dX2_as_44 : decode cX2_as 44 = .ok (.aload_n 0, 1) := by decide +kernel
theorem dX2_as_45 : decode cX2_as 45 = .ok (.iconst 2, 1) := by decide +kernel
theorem dX2_as_46 : decode cX2_as 46 = .ok (.invokevirtual 60, 3) := by decide +kernel
theorem dX2_as_49 : decode cX2_as 49 = .ok (.ireturn, 1) := by decide +kernel
theorem dX2_trace_0 : decode cX2_trace 0 = .ok (.aload_n 0, 1) := by decide +kernel
theorem dX2_trace_1 : decode cX2_trace 1 = .ok (.getfield 38, 3) := by decide +kernel
theorem dX2_trace_4 : decode cX2_trace 4 = .ok (.ireturn, 1) := by decide +kernel
theorem dX2_fault_0 : decode cX2_fault 0 = .ok (.aload_n 0, 1) := by decide +kernel
theorem dX2_fault_1 : decode cX2_fault 1 = .ok (.getfield 41, 3) := by decide +kernel
theorem dX2_fault_4 : decode cX2_fault 4 = .ok (.ireturn, 1) := by decide +kernel
theorem dX2_many_0 : decode cX2_many 0 = .ok (.iload_n 1, 1) := by decide +kernel
theorem dX2_many_1 : decode cX2_many 1 = .ok (.tableswitch 72 0 4 #[35, 43, 51, 59, 67], 35) := by decide +kernel
theorem dX2_many_36 : decode cX2_many 36 = .ok (.aload_n 0, 1) := by decide +kernel
theorem dX2_many_37 : decode cX2_many 37 = .ok (.getfield 14, 3) := by decide +kernel
theorem dX2_many_40 : decode cX2_many 40 = .ok (.getfield 74, 3) := by decide +kernel
theorem dX2_many_43 : decode cX2_many 43 = .ok (.ireturn, 1) := by decide +kernel
theorem dX2_many_44 : decode cX2_many 44 = .ok (.aload_n 0, 1) := by decide +kernel
theorem dX2_many_45 : decode cX2_many 45 = .ok (.getfield 14, 3) := by decide +kernel
theorem dX2_many_48 : decode cX2_many 48 = .ok (.getfield 98, 3) := by decide +kernel
theorem dX2_many_51 : decode cX2_many 51 = .ok (.ireturn, 1) := by decide +kernel
theorem dX2_many_52 : decode cX2_many 52 = .ok (.aload_n 0, 1) := by decide +kernel
theorem dX2_many_53 : decode cX2_many 53 = .ok (.getfield 14, 3) := by decide +kernel
theorem dX2_many_56 : decode cX2_many 56 = .ok (.getfield 199, 3) := by decide +kernel
theorem dX2_many_59 : decode cX2_many 59 = .ok (.ireturn, 1) := by decide +kernel
theorem dX2_many_60 : decode cX2_many 60 = .ok (.aload_n 0, 1) := by decide +kernel
theorem dX2_many_61 : decode cX2_many 61 = .ok (.getfield 14, 3) := by decide +kernel
theorem dX2_many_64 : decode cX2_many 64 = .ok (.invokevirtual 119, 3) := by decide +kernel
theorem dX2_many_67 : decode cX2_many 67 = .ok (.ireturn, 1) := by decide +kernel
theorem dX2_many_68 : decode cX2_many 68 = .ok (.aload_n 0, 1) := by decide +kernel
theorem dX2_many_69 : decode cX2_many 69 = .ok (.getfield 34, 3) := by decide +kernel
theorem dX2_many_72 : decode cX2_many 72 = .ok (.ireturn, 1) := by decide +kernel
theorem dX2_many_73 : decode cX2_many 73 = .ok (.bipush (-2), 2) := by decide +kernel
theorem dX2_many_75 : decode cX2_many 75 = .ok (.ireturn, 1) := by decide +kernel
theorem dX2_hasStreet_0 : decode cX2_hasStreet 0 = .ok (.aload_n 0, 1) := by decide +kernel
theorem dX2_hasStreet_1 : decode cX2_hasStreet 1 = .ok (.getfield 14, 3) := by decide +kernel
theorem dX2_hasStreet_4 : decode cX2_hasStreet 4 = .ok (.getfield 74, 3) := by decide +kernel
theorem dX2_hasStreet_7 : decode cX2_hasStreet 7 = .ok (.ifCond .le 7, 3) := by decide +kernel
theorem dX2_hasStreet_10 : decode cX2_hasStreet 10 = .ok (.iconst 1, 1) := by decide +kernel
theorem dX2_hasStreet_11 : decode cX2_hasStreet 11 = .ok (.goto 4, 3) := by decide +kernel
theorem dX2_hasStreet_14 : decode cX2_hasStreet 14 = .ok (.iconst 0, 1) := by decide +kernel
theorem dX2_hasStreet_15 : decode cX2_hasStreet 15 = .ok (.ireturn, 1) := by decide +kernel
theorem dX2_isHouse_0 : decode cX2_isHouse 0 = .ok (.iload_n 1, 1) := by decide +kernel
theorem dX2_isHouse_1 : decode cX2_isHouse 1 = .ok (.ifCond .lt 18, 3) := by decide +kernel
theorem dX2_isHouse_4 : decode cX2_isHouse 4 = .ok (.iload_n 1, 1) := by decide +kernel
theorem dX2_isHouse_5 : decode cX2_isHouse 5 = .ok (.aload_n 0, 1) := by decide +kernel
theorem dX2_isHouse_6 : decode cX2_isHouse 6 = .ok (.getfield 14, 3) := by decide +kernel
theorem dX2_isHouse_9 : decode cX2_isHouse 9 = .ok (.getfield 74, 3) := by decide +kernel
theorem dX2_isHouse_12 : decode cX2_isHouse 12 = .ok (.if_icmp .ge 7, 3) := by decide +kernel
theorem dX2_isHouse_15 : decode cX2_isHouse 15 = .ok (.iconst 1, 1) := by decide +kernel
theorem dX2_isHouse_16 : decode cX2_isHouse 16 = .ok (.goto 4, 3) := by decide +kernel
theorem dX2_isHouse_19 : decode cX2_isHouse 19 = .ok (.iconst 0, 1) := by decide +kernel
theorem dX2_isHouse_20 : decode cX2_isHouse 20 = .ok (.ireturn, 1) := by decide +kernel
theorem dX2_isSheet_0 : decode cX2_isSheet 0 = .ok (.iload_n 0, 1) := by decide +kernel
theorem dX2_isSheet_1 : decode cX2_isSheet 1 = .ok (.ifCond .lt 12, 3) := by decide +kernel
theorem dX2_isSheet_4 : decode cX2_isSheet 4 = .ok (.iload_n 0, 1) := by decide +kernel
theorem dX2_isSheet_5 : decode cX2_isSheet 5 = .ok (.iconst 4, 1) := by decide +kernel
theorem dX2_isSheet_6 : decode cX2_isSheet 6 = .ok (.if_icmp .ge 7, 3) := by decide +kernel
theorem dX2_isSheet_9 : decode cX2_isSheet 9 = .ok (.iconst 1, 1) := by decide +kernel
theorem dX2_isSheet_10 : decode cX2_isSheet 10 = .ok (.goto 4, 3) := by decide +kernel
theorem dX2_isSheet_13 : decode cX2_isSheet 13 = .ok (.iconst 0, 1) := by decide +kernel
theorem dX2_isSheet_14 : decode cX2_isSheet 14 = .ok (.ireturn, 1) := by decide +kernel
theorem dX2_isLane_0 : decode cX2_isLane 0 = .ok (.iload_n 0, 1) := by decide +kernel
theorem dX2_isLane_1 : decode cX2_isLane 1 = .ok (.ifCond .lt 12, 3) := by decide +kernel
theorem dX2_isLane_4 : decode cX2_isLane 4 = .ok (.iload_n 0, 1) := by decide +kernel
theorem dX2_isLane_5 : decode cX2_isLane 5 = .ok (.iconst 3, 1) := by decide +kernel
theorem dX2_isLane_6 : decode cX2_isLane 6 = .ok (.if_icmp .ge 7, 3) := by decide +kernel
theorem dX2_isLane_9 : decode cX2_isLane 9 = .ok (.iconst 1, 1) := by decide +kernel
theorem dX2_isLane_10 : decode cX2_isLane 10 = .ok (.goto 4, 3) := by decide +kernel
theorem dX2_isLane_13 : decode cX2_isLane 13 = .ok (.iconst 0, 1) := by decide +kernel
theorem dX2_isLane_14 : decode cX2_isLane 14 = .ok (.ireturn, 1) := by decide +kernel
theorem dX2_isTemper_0 : decode cX2_isTemper 0 = .ok (.iload_n 0, 1) := by decide +kernel
theorem dX2_isTemper_1 : decode cX2_isTemper 1 = .ok (.ifCond .lt 13, 3) := by decide +kernel
theorem dX2_isTemper_4 : decode cX2_isTemper 4 = .ok (.iload_n 0, 1) := by decide +kernel
theorem dX2_isTemper_5 : decode cX2_isTemper 5 = .ok (.bipush 9, 2) := by decide +kernel
theorem dX2_isTemper_7 : decode cX2_isTemper 7 = .ok (.if_icmp .gt 7, 3) := by decide +kernel
theorem dX2_isTemper_10 : decode cX2_isTemper 10 = .ok (.iconst 1, 1) := by decide +kernel
theorem dX2_isTemper_11 : decode cX2_isTemper 11 = .ok (.goto 4, 3) := by decide +kernel
theorem dX2_isTemper_14 : decode cX2_isTemper 14 = .ok (.iconst 0, 1) := by decide +kernel
theorem dX2_isTemper_15 : decode cX2_isTemper 15 = .ok (.ireturn, 1) := by decide +kernel
theorem dX2_isCrate_0 : decode cX2_isCrate 0 = .ok (.iload_n 0, 1) := by decide +kernel
theorem dX2_isCrate_1 : decode cX2_isCrate 1 = .ok (.ifCond .lt 13, 3) := by decide +kernel
theorem dX2_isCrate_4 : decode cX2_isCrate 4 = .ok (.iload_n 0, 1) := by decide +kernel
theorem dX2_isCrate_5 : decode cX2_isCrate 5 = .ok (.bipush 99, 2) := by decide +kernel
theorem dX2_isCrate_7 : decode cX2_isCrate 7 = .ok (.if_icmp .gt 7, 3) := by decide +kernel
theorem dX2_isCrate_10 : decode cX2_isCrate 10 = .ok (.iconst 1, 1) := by decide +kernel
theorem dX2_isCrate_11 : decode cX2_isCrate 11 = .ok (.goto 4, 3) := by decide +kernel
theorem dX2_isCrate_14 : decode cX2_isCrate 14 = .ok (.iconst 0, 1) := by decide +kernel
theorem dX2_isCrate_15 : decode cX2_isCrate 15 = .ok (.ireturn, 1) := by decide +kernel
theorem dX2_isAskedOfSeason_0 : decode cX2_isAskedOfSeason 0 = .ok (.iload_n 0, 1) := by decide +kernel
theorem dX2_isAskedOfSeason_1 : decode cX2_isAskedOfSeason 1 = .ok (.ifCond .lt 8, 3) := by decide +kernel
theorem dX2_isAskedOfSeason_4 : decode cX2_isAskedOfSeason 4 = .ok (.iload_n 0, 1) := by decide +kernel
theorem dX2_isAskedOfSeason_5 : decode cX2_isAskedOfSeason 5 = .ok (.iconst 4, 1) := by decide +kernel
theorem dX2_isAskedOfSeason_6 : decode cX2_isAskedOfSeason 6 = .ok (.if_icmp .le 15, 3) := by decide +kernel
theorem dX2_isAskedOfSeason_9 : decode cX2_isAskedOfSeason 9 = .ok (.iload_n 0, 1) := by decide +kernel
theorem dX2_isAskedOfSeason_10 : decode cX2_isAskedOfSeason 10 = .ok (.bipush 10, 2) := by decide +kernel
theorem dX2_isAskedOfSeason_12 : decode cX2_isAskedOfSeason 12 = .ok (.if_icmp .lt 13, 3) := by decide +kernel
theorem dX2_isAskedOfSeason_15 : decode cX2_isAskedOfSeason 15 = .ok (.iload_n 0, 1) := by decide +kernel
theorem dX2_isAskedOfSeason_16 : decode cX2_isAskedOfSeason 16 = .ok (.bipush 18, 2) := by decide +kernel
theorem dX2_isAskedOfSeason_18 : decode cX2_isAskedOfSeason 18 = .ok (.if_icmp .ge 7, 3) := by decide +kernel
theorem dX2_isAskedOfSeason_21 : decode cX2_isAskedOfSeason 21 = .ok (.iconst 1, 1) := by decide +kernel
theorem dX2_isAskedOfSeason_22 : decode cX2_isAskedOfSeason 22 = .ok (.goto 4, 3) := by decide +kernel
theorem dX2_isAskedOfSeason_25 : decode cX2_isAskedOfSeason 25 = .ok (.iconst 0, 1) := by decide +kernel
theorem dX2_isAskedOfSeason_26 : decode cX2_isAskedOfSeason 26 = .ok (.ireturn, 1) := by decide +kernel
theorem dX2_fails_0 : decode cX2_fails 0 = .ok (.aload_n 0, 1) := by decide +kernel
theorem dX2_fails_1 : decode cX2_fails 1 = .ok (.iload_n 1, 1) := by decide +kernel
theorem dX2_fails_2 : decode cX2_fails 2 = .ok (.putfield 41, 3) := by decide +kernel
theorem dX2_fails_5 : decode cX2_fails 5 = .ok (.bipush (-10), 2) := by decide +kernel
theorem dX2_fails_7 : decode cX2_fails 7 = .ok (.iload_n 1, 1) := by decide +kernel
theorem dX2_fails_8 : decode cX2_fails 8 = .ok (.isub, 1) := by decide +kernel
theorem dX2_fails_9 : decode cX2_fails 9 = .ok (.ireturn, 1) := by decide +kernel
theorem dX2_firstTextFault_0 : decode cX2_firstTextFault 0 = .ok (.iconst 0, 1) := by decide +kernel
theorem dX2_firstTextFault_1 : decode cX2_firstTextFault 1 = .ok (.istore_n 3, 1) := by decide +kernel
theorem dX2_firstTextFault_2 : decode cX2_firstTextFault 2 = .ok (.iload_n 3, 1) := by decide +kernel
theorem dX2_firstTextFault_3 : decode cX2_firstTextFault 3 = .ok (.iload_n 2, 1) := by decide +kernel
theorem dX2_firstTextFault_4 : decode cX2_firstTextFault 4 = .ok (.if_icmp .ge 23, 3) := by decide +kernel
theorem dX2_firstTextFault_7 : decode cX2_firstTextFault 7 = .ok (.iload_n 3, 1) := by decide +kernel
theorem dX2_firstTextFault_8 : decode cX2_firstTextFault 8 = .ok (.aload_n 0, 1) := by decide +kernel
theorem dX2_firstTextFault_9 : decode cX2_firstTextFault 9 = .ok (.iload_n 1, 1) := by decide +kernel
theorem dX2_firstTextFault_10 : decode cX2_firstTextFault 10 = .ok (.iload_n 3, 1) := by decide +kernel
theorem dX2_firstTextFault_11 : decode cX2_firstTextFault 11 = .ok (.iadd, 1) := by decide +kernel
theorem dX2_firstTextFault_12 : decode cX2_firstTextFault 12 = .ok (.iaload, 1) := by decide +kernel
theorem dX2_firstTextFault_13 : decode cX2_firstTextFault 13 = .ok (.invokestatic 202, 3) := by decide +kernel
theorem dX2_firstTextFault_16 : decode cX2_firstTextFault 16 = .ok (.ifCond .ne 5, 3) := by decide +kernel
theorem dX2_firstTextFault_19 : decode cX2_firstTextFault 19 = .ok (.iload_n 3, 1) := by decide +kernel
theorem dX2_firstTextFault_20 : decode cX2_firstTextFault 20 = .ok (.ireturn, 1) := by decide +kernel
theorem dX2_firstTextFault_21 : decode cX2_firstTextFault 21 = .ok (.iinc 3 1, 3) := by decide +kernel
theorem dX2_firstTextFault_24 : decode cX2_firstTextFault 24 = .ok (.goto (-22), 3) := by decide +kernel
theorem dX2_firstTextFault_27 : decode cX2_firstTextFault 27 = .ok (.iload_n 2, 1) := by decide +kernel
theorem dX2_firstTextFault_28 : decode cX2_firstTextFault 28 = .ok (.iconst 3, 1) := by decide +kernel
theorem dX2_firstTextFault_29 : decode cX2_firstTextFault 29 = .ok (.if_icmp .le 15, 3) := by decide +kernel
theorem dX2_firstTextFault_32 : decode cX2_firstTextFault 32 = .ok (.iload_n 2, 1) := by decide +kernel
theorem dX2_firstTextFault_33 : decode cX2_firstTextFault 33 = .ok (.iconst 3, 1) := by decide +kernel
theorem dX2_firstTextFault_34 : decode cX2_firstTextFault 34 = .ok (.isub, 1) := by decide +kernel
theorem dX2_firstTextFault_35 : decode cX2_firstTextFault 35 = .ok (.iconst 4, 1) := by decide +kernel
theorem dX2_firstTextFault_36 : decode cX2_firstTextFault 36 = .ok (.irem, 1) := by decide +kernel
theorem dX2_firstTextFault_37 : decode cX2_firstTextFault 37 = .ok (.ifCond .ne 7, 3) := by decide +kernel
theorem dX2_firstTextFault_40 : decode cX2_firstTextFault 40 = .ok (.iconst 1, 1) := by decide +kernel
theorem dX2_firstTextFault_41 : decode cX2_firstTextFault 41 = .ok (.goto 4, 3) := by decide +kernel
theorem dX2_firstTextFault_44 : decode cX2_firstTextFault 44 = .ok (.iconst 0, 1) := by decide +kernel
theorem dX2_firstTextFault_45 : decode cX2_firstTextFault 45 = .ok (.istore_n 3, 1) := by decide +kernel
theorem dX2_firstTextFault_46 : decode cX2_firstTextFault 46 = .ok (.iload_n 3, 1) := by decide +kernel
theorem dX2_firstTextFault_47 : decode cX2_firstTextFault 47 = .ok (.ifCond .eq 8, 3) := by decide +kernel
theorem dX2_firstTextFault_50 : decode cX2_firstTextFault 50 = .ok (.bipush (-9), 2) := by decide +kernel
theorem dX2_firstTextFault_52 : decode cX2_firstTextFault 52 = .ok (.goto 4, 3) := by decide +kernel
theorem dX2_firstTextFault_55 : decode cX2_firstTextFault 55 = .ok (.iload_n 2, 1) := by decide +kernel
theorem dX2_firstTextFault_56 : decode cX2_firstTextFault 56 = .ok (.ireturn, 1) := by decide +kernel
theorem dX2_goesOn_0 : decode cX2_goesOn 0 = .ok (.iload_n 0, 1) := by decide +kernel
theorem dX2_goesOn_1 : decode cX2_goesOn 1 = .ok (.bipush 35, 2) := by decide +kernel
theorem dX2_goesOn_3 : decode cX2_goesOn 3 = .ok (.if_icmp .lt 5, 3) := by decide +kernel
theorem dX2_goesOn_6 : decode cX2_goesOn 6 = .ok (.iconst 0, 1) := by decide +kernel
theorem dX2_goesOn_7 : decode cX2_goesOn 7 = .ok (.ireturn, 1) := by decide +kernel
theorem dX2_goesOn_8 : decode cX2_goesOn 8 = .ok (.iload_n 0, 1) := by decide +kernel
theorem dX2_goesOn_9 : decode cX2_goesOn 9 = .ok (.iconst 3, 1) := by decide +kernel
theorem dX2_goesOn_10 : decode cX2_goesOn 10 = .ok (.if_icmp .ge 26, 3) := by decide +kernel
theorem dX2_goesOn_13 : decode cX2_goesOn 13 = .ok (.iload_n 0, 1) := by decide +kernel
theorem dX2_goesOn_14 : decode cX2_goesOn 14 = .ok (.ifCond .ne 17, 3) := by decide +kernel
theorem dX2_goesOn_17 : decode cX2_goesOn 17 = .ok (.iload_n 1, 1) := by decide +kernel
theorem dX2_goesOn_18 : decode cX2_goesOn 18 = .ok (.bipush 108, 2) := by decide +kernel
theorem dX2_goesOn_20 : decode cX2_goesOn 20 = .ok (.if_icmp .ne 7, 3) := by decide +kernel
theorem dX2_goesOn_23 : decode cX2_goesOn 23 = .ok (.iconst 1, 1) := by decide +kernel
theorem dX2_goesOn_24 : decode cX2_goesOn 24 = .ok (.goto 11, 3) := by decide +kernel
theorem dX2_goesOn_27 : decode cX2_goesOn 27 = .ok (.iconst 0, 1) := by decide +kernel
theorem dX2_goesOn_28 : decode cX2_goesOn 28 = .ok (.goto 7, 3) := by decide +kernel
theorem dX2_goesOn_31 : decode cX2_goesOn 31 = .ok (.iload_n 1, 1) := by decide +kernel
theorem dX2_goesOn_32 : decode cX2_goesOn 32 = .ok (.invokestatic 205, 3) := by decide +kernel
theorem dX2_goesOn_35 : decode cX2_goesOn 35 = .ok (.ireturn, 1) := by decide +kernel
theorem dX2_goesOn_36 : decode cX2_goesOn 36 = .ok (.iload_n 0, 1) := by decide +kernel
theorem dX2_goesOn_37 : decode cX2_goesOn 37 = .ok (.iconst 3, 1) := by decide +kernel
theorem dX2_goesOn_38 : decode cX2_goesOn 38 = .ok (.isub, 1) := by decide +kernel
theorem dX2_goesOn_39 : decode cX2_goesOn 39 = .ok (.iconst 4, 1) := by decide +kernel
theorem dX2_goesOn_40 : decode cX2_goesOn 40 = .ok (.irem, 1) := by decide +kernel
theorem dX2_goesOn_41 : decode cX2_goesOn 41 = .ok (.lookupswitch 54 #[(0, 27), (1, 39)], 27) := by decide +kernel
theorem dX2_goesOn_68 : decode cX2_goesOn 68 = .ok (.iload_n 1, 1) := by decide +kernel
theorem dX2_goesOn_69 : decode cX2_goesOn 69 = .ok (.bipush 59, 2) := by decide +kernel
theorem dX2_goesOn_71 : decode cX2_goesOn 71 = .ok (.if_icmp .ne 7, 3) := by decide +kernel
theorem dX2_goesOn_74 : decode cX2_goesOn 74 = .ok (.iconst 1, 1) := by decide +kernel
theorem dX2_goesOn_75 : decode cX2_goesOn 75 = .ok (.goto 4, 3) := by decide +kernel
theorem dX2_goesOn_78 : decode cX2_goesOn 78 = .ok (.iconst 0, 1) := by decide +kernel
theorem dX2_goesOn_79 : decode cX2_goesOn 79 = .ok (.ireturn, 1) := by decide +kernel
theorem dX2_goesOn_80 : decode cX2_goesOn 80 = .ok (.iload_n 1, 1) := by decide +kernel
theorem dX2_goesOn_81 : decode cX2_goesOn 81 = .ok (.invokestatic 208, 3) := by decide +kernel
theorem dX2_goesOn_84 : decode cX2_goesOn 84 = .ok (.bipush (-9), 2) := by decide +kernel
theorem dX2_goesOn_86 : decode cX2_goesOn 86 = .ok (.if_icmp .eq 7, 3) := by decide +kernel
theorem dX2_goesOn_89 : decode cX2_goesOn 89 = .ok (.iconst 1, 1) := by decide +kernel
theorem dX2_goesOn_90 : decode cX2_goesOn 90 = .ok (.goto 4, 3) := by decide +kernel
theorem dX2_goesOn_93 : decode cX2_goesOn 93 = .ok (.iconst 0, 1) := by decide +kernel
theorem dX2_goesOn_94 : decode cX2_goesOn 94 = .ok (.ireturn, 1) := by decide +kernel
theorem dX2_goesOn_95 : decode cX2_goesOn 95 = .ok (.iload_n 1, 1) := by decide +kernel
theorem dX2_goesOn_96 : decode cX2_goesOn 96 = .ok (.invokestatic 205, 3) := by decide +kernel
theorem dX2_goesOn_99 : decode cX2_goesOn 99 = .ok (.ireturn, 1) := by decide +kernel
theorem dX2_isDigit_0 : decode cX2_isDigit 0 = .ok (.iload_n 0, 1) := by decide +kernel
theorem dX2_isDigit_1 : decode cX2_isDigit 1 = .ok (.bipush 48, 2) := by decide +kernel
theorem dX2_isDigit_3 : decode cX2_isDigit 3 = .ok (.if_icmp .lt 13, 3) := by decide +kernel
theorem dX2_isDigit_6 : decode cX2_isDigit 6 = .ok (.iload_n 0, 1) := by decide +kernel
theorem dX2_isDigit_7 : decode cX2_isDigit 7 = .ok (.bipush 57, 2) := by decide +kernel
theorem dX2_isDigit_9 : decode cX2_isDigit 9 = .ok (.if_icmp .gt 7, 3) := by decide +kernel
theorem dX2_isDigit_12 : decode cX2_isDigit 12 = .ok (.iconst 1, 1) := by decide +kernel
theorem dX2_isDigit_13 : decode cX2_isDigit 13 = .ok (.goto 4, 3) := by decide +kernel
theorem dX2_isDigit_16 : decode cX2_isDigit 16 = .ok (.iconst 0, 1) := by decide +kernel
theorem dX2_isDigit_17 : decode cX2_isDigit 17 = .ok (.ireturn, 1) := by decide +kernel
theorem dX2_kindByLetter_0 : decode cX2_kindByLetter 0 = .ok (.iload_n 0, 1) := by decide +kernel
theorem dX2_kindByLetter_1 : decode cX2_kindByLetter 1 = .ok (.lookupswitch 41 #[(98, 39), (112, 35), (116, 37)], 35) := by decide +kernel
theorem dX2_kindByLetter_36 : decode cX2_kindByLetter 36 = .ok (.iconst 0, 1) := by decide +kernel
theorem dX2_kindByLetter_37 : decode cX2_kindByLetter 37 = .ok (.ireturn, 1) := by decide +kernel
theorem dX2_kindByLetter_38 : decode cX2_kindByLetter 38 = .ok (.iconst 1, 1) := by decide +kernel
theorem dX2_kindByLetter_39 : decode cX2_kindByLetter 39 = .ok (.ireturn, 1) := by decide +kernel
theorem dX2_kindByLetter_40 : decode cX2_kindByLetter 40 = .ok (.iconst 2, 1) := by decide +kernel
theorem dX2_kindByLetter_41 : decode cX2_kindByLetter 41 = .ok (.ireturn, 1) := by decide +kernel
theorem dX2_kindByLetter_42 : decode cX2_kindByLetter 42 = .ok (.bipush (-9), 2) := by decide +kernel
theorem dX2_kindByLetter_44 : decode cX2_kindByLetter 44 = .ok (.ireturn, 1) := by decide +kernel
theorem dX2_refusalOfPairs_0 : decode cX2_refusalOfPairs 0 = .ok (.iconst 0, 1) := by decide +kernel
theorem dX2_refusalOfPairs_1 : decode cX2_refusalOfPairs 1 = .ok (.istore 4, 2) := by decide +kernel
theorem dX2_refusalOfPairs_3 : decode cX2_refusalOfPairs 3 = .ok (.iload 4, 2) := by decide +kernel
theorem dX2_refusalOfPairs_5 : decode cX2_refusalOfPairs 5 = .ok (.iload_n 3, 1) := by decide +kernel
theorem dX2_refusalOfPairs_6 : decode cX2_refusalOfPairs 6 = .ok (.if_icmp .ge 41, 3) := by decide +kernel
theorem dX2_refusalOfPairs_9 : decode cX2_refusalOfPairs 9 = .ok (.aload_n 0, 1) := by decide +kernel
theorem dX2_refusalOfPairs_10 : decode cX2_refusalOfPairs 10 = .ok (.aload_n 1, 1) := by decide +kernel
theorem dX2_refusalOfPairs_11 : decode cX2_refusalOfPairs 11 = .ok (.iload_n 2, 1) := by decide +kernel
theorem dX2_refusalOfPairs_12 : decode cX2_refusalOfPairs 12 = .ok (.iconst 2, 1) := by decide +kernel
theorem dX2_refusalOfPairs_13 : decode cX2_refusalOfPairs 13 = .ok (.iload 4, 2) := by decide +kernel
theorem dX2_refusalOfPairs_15 : decode cX2_refusalOfPairs 15 = .ok (.imul, 1) := by decide +kernel
theorem dX2_refusalOfPairs_16 : decode cX2_refusalOfPairs 16 = .ok (.iadd, 1) := by decide +kernel
theorem dX2_refusalOfPairs_17 : decode cX2_refusalOfPairs 17 = .ok (.iaload, 1) := by decide +kernel
theorem dX2_refusalOfPairs_18 : decode cX2_refusalOfPairs 18 = .ok (.aload_n 1, 1) := by decide +kernel
theorem dX2_refusalOfPairs_19 : decode cX2_refusalOfPairs 19 = .ok (.iload_n 2, 1) := by decide +kernel
theorem dX2_refusalOfPairs_20 : decode cX2_refusalOfPairs 20 = .ok (.iconst 2, 1) := by decide +kernel
theorem dX2_refusalOfPairs_21 : decode cX2_refusalOfPairs 21 = .ok (.iload 4, 2) := by decide +kernel
theorem dX2_refusalOfPairs_23 : decode cX2_refusalOfPairs 23 = .ok (.imul, 1) := by decide +kernel
theorem dX2_refusalOfPairs_24 : decode cX2_refusalOfPairs 24 = .ok (.iadd, 1) := by decide +kernel
theorem dX2_refusalOfPairs_25 : decode cX2_refusalOfPairs 25 = .ok (.iconst 1, 1) := by decide +kernel
theorem dX2_refusalOfPairs_26 : decode cX2_refusalOfPairs 26 = .ok (.iadd, 1) := by decide +kernel
theorem dX2_refusalOfPairs_27 : decode cX2_refusalOfPairs 27 = .ok (.iaload, 1) := by decide +kernel
theorem dX2_refusalOfPairs_28 : decode cX2_refusalOfPairs 28 = .ok (.invokevirtual 211, 3) := by decide +kernel
theorem dX2_refusalOfPairs_31 : decode cX2_refusalOfPairs 31 = .ok (.istore 5, 2) := by decide +kernel
theorem dX2_refusalOfPairs_33 : decode cX2_refusalOfPairs 33 = .ok (.iload 5, 2) := by decide +kernel
theorem dX2_refusalOfPairs_35 : decode cX2_refusalOfPairs 35 = .ok (.ifCond .eq 6, 3) := by decide +kernel
theorem dX2_refusalOfPairs_38 : decode cX2_refusalOfPairs 38 = .ok (.iload 5, 2) := by decide +kernel
theorem dX2_refusalOfPairs_40 : decode cX2_refusalOfPairs 40 = .ok (.ireturn, 1) := by decide +kernel
theorem dX2_refusalOfPairs_41 : decode cX2_refusalOfPairs 41 = .ok (.iinc 4 1, 3) := by decide +kernel
theorem dX2_refusalOfPairs_44 : decode cX2_refusalOfPairs 44 = .ok (.goto (-41), 3) := by decide +kernel
theorem dX2_refusalOfPairs_47 : decode cX2_refusalOfPairs 47 = .ok (.iconst 0, 1) := by decide +kernel
theorem dX2_refusalOfPairs_48 : decode cX2_refusalOfPairs 48 = .ok (.ireturn, 1) := by decide +kernel
theorem dX2_refusalOfPair_0 : decode cX2_refusalOfPair 0 = .ok (.iload_n 2, 1) := by decide +kernel
theorem dX2_refusalOfPair_1 : decode cX2_refusalOfPair 1 = .ok (.tableswitch 72 0 2 #[27, 44, 58], 27) := by decide +kernel
theorem dX2_refusalOfPair_28 : decode cX2_refusalOfPair 28 = .ok (.iload_n 1, 1) := by decide +kernel
theorem dX2_refusalOfPair_29 : decode cX2_refusalOfPair 29 = .ok (.ifCond .lt 13, 3) := by decide +kernel
theorem dX2_refusalOfPair_32 : decode cX2_refusalOfPair 32 = .ok (.iload_n 1, 1) := by decide +kernel
theorem dX2_refusalOfPair_33 : decode cX2_refusalOfPair 33 = .ok (.bipush 9, 2) := by decide +kernel
theorem dX2_refusalOfPair_35 : decode cX2_refusalOfPair 35 = .ok (.if_icmp .gt 7, 3) := by decide +kernel
theorem dX2_refusalOfPair_38 : decode cX2_refusalOfPair 38 = .ok (.iconst 0, 1) := by decide +kernel
theorem dX2_refusalOfPair_39 : decode cX2_refusalOfPair 39 = .ok (.goto 5, 3) := by decide +kernel
theorem dX2_refusalOfPair_42 : decode cX2_refusalOfPair 42 = .ok (.bipush (-2), 2) := by decide +kernel
theorem dX2_refusalOfPair_44 : decode cX2_refusalOfPair 44 = .ok (.ireturn, 1) := by decide +kernel
theorem dX2_refusalOfPair_45 : decode cX2_refusalOfPair 45 = .ok (.aload_n 0, 1) := by decide +kernel
theorem dX2_refusalOfPair_46 : decode cX2_refusalOfPair 46 = .ok (.iload_n 1, 1) := by decide +kernel
theorem dX2_refusalOfPair_47 : decode cX2_refusalOfPair 47 = .ok (.invokevirtual 77, 3) := by decide +kernel
theorem dX2_refusalOfPair_50 : decode cX2_refusalOfPair 50 = .ok (.ifCond .eq 7, 3) := by decide +kernel
theorem dX2_refusalOfPair_53 : decode cX2_refusalOfPair 53 = .ok (.iconst 0, 1) := by decide +kernel
theorem dX2_refusalOfPair_54 : decode cX2_refusalOfPair 54 = .ok (.goto 4, 3) := by decide +kernel
theorem dX2_refusalOfPair_57 : decode cX2_refusalOfPair 57 = .ok (.iconst (-1), 1) := by decide +kernel
theorem dX2_refusalOfPair_58 : decode cX2_refusalOfPair 58 = .ok (.ireturn, 1) := by decide +kernel
theorem dX2_refusalOfPair_59 : decode cX2_refusalOfPair 59 = .ok (.iload_n 1, 1) := by decide +kernel
theorem dX2_refusalOfPair_60 : decode cX2_refusalOfPair 60 = .ok (.invokestatic 112, 3) := by decide +kernel
theorem dX2_refusalOfPair_63 : decode cX2_refusalOfPair 63 = .ok (.ifCond .eq 7, 3) := by decide +kernel
theorem dX2_refusalOfPair_66 : decode cX2_refusalOfPair 66 = .ok (.iconst 0, 1) := by decide +kernel
theorem dX2_refusalOfPair_67 : decode cX2_refusalOfPair 67 = .ok (.goto 5, 3) := by decide +kernel
theorem dX2_refusalOfPair_70 : decode cX2_refusalOfPair 70 = .ok (.bipush (-2), 2) := by decide +kernel
theorem dX2_refusalOfPair_72 : decode cX2_refusalOfPair 72 = .ok (.ireturn, 1) := by decide +kernel
theorem dX2_refusalOfPair_73 : decode cX2_refusalOfPair 73 = .ok (.bipush (-2), 2) := by decide +kernel
theorem dX2_refusalOfPair_75 : decode cX2_refusalOfPair 75 = .ok (.ireturn, 1) := by decide +kernel
theorem dX2_actPairs_0 : decode cX2_actPairs 0 = .ok (.iconst 0, 1) := by decide +kernel
theorem dX2_actPairs_1 : decode cX2_actPairs 1 = .ok (.istore 4, 2) := by decide +kernel
theorem dX2_actPairs_3 : decode cX2_actPairs 3 = .ok (.iload 4, 2) := by decide +kernel
theorem dX2_actPairs_5 : decode cX2_actPairs 5 = .ok (.iload_n 3, 1) := by decide +kernel
theorem dX2_actPairs_6 : decode cX2_actPairs 6 = .ok (.if_icmp .ge 37, 3) := by decide +kernel
theorem dX2_actPairs_9 : decode cX2_actPairs 9 = .ok (.aload_n 0, 1) := by decide +kernel
theorem dX2_actPairs_10 : decode cX2_actPairs 10 = .ok (.aload_n 1, 1) := by decide +kernel
theorem dX2_actPairs_11 : decode cX2_actPairs 11 = .ok (.iload_n 2, 1) := by decide +kernel
theorem dX2_actPairs_12 : decode cX2_actPairs 12 = .ok (.iconst 2, 1) := by decide +kernel
theorem dX2_actPairs_13 : decode cX2_actPairs 13 = .ok (.iload 4, 2) := by decide +kernel
theorem dX2_actPairs_15 : decode cX2_actPairs 15 = .ok (.imul, 1) := by decide +kernel
theorem dX2_actPairs_16 : decode cX2_actPairs 16 = .ok (.iadd, 1) := by decide +kernel
theorem dX2_actPairs_17 : decode cX2_actPairs 17 = .ok (.iaload, 1) := by decide +kernel
theorem dX2_actPairs_18 : decode cX2_actPairs 18 = .ok (.aload_n 1, 1) := by decide +kernel
theorem dX2_actPairs_19 : decode cX2_actPairs 19 = .ok (.iload_n 2, 1) := by decide +kernel
theorem dX2_actPairs_20 : decode cX2_actPairs 20 = .ok (.iconst 2, 1) := by decide +kernel
theorem dX2_actPairs_21 : decode cX2_actPairs 21 = .ok (.iload 4, 2) := by decide +kernel
theorem dX2_actPairs_23 : decode cX2_actPairs 23 = .ok (.imul, 1) := by decide +kernel
theorem dX2_actPairs_24 : decode cX2_actPairs 24 = .ok (.iadd, 1) := by decide +kernel
theorem dX2_actPairs_25 : decode cX2_actPairs 25 = .ok (.iconst 1, 1) := by decide +kernel
theorem dX2_actPairs_26 : decode cX2_actPairs 26 = .ok (.iadd, 1) := by decide +kernel
theorem dX2_actPairs_27 : decode cX2_actPairs 27 = .ok (.iaload, 1) := by decide +kernel
theorem dX2_actPairs_28 : decode cX2_actPairs 28 = .ok (.invokevirtual 214, 3) := by decide +kernel
theorem dX2_actPairs_31 : decode cX2_actPairs 31 = .ok (.ifCond .ne 6, 3) := by decide +kernel
theorem dX2_actPairs_34 : decode cX2_actPairs 34 = .ok (.iload 4, 2) := by decide +kernel
theorem dX2_actPairs_36 : decode cX2_actPairs 36 = .ok (.ireturn, 1) := by decide +kernel
theorem dX2_actPairs_37 : decode cX2_actPairs 37 = .ok (.iinc 4 1, 3) := by decide +kernel
theorem dX2_actPairs_40 : decode cX2_actPairs 40 = .ok (.goto (-37), 3) := by decide +kernel
theorem dX2_actPairs_43 : decode cX2_actPairs 43 = .ok (.bipush (-9), 2) := by decide +kernel
theorem dX2_actPairs_45 : decode cX2_actPairs 45 = .ok (.ireturn, 1) := by decide +kernel
theorem dX2_actPair_0 : decode cX2_actPair 0 = .ok (.iload_n 2, 1) := by decide +kernel
theorem dX2_actPair_1 : decode cX2_actPair 1 = .ok (.iconst 1, 1) := by decide +kernel
theorem dX2_actPair_2 : decode cX2_actPair 2 = .ok (.if_icmp .ne 12, 3) := by decide +kernel
theorem dX2_actPair_5 : decode cX2_actPair 5 = .ok (.aload_n 0, 1) := by decide +kernel
theorem dX2_actPair_6 : decode cX2_actPair 6 = .ok (.getfield 18, 3) := by decide +kernel
theorem dX2_actPair_9 : decode cX2_actPair 9 = .ok (.iload_n 1, 1) := by decide +kernel
theorem dX2_actPair_10 : decode cX2_actPair 10 = .ok (.invokevirtual 123, 3) := by decide +kernel
theorem dX2_actPair_13 : decode cX2_actPair 13 = .ok (.ireturn, 1) := by decide +kernel
theorem dX2_actPair_14 : decode cX2_actPair 14 = .ok (.iload_n 2, 1) := by decide +kernel
theorem dX2_actPair_15 : decode cX2_actPair 15 = .ok (.iconst 2, 1) := by decide +kernel
theorem dX2_actPair_16 : decode cX2_actPair 16 = .ok (.if_icmp .ne 14, 3) := by decide +kernel
theorem dX2_actPair_19 : decode cX2_actPair 19 = .ok (.aload_n 0, 1) := by decide +kernel
theorem dX2_actPair_20 : decode cX2_actPair 20 = .ok (.getfield 18, 3) := by decide +kernel
theorem dX2_actPair_23 : decode cX2_actPair 23 = .ok (.iload_n 1, 1) := by decide +kernel
theorem dX2_actPair_24 : decode cX2_actPair 24 = .ok (.putfield 98, 3) := by decide +kernel
theorem dX2_actPair_27 : decode cX2_actPair 27 = .ok (.goto 11, 3) := by decide +kernel
theorem dX2_actPair_30 : decode cX2_actPair 30 = .ok (.aload_n 0, 1) := by decide +kernel
theorem dX2_actPair_31 : decode cX2_actPair 31 = .ok (.getfield 18, 3) := by decide +kernel
theorem dX2_actPair_34 : decode cX2_actPair 34 = .ok (.iload_n 1, 1) := by decide +kernel
theorem dX2_actPair_35 : decode cX2_actPair 35 = .ok (.invokevirtual 115, 3) := by decide +kernel
theorem dX2_actPair_38 : decode cX2_actPair 38 = .ok (.iconst 1, 1) := by decide +kernel
theorem dX2_actPair_39 : decode cX2_actPair 39 = .ok (.ireturn, 1) := by decide +kernel
theorem dX2_answerOfSeason_0 : decode cX2_answerOfSeason 0 = .ok (.iload_n 1, 1) := by decide +kernel
theorem dX2_answerOfSeason_1 : decode cX2_answerOfSeason 1 = .ok (.tableswitch 88 0 4 #[35, 88, 50, 65, 73], 35) := by decide +kernel
theorem dX2_answerOfSeason_36 : decode cX2_answerOfSeason 36 = .ok (.aload_n 0, 1) := by decide +kernel
theorem dX2_answerOfSeason_37 : decode cX2_answerOfSeason 37 = .ok (.getfield 18, 3) := by decide +kernel
theorem dX2_answerOfSeason_40 : decode cX2_answerOfSeason 40 = .ok (.aload_n 0, 1) := by decide +kernel
theorem dX2_answerOfSeason_41 : decode cX2_answerOfSeason 41 = .ok (.getfield 18, 3) := by decide +kernel
theorem dX2_answerOfSeason_44 : decode cX2_answerOfSeason 44 = .ok (.getfield 86, 3) := by decide +kernel
theorem dX2_answerOfSeason_47 : decode cX2_answerOfSeason 47 = .ok (.invokevirtual 217, 3) := by decide +kernel
theorem dX2_answerOfSeason_50 : decode cX2_answerOfSeason 50 = .ok (.ireturn, 1) := by decide +kernel
theorem dX2_answerOfSeason_51 : decode cX2_answerOfSeason 51 = .ok (.aload_n 0, 1) := by decide +kernel
theorem dX2_answerOfSeason_52 : decode cX2_answerOfSeason 52 = .ok (.getfield 18, 3) := by decide +kernel
theorem dX2_answerOfSeason_55 : decode cX2_answerOfSeason 55 = .ok (.aload_n 0, 1) := by decide +kernel
theorem dX2_answerOfSeason_56 : decode cX2_answerOfSeason 56 = .ok (.getfield 18, 3) := by decide +kernel
theorem dX2_answerOfSeason_59 : decode cX2_answerOfSeason 59 = .ok (.getfield 83, 3) := by decide +kernel
theorem dX2_answerOfSeason_62 : decode cX2_answerOfSeason 62 = .ok (.invokevirtual 217, 3) := by decide +kernel
theorem dX2_answerOfSeason_65 : decode cX2_answerOfSeason 65 = .ok (.ireturn, 1) := by decide +kernel
theorem dX2_answerOfSeason_66 : decode cX2_answerOfSeason 66 = .ok (.aload_n 0, 1) := by decide +kernel
theorem dX2_answerOfSeason_67 : decode cX2_answerOfSeason 67 = .ok (.getfield 18, 3) := by decide +kernel
theorem dX2_answerOfSeason_70 : decode cX2_answerOfSeason 70 = .ok (.getfield 221, 3) := by decide +kernel
theorem dX2_answerOfSeason_73 : decode cX2_answerOfSeason 73 = .ok (.ireturn, 1) := by decide +kernel
theorem dX2_answerOfSeason_74 : decode cX2_answerOfSeason 74 = .ok (.aload_n 0, 1) := by decide +kernel
theorem dX2_answerOfSeason_75 : decode cX2_answerOfSeason 75 = .ok (.getfield 18, 3) := by decide +kernel
theorem dX2_answerOfSeason_78 : decode cX2_answerOfSeason 78 = .ok (.aload_n 0, 1) := by decide +kernel
theorem dX2_answerOfSeason_79 : decode cX2_answerOfSeason 79 = .ok (.getfield 18, 3) := by decide +kernel
theorem dX2_answerOfSeason_82 : decode cX2_answerOfSeason 82 = .ok (.getfield 89, 3) := by decide +kernel
theorem dX2_answerOfSeason_85 : decode cX2_answerOfSeason 85 = .ok (.invokevirtual 217, 3) := by decide +kernel
theorem dX2_answerOfSeason_88 : decode cX2_answerOfSeason 88 = .ok (.ireturn, 1) := by decide +kernel
theorem dX2_answerOfSeason_89 : decode cX2_answerOfSeason 89 = .ok (.iload_n 1, 1) := by decide +kernel
theorem dX2_answerOfSeason_90 : decode cX2_answerOfSeason 90 = .ok (.bipush 10, 2) := by decide +kernel
theorem dX2_answerOfSeason_92 : decode cX2_answerOfSeason 92 = .ok (.isub, 1) := by decide +kernel
theorem dX2_answerOfSeason_93 : decode cX2_answerOfSeason 93 = .ok (.istore_n 2, 1) := by decide +kernel
theorem dX2_answerOfSeason_94 : decode cX2_answerOfSeason 94 = .ok (.aload_n 0, 1) := by decide +kernel
theorem dX2_answerOfSeason_95 : decode cX2_answerOfSeason 95 = .ok (.iload_n 2, 1) := by decide +kernel
theorem dX2_answerOfSeason_96 : decode cX2_answerOfSeason 96 = .ok (.invokevirtual 77, 3) := by decide +kernel
theorem dX2_answerOfSeason_99 : decode cX2_answerOfSeason 99 = .ok (.ifCond .eq 15, 3) := by decide +kernel
theorem dX2_answerOfSeason_102 : decode cX2_answerOfSeason 102 = .ok (.aload_n 0, 1) := by decide +kernel
theorem dX2_answerOfSeason_103 : decode cX2_answerOfSeason 103 = .ok (.getfield 18, 3) := by decide +kernel
theorem dX2_answerOfSeason_106 : decode cX2_answerOfSeason 106 = .ok (.getfield 83, 3) := by decide +kernel
theorem dX2_answerOfSeason_109 : decode cX2_answerOfSeason 109 = .ok (.iload_n 2, 1) := by decide +kernel
theorem dX2_answerOfSeason_110 : decode cX2_answerOfSeason 110 = .ok (.iaload, 1) := by decide +kernel
theorem dX2_answerOfSeason_111 : decode cX2_answerOfSeason 111 = .ok (.goto 5, 3) := by decide +kernel
theorem dX2_answerOfSeason_114 : decode cX2_answerOfSeason 114 = .ok (.bipush (-9), 2) := by decide +kernel
theorem dX2_answerOfSeason_116 : decode cX2_answerOfSeason 116 = .ok (.ireturn, 1) := by decide +kernel
theorem dX2_loserByOneMore_0 : decode cX2_loserByOneMore 0 = .ok (.aload_n 0, 1) := by decide +kernel
theorem dX2_loserByOneMore_1 : decode cX2_loserByOneMore 1 = .ok (.getfield 14, 3) := by decide +kernel
theorem dX2_loserByOneMore_4 : decode cX2_loserByOneMore 4 = .ok (.iload_n 1, 1) := by decide +kernel
theorem dX2_loserByOneMore_5 : decode cX2_loserByOneMore 5 = .ok (.invokevirtual 224, 3) := by decide +kernel
theorem dX2_loserByOneMore_8 : decode cX2_loserByOneMore 8 = .ok (.aload_n 0, 1) := by decide +kernel
theorem dX2_loserByOneMore_9 : decode cX2_loserByOneMore 9 = .ok (.getfield 18, 3) := by decide +kernel
theorem dX2_loserByOneMore_12 : decode cX2_loserByOneMore 12 = .ok (.iload_n 1, 1) := by decide +kernel
theorem dX2_loserByOneMore_13 : decode cX2_loserByOneMore 13 = .ok (.iconst 1, 1) := by decide +kernel
theorem dX2_loserByOneMore_14 : decode cX2_loserByOneMore 14 = .ok (.iadd, 1) := by decide +kernel
theorem dX2_loserByOneMore_15 : decode cX2_loserByOneMore 15 = .ok (.invokevirtual 224, 3) := by decide +kernel
theorem dX2_loserByOneMore_18 : decode cX2_loserByOneMore 18 = .ok (.iconst 0, 1) := by decide +kernel
theorem dX2_loserByOneMore_19 : decode cX2_loserByOneMore 19 = .ok (.istore_n 2, 1) := by decide +kernel
theorem dX2_loserByOneMore_20 : decode cX2_loserByOneMore 20 = .ok (.iload_n 2, 1) := by decide +kernel
theorem dX2_loserByOneMore_21 : decode cX2_loserByOneMore 21 = .ok (.aload_n 0, 1) := by decide +kernel
theorem dX2_loserByOneMore_22 : decode cX2_loserByOneMore 22 = .ok (.getfield 14, 3) := by decide +kernel
theorem dX2_loserByOneMore_25 : decode cX2_loserByOneMore 25 = .ok (.getfield 74, 3) := by decide +kernel
theorem dX2_loserByOneMore_28 : decode cX2_loserByOneMore 28 = .ok (.if_icmp .ge 32, 3) := by decide +kernel
theorem dX2_loserByOneMore_31 : decode cX2_loserByOneMore 31 = .ok (.aload_n 0, 1) := by decide +kernel
theorem dX2_loserByOneMore_32 : decode cX2_loserByOneMore 32 = .ok (.getfield 14, 3) := by decide +kernel
theorem dX2_loserByOneMore_35 : decode cX2_loserByOneMore 35 = .ok (.getfield 151, 3) := by decide +kernel
theorem dX2_loserByOneMore_38 : decode cX2_loserByOneMore 38 = .ok (.iload_n 2, 1) := by decide +kernel
theorem dX2_loserByOneMore_39 : decode cX2_loserByOneMore 39 = .ok (.iaload, 1) := by decide +kernel
theorem dX2_loserByOneMore_40 : decode cX2_loserByOneMore 40 = .ok (.aload_n 0, 1) := by decide +kernel
theorem dX2_loserByOneMore_41 : decode cX2_loserByOneMore 41 = .ok (.getfield 18, 3) := by decide +kernel
theorem dX2_loserByOneMore_44 : decode cX2_loserByOneMore 44 = .ok (.getfield 151, 3) := by decide +kernel
theorem dX2_loserByOneMore_47 : decode cX2_loserByOneMore 47 = .ok (.iload_n 2, 1) := by decide +kernel
theorem dX2_loserByOneMore_48 : decode cX2_loserByOneMore 48 = .ok (.iaload, 1) := by decide +kernel
theorem dX2_loserByOneMore_49 : decode cX2_loserByOneMore 49 = .ok (.if_icmp .le 5, 3) := by decide +kernel
theorem dX2_loserByOneMore_52 : decode cX2_loserByOneMore 52 = .ok (.iload_n 2, 1) := by decide +kernel
theorem dX2_loserByOneMore_53 : decode cX2_loserByOneMore 53 = .ok (.ireturn, 1) := by decide +kernel
theorem dX2_loserByOneMore_54 : decode cX2_loserByOneMore 54 = .ok (.iinc 2 1, 3) := by decide +kernel
theorem dX2_loserByOneMore_57 : decode cX2_loserByOneMore 57 = .ok (.goto (-37), 3) := by decide +kernel
theorem dX2_loserByOneMore_60 : decode cX2_loserByOneMore 60 = .ok (.bipush (-9), 2) := by decide +kernel
theorem dX2_loserByOneMore_62 : decode cX2_loserByOneMore 62 = .ok (.ireturn, 1) := by decide +kernel
theorem dX2_apartBy_0 : decode cX2_apartBy 0 = .ok (.iconst 0, 1) := by decide +kernel
theorem dX2_apartBy_1 : decode cX2_apartBy 1 = .ok (.istore_n 2, 1) := by decide +kernel
theorem dX2_apartBy_2 : decode cX2_apartBy 2 = .ok (.iconst 0, 1) := by decide +kernel
theorem dX2_apartBy_3 : decode cX2_apartBy 3 = .ok (.istore_n 3, 1) := by decide +kernel
theorem dX2_apartBy_4 : decode cX2_apartBy 4 = .ok (.iload_n 3, 1) := by decide +kernel
theorem dX2_apartBy_5 : decode cX2_apartBy 5 = .ok (.aload_n 0, 1) := by decide +kernel
theorem dX2_apartBy_6 : decode cX2_apartBy 6 = .ok (.getfield 14, 3) := by decide +kernel
theorem dX2_apartBy_9 : decode cX2_apartBy 9 = .ok (.getfield 74, 3) := by decide +kernel
theorem dX2_apartBy_12 : decode cX2_apartBy 12 = .ok (.if_icmp .ge 53, 3) := by decide +kernel
theorem dX2_apartBy_15 : decode cX2_apartBy 15 = .ok (.iload_n 1, 1) := by decide +kernel
theorem dX2_apartBy_16 : decode cX2_apartBy 16 = .ok (.iload_n 3, 1) := by decide +kernel
theorem dX2_apartBy_17 : decode cX2_apartBy 17 = .ok (.ishr, 1) := by decide +kernel
theorem dX2_apartBy_18 : decode cX2_apartBy 18 = .ok (.iconst 1, 1) := by decide +kernel
theorem dX2_apartBy_19 : decode cX2_apartBy 19 = .ok (.iand, 1) := by decide +kernel
theorem dX2_apartBy_20 : decode cX2_apartBy 20 = .ok (.iconst 1, 1) := by decide +kernel
theorem dX2_apartBy_21 : decode cX2_apartBy 21 = .ok (.if_icmp .ne 7, 3) := by decide +kernel
theorem dX2_apartBy_24 : decode cX2_apartBy 24 = .ok (.iconst 1, 1) := by decide +kernel
theorem dX2_apartBy_25 : decode cX2_apartBy 25 = .ok (.goto 4, 3) := by decide +kernel
theorem dX2_apartBy_28 : decode cX2_apartBy 28 = .ok (.iconst 0, 1) := by decide +kernel
theorem dX2_apartBy_29 : decode cX2_apartBy 29 = .ok (.istore 4, 2) := by decide +kernel
theorem dX2_apartBy_31 : decode cX2_apartBy 31 = .ok (.iload_n 2, 1) := by decide +kernel
theorem dX2_apartBy_32 : decode cX2_apartBy 32 = .ok (.iload 4, 2) := by decide +kernel
theorem dX2_apartBy_34 : decode cX2_apartBy 34 = .ok (.ifCond .eq 14, 3) := by decide +kernel
theorem dX2_apartBy_37 : decode cX2_apartBy 37 = .ok (.aload_n 0, 1) := by decide +kernel
theorem dX2_apartBy_38 : decode cX2_apartBy 38 = .ok (.getfield 14, 3) := by decide +kernel
theorem dX2_apartBy_41 : decode cX2_apartBy 41 = .ok (.iload_n 3, 1) := by decide +kernel
theorem dX2_apartBy_42 : decode cX2_apartBy 42 = .ok (.invokevirtual 95, 3) := by decide +kernel
theorem dX2_apartBy_45 : decode cX2_apartBy 45 = .ok (.goto 12, 3) := by decide +kernel
theorem dX2_apartBy_48 : decode cX2_apartBy 48 = .ok (.aload_n 0, 1) := by decide +kernel
theorem dX2_apartBy_49 : decode cX2_apartBy 49 = .ok (.getfield 14, 3) := by decide +kernel
theorem dX2_apartBy_52 : decode cX2_apartBy 52 = .ok (.iload_n 3, 1) := by decide +kernel
theorem dX2_apartBy_53 : decode cX2_apartBy 53 = .ok (.invokevirtual 95, 3) := by decide +kernel
theorem dX2_apartBy_56 : decode cX2_apartBy 56 = .ok (.ineg, 1) := by decide +kernel
theorem dX2_apartBy_57 : decode cX2_apartBy 57 = .ok (.iadd, 1) := by decide +kernel
theorem dX2_apartBy_58 : decode cX2_apartBy 58 = .ok (.istore_n 2, 1) := by decide +kernel
theorem dX2_apartBy_59 : decode cX2_apartBy 59 = .ok (.iinc 3 1, 3) := by decide +kernel
theorem dX2_apartBy_62 : decode cX2_apartBy 62 = .ok (.goto (-58), 3) := by decide +kernel
theorem dX2_apartBy_65 : decode cX2_apartBy 65 = .ok (.iload_n 2, 1) := by decide +kernel
theorem dX2_apartBy_66 : decode cX2_apartBy 66 = .ok (.invokestatic 227, 3) := by decide +kernel
theorem dX2_apartBy_69 : decode cX2_apartBy 69 = .ok (.ireturn, 1) := by decide +kernel
theorem dX2_readingsHoldInTrial_0 : decode cX2_readingsHoldInTrial 0 = .ok (.aload_n 0, 1) := by decide +kernel
theorem dX2_readingsHoldInTrial_1 : decode cX2_readingsHoldInTrial 1 = .ok (.getfield 18, 3) := by decide +kernel
theorem dX2_readingsHoldInTrial_4 : decode cX2_readingsHoldInTrial 4 = .ok (.aload_n 0, 1) := by decide +kernel
theorem dX2_readingsHoldInTrial_5 : decode cX2_readingsHoldInTrial 5 = .ok (.getfield 18, 3) := by decide +kernel
theorem dX2_readingsHoldInTrial_8 : decode cX2_readingsHoldInTrial 8 = .ok (.getfield 98, 3) := by decide +kernel
theorem dX2_readingsHoldInTrial_11 : decode cX2_readingsHoldInTrial 11 = .ok (.invokevirtual 224, 3) := by decide +kernel
theorem dX2_readingsHoldInTrial_14 : decode cX2_readingsHoldInTrial 14 = .ok (.iconst 0, 1) := by decide +kernel
theorem dX2_readingsHoldInTrial_15 : decode cX2_readingsHoldInTrial 15 = .ok (.istore_n 1, 1) := by decide +kernel
theorem dX2_readingsHoldInTrial_16 : decode cX2_readingsHoldInTrial 16 = .ok (.iload_n 1, 1) := by decide +kernel
theorem dX2_readingsHoldInTrial_17 : decode cX2_readingsHoldInTrial 17 = .ok (.aload_n 0, 1) := by decide +kernel
theorem dX2_readingsHoldInTrial_18 : decode cX2_readingsHoldInTrial 18 = .ok (.getfield 34, 3) := by decide +kernel
theorem dX2_readingsHoldInTrial_21 : decode cX2_readingsHoldInTrial 21 = .ok (.if_icmp .ge 34, 3) := by decide +kernel
theorem dX2_readingsHoldInTrial_24 : decode cX2_readingsHoldInTrial 24 = .ok (.aload_n 0, 1) := by decide +kernel
theorem dX2_readingsHoldInTrial_25 : decode cX2_readingsHoldInTrial 25 = .ok (.getfield 18, 3) := by decide +kernel
theorem dX2_readingsHoldInTrial_28 : decode cX2_readingsHoldInTrial 28 = .ok (.getfield 151, 3) := by decide +kernel
theorem dX2_readingsHoldInTrial_31 : decode cX2_readingsHoldInTrial 31 = .ok (.aload_n 0, 1) := by decide +kernel
theorem dX2_readingsHoldInTrial_32 : decode cX2_readingsHoldInTrial 32 = .ok (.getfield 27, 3) := by decide +kernel
theorem dX2_readingsHoldInTrial_35 : decode cX2_readingsHoldInTrial 35 = .ok (.iload_n 1, 1) := by decide +kernel
theorem dX2_readingsHoldInTrial_36 : decode cX2_readingsHoldInTrial 36 = .ok (.iaload, 1) := by decide +kernel
theorem dX2_readingsHoldInTrial_37 : decode cX2_readingsHoldInTrial 37 = .ok (.iaload, 1) := by decide +kernel
theorem dX2_readingsHoldInTrial_38 : decode cX2_readingsHoldInTrial 38 = .ok (.aload_n 0, 1) := by decide +kernel
theorem dX2_readingsHoldInTrial_39 : decode cX2_readingsHoldInTrial 39 = .ok (.getfield 31, 3) := by decide +kernel
theorem dX2_readingsHoldInTrial_42 : decode cX2_readingsHoldInTrial 42 = .ok (.iload_n 1, 1) := by decide +kernel
theorem dX2_readingsHoldInTrial_43 : decode cX2_readingsHoldInTrial 43 = .ok (.iaload, 1) := by decide +kernel
theorem dX2_readingsHoldInTrial_44 : decode cX2_readingsHoldInTrial 44 = .ok (.if_icmp .eq 5, 3) := by decide +kernel
theorem dX2_readingsHoldInTrial_47 : decode cX2_readingsHoldInTrial 47 = .ok (.iconst 0, 1) := by decide +kernel
theorem dX2_readingsHoldInTrial_48 : decode cX2_readingsHoldInTrial 48 = .ok (.ireturn, 1) := by decide +kernel
theorem dX2_readingsHoldInTrial_49 : decode cX2_readingsHoldInTrial 49 = .ok (.iinc 1 1, 3) := by decide +kernel
theorem dX2_readingsHoldInTrial_52 : decode cX2_readingsHoldInTrial 52 = .ok (.goto (-36), 3) := by decide +kernel
theorem dX2_readingsHoldInTrial_55 : decode cX2_readingsHoldInTrial 55 = .ok (.iconst 1, 1) := by decide +kernel
theorem dX2_readingsHoldInTrial_56 : decode cX2_readingsHoldInTrial 56 = .ok (.ireturn, 1) := by decide +kernel
theorem dX2_tellAsPlain_0 : decode cX2_tellAsPlain 0 = .ok (.aload_n 0, 1) := by decide +kernel
theorem dX2_tellAsPlain_1 : decode cX2_tellAsPlain 1 = .ok (.iconst 1, 1) := by decide +kernel
theorem dX2_tellAsPlain_2 : decode cX2_tellAsPlain 2 = .ok (.invokevirtual 196, 3) := by decide +kernel
theorem dX2_tellAsPlain_5 : decode cX2_tellAsPlain 5 = .ok (.aload_n 0, 1) := by decide +kernel
theorem dX2_tellAsPlain_6 : decode cX2_tellAsPlain 6 = .ok (.getfield 14, 3) := by decide +kernel
theorem dX2_tellAsPlain_9 : decode cX2_tellAsPlain 9 = .ok (.getfield 83, 3) := by decide +kernel
theorem dX2_tellAsPlain_12 : decode cX2_tellAsPlain 12 = .ok (.iload_n 1, 1) := by decide +kernel
theorem dX2_tellAsPlain_13 : decode cX2_tellAsPlain 13 = .ok (.iaload, 1) := by decide +kernel
theorem dX2_tellAsPlain_14 : decode cX2_tellAsPlain 14 = .ok (.ireturn, 1) := by decide +kernel
theorem dX2_tellAsTart_0 : decode cX2_tellAsTart 0 = .ok (.aload_n 0, 1) := by decide +kernel
theorem dX2_tellAsTart_1 : decode cX2_tellAsTart 1 = .ok (.iconst 2, 1) := by decide +kernel
theorem dX2_tellAsTart_2 : decode cX2_tellAsTart 2 = .ok (.invokevirtual 196, 3) := by decide +kernel
theorem dX2_tellAsTart_5 : decode cX2_tellAsTart 5 = .ok (.aload_n 0, 1) := by decide +kernel
theorem dX2_tellAsTart_6 : decode cX2_tellAsTart 6 = .ok (.iload_n 1, 1) := by decide +kernel
theorem dX2_tellAsTart_7 : decode cX2_tellAsTart 7 = .ok (.invokevirtual 193, 3) := by decide +kernel
theorem dX2_tellAsTart_10 : decode cX2_tellAsTart 10 = .ok (.bipush 100, 2) := by decide +kernel
theorem dX2_tellAsTart_12 : decode cX2_tellAsTart 12 = .ok (.iadd, 1) := by decide +kernel
theorem dX2_tellAsTart_13 : decode cX2_tellAsTart 13 = .ok (.ireturn, 1) := by decide +kernel
theorem dX2_tellAsBitter_0 : decode cX2_tellAsBitter 0 = .ok (.aload_n 0, 1) := by decide +kernel
theorem dX2_tellAsBitter_1 : decode cX2_tellAsBitter 1 = .ok (.iconst 3, 1) := by decide +kernel
theorem dX2_tellAsBitter_2 : decode cX2_tellAsBitter 2 = .ok (.invokevirtual 196, 3) := by decide +kernel
theorem dX2_tellAsBitter_5 : decode cX2_tellAsBitter 5 = .ok (.aload_n 0, 1) := by decide +kernel
theorem dX2_tellAsBitter_6 : decode cX2_tellAsBitter 6 = .ok (.iload_n 1, 1) := by decide +kernel
theorem dX2_tellAsBitter_7 : decode cX2_tellAsBitter 7 = .ok (.invokevirtual 187, 3) := by decide +kernel
theorem dX2_tellAsBitter_10 : decode cX2_tellAsBitter 10 = .ok (.istore_n 2, 1) := by decide +kernel
theorem dX2_tellAsBitter_11 : decode cX2_tellAsBitter 11 = .ok (.iload_n 2, 1) := by decide +kernel
theorem dX2_tellAsBitter_12 : decode cX2_tellAsBitter 12 = .ok (.aload_n 0, 1) := by decide +kernel
theorem dX2_tellAsBitter_13 : decode cX2_tellAsBitter 13 = .ok (.iload_n 1, 1) := by decide +kernel
theorem dX2_tellAsBitter_14 : decode cX2_tellAsBitter 14 = .ok (.invokevirtual 193, 3) := by decide +kernel
theorem dX2_tellAsBitter_17 : decode cX2_tellAsBitter 17 = .ok (.iadd, 1) := by decide +kernel
theorem dX2_tellAsBitter_18 : decode cX2_tellAsBitter 18 = .ok (.ireturn, 1) := by decide +kernel
theorem dX2_leaveInTrace_0 : decode cX2_leaveInTrace 0 = .ok (.aload_n 0, 1) := by decide +kernel
theorem dX2_leaveInTrace_1 : decode cX2_leaveInTrace 1 = .ok (.bipush 31, 2) := by decide +kernel
theorem dX2_leaveInTrace_3 : decode cX2_leaveInTrace 3 = .ok (.aload_n 0, 1) := by decide +kernel
theorem dX2_leaveInTrace_4 : decode cX2_leaveInTrace 4 = .ok (.getfield 38, 3) := by decide +kernel
theorem dX2_leaveInTrace_7 : decode cX2_leaveInTrace 7 = .ok (.imul, 1) := by decide +kernel
theorem dX2_leaveInTrace_8 : decode cX2_leaveInTrace 8 = .ok (.iload_n 1, 1) := by decide +kernel
theorem dX2_leaveInTrace_9 : decode cX2_leaveInTrace 9 = .ok (.iadd, 1) := by decide +kernel
theorem dX2_leaveInTrace_10 : decode cX2_leaveInTrace 10 = .ok (.putfield 38, 3) := by decide +kernel
theorem dX2_leaveInTrace_13 : decode cX2_leaveInTrace 13 = .ok (.return_, 1) := by decide +kernel
