theorem dX0_init_0 : decode cX0_init 0 = .ok (.aload_n 0, 1) := by decide +kernel
theorem dX0_init_1 : decode cX0_init 1 = .ok (.iload_n 1, 1) := by decide +kernel
theorem dX0_init_2 : decode cX0_init 2 = .ok (.iload_n 2, 1) := by decide +kernel
theorem dX0_init_3 : decode cX0_init 3 = .ok (.aload_n 3, 1) := by decide +kernel
theorem dX0_init_4 : decode cX0_init 4 = .ok (.aload 4, 2) := by decide +kernel
theorem dX0_init_6 : decode cX0_init 6 = .ok (.invokespecial 3, 3) := by decide +kernel
theorem dX0_init_9 : decode cX0_init 9 = .ok (.aload_n 0, 1) := by decide +kernel
theorem dX0_init_10 : decode cX0_init 10 = .ok (.iconst 2, 1) := by decide +kernel
theorem dX0_init_11 : decode cX0_init 11 = .ok (.putfield 9, 3) := by decide +kernel
theorem dX0_init_14 : decode cX0_init 14 = .ok (.return_, 1) := by decide +kernel
theorem dX0_kind_0 : decode cX0_kind 0 = .ok (.iconst 2, 1) := by decide +kernel
theorem dX0_kind_1 : decode cX0_kind 1 = .ok (.ireturn, 1) := by decide +kernel
theorem dX0_walkTime_0 : decode cX0_walkTime 0 = .ok (.iload_n 1, 1) := by decide +kernel
theorem dX0_walkTime_1 : decode cX0_walkTime 1 = .ok (.aload_n 0, 1) := by decide +kernel
theorem dX0_walkTime_2 : decode cX0_walkTime 2 = .ok (.getfield 9, 3) := by decide +kernel
theorem dX0_walkTime_5 : decode cX0_walkTime 5 = .ok (.invokestatic 15, 3) := by decide +kernel
theorem dX0_walkTime_8 : decode cX0_walkTime 8 = .ok (.ireturn, 1) := by decide +kernel
theorem dX0_climbTime_0 : decode cX0_climbTime 0 = .ok (.iconst 0, 1) := by decide +kernel
theorem dX0_climbTime_1 : decode cX0_climbTime 1 = .ok (.ireturn, 1) := by decide +kernel
theorem dX1_init_0 : decode cX1_init 0 = .ok (.aload_n 0, 1) := by decide +kernel
theorem dX1_init_1 : decode cX1_init 1 = .ok (.invokespecial 3, 3) := by decide +kernel
theorem dX1_init_4 : decode cX1_init 4 = .ok (.aload_n 0, 1) := by decide +kernel
theorem dX1_init_5 : decode cX1_init 5 = .ok (.bipush 50, 2) := by decide +kernel
theorem dX1_init_7 : decode cX1_init 7 = .ok (.newarray .int, 2) := by decide +kernel
theorem dX1_init_9 : decode cX1_init 9 = .ok (.putfield 11, 3) := by decide +kernel
theorem dX1_init_12 : decode cX1_init 12 = .ok (.aload_n 0, 1) := by decide +kernel
theorem dX1_init_13 : decode cX1_init 13 = .ok (.bipush 10, 2) := by decide +kernel
theorem dX1_init_15 : decode cX1_init 15 = .ok (.newarray .int, 2) := by decide +kernel
theorem dX1_init_17 : decode cX1_init 17 = .ok (.putfield 15, 3) := by decide +kernel
theorem dX1_init_20 : decode cX1_init 20 = .ok (.aload_n 0, 1) := by decide +kernel
theorem dX1_init_21 : decode cX1_init 21 = .ok (.bipush 10, 2) := by decide +kernel
theorem dX1_init_23 : decode cX1_init 23 = .ok (.newarray .int, 2) := by decide +kernel
theorem dX1_init_25 : decode cX1_init 25 = .ok (.putfield 18, 3) := by decide +kernel
theorem dX1_init_28 : decode cX1_init 28 = .ok (.aload_n 0, 1) := by decide +kernel
theorem dX1_init_29 : decode cX1_init 29 = .ok (.iconst 0, 1) := by decide +kernel
theorem dX1_init_30 : decode cX1_init 30 = .ok (.putfield 21, 3) := by decide +kernel
theorem dX1_init_33 : decode cX1_init 33 = .ok (.aload_n 0, 1) := by decide +kernel
theorem dX1_init_34 : decode cX1_init 34 = .ok (.iconst 0, 1) := by decide +kernel
theorem dX1_init_35 : decode cX1_init 35 = .ok (.putfield 25, 3) := by decide +kernel
theorem dX1_init_38 : decode cX1_init 38 = .ok (.aload_n 0, 1) := by decide +kernel
theorem dX1_init_39 : decode cX1_init 39 = .ok (.getfield 15, 3) := by decide +kernel
theorem dX1_init_42 : decode cX1_init 42 = .ok (.iconst 1, 1) := by decide +kernel
theorem dX1_init_43 : decode cX1_init 43 = .ok (.invokestatic 28, 3) := by decide +kernel
theorem dX1_init_46 : decode cX1_init 46 = .ok (.return_, 1) := by decide +kernel
theorem dX1_priceOf_0 : decode cX1_priceOf 0 = .ok (.iload_n 1, 1) := by decide +kernel
theorem dX1_priceOf_1 : decode cX1_priceOf 1 = .ok (.ifCond .lt 12, 3) := by decide +kernel
theorem dX1_priceOf_4 : decode cX1_priceOf 4 = .ok (.iload_n 1, 1) := by decide +kernel
theorem dX1_priceOf_5 : decode cX1_priceOf 5 = .ok (.aload_n 0, 1) := by decide +kernel
theorem dX1_priceOf_6 : decode cX1_priceOf 6 = .ok (.getfield 15, 3) := by decide +kernel
theorem dX1_priceOf_9 : decode cX1_priceOf 9 = .ok (.arraylength, 1) := by decide +kernel
theorem dX1_priceOf_10 : decode cX1_priceOf 10 = .ok (.if_icmp .lt 7, 3) := by decide +kernel
theorem dX1_priceOf_13 : decode cX1_priceOf 13 = .ok (.iconst (-1), 1) := by decide +kernel
theorem dX1_priceOf_14 : decode cX1_priceOf 14 = .ok (.goto 9, 3) := by decide +kernel
theorem dX1_priceOf_17 : decode cX1_priceOf 17 = .ok (.aload_n 0, 1) := by decide +kernel
theorem dX1_priceOf_18 : decode cX1_priceOf 18 = .ok (.getfield 15, 3) := by decide +kernel
theorem dX1_priceOf_21 : decode cX1_priceOf 21 = .ok (.iload_n 1, 1) := by decide +kernel
theorem dX1_priceOf_22 : decode cX1_priceOf 22 = .ok (.iaload, 1) := by decide +kernel
theorem dX1_priceOf_23 : decode cX1_priceOf 23 = .ok (.ireturn, 1) := by decide +kernel
theorem dX1_append_0 : decode cX1_append 0 = .ok (.iload_n 3, 1) := by decide +kernel
theorem dX1_append_1 : decode cX1_append 1 = .ok (.iconst 1, 1) := by decide +kernel
theorem dX1_append_2 : decode cX1_append 2 = .ok (.bipush 8, 2) := by decide +kernel
theorem dX1_append_4 : decode cX1_append 4 = .ok (.invokestatic 34, 3) := by decide +kernel
theorem dX1_append_7 : decode cX1_append 7 = .ok (.ifCond .eq 5, 3) := by decide +kernel
theorem dX1_append_10 : decode cX1_append 10 = .ok (.iconst (-1), 1) := by decide +kernel
theorem dX1_append_11 : decode cX1_append 11 = .ok (.ireturn, 1) := by decide +kernel
theorem dX1_append_12 : decode cX1_append 12 = .ok (.iconst 0, 1) := by decide +kernel
theorem dX1_append_13 : decode cX1_append 13 = .ok (.istore 4, 2) := by decide +kernel
theorem dX1_append_15 : decode cX1_append 15 = .ok (.iload 4, 2) := by decide +kernel
theorem dX1_append_17 : decode cX1_append 17 = .ok (.iload_n 3, 1) := by decide +kernel
theorem dX1_append_18 : decode cX1_append 18 = .ok (.if_icmp .ge 27, 3) := by decide +kernel
theorem dX1_append_21 : decode cX1_append 21 = .ok (.lload_n 1, 1) := by decide +kernel
theorem dX1_append_22 : decode cX1_append 22 = .ok (.iload 4, 2) := by decide +kernel
theorem dX1_append_24 : decode cX1_append 24 = .ok (.invokestatic 38, 3) := by decide +kernel
theorem dX1_append_27 : decode cX1_append 27 = .ok (.bipush 32, 2) := by decide +kernel
theorem dX1_append_29 : decode cX1_append 29 = .ok (.bipush 126, 2) := by decide +kernel
theorem dX1_append_31 : decode cX1_append 31 = .ok (.invokestatic 34, 3) := by decide +kernel
theorem dX1_append_34 : decode cX1_append 34 = .ok (.ifCond .eq 5, 3) := by decide +kernel
theorem dX1_append_37 : decode cX1_append 37 = .ok (.iconst (-1), 1) := by decide +kernel
theorem dX1_append_38 : decode cX1_append 38 = .ok (.ireturn, 1) := by decide +kernel
theorem dX1_append_39 : decode cX1_append 39 = .ok (.iinc 4 1, 3) := by decide +kernel
theorem dX1_append_42 : decode cX1_append 42 = .ok (.goto (-27), 3) := by decide +kernel
theorem dX1_append_45 : decode cX1_append 45 = .ok (.aload_n 0, 1) := by decide +kernel
theorem dX1_append_46 : decode cX1_append 46 = .ok (.getfield 21, 3) := by decide +kernel
theorem dX1_append_49 : decode cX1_append 49 = .ok (.iload_n 3, 1) := by decide +kernel
theorem dX1_append_50 : decode cX1_append 50 = .ok (.iadd, 1) := by decide +kernel
theorem dX1_append_51 : decode cX1_append 51 = .ok (.aload_n 0, 1) := by decide +kernel
theorem dX1_append_52 : decode cX1_append 52 = .ok (.getfield 11, 3) := by decide +kernel
theorem dX1_append_55 : decode cX1_append 55 = .ok (.arraylength, 1) := by decide +kernel
theorem dX1_append_56 : decode cX1_append 56 = .ok (.if_icmp .le 6, 3) := by decide +kernel
theorem dX1_append_59 : decode cX1_append 59 = .ok (.bipush (-3), 2) := by decide +kernel
theorem dX1_append_61 : decode cX1_append 61 = .ok (.ireturn, 1) := by decide +kernel
theorem dX1_append_62 : decode cX1_append 62 = .ok (.iload_n 3, 1) := by decide +kernel
theorem dX1_append_63 : decode cX1_append 63 = .ok (.iconst 1, 1) := by decide +kernel
theorem dX1_append_64 : decode cX1_append 64 = .ok (.isub, 1) := by decide +kernel
theorem dX1_append_65 : decode cX1_append 65 = .ok (.istore 4, 2) := by decide +kernel
theorem dX1_append_67 : decode cX1_append 67 = .ok (.iload 4, 2) := by decide +kernel
theorem dX1_append_69 : decode cX1_append 69 = .ok (.ifCond .lt 34, 3) := by decide +kernel
theorem dX1_append_72 : decode cX1_append 72 = .ok (.aload_n 0, 1) := by decide +kernel
theorem dX1_append_73 : decode cX1_append 73 = .ok (.getfield 11, 3) := by decide +kernel
theorem dX1_append_76 : decode cX1_append 76 = .ok (.aload_n 0, 1) := by decide +kernel
theorem dX1_append_77 : decode cX1_append 77 = .ok (.getfield 21, 3) := by decide +kernel
theorem dX1_append_80 : decode cX1_append 80 = .ok (.lload_n 1, 1) := by decide +kernel
theorem dX1_append_81 : decode cX1_append 81 = .ok (.iload 4, 2) := by decide +kernel
theorem dX1_append_83 : decode cX1_append 83 = .ok (.invokestatic 38, 3) := by decide +kernel
theorem dX1_append_86 : decode cX1_append 86 = .ok (.iastore, 1) := by decide +kernel
theorem dX1_append_87 : decode cX1_append 87 = .ok (.aload_n 0, 1) := by decide +kernel
theorem dX1_append_88 : decode cX1_append 88 = .ok (.dup, 1) := by decide +kernel
theorem dX1_append_89 : decode cX1_append 89 = .ok (.getfield 21, 3) := by decide +kernel
theorem dX1_append_92 : decode cX1_append 92 = .ok (.iconst 1, 1) := by decide +kernel
theorem dX1_append_93 : decode cX1_append 93 = .ok (.iadd, 1) := by decide +kernel
theorem dX1_append_94 : decode cX1_append 94 = .ok (.putfield 21, 3) := by decide +kernel
theorem dX1_append_97 : decode cX1_append 97 = .ok (.iinc 4 (-1), 3) := by decide +kernel
theorem dX1_append_100 : decode cX1_append 100 = .ok (.goto (-33), 3) := by decide +kernel
theorem dX1_append_103 : decode cX1_append 103 = .ok (.aload_n 0, 1) := by decide +kernel
theorem dX1_append_104 : decode cX1_append 104 = .ok (.getfield 21, 3) := by decide +kernel
theorem dX1_append_107 : decode cX1_append 107 = .ok (.ireturn, 1) := by decide +kernel
theorem dX1_byteOf_0 : decode cX1_byteOf 0 = .ok (.lload_n 0, 1) := by decide +kernel
theorem dX1_byteOf_1 : decode cX1_byteOf 1 = .ok (.bipush 8, 2) := by decide +kernel
theorem dX1_byteOf_3 : decode cX1_byteOf 3 = .ok (.iload_n 2, 1) := by decide +kernel
theorem dX1_byteOf_4 : decode cX1_byteOf 4 = .ok (.imul, 1) := by decide +kernel
theorem dX1_byteOf_5 : decode cX1_byteOf 5 = .ok (.lushr, 1) := by decide +kernel
theorem dX1_byteOf_6 : decode cX1_byteOf 6 = .ok (.l2i, 1) := by decide +kernel
theorem dX1_byteOf_7 : decode cX1_byteOf 7 = .ok (.sipush 255, 3) := by decide +kernel
theorem dX1_byteOf_10 : decode cX1_byteOf 10 = .ok (.iand, 1) := by decide +kernel
theorem dX1_byteOf_11 : decode cX1_byteOf 11 = .ok (.ireturn, 1) := by decide +kernel
theorem dX1_takeTape_0 : decode cX1_takeTape 0 = .ok (.aload_n 0, 1) := by decide +kernel
theorem dX1_takeTape_1 : decode cX1_takeTape 1 = .ok (.invokevirtual 42, 3) := by decide +kernel
theorem dX1_takeTape_4 : decode cX1_takeTape 4 = .ok (.istore_n 1, 1) := by decide +kernel
theorem dX1_takeTape_5 : decode cX1_takeTape 5 = .ok (.iload_n 1, 1) := by decide +kernel
theorem dX1_takeTape_6 : decode cX1_takeTape 6 = .ok (.ifCond .le 7, 3) := by decide +kernel
theorem dX1_takeTape_9 : decode cX1_takeTape 9 = .ok (.iload_n 1, 1) := by decide +kernel
theorem dX1_takeTape_10 : decode cX1_takeTape 10 = .ok (.goto 10, 3) := by decide +kernel
theorem dX1_takeTape_13 : decode cX1_takeTape 13 = .ok (.bipush (-20), 2) := by decide +kernel
theorem dX1_takeTape_15 : decode cX1_takeTape 15 = .ok (.aload_n 0, 1) := by decide +kernel
theorem dX1_takeTape_16 : decode cX1_takeTape 16 = .ok (.getfield 25, 3) := by decide +kernel
theorem dX1_takeTape_19 : decode cX1_takeTape 19 = .ok (.isub, 1) := by decide +kernel
theorem dX1_takeTape_20 : decode cX1_takeTape 20 = .ok (.istore_n 2, 1) := by decide +kernel
theorem dX1_takeTape_21 : decode cX1_takeTape 21 = .ok (.iload_n 1, 1) := by decide +kernel
theorem dX1_takeTape_22 : decode cX1_takeTape 22 = .ok (.ifCond .le 7, 3) := by decide +kernel
theorem dX1_takeTape_25 : decode cX1_takeTape 25 = .ok (.aload_n 0, 1) := by decide +kernel
theorem dX1_takeTape_26 : decode cX1_takeTape 26 = .ok (.invokevirtual 46, 3) := by decide +kernel
theorem dX1_takeTape_29 : decode cX1_takeTape 29 = .ok (.aload_n 0, 1) := by decide +kernel
theorem dX1_takeTape_30 : decode cX1_takeTape 30 = .ok (.iconst 0, 1) := by decide +kernel
theorem dX1_takeTape_31 : decode cX1_takeTape 31 = .ok (.putfield 21, 3) := by decide +kernel
theorem dX1_takeTape_34 : decode cX1_takeTape 34 = .ok (.iload_n 2, 1) := by decide +kernel
theorem dX1_takeTape_35 : decode cX1_takeTape 35 = .ok (.ireturn, 1) := by decide +kernel
theorem dX1_useDraft_0 : decode cX1_useDraft 0 = .ok (.aload_n 0, 1) := by decide +kernel
theorem dX1_useDraft_1 : decode cX1_useDraft 1 = .ok (.getfield 15, 3) := by decide +kernel
theorem dX1_useDraft_4 : decode cX1_useDraft 4 = .ok (.astore_n 1, 1) := by decide +kernel
theorem dX1_useDraft_5 : decode cX1_useDraft 5 = .ok (.aload_n 0, 1) := by decide +kernel
theorem dX1_useDraft_6 : decode cX1_useDraft 6 = .ok (.aload_n 0, 1) := by decide +kernel
theorem dX1_useDraft_7 : decode cX1_useDraft 7 = .ok (.getfield 18, 3) := by decide +kernel
theorem dX1_useDraft_10 : decode cX1_useDraft 10 = .ok (.putfield 15, 3) := by decide +kernel
theorem dX1_useDraft_13 : decode cX1_useDraft 13 = .ok (.aload_n 0, 1) := by decide +kernel
theorem dX1_useDraft_14 : decode cX1_useDraft 14 = .ok (.aload_n 1, 1) := by decide +kernel
theorem dX1_useDraft_15 : decode cX1_useDraft 15 = .ok (.putfield 18, 3) := by decide +kernel
theorem dX1_useDraft_18 : decode cX1_useDraft 18 = .ok (.return_, 1) := by decide +kernel
theorem dX1_readClauses_0 : decode cX1_readClauses 0 = .ok (.aload_n 0, 1) := by decide +kernel
theorem dX1_readClauses_1 : decode cX1_readClauses 1 = .ok (.iconst 0, 1) := by decide +kernel
theorem dX1_readClauses_2 : decode cX1_readClauses 2 = .ok (.putfield 25, 3) := by decide +kernel
theorem dX1_readClauses_5 : decode cX1_readClauses 5 = .ok (.aload_n 0, 1) := by decide +kernel
theorem dX1_readClauses_6 : decode cX1_readClauses 6 = .ok (.getfield 18, 3) := by decide +kernel
theorem dX1_readClauses_9 : decode cX1_readClauses 9 = .ok (.iconst 0, 1) := by decide +kernel
theorem dX1_readClauses_10 : decode cX1_readClauses 10 = .ok (.invokestatic 28, 3) := by decide +kernel
theorem dX1_readClauses_13 : decode cX1_readClauses 13 = .ok (.iconst 1, 1) := by decide +kernel
theorem dX1_readClauses_14 : decode cX1_readClauses 14 = .ok (.istore_n 1, 1) := by decide +kernel
theorem dX1_readClauses_15 : decode cX1_readClauses 15 = .ok (.iload_n 1, 1) := by decide +kernel
theorem dX1_readClauses_16 : decode cX1_readClauses 16 = .ok (.iconst 5, 1) := by decide +kernel
theorem dX1_readClauses_17 : decode cX1_readClauses 17 = .ok (.if_icmp .gt 43, 3) := by decide +kernel
theorem dX1_readClauses_20 : decode cX1_readClauses 20 = .ok (.aload_n 0, 1) := by decide +kernel
theorem dX1_readClauses_21 : decode cX1_readClauses 21 = .ok (.invokevirtual 49, 3) := by decide +kernel
theorem dX1_readClauses_24 : decode cX1_readClauses 24 = .ok (.ifCond .ne 5, 3) := by decide +kernel
theorem dX1_readClauses_27 : decode cX1_readClauses 27 = .ok (.iconst 0, 1) := by decide +kernel
theorem dX1_readClauses_28 : decode cX1_readClauses 28 = .ok (.ireturn, 1) := by decide +kernel
theorem dX1_readClauses_29 : decode cX1_readClauses 29 = .ok (.aload_n 0, 1) := by decide +kernel
theorem dX1_readClauses_30 : decode cX1_readClauses 30 = .ok (.invokevirtual 53, 3) := by decide +kernel
theorem dX1_readClauses_33 : decode cX1_readClauses 33 = .ok (.ifCond .eq 5, 3) := by decide +kernel
theorem dX1_readClauses_36 : decode cX1_readClauses 36 = .ok (.iload_n 1, 1) := by decide +kernel
theorem dX1_readClauses_37 : decode cX1_readClauses 37 = .ok (.ireturn, 1) := by decide +kernel
theorem dX1_readClauses_38 : decode cX1_readClauses 38 = .ok (.iload_n 1, 1) := by decide +kernel
theorem dX1_readClauses_39 : decode cX1_readClauses 39 = .ok (.iconst 5, 1) := by decide +kernel
theorem dX1_readClauses_40 : decode cX1_readClauses 40 = .ok (.if_icmp .eq 12, 3) := by decide +kernel
theorem dX1_readClauses_43 : decode cX1_readClauses 43 = .ok (.aload_n 0, 1) := by decide +kernel
theorem dX1_readClauses_44 : decode cX1_readClauses 44 = .ok (.bipush 59, 2) := by decide +kernel
theorem dX1_readClauses_46 : decode cX1_readClauses 46 = .ok (.invokevirtual 56, 3) := by decide +kernel
theorem dX1_readClauses_49 : decode cX1_readClauses 49 = .ok (.ifCond .ne 5, 3) := by decide +kernel
theorem dX1_readClauses_52 : decode cX1_readClauses 52 = .ok (.iconst 0, 1) := by decide +kernel
theorem dX1_readClauses_53 : decode cX1_readClauses 53 = .ok (.ireturn, 1) := by decide +kernel
theorem dX1_readClauses_54 : decode cX1_readClauses 54 = .ok (.iinc 1 1, 3) := by decide +kernel
theorem dX1_readClauses_57 : decode cX1_readClauses 57 = .ok (.goto (-42), 3) := by decide +kernel
theorem dX1_readClauses_60 : decode cX1_readClauses 60 = .ok (.iconst 0, 1) := by decide +kernel
theorem dX1_readClauses_61 : decode cX1_readClauses 61 = .ok (.ireturn, 1) := by decide +kernel
theorem dX1_readClause_0 : decode cX1_readClause 0 = .ok (.aload_n 0, 1) := by decide +kernel
theorem dX1_readClause_1 : decode cX1_readClause 1 = .ok (.iconst 0, 1) := by decide +kernel
theorem dX1_readClause_2 : decode cX1_readClause 2 = .ok (.bipush 9, 2) := by decide +kernel
theorem dX1_readClause_4 : decode cX1_readClause 4 = .ok (.invokevirtual 60, 3) := by decide +kernel
theorem dX1_readClause_7 : decode cX1_readClause 7 = .ok (.istore_n 1, 1) := by decide +kernel
theorem dX1_readClause_8 : decode cX1_readClause 8 = .ok (.iload_n 1, 1) := by decide +kernel
theorem dX1_readClause_9 : decode cX1_readClause 9 = .ok (.iconst (-1), 1) := by decide +kernel
theorem dX1_readClause_10 : decode cX1_readClause 10 = .ok (.if_icmp .ne 5, 3) := by decide +kernel
theorem dX1_readClause_13 : decode cX1_readClause 13 = .ok (.iconst 0, 1) := by decide +kernel
theorem dX1_readClause_14 : decode cX1_readClause 14 = .ok (.ireturn, 1) := by decide +kernel
theorem dX1_readClause_15 : decode cX1_readClause 15 = .ok (.aload_n 0, 1) := by decide +kernel
theorem dX1_readClause_16 : decode cX1_readClause 16 = .ok (.bipush 45, 2) := by decide +kernel
theorem dX1_readClause_18 : decode cX1_readClause 18 = .ok (.invokevirtual 56, 3) := by decide +kernel
theorem dX1_readClause_21 : decode cX1_readClause 21 = .ok (.ifCond .eq 13, 3) := by decide +kernel
theorem dX1_readClause_24 : decode cX1_readClause 24 = .ok (.aload_n 0, 1) := by decide +kernel
theorem dX1_readClause_25 : decode cX1_readClause 25 = .ok (.iload_n 1, 1) := by decide +kernel
theorem dX1_readClause_26 : decode cX1_readClause 26 = .ok (.bipush 9, 2) := by decide +kernel
theorem dX1_readClause_28 : decode cX1_readClause 28 = .ok (.invokevirtual 60, 3) := by decide +kernel
theorem dX1_readClause_31 : decode cX1_readClause 31 = .ok (.goto 4, 3) := by decide +kernel
theorem dX1_readClause_34 : decode cX1_readClause 34 = .ok (.iload_n 1, 1) := by decide +kernel
theorem dX1_readClause_35 : decode cX1_readClause 35 = .ok (.istore_n 2, 1) := by decide +kernel
theorem dX1_readClause_36 : decode cX1_readClause 36 = .ok (.iload_n 2, 1) := by decide +kernel
theorem dX1_readClause_37 : decode cX1_readClause 37 = .ok (.iconst (-1), 1) := by decide +kernel
theorem dX1_readClause_38 : decode cX1_readClause 38 = .ok (.if_icmp .eq 12, 3) := by decide +kernel
theorem dX1_readClause_41 : decode cX1_readClause 41 = .ok (.aload_n 0, 1) := by decide +kernel
theorem dX1_readClause_42 : decode cX1_readClause 42 = .ok (.bipush 58, 2) := by decide +kernel
theorem dX1_readClause_44 : decode cX1_readClause 44 = .ok (.invokevirtual 56, 3) := by decide +kernel
theorem dX1_readClause_47 : decode cX1_readClause 47 = .ok (.ifCond .ne 5, 3) := by decide +kernel
theorem dX1_readClause_50 : decode cX1_readClause 50 = .ok (.iconst 0, 1) := by decide +kernel
theorem dX1_readClause_51 : decode cX1_readClause 51 = .ok (.ireturn, 1) := by decide +kernel
theorem dX1_readClause_52 : decode cX1_readClause 52 = .ok (.aload_n 0, 1) := by decide +kernel
theorem dX1_readClause_53 : decode cX1_readClause 53 = .ok (.iconst 0, 1) := by decide +kernel
theorem dX1_readClause_54 : decode cX1_readClause 54 = .ok (.bipush 99, 2) := by decide +kernel
theorem dX1_readClause_56 : decode cX1_readClause 56 = .ok (.invokevirtual 60, 3) := by decide +kernel
theorem dX1_readClause_59 : decode cX1_readClause 59 = .ok (.istore_n 3, 1) := by decide +kernel
theorem dX1_readClause_60 : decode cX1_readClause 60 = .ok (.iload_n 3, 1) := by decide +kernel
theorem dX1_readClause_61 : decode cX1_readClause 61 = .ok (.iconst (-1), 1) := by decide +kernel
theorem dX1_readClause_62 : decode cX1_readClause 62 = .ok (.if_icmp .ne 5, 3) := by decide +kernel
theorem dX1_readClause_65 : decode cX1_readClause 65 = .ok (.iconst 0, 1) := by decide +kernel
theorem dX1_readClause_66 : decode cX1_readClause 66 = .ok (.ireturn, 1) := by decide +kernel
theorem dX1_readClause_67 : decode cX1_readClause 67 = .ok (.iload_n 1, 1) := by decide +kernel
theorem dX1_readClause_68 : decode cX1_readClause 68 = .ok (.istore 4, 2) := by decide +kernel
theorem dX1_readClause_70 : decode cX1_readClause 70 = .ok (.iload 4, 2) := by decide +kernel
theorem dX1_readClause_72 : decode cX1_readClause 72 = .ok (.iload_n 2, 1) := by decide +kernel
theorem dX1_readClause_73 : decode cX1_readClause 73 = .ok (.if_icmp .gt 27, 3) := by decide +kernel
theorem dX1_readClause_76 : decode cX1_readClause 76 = .ok (.iload 4, 2) := by decide +kernel
theorem dX1_readClause_78 : decode cX1_readClause 78 = .ok (.aload_n 0, 1) := by decide +kernel
theorem dX1_readClause_79 : decode cX1_readClause 79 = .ok (.getfield 18, 3) := by decide +kernel
theorem dX1_readClause_82 : decode cX1_readClause 82 = .ok (.arraylength, 1) := by decide +kernel
theorem dX1_readClause_83 : decode cX1_readClause 83 = .ok (.if_icmp .ge 17, 3) := by decide +kernel
theorem dX1_readClause_86 : decode cX1_readClause 86 = .ok (.aload_n 0, 1) := by decide +kernel
theorem dX1_readClause_87 : decode cX1_readClause 87 = .ok (.getfield 18, 3) := by decide +kernel
theorem dX1_readClause_90 : decode cX1_readClause 90 = .ok (.iload 4, 2) := by decide +kernel
theorem dX1_readClause_92 : decode cX1_readClause 92 = .ok (.iload_n 3, 1) := by decide +kernel
theorem dX1_readClause_93 : decode cX1_readClause 93 = .ok (.iastore, 1) := by decide +kernel
theorem dX1_readClause_94 : decode cX1_readClause 94 = .ok (.iinc 4 1, 3) := by decide +kernel
theorem dX1_readClause_97 : decode cX1_readClause 97 = .ok (.goto (-27), 3) := by decide +kernel
theorem dX1_readClause_100 : decode cX1_readClause 100 = .ok (.iconst 1, 1) := by decide +kernel
theorem dX1_readClause_101 : decode cX1_readClause 101 = .ok (.ireturn, 1) := by decide +kernel
theorem dX1_readNumber_0 : decode cX1_readNumber 0 = .ok (.aload_n 0, 1) := by decide +kernel
theorem dX1_readNumber_1 : decode cX1_readNumber 1 = .ok (.invokevirtual 64, 3) := by decide +kernel
theorem dX1_readNumber_4 : decode cX1_readNumber 4 = .ok (.aload_n 0, 1) := by decide +kernel
theorem dX1_readNumber_5 : decode cX1_readNumber 5 = .ok (.getfield 25, 3) := by decide +kernel
theorem dX1_readNumber_8 : decode cX1_readNumber 8 = .ok (.istore_n 3, 1) := by decide +kernel
theorem dX1_readNumber_9 : decode cX1_readNumber 9 = .ok (.iconst 0, 1) := by decide +kernel
theorem dX1_readNumber_10 : decode cX1_readNumber 10 = .ok (.istore 4, 2) := by decide +kernel
theorem dX1_readNumber_12 : decode cX1_readNumber 12 = .ok (.aload_n 0, 1) := by decide +kernel
theorem dX1_readNumber_13 : decode cX1_readNumber 13 = .ok (.getfield 25, 3) := by decide +kernel
theorem dX1_readNumber_16 : decode cX1_readNumber 16 = .ok (.aload_n 0, 1) := by decide +kernel
theorem dX1_readNumber_17 : decode cX1_readNumber 17 = .ok (.getfield 21, 3) := by decide +kernel
theorem dX1_readNumber_20 : decode cX1_readNumber 20 = .ok (.if_icmp .ge 60, 3) := by decide +kernel
theorem dX1_readNumber_23 : decode cX1_readNumber 23 = .ok (.aload_n 0, 1) := by decide +kernel
theorem dX1_readNumber_24 : decode cX1_readNumber 24 = .ok (.getfield 11, 3) := by decide +kernel
theorem dX1_readNumber_27 : decode cX1_readNumber 27 = .ok (.aload_n 0, 1) := by decide +kernel
theorem dX1_readNumber_28 : decode cX1_readNumber 28 = .ok (.getfield 25, 3) := by decide +kernel
theorem dX1_readNumber_31 : decode cX1_readNumber 31 = .ok (.iaload, 1) := by decide +kernel
theorem dX1_readNumber_32 : decode cX1_readNumber 32 = .ok (.bipush 48, 2) := by decide +kernel
theorem dX1_readNumber_34 : decode cX1_readNumber 34 = .ok (.bipush 57, 2) := by decide +kernel
theorem dX1_readNumber_36 : decode cX1_readNumber 36 = .ok (.invokestatic 34, 3) := by decide +kernel
theorem dX1_readNumber_39 : decode cX1_readNumber 39 = .ok (.ifCond .ne 41, 3) := by decide +kernel
theorem dX1_readNumber_42 : decode cX1_readNumber 42 = .ok (.bipush 100, 2) := by decide +kernel
theorem dX1_readNumber_44 : decode cX1_readNumber 44 = .ok (.iload 4, 2) := by decide +kernel
theorem dX1_readNumber_46 : decode cX1_readNumber 46 = .ok (.bipush 10, 2) := by decide +kernel
theorem dX1_readNumber_48 : decode cX1_readNumber 48 = .ok (.imul, 1) := by decide +kernel
theorem dX1_readNumber_49 : decode cX1_readNumber 49 = .ok (.aload_n 0, 1) := by decide +kernel
theorem dX1_readNumber_50 : decode cX1_readNumber 50 = .ok (.getfield 11, 3) := by decide +kernel
theorem dX1_readNumber_53 : decode cX1_readNumber 53 = .ok (.aload_n 0, 1) := by decide +kernel
theorem dX1_readNumber_54 : decode cX1_readNumber 54 = .ok (.getfield 25, 3) := by decide +kernel
theorem dX1_readNumber_57 : decode cX1_readNumber 57 = .ok (.iaload, 1) := by decide +kernel
theorem dX1_readNumber_58 : decode cX1_readNumber 58 = .ok (.iadd, 1) := by decide +kernel
theorem dX1_readNumber_59 : decode cX1_readNumber 59 = .ok (.bipush 48, 2) := by decide +kernel
theorem dX1_readNumber_61 : decode cX1_readNumber 61 = .ok (.isub, 1) := by decide +kernel
theorem dX1_readNumber_62 : decode cX1_readNumber 62 = .ok (.invokestatic 67, 3) := by decide +kernel
theorem dX1_readNumber_65 : decode cX1_readNumber 65 = .ok (.istore 4, 2) := by decide +kernel
theorem dX1_readNumber_67 : decode cX1_readNumber 67 = .ok (.aload_n 0, 1) := by decide +kernel
theorem dX1_readNumber_68 : decode cX1_readNumber 68 = .ok (.dup, 1) := by decide +kernel
theorem dX1_readNumber_69 : decode cX1_readNumber 69 = .ok (.getfield 25, 3) := by decide +kernel
theorem dX1_readNumber_72 : decode cX1_readNumber 72 = .ok (.iconst 1, 1) := by decide +kernel
theorem dX1_readNumber_73 : decode cX1_readNumber 73 = .ok (.iadd, 1) := by decide +kernel
theorem dX1_readNumber_74 : decode cX1_readNumber 74 = .ok (.putfield 25, 3) := by decide +kernel
theorem dX1_readNumber_77 : decode cX1_readNumber 77 = .ok (.goto (-65), 3) := by decide +kernel
theorem dX1_readNumber_80 : decode cX1_readNumber 80 = .ok (.aload_n 0, 1) := by decide +kernel
theorem dX1_readNumber_81 : decode cX1_readNumber 81 = .ok (.getfield 25, 3) := by decide +kernel
theorem dX1_readNumber_84 : decode cX1_readNumber 84 = .ok (.iload_n 3, 1) := by decide +kernel
theorem dX1_readNumber_85 : decode cX1_readNumber 85 = .ok (.if_icmp .le 16, 3) := by decide +kernel
theorem dX1_readNumber_88 : decode cX1_readNumber 88 = .ok (.iload 4, 2) := by decide +kernel
theorem dX1_readNumber_90 : decode cX1_readNumber 90 = .ok (.iload_n 1, 1) := by decide +kernel
theorem dX1_readNumber_91 : decode cX1_readNumber 91 = .ok (.iload_n 2, 1) := by decide +kernel
theorem dX1_readNumber_92 : decode cX1_readNumber 92 = .ok (.invokestatic 34, 3) := by decide +kernel
theorem dX1_readNumber_95 : decode cX1_readNumber 95 = .ok (.ifCond .ne 6, 3) := by decide +kernel
theorem dX1_readNumber_98 : decode cX1_readNumber 98 = .ok (.iload 4, 2) := by decide +kernel
theorem dX1_readNumber_100 : decode cX1_readNumber 100 = .ok (.ireturn, 1) := by decide +kernel
theorem dX1_readNumber_101 : decode cX1_readNumber 101 = .ok (.aload_n 0, 1) := by decide +kernel
theorem dX1_readNumber_102 : decode cX1_readNumber 102 = .ok (.iload_n 3, 1) := by decide +kernel
theorem dX1_readNumber_103 : decode cX1_readNumber 103 = .ok (.putfield 25, 3) := by decide +kernel
theorem dX1_readNumber_106 : decode cX1_readNumber 106 = .ok (.iconst (-1), 1) := by decide +kernel
theorem dX1_readNumber_107 : decode cX1_readNumber 107 = .ok (.ireturn, 1) := by decide +kernel
theorem dX1_readSign_0 : decode cX1_readSign 0 = .ok (.aload_n 0, 1) := by decide +kernel
theorem dX1_readSign_1 : decode cX1_readSign 1 = .ok (.invokevirtual 64, 3) := by decide +kernel
theorem dX1_readSign_4 : decode cX1_readSign 4 = .ok (.aload_n 0, 1) := by decide +kernel
theorem dX1_readSign_5 : decode cX1_readSign 5 = .ok (.getfield 25, 3) := by decide +kernel
theorem dX1_readSign_8 : decode cX1_readSign 8 = .ok (.aload_n 0, 1) := by decide +kernel
theorem dX1_readSign_9 : decode cX1_readSign 9 = .ok (.getfield 21, 3) := by decide +kernel
theorem dX1_readSign_12 : decode cX1_readSign 12 = .ok (.if_icmp .ge 16, 3) := by decide +kernel
theorem dX1_readSign_15 : decode cX1_readSign 15 = .ok (.aload_n 0, 1) := by decide +kernel
theorem dX1_readSign_16 : decode cX1_readSign 16 = .ok (.getfield 11, 3) := by decide +kernel
theorem dX1_readSign_19 : decode cX1_readSign 19 = .ok (.aload_n 0, 1) := by decide +kernel
theorem dX1_readSign_20 : decode cX1_readSign 20 = .ok (.getfield 25, 3) := by decide +kernel
theorem dX1_readSign_23 : decode cX1_readSign 23 = .ok (.iaload, 1) := by decide +kernel
theorem dX1_readSign_24 : decode cX1_readSign 24 = .ok (.iload_n 1, 1) := by decide +kernel
theorem dX1_readSign_25 : decode cX1_readSign 25 = .ok (.if_icmp .eq 5, 3) := by decide +kernel
theorem dX1_readSign_28 : decode cX1_readSign 28 = .ok (.iconst 0, 1) := by decide +kernel
theorem dX1_readSign_29 : decode cX1_readSign 29 = .ok (.ireturn, 1) := by decide +kernel
theorem dX1_readSign_30 : decode cX1_readSign 30 = .ok (.aload_n 0, 1) := by decide +kernel
theorem dX1_readSign_31 : decode cX1_readSign 31 = .ok (.dup, 1) := by decide +kernel
theorem dX1_readSign_32 : decode cX1_readSign 32 = .ok (.getfield 25, 3) := by decide +kernel
theorem dX1_readSign_35 : decode cX1_readSign 35 = .ok (.iconst 1, 1) := by decide +kernel
theorem dX1_readSign_36 : decode cX1_readSign 36 = .ok (.iadd, 1) := by decide +kernel
theorem dX1_readSign_37 : decode cX1_readSign 37 = .ok (.putfield 25, 3) := by decide +kernel
theorem dX1_readSign_40 : decode cX1_readSign 40 = .ok (.iconst 1, 1) := by decide +kernel
theorem dX1_readSign_41 : decode cX1_readSign 41 = .ok (.ireturn, 1) := by decide +kernel
theorem dX1_isAtEnd_0 : decode cX1_isAtEnd 0 = .ok (.aload_n 0, 1) := by decide +kernel
theorem dX1_isAtEnd_1 : decode cX1_isAtEnd 1 = .ok (.invokevirtual 64, 3) := by decide +kernel
theorem dX1_isAtEnd_4 : decode cX1_isAtEnd 4 = .ok (.aload_n 0, 1) := by decide +kernel
theorem dX1_isAtEnd_5 : decode cX1_isAtEnd 5 = .ok (.getfield 25, 3) := by decide +kernel
theorem dX1_isAtEnd_8 : decode cX1_isAtEnd 8 = .ok (.aload_n 0, 1) := by decide +kernel
theorem dX1_isAtEnd_9 : decode cX1_isAtEnd 9 = .ok (.getfield 21, 3) := by decide +kernel
theorem dX1_isAtEnd_12 : decode cX1_isAtEnd 12 = .ok (.if_icmp .lt 7, 3) := by decide +kernel
theorem dX1_isAtEnd_15 : decode cX1_isAtEnd 15 = .ok (.iconst 1, 1) := by decide +kernel
theorem dX1_isAtEnd_16 : decode cX1_isAtEnd 16 = .ok (.goto 4, 3) := by decide +kernel
theorem dX1_isAtEnd_19 : decode cX1_isAtEnd 19 = .ok (.iconst 0, 1) := by decide +kernel
theorem dX1_isAtEnd_20 : decode cX1_isAtEnd 20 = .ok (.ireturn, 1) := by decide +kernel
theorem dX1_skipBlanks_0 : decode cX1_skipBlanks 0 = .ok (.aload_n 0, 1) := by decide +kernel
theorem dX1_skipBlanks_1 : decode cX1_skipBlanks 1 = .ok (.getfield 25, 3) := by decide +kernel
theorem dX1_skipBlanks_4 : decode cX1_skipBlanks 4 = .ok (.aload_n 0, 1) := by decide +kernel
theorem dX1_skipBlanks_5 : decode cX1_skipBlanks 5 = .ok (.getfield 21, 3) := by decide +kernel
theorem dX1_skipBlanks_8 : decode cX1_skipBlanks 8 = .ok (.if_icmp .ge 30, 3) := by decide +kernel
theorem dX1_skipBlanks_11 : decode cX1_skipBlanks 11 = .ok (.aload_n 0, 1) := by decide +kernel
theorem dX1_skipBlanks_12 : decode cX1_skipBlanks 12 = .ok (.getfield 11, 3) := by decide +kernel
theorem dX1_skipBlanks_15 : decode cX1_skipBlanks 15 = .ok (.aload_n 0, 1) := by decide +kernel
theorem dX1_skipBlanks_16 : decode cX1_skipBlanks 16 = .ok (.getfield 25, 3) := by decide +kernel
theorem dX1_skipBlanks_19 : decode cX1_skipBlanks 19 = .ok (.iaload, 1) := by decide +kernel
theorem dX1_skipBlanks_20 : decode cX1_skipBlanks 20 = .ok (.bipush 32, 2) := by decide +kernel
theorem dX1_skipBlanks_22 : decode cX1_skipBlanks 22 = .ok (.if_icmp .ne 16, 3) := by decide +kernel
theorem dX1_skipBlanks_25 : decode cX1_skipBlanks 25 = .ok (.aload_n 0, 1) := by decide +kernel
theorem dX1_skipBlanks_26 : decode cX1_skipBlanks 26 = .ok (.dup, 1) := by decide +kernel
theorem dX1_skipBlanks_27 : decode cX1_skipBlanks 27 = .ok (.getfield 25, 3) := by decide +kernel
theorem dX1_skipBlanks_30 : decode cX1_skipBlanks 30 = .ok (.iconst 1, 1) := by decide +kernel
theorem dX1_skipBlanks_31 : decode cX1_skipBlanks 31 = .ok (.iadd, 1) := by decide +kernel
theorem dX1_skipBlanks_32 : decode cX1_skipBlanks 32 = .ok (.putfield 25, 3) := by decide +kernel
theorem dX1_skipBlanks_35 : decode cX1_skipBlanks 35 = .ok (.goto (-35), 3) := by decide +kernel
theorem dX1_skipBlanks_38 : decode cX1_skipBlanks 38 = .ok (.return_, 1) := by decide +kernel
theorem dX2_init_0 : decode cX2_init 0 = .ok (.aload_n 0, 1) := by decide +kernel
theorem dX2_init_1 : decode cX2_init 1 = .ok (.invokespecial 1, 3) := by decide +kernel
theorem dX2_init_4 : decode cX2_init 4 = .ok (.aload_n 0, 1) := by decide +kernel
theorem dX2_init_5 : decode cX2_init 5 = .ok (.new 7, 3) := by decide +kernel
theorem dX2_init_8 : decode cX2_init 8 = .ok (.dup, 1) := by decide +kernel
theorem dX2_init_9 : decode cX2_init 9 = .ok (.invokespecial 9, 3) := by decide +kernel
theorem dX2_init_12 : decode cX2_init 12 = .ok (.putfield 10, 3) := by decide +kernel
theorem dX2_init_15 : decode cX2_init 15 = .ok (.aload_n 0, 1) := by decide +kernel
theorem dX2_init_16 : decode cX2_init 16 = .ok (.iconst 1, 1) := by decide +kernel
theorem dX2_init_17 : decode cX2_init 17 = .ok (.putfield 16, 3) := by decide +kernel
theorem dX2_init_20 : decode cX2_init 20 = .ok (.aload_n 0, 1) := by decide +kernel
theorem dX2_init_21 : decode cX2_init 21 = .ok (.iconst 0, 1) := by decide +kernel
theorem dX2_init_22 : decode cX2_init 22 = .ok (.putfield 20, 3) := by decide +kernel
theorem dX2_init_25 : decode cX2_init 25 = .ok (.aload_n 0, 1) := by decide +kernel
theorem dX2_init_26 : decode cX2_init 26 = .ok (.iconst 0, 1) := by decide +kernel
theorem dX2_init_27 : decode cX2_init 27 = .ok (.putfield 24, 3) := by decide +kernel
theorem dX2_init_30 : decode cX2_init 30 = .ok (.aload_n 0, 1) := by decide +kernel
theorem dX2_init_31 : decode cX2_init 31 = .ok (.iload_n 1, 1) := by decide +kernel
theorem dX2_init_32 : decode cX2_init 32 = .ok (.putfield 27, 3) := by decide +kernel
theorem dX2_init_35 : decode cX2_init 35 = .ok (.aload_n 0, 1) := by decide +kernel
theorem dX2_init_36 : decode cX2_init 36 = .ok (.iload_n 2, 1) := by decide +kernel
theorem dX2_init_37 : decode cX2_init 37 = .ok (.putfield 30, 3) := by decide +kernel
theorem dX2_init_40 : decode cX2_init 40 = .ok (.return_, 1) := by decide +kernel
theorem dX2_nextToFill_0 : decode cX2_nextToFill 0 = .ok (.aconst_null, 1) := by decide +kernel
theorem dX2_nextToFill_1 : decode cX2_nextToFill 1 = .ok (.astore_n 1, 1) := by decide +kernel
theorem dX2_nextToFill_2 : decode cX2_nextToFill 2 = .ok (.iconst 0, 1) := by decide +kernel
theorem dX2_nextToFill_3 : decode cX2_nextToFill 3 = .ok (.istore_n 2, 1) := by decide +kernel
theorem dX2_nextToFill_4 : decode cX2_nextToFill 4 = .ok (.iload_n 2, 1) := by decide +kernel
theorem dX2_nextToFill_5 : decode cX2_nextToFill 5 = .ok (.aload_n 0, 1) := by decide +kernel
theorem dX2_nextToFill_6 : decode cX2_nextToFill 6 = .ok (.getfield 10, 3) := by decide +kernel
theorem dX2_nextToFill_9 : decode cX2_nextToFill 9 = .ok (.invokevirtual 33, 3) := by decide +kernel
theorem dX2_nextToFill_12 : decode cX2_nextToFill 12 = .ok (.if_icmp .ge 38, 3) := by decide +kernel
theorem dX2_nextToFill_15 : decode cX2_nextToFill 15 = .ok (.aload_n 0, 1) := by decide +kernel
theorem dX2_nextToFill_16 : decode cX2_nextToFill 16 = .ok (.getfield 10, 3) := by decide +kernel
theorem dX2_nextToFill_19 : decode cX2_nextToFill 19 = .ok (.iload_n 2, 1) := by decide +kernel
theorem dX2_nextToFill_20 : decode cX2_nextToFill 20 = .ok (.invokevirtual 37, 3) := by decide +kernel
theorem dX2_nextToFill_23 : decode cX2_nextToFill 23 = .ok (.checkcast 41, 3) := by decide +kernel
theorem dX2_nextToFill_26 : decode cX2_nextToFill 26 = .ok (.astore_n 3, 1) := by decide +kernel
theorem dX2_nextToFill_27 : decode cX2_nextToFill 27 = .ok (.aload_n 1, 1) := by decide +kernel
theorem dX2_nextToFill_28 : decode cX2_nextToFill 28 = .ok (.ifnull 14, 3) := by decide +kernel
theorem dX2_nextToFill_31 : decode cX2_nextToFill 31 = .ok (.aload_n 3, 1) := by decide +kernel
theorem dX2_nextToFill_32 : decode cX2_nextToFill 32 = .ok (.getfield 43, 3) := by decide +kernel
theorem dX2_nextToFill_35 : decode cX2_nextToFill 35 = .ok (.aload_n 1, 1) := by decide +kernel
theorem dX2_nextToFill_36 : decode cX2_nextToFill 36 = .ok (.getfield 43, 3) := by decide +kernel
theorem dX2_nextToFill_39 : decode cX2_nextToFill 39 = .ok (.if_icmp .le 5, 3) := by decide +kernel
theorem dX2_nextToFill_42 : decode cX2_nextToFill 42 = .ok (.aload_n 3, 1) := by decide +kernel
theorem dX2_nextToFill_43 : decode cX2_nextToFill 43 = .ok (.astore_n 1, 1) := by decide +kernel
theorem dX2_nextToFill_44 : decode cX2_nextToFill 44 = .ok (.iinc 2 1, 3) := by decide +kernel
theorem dX2_nextToFill_47 : decode cX2_nextToFill 47 = .ok (.goto (-43), 3) := by decide +kernel
theorem dX2_nextToFill_50 : decode cX2_nextToFill 50 = .ok (.aload_n 1, 1) := by decide +kernel
theorem dX2_nextToFill_51 : decode cX2_nextToFill 51 = .ok (.areturn, 1) := by decide +kernel
theorem dX2_countAhead_0 : decode cX2_countAhead 0 = .ok (.iconst 0, 1) := by decide +kernel
theorem dX2_countAhead_1 : decode cX2_countAhead 1 = .ok (.istore_n 2, 1) := by decide +kernel
theorem dX2_countAhead_2 : decode cX2_countAhead 2 = .ok (.iconst 1, 1) := by decide +kernel
theorem dX2_countAhead_3 : decode cX2_countAhead 3 = .ok (.istore_n 3, 1) := by decide +kernel
theorem dX2_countAhead_4 : decode cX2_countAhead 4 = .ok (.iconst 0, 1) := by decide +kernel
theorem dX2_countAhead_5 : decode cX2_countAhead 5 = .ok (.istore 4, 2) := by decide +kernel
theorem dX2_countAhead_7 : decode cX2_countAhead 7 = .ok (.iload 4, 2) := by decide +kernel
theorem dX2_countAhead_9 : decode cX2_countAhead 9 = .ok (.aload_n 0, 1) := by decide +kernel
theorem dX2_countAhead_10 : decode cX2_countAhead 10 = .ok (.getfield 10, 3) := by decide +kernel
theorem dX2_countAhead_13 : decode cX2_countAhead 13 = .ok (.invokevirtual 33, 3) := by decide +kernel
theorem dX2_countAhead_16 : decode cX2_countAhead 16 = .ok (.if_icmp .ge 65, 3) := by decide +kernel
theorem dX2_countAhead_19 : decode cX2_countAhead 19 = .ok (.aload_n 0, 1) := by decide +kernel
theorem dX2_countAhead_20 : decode cX2_countAhead 20 = .ok (.getfield 10, 3) := by decide +kernel
theorem dX2_countAhead_23 : decode cX2_countAhead 23 = .ok (.iload 4, 2) := by decide +kernel
theorem dX2_countAhead_25 : decode cX2_countAhead 25 = .ok (.invokevirtual 37, 3) := by decide +kernel
theorem dX2_countAhead_28 : decode cX2_countAhead 28 = .ok (.checkcast 41, 3) := by decide +kernel
theorem dX2_countAhead_31 : decode cX2_countAhead 31 = .ok (.astore 5, 2) := by decide +kernel
theorem dX2_countAhead_33 : decode cX2_countAhead 33 = .ok (.aload 5, 2) := by decide +kernel
theorem dX2_countAhead_35 : decode cX2_countAhead 35 = .ok (.aload_n 1, 1) := by decide +kernel
theorem dX2_countAhead_36 : decode cX2_countAhead 36 = .ok (.if_acmp .ne 8, 3) := by decide +kernel
theorem dX2_countAhead_39 : decode cX2_countAhead 39 = .ok (.iconst 0, 1) := by decide +kernel
theorem dX2_countAhead_40 : decode cX2_countAhead 40 = .ok (.istore_n 3, 1) := by decide +kernel
theorem dX2_countAhead_41 : decode cX2_countAhead 41 = .ok (.goto 34, 3) := by decide +kernel
theorem dX2_countAhead_44 : decode cX2_countAhead 44 = .ok (.aload 5, 2) := by decide +kernel
theorem dX2_countAhead_46 : decode cX2_countAhead 46 = .ok (.getfield 43, 3) := by decide +kernel
theorem dX2_countAhead_49 : decode cX2_countAhead 49 = .ok (.aload_n 1, 1) := by decide +kernel
theorem dX2_countAhead_50 : decode cX2_countAhead 50 = .ok (.getfield 43, 3) := by decide +kernel
theorem dX2_countAhead_53 : decode cX2_countAhead 53 = .ok (.if_icmp .gt 19, 3) := by decide +kernel
theorem dX2_countAhead_56 : decode cX2_countAhead 56 = .ok (.iload_n 3, 1) := by decide +kernel
theorem dX2_countAhead_57 : decode cX2_countAhead 57 = .ok (.ifCond .eq 18, 3) := by decide +kernel
theorem dX2_countAhead_60 : decode cX2_countAhead 60 = .ok (.aload 5, 2) := by decide +kernel
theorem dX2_countAhead_62 : decode cX2_countAhead 62 = .ok (.getfield 43, 3) := by decide +kernel
theorem dX2_countAhead_65 : decode cX2_countAhead 65 = .ok (.aload_n 1, 1) := by decide +kernel
theorem dX2_countAhead_66 : decode cX2_countAhead 66 = .ok (.getfield 43, 3) := by decide +kernel
theorem dX2_countAhead_69 : decode cX2_countAhead 69 = .ok (.if_icmp .ne 6, 3) := by decide +kernel
theorem dX2_countAhead_72 : decode cX2_countAhead 72 = .ok (.iinc 2 1, 3) := by decide +kernel
theorem dX2_countAhead_75 : decode cX2_countAhead 75 = .ok (.iinc 4 1, 3) := by decide +kernel
theorem dX2_countAhead_78 : decode cX2_countAhead 78 = .ok (.goto (-71), 3) := by decide +kernel
theorem dX2_countAhead_81 : decode cX2_countAhead 81 = .ok (.iload_n 2, 1) := by decide +kernel
theorem dX2_countAhead_82 : decode cX2_countAhead 82 = .ok (.ireturn, 1) := by decide +kernel
theorem dX3_init_0 : decode cX3_init 0 = .ok (.aload_n 0, 1) := by decide +kernel
theorem dX3_init_1 : decode cX3_init 1 = .ok (.invokespecial 3, 3) := by decide +kernel
theorem dX3_init_4 : decode cX3_init 4 = .ok (.aload_n 0, 1) := by decide +kernel
theorem dX3_init_5 : decode cX3_init 5 = .ok (.bipush 36, 2) := by decide +kernel
theorem dX3_init_7 : decode cX3_init 7 = .ok (.newarray .int, 2) := by decide +kernel
theorem dX3_init_9 : decode cX3_init 9 = .ok (.putfield 11, 3) := by decide +kernel
theorem dX3_init_12 : decode cX3_init 12 = .ok (.aload_n 0, 1) := by decide +kernel
theorem dX3_init_13 : decode cX3_init 13 = .ok (.bipush 64, 2) := by decide +kernel
theorem dX3_init_15 : decode cX3_init 15 = .ok (.newarray .int, 2) := by decide +kernel
theorem dX3_init_17 : decode cX3_init 17 = .ok (.putfield 15, 3) := by decide +kernel
theorem dX3_init_20 : decode cX3_init 20 = .ok (.aload_n 0, 1) := by decide +kernel
theorem dX3_init_21 : decode cX3_init 21 = .ok (.bipush 10, 2) := by decide +kernel
theorem dX3_init_23 : decode cX3_init 23 = .ok (.newarray .int, 2) := by decide +kernel
theorem dX3_init_25 : decode cX3_init 25 = .ok (.putfield 18, 3) := by decide +kernel
theorem dX3_init_28 : decode cX3_init 28 = .ok (.aload_n 0, 1) := by decide +kernel
theorem dX3_init_29 : decode cX3_init 29 = .ok (.getfield 18, 3) := by decide +kernel
theorem dX3_init_32 : decode cX3_init 32 = .ok (.bipush (-4), 2) := by decide +kernel
theorem dX3_init_34 : decode cX3_init 34 = .ok (.invokestatic 21, 3) := by decide +kernel
theorem dX3_init_37 : decode cX3_init 37 = .ok (.return_, 1) := by decide +kernel
theorem dX3_jarOf_0 : decode cX3_jarOf 0 = .ok (.iload_n 1, 1) := by decide +kernel
theorem dX3_jarOf_1 : decode cX3_jarOf 1 = .ok (.ifCond .lt 12, 3) := by decide +kernel
theorem dX3_jarOf_4 : decode cX3_jarOf 4 = .ok (.iload_n 1, 1) := by decide +kernel
theorem dX3_jarOf_5 : decode cX3_jarOf 5 = .ok (.aload_n 0, 1) := by decide +kernel
theorem dX3_jarOf_6 : decode cX3_jarOf 6 = .ok (.getfield 18, 3) := by decide +kernel
theorem dX3_jarOf_9 : decode cX3_jarOf 9 = .ok (.arraylength, 1) := by decide +kernel
theorem dX3_jarOf_10 : decode cX3_jarOf 10 = .ok (.if_icmp .lt 8, 3) := by decide +kernel
theorem dX3_jarOf_13 : decode cX3_jarOf 13 = .ok (.bipush (-4), 2) := by decide +kernel
theorem dX3_jarOf_15 : decode cX3_jarOf 15 = .ok (.goto 9, 3) := by decide +kernel
theorem dX3_jarOf_18 : decode cX3_jarOf 18 = .ok (.aload_n 0, 1) := by decide +kernel
theorem dX3_jarOf_19 : decode cX3_jarOf 19 = .ok (.getfield 18, 3) := by decide +kernel
theorem dX3_jarOf_22 : decode cX3_jarOf 22 = .ok (.iload_n 1, 1) := by decide +kernel
theorem dX3_jarOf_23 : decode cX3_jarOf 23 = .ok (.iaload, 1) := by decide +kernel
theorem dX3_jarOf_24 : decode cX3_jarOf 24 = .ok (.ireturn, 1) := by decide +kernel
theorem dX3_setToil_0 : decode cX3_setToil 0 = .ok (.iload_n 1, 1) := by decide +kernel
theorem dX3_setToil_1 : decode cX3_setToil 1 = .ok (.iconst 0, 1) := by decide +kernel
theorem dX3_setToil_2 : decode cX3_setToil 2 = .ok (.iconst 5, 1) := by decide +kernel
theorem dX3_setToil_3 : decode cX3_setToil 3 = .ok (.invokestatic 27, 3) := by decide +kernel
theorem dX3_setToil_6 : decode cX3_setToil 6 = .ok (.ifCond .ne 12, 3) := by decide +kernel
theorem dX3_setToil_9 : decode cX3_setToil 9 = .ok (.iload_n 2, 1) := by decide +kernel
theorem dX3_setToil_10 : decode cX3_setToil 10 = .ok (.iconst 0, 1) := by decide +kernel
theorem dX3_setToil_11 : decode cX3_setToil 11 = .ok (.iconst 5, 1) := by decide +kernel
theorem dX3_setToil_12 : decode cX3_setToil 12 = .ok (.invokestatic 27, 3) := by decide +kernel
theorem dX3_setToil_15 : decode cX3_setToil 15 = .ok (.ifCond .eq 4, 3) := by decide +kernel
theorem dX3_setToil_18 : decode cX3_setToil 18 = .ok (.return_, 1) := by decide +kernel
theorem dX3_setToil_19 : decode cX3_setToil 19 = .ok (.aload_n 0, 1) := by decide +kernel
theorem dX3_setToil_20 : decode cX3_setToil 20 = .ok (.getfield 11, 3) := by decide +kernel
theorem dX3_setToil_23 : decode cX3_setToil 23 = .ok (.iload_n 1, 1) := by decide +kernel
theorem dX3_setToil_24 : decode cX3_setToil 24 = .ok (.bipush 6, 2) := by decide +kernel
theorem dX3_setToil_26 : decode cX3_setToil 26 = .ok (.imul, 1) := by decide +kernel
theorem dX3_setToil_27 : decode cX3_setToil 27 = .ok (.iload_n 2, 1) := by decide +kernel
theorem dX3_setToil_28 : decode cX3_setToil 28 = .ok (.iadd, 1) := by decide +kernel
theorem dX3_setToil_29 : decode cX3_setToil 29 = .ok (.iload_n 3, 1) := by decide +kernel
theorem dX3_setToil_30 : decode cX3_setToil 30 = .ok (.iastore, 1) := by decide +kernel
theorem dX3_setToil_31 : decode cX3_setToil 31 = .ok (.return_, 1) := by decide +kernel
theorem dX3_findLeast_0 : decode cX3_findLeast 0 = .ok (.iload_n 1, 1) := by decide +kernel
theorem dX3_findLeast_1 : decode cX3_findLeast 1 = .ok (.iconst 1, 1) := by decide +kernel
theorem dX3_findLeast_2 : decode cX3_findLeast 2 = .ok (.bipush 6, 2) := by decide +kernel
theorem dX3_findLeast_4 : decode cX3_findLeast 4 = .ok (.invokestatic 27, 3) := by decide +kernel
theorem dX3_findLeast_7 : decode cX3_findLeast 7 = .ok (.ifCond .eq 5, 3) := by decide +kernel
theorem dX3_findLeast_10 : decode cX3_findLeast 10 = .ok (.iconst (-1), 1) := by decide +kernel
theorem dX3_findLeast_11 : decode cX3_findLeast 11 = .ok (.ireturn, 1) := by decide +kernel
theorem dX3_findLeast_12 : decode cX3_findLeast 12 = .ok (.iconst 1, 1) := by decide +kernel
theorem dX3_findLeast_13 : decode cX3_findLeast 13 = .ok (.iload_n 1, 1) := by decide +kernel
theorem dX3_findLeast_14 : decode cX3_findLeast 14 = .ok (.ishl, 1) := by decide +kernel
theorem dX3_findLeast_15 : decode cX3_findLeast 15 = .ok (.iconst 1, 1) := by decide +kernel
theorem dX3_findLeast_16 : decode cX3_findLeast 16 = .ok (.isub, 1) := by decide +kernel
theorem dX3_findLeast_17 : decode cX3_findLeast 17 = .ok (.istore_n 2, 1) := by decide +kernel
theorem dX3_findLeast_18 : decode cX3_findLeast 18 = .ok (.aload_n 0, 1) := by decide +kernel
theorem dX3_findLeast_19 : decode cX3_findLeast 19 = .ok (.getfield 15, 3) := by decide +kernel
theorem dX3_findLeast_22 : decode cX3_findLeast 22 = .ok (.iload_n 2, 1) := by decide +kernel
theorem dX3_findLeast_23 : decode cX3_findLeast 23 = .ok (.iconst 0, 1) := by decide +kernel
theorem dX3_findLeast_24 : decode cX3_findLeast 24 = .ok (.iastore, 1) := by decide +kernel
theorem dX3_findLeast_25 : decode cX3_findLeast 25 = .ok (.iload_n 2, 1) := by decide +kernel
theorem dX3_findLeast_26 : decode cX3_findLeast 26 = .ok (.iconst 1, 1) := by decide +kernel
theorem dX3_findLeast_27 : decode cX3_findLeast 27 = .ok (.isub, 1) := by decide +kernel
theorem dX3_findLeast_28 : decode cX3_findLeast 28 = .ok (.istore_n 3, 1) := by decide +kernel
theorem dX3_findLeast_29 : decode cX3_findLeast 29 = .ok (.iload_n 3, 1) := by decide +kernel
theorem dX3_findLeast_30 : decode cX3_findLeast 30 = .ok (.ifCond .lt 75, 3) := by decide +kernel
theorem dX3_findLeast_33 : decode cX3_findLeast 33 = .ok (.aload_n 0, 1) := by decide +kernel
theorem dX3_findLeast_34 : decode cX3_findLeast 34 = .ok (.getfield 15, 3) := by decide +kernel
theorem dX3_findLeast_37 : decode cX3_findLeast 37 = .ok (.iload_n 3, 1) := by decide +kernel
theorem dX3_findLeast_38 : decode cX3_findLeast 38 = .ok (.iconst (-1), 1) := by decide +kernel
theorem dX3_findLeast_39 : decode cX3_findLeast 39 = .ok (.iastore, 1) := by decide +kernel
theorem dX3_findLeast_40 : decode cX3_findLeast 40 = .ok (.iconst 0, 1) := by decide +kernel
theorem dX3_findLeast_41 : decode cX3_findLeast 41 = .ok (.istore 4, 2) := by decide +kernel
theorem dX3_findLeast_43 : decode cX3_findLeast 43 = .ok (.iload 4, 2) := by decide +kernel
theorem dX3_findLeast_45 : decode cX3_findLeast 45 = .ok (.iload_n 1, 1) := by decide +kernel
theorem dX3_findLeast_46 : decode cX3_findLeast 46 = .ok (.if_icmp .ge 53, 3) := by decide +kernel
theorem dX3_findLeast_49 : decode cX3_findLeast 49 = .ok (.aload_n 0, 1) := by decide +kernel
theorem dX3_findLeast_50 : decode cX3_findLeast 50 = .ok (.iload_n 3, 1) := by decide +kernel
theorem dX3_findLeast_51 : decode cX3_findLeast 51 = .ok (.iload 4, 2) := by decide +kernel
theorem dX3_findLeast_53 : decode cX3_findLeast 53 = .ok (.invokevirtual 31, 3) := by decide +kernel
theorem dX3_findLeast_56 : decode cX3_findLeast 56 = .ok (.istore 5, 2) := by decide +kernel
theorem dX3_findLeast_58 : decode cX3_findLeast 58 = .ok (.iload 5, 2) := by decide +kernel
theorem dX3_findLeast_60 : decode cX3_findLeast 60 = .ok (.iconst (-1), 1) := by decide +kernel
theorem dX3_findLeast_61 : decode cX3_findLeast 61 = .ok (.if_icmp .eq 32, 3) := by decide +kernel
theorem dX3_findLeast_64 : decode cX3_findLeast 64 = .ok (.aload_n 0, 1) := by decide +kernel
theorem dX3_findLeast_65 : decode cX3_findLeast 65 = .ok (.getfield 15, 3) := by decide +kernel
theorem dX3_findLeast_68 : decode cX3_findLeast 68 = .ok (.iload_n 3, 1) := by decide +kernel
theorem dX3_findLeast_69 : decode cX3_findLeast 69 = .ok (.iaload, 1) := by decide +kernel
theorem dX3_findLeast_70 : decode cX3_findLeast 70 = .ok (.iconst (-1), 1) := by decide +kernel
theorem dX3_findLeast_71 : decode cX3_findLeast 71 = .ok (.if_icmp .eq 14, 3) := by decide +kernel
theorem dX3_findLeast_74 : decode cX3_findLeast 74 = .ok (.iload 5, 2) := by decide +kernel
theorem dX3_findLeast_76 : decode cX3_findLeast 76 = .ok (.aload_n 0, 1) := by decide +kernel
theorem dX3_findLeast_77 : decode cX3_findLeast 77 = .ok (.getfield 15, 3) := by decide +kernel
theorem dX3_findLeast_80 : decode cX3_findLeast 80 = .ok (.iload_n 3, 1) := by decide +kernel
theorem dX3_findLeast_81 : decode cX3_findLeast 81 = .ok (.iaload, 1) := by decide +kernel
theorem dX3_findLeast_82 : decode cX3_findLeast 82 = .ok (.if_icmp .ge 11, 3) := by decide +kernel
theorem dX3_findLeast_85 : decode cX3_findLeast 85 = .ok (.aload_n 0, 1) := by decide +kernel
theorem dX3_findLeast_86 : decode cX3_findLeast 86 = .ok (.getfield 15, 3) := by decide +kernel
theorem dX3_findLeast_89 : decode cX3_findLeast 89 = .ok (.iload_n 3, 1) := by decide +kernel
theorem dX3_findLeast_90 : decode cX3_findLeast 90 = .ok (.iload 5, 2) := by decide +kernel
theorem dX3_findLeast_92 : decode cX3_findLeast 92 = .ok (.iastore, 1) := by decide +kernel
theorem dX3_findLeast_93 : decode cX3_findLeast 93 = .ok (.iinc 4 1, 3) := by decide +kernel
theorem dX3_findLeast_96 : decode cX3_findLeast 96 = .ok (.goto (-53), 3) := by decide +kernel
theorem dX3_findLeast_99 : decode cX3_findLeast 99 = .ok (.iinc 3 (-1), 3) := by decide +kernel
theorem dX3_findLeast_102 : decode cX3_findLeast 102 = .ok (.goto (-73), 3) := by decide +kernel
theorem dX3_findLeast_105 : decode cX3_findLeast 105 = .ok (.aload_n 0, 1) := by decide +kernel
theorem dX3_findLeast_106 : decode cX3_findLeast 106 = .ok (.getfield 15, 3) := by decide +kernel
theorem dX3_findLeast_109 : decode cX3_findLeast 109 = .ok (.iconst 0, 1) := by decide +kernel
theorem dX3_findLeast_110 : decode cX3_findLeast 110 = .ok (.iaload, 1) := by decide +kernel
theorem dX3_findLeast_111 : decode cX3_findLeast 111 = .ok (.ireturn, 1) := by decide +kernel
theorem dX3_toilWith_0 : decode cX3_toilWith 0 = .ok (.iload_n 1, 1) := by decide +kernel
theorem dX3_toilWith_1 : decode cX3_toilWith 1 = .ok (.iconst 1, 1) := by decide +kernel
theorem dX3_toilWith_2 : decode cX3_toilWith 2 = .ok (.iload_n 2, 1) := by decide +kernel
theorem dX3_toilWith_3 : decode cX3_toilWith 3 = .ok (.ishl, 1) := by decide +kernel
theorem dX3_toilWith_4 : decode cX3_toilWith 4 = .ok (.ior, 1) := by decide +kernel
theorem dX3_toilWith_5 : decode cX3_toilWith 5 = .ok (.istore_n 3, 1) := by decide +kernel
theorem dX3_toilWith_6 : decode cX3_toilWith 6 = .ok (.iload_n 1, 1) := by decide +kernel
theorem dX3_toilWith_7 : decode cX3_toilWith 7 = .ok (.invokestatic 35, 3) := by decide +kernel
theorem dX3_toilWith_10 : decode cX3_toilWith 10 = .ok (.bipush 6, 2) := by decide +kernel
theorem dX3_toilWith_12 : decode cX3_toilWith 12 = .ok (.imul, 1) := by decide +kernel
theorem dX3_toilWith_13 : decode cX3_toilWith 13 = .ok (.iload_n 2, 1) := by decide +kernel
theorem dX3_toilWith_14 : decode cX3_toilWith 14 = .ok (.iadd, 1) := by decide +kernel
theorem dX3_toilWith_15 : decode cX3_toilWith 15 = .ok (.istore 4, 2) := by decide +kernel
theorem dX3_toilWith_17 : decode cX3_toilWith 17 = .ok (.iload_n 3, 1) := by decide +kernel
theorem dX3_toilWith_18 : decode cX3_toilWith 18 = .ok (.iload_n 1, 1) := by decide +kernel
theorem dX3_toilWith_19 : decode cX3_toilWith 19 = .ok (.if_icmp .eq 22, 3) := by decide +kernel
theorem dX3_toilWith_22 : decode cX3_toilWith 22 = .ok (.iload_n 3, 1) := by decide +kernel
theorem dX3_toilWith_23 : decode cX3_toilWith 23 = .ok (.aload_n 0, 1) := by decide +kernel
theorem dX3_toilWith_24 : decode cX3_toilWith 24 = .ok (.getfield 15, 3) := by decide +kernel
theorem dX3_toilWith_27 : decode cX3_toilWith 27 = .ok (.arraylength, 1) := by decide +kernel
theorem dX3_toilWith_28 : decode cX3_toilWith 28 = .ok (.if_icmp .ge 13, 3) := by decide +kernel
theorem dX3_toilWith_31 : decode cX3_toilWith 31 = .ok (.iload 4, 2) := by decide +kernel
theorem dX3_toilWith_33 : decode cX3_toilWith 33 = .ok (.aload_n 0, 1) := by decide +kernel
theorem dX3_toilWith_34 : decode cX3_toilWith 34 = .ok (.getfield 11, 3) := by decide +kernel
theorem dX3_toilWith_37 : decode cX3_toilWith 37 = .ok (.arraylength, 1) := by decide +kernel
theorem dX3_toilWith_38 : decode cX3_toilWith 38 = .ok (.if_icmp .lt 5, 3) := by decide +kernel
theorem dX3_toilWith_41 : decode cX3_toilWith 41 = .ok (.iconst (-1), 1) := by decide +kernel
theorem dX3_toilWith_42 : decode cX3_toilWith 42 = .ok (.ireturn, 1) := by decide +kernel
theorem dX3_toilWith_43 : decode cX3_toilWith 43 = .ok (.aload_n 0, 1) := by decide +kernel
theorem dX3_toilWith_44 : decode cX3_toilWith 44 = .ok (.getfield 11, 3) := by decide +kernel
theorem dX3_toilWith_47 : decode cX3_toilWith 47 = .ok (.iload 4, 2) := by decide +kernel
theorem dX3_toilWith_49 : decode cX3_toilWith 49 = .ok (.iaload, 1) := by decide +kernel
theorem dX3_toilWith_50 : decode cX3_toilWith 50 = .ok (.iconst (-1), 1) := by decide +kernel
theorem dX3_toilWith_51 : decode cX3_toilWith 51 = .ok (.if_icmp .eq 13, 3) := by decide +kernel
theorem dX3_toilWith_54 : decode cX3_toilWith 54 = .ok (.aload_n 0, 1) := by decide +kernel
theorem dX3_toilWith_55 : decode cX3_toilWith 55 = .ok (.getfield 15, 3) := by decide +kernel
theorem dX3_toilWith_58 : decode cX3_toilWith 58 = .ok (.iload_n 3, 1) := by decide +kernel
theorem dX3_toilWith_59 : decode cX3_toilWith 59 = .ok (.iaload, 1) := by decide +kernel
theorem dX3_toilWith_60 : decode cX3_toilWith 60 = .ok (.iconst (-1), 1) := by decide +kernel
theorem dX3_toilWith_61 : decode cX3_toilWith 61 = .ok (.if_icmp .ne 7, 3) := by decide +kernel
theorem dX3_toilWith_64 : decode cX3_toilWith 64 = .ok (.iconst (-1), 1) := by decide +kernel
theorem dX3_toilWith_65 : decode cX3_toilWith 65 = .ok (.goto 17, 3) := by decide +kernel
theorem dX3_toilWith_68 : decode cX3_toilWith 68 = .ok (.aload_n 0, 1) := by decide +kernel
theorem dX3_toilWith_69 : decode cX3_toilWith 69 = .ok (.getfield 11, 3) := by decide +kernel
theorem dX3_toilWith_72 : decode cX3_toilWith 72 = .ok (.iload 4, 2) := by decide +kernel
theorem dX3_toilWith_74 : decode cX3_toilWith 74 = .ok (.iaload, 1) := by decide +kernel
theorem dX3_toilWith_75 : decode cX3_toilWith 75 = .ok (.aload_n 0, 1) := by decide +kernel
theorem dX3_toilWith_76 : decode cX3_toilWith 76 = .ok (.getfield 15, 3) := by decide +kernel
theorem dX3_toilWith_79 : decode cX3_toilWith 79 = .ok (.iload_n 3, 1) := by decide +kernel
theorem dX3_toilWith_80 : decode cX3_toilWith 80 = .ok (.iaload, 1) := by decide +kernel
theorem dX3_toilWith_81 : decode cX3_toilWith 81 = .ok (.iadd, 1) := by decide +kernel
theorem dX3_toilWith_82 : decode cX3_toilWith 82 = .ok (.ireturn, 1) := by decide +kernel
theorem dX3_settle_0 : decode cX3_settle 0 = .ok (.aload_n 0, 1) := by decide +kernel
theorem dX3_settle_1 : decode cX3_settle 1 = .ok (.getfield 18, 3) := by decide +kernel
theorem dX3_settle_4 : decode cX3_settle 4 = .ok (.bipush (-4), 2) := by decide +kernel
theorem dX3_settle_6 : decode cX3_settle 6 = .ok (.invokestatic 21, 3) := by decide +kernel
theorem dX3_settle_9 : decode cX3_settle 9 = .ok (.iconst 0, 1) := by decide +kernel
theorem dX3_settle_10 : decode cX3_settle 10 = .ok (.istore 4, 2) := by decide +kernel
theorem dX3_settle_12 : decode cX3_settle 12 = .ok (.iconst 0, 1) := by decide +kernel
theorem dX3_settle_13 : decode cX3_settle 13 = .ok (.istore 5, 2) := by decide +kernel
theorem dX3_settle_15 : decode cX3_settle 15 = .ok (.iload 5, 2) := by decide +kernel
theorem dX3_settle_17 : decode cX3_settle 17 = .ok (.iload_n 3, 1) := by decide +kernel
theorem dX3_settle_18 : decode cX3_settle 18 = .ok (.if_icmp .ge 52, 3) := by decide +kernel
theorem dX3_settle_21 : decode cX3_settle 21 = .ok (.iload_n 1, 1) := by decide +kernel
theorem dX3_settle_22 : decode cX3_settle 22 = .ok (.iload 5, 2) := by decide +kernel
theorem dX3_settle_24 : decode cX3_settle 24 = .ok (.iadd, 1) := by decide +kernel
theorem dX3_settle_25 : decode cX3_settle 25 = .ok (.aload_n 0, 1) := by decide +kernel
theorem dX3_settle_26 : decode cX3_settle 26 = .ok (.getfield 18, 3) := by decide +kernel
theorem dX3_settle_29 : decode cX3_settle 29 = .ok (.arraylength, 1) := by decide +kernel
theorem dX3_settle_30 : decode cX3_settle 30 = .ok (.if_icmp .ge 40, 3) := by decide +kernel
theorem dX3_settle_33 : decode cX3_settle 33 = .ok (.aload_n 0, 1) := by decide +kernel
theorem dX3_settle_34 : decode cX3_settle 34 = .ok (.iload 4, 2) := by decide +kernel
theorem dX3_settle_36 : decode cX3_settle 36 = .ok (.iload_n 3, 1) := by decide +kernel
theorem dX3_settle_37 : decode cX3_settle 37 = .ok (.invokevirtual 41, 3) := by decide +kernel
theorem dX3_settle_40 : decode cX3_settle 40 = .ok (.istore 6, 2) := by decide +kernel
theorem dX3_settle_42 : decode cX3_settle 42 = .ok (.aload_n 0, 1) := by decide +kernel
theorem dX3_settle_43 : decode cX3_settle 43 = .ok (.getfield 18, 3) := by decide +kernel
theorem dX3_settle_46 : decode cX3_settle 46 = .ok (.iload_n 1, 1) := by decide +kernel
theorem dX3_settle_47 : decode cX3_settle 47 = .ok (.iload 5, 2) := by decide +kernel
theorem dX3_settle_49 : decode cX3_settle 49 = .ok (.iadd, 1) := by decide +kernel
theorem dX3_settle_50 : decode cX3_settle 50 = .ok (.iload_n 2, 1) := by decide +kernel
theorem dX3_settle_51 : decode cX3_settle 51 = .ok (.iload 6, 2) := by decide +kernel
theorem dX3_settle_53 : decode cX3_settle 53 = .ok (.iadd, 1) := by decide +kernel
theorem dX3_settle_54 : decode cX3_settle 54 = .ok (.iastore, 1) := by decide +kernel
theorem dX3_settle_55 : decode cX3_settle 55 = .ok (.iload 4, 2) := by decide +kernel
theorem dX3_settle_57 : decode cX3_settle 57 = .ok (.iconst 1, 1) := by decide +kernel
theorem dX3_settle_58 : decode cX3_settle 58 = .ok (.iload 6, 2) := by decide +kernel
theorem dX3_settle_60 : decode cX3_settle 60 = .ok (.ishl, 1) := by decide +kernel
theorem dX3_settle_61 : decode cX3_settle 61 = .ok (.ior, 1) := by decide +kernel
theorem dX3_settle_62 : decode cX3_settle 62 = .ok (.istore 4, 2) := by decide +kernel
theorem dX3_settle_64 : decode cX3_settle 64 = .ok (.iinc 5 1, 3) := by decide +kernel
theorem dX3_settle_67 : decode cX3_settle 67 = .ok (.goto (-52), 3) := by decide +kernel
theorem dX3_settle_70 : decode cX3_settle 70 = .ok (.return_, 1) := by decide +kernel
theorem dX3_firstBest_0 : decode cX3_firstBest 0 = .ok (.iconst 0, 1) := by decide +kernel
theorem dX3_firstBest_1 : decode cX3_firstBest 1 = .ok (.istore_n 3, 1) := by decide +kernel
theorem dX3_firstBest_2 : decode cX3_firstBest 2 = .ok (.iload_n 3, 1) := by decide +kernel
theorem dX3_firstBest_3 : decode cX3_firstBest 3 = .ok (.iload_n 2, 1) := by decide +kernel
theorem dX3_firstBest_4 : decode cX3_firstBest 4 = .ok (.if_icmp .ge 36, 3) := by decide +kernel
theorem dX3_firstBest_7 : decode cX3_firstBest 7 = .ok (.aload_n 0, 1) := by decide +kernel
theorem dX3_firstBest_8 : decode cX3_firstBest 8 = .ok (.iload_n 1, 1) := by decide +kernel
theorem dX3_firstBest_9 : decode cX3_firstBest 9 = .ok (.iload_n 3, 1) := by decide +kernel
theorem dX3_firstBest_10 : decode cX3_firstBest 10 = .ok (.invokevirtual 31, 3) := by decide +kernel
theorem dX3_firstBest_13 : decode cX3_firstBest 13 = .ok (.istore 4, 2) := by decide +kernel
theorem dX3_firstBest_15 : decode cX3_firstBest 15 = .ok (.iload 4, 2) := by decide +kernel
theorem dX3_firstBest_17 : decode cX3_firstBest 17 = .ok (.iconst (-1), 1) := by decide +kernel
theorem dX3_firstBest_18 : decode cX3_firstBest 18 = .ok (.if_icmp .eq 16, 3) := by decide +kernel
theorem dX3_firstBest_21 : decode cX3_firstBest 21 = .ok (.iload 4, 2) := by decide +kernel
theorem dX3_firstBest_23 : decode cX3_firstBest 23 = .ok (.aload_n 0, 1) := by decide +kernel
theorem dX3_firstBest_24 : decode cX3_firstBest 24 = .ok (.getfield 15, 3) := by decide +kernel
theorem dX3_firstBest_27 : decode cX3_firstBest 27 = .ok (.iload_n 1, 1) := by decide +kernel
theorem dX3_firstBest_28 : decode cX3_firstBest 28 = .ok (.iaload, 1) := by decide +kernel
theorem dX3_firstBest_29 : decode cX3_firstBest 29 = .ok (.if_icmp .ne 5, 3) := by decide +kernel
theorem dX3_firstBest_32 : decode cX3_firstBest 32 = .ok (.iload_n 3, 1) := by decide +kernel
theorem dX3_firstBest_33 : decode cX3_firstBest 33 = .ok (.ireturn, 1) := by decide +kernel
theorem dX3_firstBest_34 : decode cX3_firstBest 34 = .ok (.iinc 3 1, 3) := by decide +kernel
theorem dX3_firstBest_37 : decode cX3_firstBest 37 = .ok (.goto (-35), 3) := by decide +kernel
theorem dX3_firstBest_40 : decode cX3_firstBest 40 = .ok (.iconst 0, 1) := by decide +kernel
theorem dX3_firstBest_41 : decode cX3_firstBest 41 = .ok (.ireturn, 1) := by decide +kernel
theorem dX4_init_0 : decode cX4_init 0 = .ok (.aload_n 0, 1) := by decide +kernel
theorem dX4_init_1 : decode cX4_init 1 = .ok (.invokespecial 1, 3) := by decide +kernel
theorem dX4_init_4 : decode cX4_init 4 = .ok (.aload_n 0, 1) := by decide +kernel
theorem dX4_init_5 : decode cX4_init 5 = .ok (.iconst 0, 1) := by decide +kernel
theorem dX4_init_6 : decode cX4_init 6 = .ok (.putfield 7, 3) := by decide +kernel
theorem dX4_init_9 : decode cX4_init 9 = .ok (.aload_n 0, 1) := by decide +kernel
theorem dX4_init_10 : decode cX4_init 10 = .ok (.iconst 0, 1) := by decide +kernel
theorem dX4_init_11 : decode cX4_init 11 = .ok (.putfield 13, 3) := by decide +kernel
theorem dX4_init_14 : decode cX4_init 14 = .ok (.aload_n 0, 1) := by decide +kernel
theorem dX4_init_15 : decode cX4_init 15 = .ok (.iconst 0, 1) := by decide +kernel
theorem dX4_init_16 : decode cX4_init 16 = .ok (.putfield 16, 3) := by decide +kernel
theorem dX4_init_19 : decode cX4_init 19 = .ok (.aload_n 0, 1) := by decide +kernel
theorem dX4_init_20 : decode cX4_init 20 = .ok (.iload_n 1, 1) := by decide +kernel
theorem dX4_init_21 : decode cX4_init 21 = .ok (.putfield 19, 3) := by decide +kernel
theorem dX4_init_24 : decode cX4_init 24 = .ok (.aload_n 0, 1) := by decide +kernel
theorem dX4_init_25 : decode cX4_init 25 = .ok (.iload_n 2, 1) := by decide +kernel
theorem dX4_init_26 : decode cX4_init 26 = .ok (.putfield 22, 3) := by decide +kernel
theorem dX4_init_29 : decode cX4_init 29 = .ok (.aload_n 0, 1) := by decide +kernel
theorem dX4_init_30 : decode cX4_init 30 = .ok (.iload_n 3, 1) := by decide +kernel
theorem dX4_init_31 : decode cX4_init 31 = .ok (.putfield 25, 3) := by decide +kernel
theorem dX4_init_34 : decode cX4_init 34 = .ok (.aload_n 0, 1) := by decide +kernel
theorem dX4_init_35 : decode cX4_init 35 = .ok (.aload 4, 2) := by decide +kernel
theorem dX4_init_37 : decode cX4_init 37 = .ok (.putfield 28, 3) := by decide +kernel
theorem dX4_init_40 : decode cX4_init 40 = .ok (.return_, 1) := by decide +kernel
theorem dX4_minutesFrom_0 : decode cX4_minutesFrom 0 = .ok (.aload_n 1, 1) := by decide +kernel
theorem dX4_minutesFrom_1 : decode cX4_minutesFrom 1 = .ok (.getfield 32, 3) := by decide +kernel
theorem dX4_minutesFrom_4 : decode cX4_minutesFrom 4 = .ok (.istore_n 2, 1) := by decide +kernel
theorem dX4_minutesFrom_5 : decode cX4_minutesFrom 5 = .ok (.iload_n 2, 1) := by decide +kernel
theorem dX4_minutesFrom_6 : decode cX4_minutesFrom 6 = .ok (.ifCond .lt 12, 3) := by decide +kernel
theorem dX4_minutesFrom_9 : decode cX4_minutesFrom 9 = .ok (.iload_n 2, 1) := by decide +kernel
theorem dX4_minutesFrom_10 : decode cX4_minutesFrom 10 = .ok (.aload_n 0, 1) := by decide +kernel
theorem dX4_minutesFrom_11 : decode cX4_minutesFrom 11 = .ok (.getfield 28, 3) := by decide +kernel
theorem dX4_minutesFrom_14 : decode cX4_minutesFrom 14 = .ok (.arraylength, 1) := by decide +kernel
theorem dX4_minutesFrom_15 : decode cX4_minutesFrom 15 = .ok (.if_icmp .lt 7, 3) := by decide +kernel
theorem dX4_minutesFrom_18 : decode cX4_minutesFrom 18 = .ok (.iconst 0, 1) := by decide +kernel
theorem dX4_minutesFrom_19 : decode cX4_minutesFrom 19 = .ok (.goto 9, 3) := by decide +kernel
theorem dX4_minutesFrom_22 : decode cX4_minutesFrom 22 = .ok (.aload_n 0, 1) := by decide +kernel
theorem dX4_minutesFrom_23 : decode cX4_minutesFrom 23 = .ok (.getfield 28, 3) := by decide +kernel
theorem dX4_minutesFrom_26 : decode cX4_minutesFrom 26 = .ok (.iload_n 2, 1) := by decide +kernel
theorem dX4_minutesFrom_27 : decode cX4_minutesFrom 27 = .ok (.iaload, 1) := by decide +kernel
theorem dX4_minutesFrom_28 : decode cX4_minutesFrom 28 = .ok (.ireturn, 1) := by decide +kernel
theorem dX4_drinkOnce_0 : decode cX4_drinkOnce 0 = .ok (.aload_n 0, 1) := by decide +kernel
theorem dX4_drinkOnce_1 : decode cX4_drinkOnce 1 = .ok (.getfield 13, 3) := by decide +kernel
theorem dX4_drinkOnce_4 : decode cX4_drinkOnce 4 = .ok (.aload_n 0, 1) := by decide +kernel
theorem dX4_drinkOnce_5 : decode cX4_drinkOnce 5 = .ok (.getfield 7, 3) := by decide +kernel
theorem dX4_drinkOnce_8 : decode cX4_drinkOnce 8 = .ok (.invokestatic 35, 3) := by decide +kernel
theorem dX4_drinkOnce_11 : decode cX4_drinkOnce 11 = .ok (.istore_n 1, 1) := by decide +kernel
theorem dX4_drinkOnce_12 : decode cX4_drinkOnce 12 = .ok (.aload_n 0, 1) := by decide +kernel
theorem dX4_drinkOnce_13 : decode cX4_drinkOnce 13 = .ok (.dup, 1) := by decide +kernel
theorem dX4_drinkOnce_14 : decode cX4_drinkOnce 14 = .ok (.getfield 7, 3) := by decide +kernel
theorem dX4_drinkOnce_17 : decode cX4_drinkOnce 17 = .ok (.iload_n 1, 1) := by decide +kernel
theorem dX4_drinkOnce_18 : decode cX4_drinkOnce 18 = .ok (.isub, 1) := by decide +kernel
theorem dX4_drinkOnce_19 : decode cX4_drinkOnce 19 = .ok (.putfield 7, 3) := by decide +kernel
theorem dX4_drinkOnce_22 : decode cX4_drinkOnce 22 = .ok (.aload_n 0, 1) := by decide +kernel
theorem dX4_drinkOnce_23 : decode cX4_drinkOnce 23 = .ok (.dup, 1) := by decide +kernel
theorem dX4_drinkOnce_24 : decode cX4_drinkOnce 24 = .ok (.getfield 16, 3) := by decide +kernel
theorem dX4_drinkOnce_27 : decode cX4_drinkOnce 27 = .ok (.iload_n 1, 1) := by decide +kernel
theorem dX4_drinkOnce_28 : decode cX4_drinkOnce 28 = .ok (.iadd, 1) := by decide +kernel
theorem dX4_drinkOnce_29 : decode cX4_drinkOnce 29 = .ok (.putfield 16, 3) := by decide +kernel
theorem dX4_drinkOnce_32 : decode cX4_drinkOnce 32 = .ok (.iload_n 1, 1) := by decide +kernel
theorem dX4_drinkOnce_33 : decode cX4_drinkOnce 33 = .ok (.ireturn, 1) := by decide +kernel
theorem dX5_init_0 : decode cX5_init 0 = .ok (.aload_n 0, 1) := by decide +kernel
theorem dX5_init_1 : decode cX5_init 1 = .ok (.invokespecial 3, 3) := by decide +kernel
theorem dX5_init_4 : decode cX5_init 4 = .ok (.aload_n 0, 1) := by decide +kernel
theorem dX5_init_5 : decode cX5_init 5 = .ok (.iconst 0, 1) := by decide +kernel
theorem dX5_init_6 : decode cX5_init 6 = .ok (.putfield 9, 3) := by decide +kernel
theorem dX5_init_9 : decode cX5_init 9 = .ok (.aload_n 0, 1) := by decide +kernel
theorem dX5_init_10 : decode cX5_init 10 = .ok (.iconst 0, 1) := by decide +kernel
theorem dX5_init_11 : decode cX5_init 11 = .ok (.putfield 15, 3) := by decide +kernel
theorem dX5_init_14 : decode cX5_init 14 = .ok (.aload_n 0, 1) := by decide +kernel
theorem dX5_init_15 : decode cX5_init 15 = .ok (.iconst 0, 1) := by decide +kernel
theorem dX5_init_16 : decode cX5_init 16 = .ok (.putfield 18, 3) := by decide +kernel
theorem dX5_init_19 : decode cX5_init 19 = .ok (.aload_n 0, 1) := by decide +kernel
theorem dX5_init_20 : decode cX5_init 20 = .ok (.iconst 0, 1) := by decide +kernel
theorem dX5_init_21 : decode cX5_init 21 = .ok (.putfield 21, 3) := by decide +kernel
theorem dX5_init_24 : decode cX5_init 24 = .ok (.aload_n 0, 1) := by decide +kernel
theorem dX5_init_25 : decode cX5_init 25 = .ok (.iconst 0, 1) := by decide +kernel
theorem dX5_init_26 : decode cX5_init 26 = .ok (.putfield 24, 3) := by decide +kernel
theorem dX5_init_29 : decode cX5_init 29 = .ok (.aload_n 0, 1) := by decide +kernel
theorem dX5_init_30 : decode cX5_init 30 = .ok (.iconst (-1), 1) := by decide +kernel
theorem dX5_init_31 : decode cX5_init 31 = .ok (.putfield 27, 3) := by decide +kernel
theorem dX5_init_34 : decode cX5_init 34 = .ok (.aload_n 0, 1) := by decide +kernel
theorem dX5_init_35 : decode cX5_init 35 = .ok (.iconst (-1), 1) := by decide +kernel
theorem dX5_init_36 : decode cX5_init 36 = .ok (.putfield 30, 3) := by decide +kernel
theorem dX5_init_39 : decode cX5_init 39 = .ok (.aload_n 0, 1) := by decide +kernel
theorem dX5_init_40 : decode cX5_init 40 = .ok (.iconst (-1), 1) := by decide +kernel
theorem dX5_init_41 : decode cX5_init 41 = .ok (.putfield 33, 3) := by decide +kernel
theorem dX5_init_44 : decode cX5_init 44 = .ok (.aload_n 0, 1) := by decide +kernel
theorem dX5_init_45 : decode cX5_init 45 = .ok (.iload_n 1, 1) := by decide +kernel
theorem dX5_init_46 : decode cX5_init 46 = .ok (.putfield 36, 3) := by decide +kernel
theorem dX5_init_49 : decode cX5_init 49 = .ok (.aload_n 0, 1) := by decide +kernel
theorem dX5_init_50 : decode cX5_init 50 = .ok (.iload_n 2, 1) := by decide +kernel
theorem dX5_init_51 : decode cX5_init 51 = .ok (.putfield 39, 3) := by decide +kernel
theorem dX5_init_54 : decode cX5_init 54 = .ok (.aload_n 0, 1) := by decide +kernel
theorem dX5_init_55 : decode cX5_init 55 = .ok (.aload_n 3, 1) := by decide +kernel
theorem dX5_init_56 : decode cX5_init 56 = .ok (.putfield 42, 3) := by decide +kernel
theorem dX5_init_59 : decode cX5_init 59 = .ok (.aload_n 0, 1) := by decide +kernel
theorem dX5_init_60 : decode cX5_init 60 = .ok (.aload 4, 2) := by decide +kernel
theorem dX5_init_62 : decode cX5_init 62 = .ok (.putfield 46, 3) := by decide +kernel
theorem dX5_init_65 : decode cX5_init 65 = .ok (.return_, 1) := by decide +kernel
theorem dX5_kind_0 : decode cX5_kind 0 = .ok (.iconst 0, 1) := by decide +kernel
theorem dX5_kind_1 : decode cX5_kind 1 = .ok (.ireturn, 1) := by decide +kernel
theorem dX5_canGoTo_0 : decode cX5_canGoTo 0 = .ok (.aload_n 1, 1) := by decide +kernel
theorem dX5_canGoTo_1 : decode cX5_canGoTo 1 = .ok (.getfield 50, 3) := by decide +kernel
theorem dX5_canGoTo_4 : decode cX5_canGoTo 4 = .ok (.iconst 4, 1) := by decide +kernel
theorem dX5_canGoTo_5 : decode cX5_canGoTo 5 = .ok (.if_icmp .gt 7, 3) := by decide +kernel
theorem dX5_canGoTo_8 : decode cX5_canGoTo 8 = .ok (.iconst 1, 1) := by decide +kernel
theorem dX5_canGoTo_9 : decode cX5_canGoTo 9 = .ok (.goto 4, 3) := by decide +kernel
theorem dX5_canGoTo_12 : decode cX5_canGoTo 12 = .ok (.iconst 0, 1) := by decide +kernel
theorem dX5_canGoTo_13 : decode cX5_canGoTo 13 = .ok (.ireturn, 1) := by decide +kernel
theorem dX5_walkTime_0 : decode cX5_walkTime 0 = .ok (.iload_n 1, 1) := by decide +kernel
theorem dX5_walkTime_1 : decode cX5_walkTime 1 = .ok (.ireturn, 1) := by decide +kernel
theorem dX5_climbTime_0 : decode cX5_climbTime 0 = .ok (.iload_n 1, 1) := by decide +kernel
theorem dX5_climbTime_1 : decode cX5_climbTime 1 = .ok (.ireturn, 1) := by decide +kernel
theorem dX5_wayUp_0 : decode cX5_wayUp 0 = .ok (.aload_n 0, 1) := by decide +kernel
theorem dX5_wayUp_1 : decode cX5_wayUp 1 = .ok (.aload_n 1, 1) := by decide +kernel
theorem dX5_wayUp_2 : decode cX5_wayUp 2 = .ok (.invokevirtual 55, 3) := by decide +kernel
theorem dX5_wayUp_5 : decode cX5_wayUp 5 = .ok (.aload_n 0, 1) := by decide +kernel
theorem dX5_wayUp_6 : decode cX5_wayUp 6 = .ok (.aload_n 1, 1) := by decide +kernel
theorem dX5_wayUp_7 : decode cX5_wayUp 7 = .ok (.getfield 50, 3) := by decide +kernel
theorem dX5_wayUp_10 : decode cX5_wayUp 10 = .ok (.invokevirtual 59, 3) := by decide +kernel
theorem dX5_wayUp_13 : decode cX5_wayUp 13 = .ok (.iadd, 1) := by decide +kernel
theorem dX5_wayUp_14 : decode cX5_wayUp 14 = .ok (.ireturn, 1) := by decide +kernel
theorem dX5_wayDown_0 : decode cX5_wayDown 0 = .ok (.aload_n 0, 1) := by decide +kernel
theorem dX5_wayDown_1 : decode cX5_wayDown 1 = .ok (.aload_n 1, 1) := by decide +kernel
theorem dX5_wayDown_2 : decode cX5_wayDown 2 = .ok (.aload_n 0, 1) := by decide +kernel
theorem dX5_wayDown_3 : decode cX5_wayDown 3 = .ok (.getfield 42, 3) := by decide +kernel
theorem dX5_wayDown_6 : decode cX5_wayDown 6 = .ok (.invokevirtual 63, 3) := by decide +kernel
theorem dX5_wayDown_9 : decode cX5_wayDown 9 = .ok (.invokevirtual 67, 3) := by decide +kernel
theorem dX5_wayDown_12 : decode cX5_wayDown 12 = .ok (.ireturn, 1) := by decide +kernel
theorem dX5_toilFor_0 : decode cX5_toilFor 0 = .ok (.aload_n 0, 1) := by decide +kernel
theorem dX5_toilFor_1 : decode cX5_toilFor 1 = .ok (.aload_n 1, 1) := by decide +kernel
theorem dX5_toilFor_2 : decode cX5_toilFor 2 = .ok (.invokevirtual 70, 3) := by decide +kernel
theorem dX5_toilFor_5 : decode cX5_toilFor 5 = .ok (.ifCond .eq 17, 3) := by decide +kernel
theorem dX5_toilFor_8 : decode cX5_toilFor 8 = .ok (.aload_n 0, 1) := by decide +kernel
theorem dX5_toilFor_9 : decode cX5_toilFor 9 = .ok (.aload_n 1, 1) := by decide +kernel
theorem dX5_toilFor_10 : decode cX5_toilFor 10 = .ok (.invokevirtual 74, 3) := by decide +kernel
theorem dX5_toilFor_13 : decode cX5_toilFor 13 = .ok (.aload_n 0, 1) := by decide +kernel
theorem dX5_toilFor_14 : decode cX5_toilFor 14 = .ok (.aload_n 1, 1) := by decide +kernel
theorem dX5_toilFor_15 : decode cX5_toilFor 15 = .ok (.invokevirtual 55, 3) := by decide +kernel
theorem dX5_toilFor_18 : decode cX5_toilFor 18 = .ok (.iadd, 1) := by decide +kernel
theorem dX5_toilFor_19 : decode cX5_toilFor 19 = .ok (.goto 4, 3) := by decide +kernel
theorem dX5_toilFor_22 : decode cX5_toilFor 22 = .ok (.iconst (-1), 1) := by decide +kernel
theorem dX5_toilFor_23 : decode cX5_toilFor 23 = .ok (.ireturn, 1) := by decide +kernel
theorem dX5_joinRow_0 : decode cX5_joinRow 0 = .ok (.aload_n 0, 1) := by decide +kernel
theorem dX5_joinRow_1 : decode cX5_joinRow 1 = .ok (.iconst 0, 1) := by decide +kernel
theorem dX5_joinRow_2 : decode cX5_joinRow 2 = .ok (.putfield 15, 3) := by decide +kernel
theorem dX5_joinRow_5 : decode cX5_joinRow 5 = .ok (.aload_n 0, 1) := by decide +kernel
theorem dX5_joinRow_6 : decode cX5_joinRow 6 = .ok (.getfield 42, 3) := by decide +kernel
theorem dX5_joinRow_9 : decode cX5_joinRow 9 = .ok (.getfield 79, 3) := by decide +kernel
theorem dX5_joinRow_12 : decode cX5_joinRow 12 = .ok (.aload_n 0, 1) := by decide +kernel
theorem dX5_joinRow_13 : decode cX5_joinRow 13 = .ok (.invokevirtual 85, 3) := by decide +kernel
theorem dX5_joinRow_16 : decode cX5_joinRow 16 = .ok (.pop, 1) := by decide +kernel
theorem dX5_joinRow_17 : decode cX5_joinRow 17 = .ok (.return_, 1) := by decide +kernel
theorem dX5_leaveRow_0 : decode cX5_leaveRow 0 = .ok (.aload_n 0, 1) := by decide +kernel
theorem dX5_leaveRow_1 : decode cX5_leaveRow 1 = .ok (.getfield 42, 3) := by decide +kernel
theorem dX5_leaveRow_4 : decode cX5_leaveRow 4 = .ok (.getfield 79, 3) := by decide +kernel
theorem dX5_leaveRow_7 : decode cX5_leaveRow 7 = .ok (.astore_n 1, 1) := by decide +kernel
theorem dX5_leaveRow_8 : decode cX5_leaveRow 8 = .ok (.iconst 0, 1) := by decide +kernel
theorem dX5_leaveRow_9 : decode cX5_leaveRow 9 = .ok (.istore_n 2, 1) := by decide +kernel
theorem dX5_leaveRow_10 : decode cX5_leaveRow 10 = .ok (.iload_n 2, 1) := by decide +kernel
theorem dX5_leaveRow_11 : decode cX5_leaveRow 11 = .ok (.aload_n 1, 1) := by decide +kernel
theorem dX5_leaveRow_12 : decode cX5_leaveRow 12 = .ok (.invokevirtual 91, 3) := by decide +kernel
theorem dX5_leaveRow_15 : decode cX5_leaveRow 15 = .ok (.if_icmp .ge 25, 3) := by decide +kernel
theorem dX5_leaveRow_18 : decode cX5_leaveRow 18 = .ok (.aload_n 1, 1) := by decide +kernel
theorem dX5_leaveRow_19 : decode cX5_leaveRow 19 = .ok (.iload_n 2, 1) := by decide +kernel
theorem dX5_leaveRow_20 : decode cX5_leaveRow 20 = .ok (.invokevirtual 95, 3) := by decide +kernel
theorem dX5_leaveRow_23 : decode cX5_leaveRow 23 = .ok (.aload_n 0, 1) := by decide +kernel
theorem dX5_leaveRow_24 : decode cX5_leaveRow 24 = .ok (.if_acmp .ne 10, 3) := by decide +kernel
theorem dX5_leaveRow_27 : decode cX5_leaveRow 27 = .ok (.aload_n 1, 1) := by decide +kernel
theorem dX5_leaveRow_28 : decode cX5_leaveRow 28 = .ok (.iload_n 2, 1) := by decide +kernel
theorem dX5_leaveRow_29 : decode cX5_leaveRow 29 = .ok (.invokevirtual 99, 3) := by decide +kernel
theorem dX5_leaveRow_32 : decode cX5_leaveRow 32 = .ok (.pop, 1) := by decide +kernel
theorem dX5_leaveRow_33 : decode cX5_leaveRow 33 = .ok (.return_, 1) := by decide +kernel
theorem dX5_leaveRow_34 : decode cX5_leaveRow 34 = .ok (.iinc 2 1, 3) := by decide +kernel
theorem dX5_leaveRow_37 : decode cX5_leaveRow 37 = .ok (.goto (-27), 3) := by decide +kernel
theorem dX5_leaveRow_40 : decode cX5_leaveRow 40 = .ok (.return_, 1) := by decide +kernel
theorem dX5_goUp_0 : decode cX5_goUp 0 = .ok (.aload_n 0, 1) := by decide +kernel
theorem dX5_goUp_1 : decode cX5_goUp 1 = .ok (.iconst 1, 1) := by decide +kernel
theorem dX5_goUp_2 : decode cX5_goUp 2 = .ok (.putfield 15, 3) := by decide +kernel
theorem dX5_goUp_5 : decode cX5_goUp 5 = .ok (.aload_n 0, 1) := by decide +kernel
theorem dX5_goUp_6 : decode cX5_goUp 6 = .ok (.aload_n 0, 1) := by decide +kernel
theorem dX5_goUp_7 : decode cX5_goUp 7 = .ok (.aload_n 0, 1) := by decide +kernel
theorem dX5_goUp_8 : decode cX5_goUp 8 = .ok (.getfield 46, 3) := by decide +kernel
theorem dX5_goUp_11 : decode cX5_goUp 11 = .ok (.invokevirtual 74, 3) := by decide +kernel
theorem dX5_goUp_14 : decode cX5_goUp 14 = .ok (.putfield 18, 3) := by decide +kernel
theorem dX5_goUp_17 : decode cX5_goUp 17 = .ok (.aload_n 0, 1) := by decide +kernel
theorem dX5_goUp_18 : decode cX5_goUp 18 = .ok (.iload_n 1, 1) := by decide +kernel
theorem dX5_goUp_19 : decode cX5_goUp 19 = .ok (.putfield 27, 3) := by decide +kernel
theorem dX5_goUp_22 : decode cX5_goUp 22 = .ok (.return_, 1) := by decide +kernel
theorem dX5_goDown_0 : decode cX5_goDown 0 = .ok (.aload_n 0, 1) := by decide +kernel
theorem dX5_goDown_1 : decode cX5_goDown 1 = .ok (.iconst 2, 1) := by decide +kernel
theorem dX5_goDown_2 : decode cX5_goDown 2 = .ok (.putfield 15, 3) := by decide +kernel
theorem dX5_goDown_5 : decode cX5_goDown 5 = .ok (.aload_n 0, 1) := by decide +kernel
theorem dX5_goDown_6 : decode cX5_goDown 6 = .ok (.aload_n 0, 1) := by decide +kernel
theorem dX5_goDown_7 : decode cX5_goDown 7 = .ok (.aload_n 0, 1) := by decide +kernel
theorem dX5_goDown_8 : decode cX5_goDown 8 = .ok (.getfield 46, 3) := by decide +kernel
theorem dX5_goDown_11 : decode cX5_goDown 11 = .ok (.invokevirtual 55, 3) := by decide +kernel
theorem dX5_goDown_14 : decode cX5_goDown 14 = .ok (.putfield 18, 3) := by decide +kernel
theorem dX5_goDown_17 : decode cX5_goDown 17 = .ok (.return_, 1) := by decide +kernel
theorem dX6_init_0 : decode cX6_init 0 = .ok (.aload_n 0, 1) := by decide +kernel
theorem dX6_init_1 : decode cX6_init 1 = .ok (.invokespecial 3, 3) := by decide +kernel
theorem dX6_init_4 : decode cX6_init 4 = .ok (.aload_n 0, 1) := by decide +kernel
theorem dX6_init_5 : decode cX6_init 5 = .ok (.sipush 600, 3) := by decide +kernel
theorem dX6_init_8 : decode cX6_init 8 = .ok (.newarray .int, 2) := by decide +kernel
theorem dX6_init_10 : decode cX6_init 10 = .ok (.putfield 11, 3) := by decide +kernel
theorem dX6_init_13 : decode cX6_init 13 = .ok (.aload_n 0, 1) := by decide +kernel
theorem dX6_init_14 : decode cX6_init 14 = .ok (.iconst 0, 1) := by decide +kernel
theorem dX6_init_15 : decode cX6_init 15 = .ok (.putfield 15, 3) := by decide +kernel
theorem dX6_init_18 : decode cX6_init 18 = .ok (.aload_n 0, 1) := by decide +kernel
theorem dX6_init_19 : decode cX6_init 19 = .ok (.iconst 0, 1) := by decide +kernel
theorem dX6_init_20 : decode cX6_init 20 = .ok (.putfield 19, 3) := by decide +kernel
theorem dX6_init_23 : decode cX6_init 23 = .ok (.return_, 1) := by decide +kernel
theorem dX6_keep_0 : decode cX6_keep 0 = .ok (.aload_n 0, 1) := by decide +kernel
theorem dX6_keep_1 : decode cX6_keep 1 = .ok (.getfield 15, 3) := by decide +kernel
theorem dX6_keep_4 : decode cX6_keep 4 = .ok (.bipush 6, 2) := by decide +kernel
theorem dX6_keep_6 : decode cX6_keep 6 = .ok (.imul, 1) := by decide +kernel
theorem dX6_keep_7 : decode cX6_keep 7 = .ok (.istore 4, 2) := by decide +kernel
theorem dX6_keep_9 : decode cX6_keep 9 = .ok (.aload_n 0, 1) := by decide +kernel
theorem dX6_keep_10 : decode cX6_keep 10 = .ok (.getfield 11, 3) := by decide +kernel
theorem dX6_keep_13 : decode cX6_keep 13 = .ok (.iload 4, 2) := by decide +kernel
theorem dX6_keep_15 : decode cX6_keep 15 = .ok (.iconst 0, 1) := by decide +kernel
theorem dX6_keep_16 : decode cX6_keep 16 = .ok (.iadd, 1) := by decide +kernel
theorem dX6_keep_17 : decode cX6_keep 17 = .ok (.aload_n 1, 1) := by decide +kernel
theorem dX6_keep_18 : decode cX6_keep 18 = .ok (.getfield 22, 3) := by decide +kernel
theorem dX6_keep_21 : decode cX6_keep 21 = .ok (.iastore, 1) := by decide +kernel
theorem dX6_keep_22 : decode cX6_keep 22 = .ok (.aload_n 0, 1) := by decide +kernel
theorem dX6_keep_23 : decode cX6_keep 23 = .ok (.getfield 11, 3) := by decide +kernel
theorem dX6_keep_26 : decode cX6_keep 26 = .ok (.iload 4, 2) := by decide +kernel
theorem dX6_keep_28 : decode cX6_keep 28 = .ok (.iconst 1, 1) := by decide +kernel
theorem dX6_keep_29 : decode cX6_keep 29 = .ok (.iadd, 1) := by decide +kernel
theorem dX6_keep_30 : decode cX6_keep 30 = .ok (.aload_n 1, 1) := by decide +kernel
theorem dX6_keep_31 : decode cX6_keep 31 = .ok (.getfield 27, 3) := by decide +kernel
theorem dX6_keep_34 : decode cX6_keep 34 = .ok (.getfield 31, 3) := by decide +kernel
theorem dX6_keep_37 : decode cX6_keep 37 = .ok (.iastore, 1) := by decide +kernel
theorem dX6_keep_38 : decode cX6_keep 38 = .ok (.aload_n 0, 1) := by decide +kernel
theorem dX6_keep_39 : decode cX6_keep 39 = .ok (.getfield 11, 3) := by decide +kernel
theorem dX6_keep_42 : decode cX6_keep 42 = .ok (.iload 4, 2) := by decide +kernel
theorem dX6_keep_44 : decode cX6_keep 44 = .ok (.iconst 2, 1) := by decide +kernel
theorem dX6_keep_45 : decode cX6_keep 45 = .ok (.iadd, 1) := by decide +kernel
theorem dX6_keep_46 : decode cX6_keep 46 = .ok (.iload_n 2, 1) := by decide +kernel
theorem dX6_keep_47 : decode cX6_keep 47 = .ok (.iastore, 1) := by decide +kernel
theorem dX6_keep_48 : decode cX6_keep 48 = .ok (.aload_n 0, 1) := by decide +kernel
theorem dX6_keep_49 : decode cX6_keep 49 = .ok (.getfield 11, 3) := by decide +kernel
theorem dX6_keep_52 : decode cX6_keep 52 = .ok (.iload 4, 2) := by decide +kernel
theorem dX6_keep_54 : decode cX6_keep 54 = .ok (.iconst 3, 1) := by decide +kernel
theorem dX6_keep_55 : decode cX6_keep 55 = .ok (.iadd, 1) := by decide +kernel
theorem dX6_keep_56 : decode cX6_keep 56 = .ok (.iload_n 3, 1) := by decide +kernel
theorem dX6_keep_57 : decode cX6_keep 57 = .ok (.iastore, 1) := by decide +kernel
theorem dX6_keep_58 : decode cX6_keep 58 = .ok (.aload_n 0, 1) := by decide +kernel
theorem dX6_keep_59 : decode cX6_keep 59 = .ok (.getfield 11, 3) := by decide +kernel
theorem dX6_keep_62 : decode cX6_keep 62 = .ok (.iload 4, 2) := by decide +kernel
theorem dX6_keep_64 : decode cX6_keep 64 = .ok (.iconst 4, 1) := by decide +kernel
theorem dX6_keep_65 : decode cX6_keep 65 = .ok (.iadd, 1) := by decide +kernel
theorem dX6_keep_66 : decode cX6_keep 66 = .ok (.aload_n 1, 1) := by decide +kernel
theorem dX6_keep_67 : decode cX6_keep 67 = .ok (.getfield 34, 3) := by decide +kernel
theorem dX6_keep_70 : decode cX6_keep 70 = .ok (.iastore, 1) := by decide +kernel
theorem dX6_keep_71 : decode cX6_keep 71 = .ok (.aload_n 0, 1) := by decide +kernel
theorem dX6_keep_72 : decode cX6_keep 72 = .ok (.getfield 11, 3) := by decide +kernel
theorem dX6_keep_75 : decode cX6_keep 75 = .ok (.iload 4, 2) := by decide +kernel
theorem dX6_keep_77 : decode cX6_keep 77 = .ok (.iconst 5, 1) := by decide +kernel
theorem dX6_keep_78 : decode cX6_keep 78 = .ok (.iadd, 1) := by decide +kernel
theorem dX6_keep_79 : decode cX6_keep 79 = .ok (.aload_n 1, 1) := by decide +kernel
theorem dX6_keep_80 : decode cX6_keep 80 = .ok (.getfield 37, 3) := by decide +kernel
theorem dX6_keep_83 : decode cX6_keep 83 = .ok (.iastore, 1) := by decide +kernel
theorem dX6_keep_84 : decode cX6_keep 84 = .ok (.aload_n 0, 1) := by decide +kernel
theorem dX6_keep_85 : decode cX6_keep 85 = .ok (.aload_n 0, 1) := by decide +kernel
theorem dX6_keep_86 : decode cX6_keep 86 = .ok (.getfield 15, 3) := by decide +kernel
theorem dX6_keep_89 : decode cX6_keep 89 = .ok (.iconst 1, 1) := by decide +kernel
theorem dX6_keep_90 : decode cX6_keep 90 = .ok (.iadd, 1) := by decide +kernel
theorem dX6_keep_91 : decode cX6_keep 91 = .ok (.bipush 100, 2) := by decide +kernel
theorem dX6_keep_93 : decode cX6_keep 93 = .ok (.irem, 1) := by decide +kernel
theorem dX6_keep_94 : decode cX6_keep 94 = .ok (.putfield 15, 3) := by decide +kernel
theorem dX6_keep_97 : decode cX6_keep 97 = .ok (.aload_n 0, 1) := by decide +kernel
theorem dX6_keep_98 : decode cX6_keep 98 = .ok (.bipush 100, 2) := by decide +kernel
theorem dX6_keep_100 : decode cX6_keep 100 = .ok (.aload_n 0, 1) := by decide +kernel
theorem dX6_keep_101 : decode cX6_keep 101 = .ok (.getfield 19, 3) := by decide +kernel
theorem dX6_keep_104 : decode cX6_keep 104 = .ok (.iconst 1, 1) := by decide +kernel
theorem dX6_keep_105 : decode cX6_keep 105 = .ok (.iadd, 1) := by decide +kernel
theorem dX6_keep_106 : decode cX6_keep 106 = .ok (.invokestatic 40, 3) := by decide +kernel
theorem dX6_keep_109 : decode cX6_keep 109 = .ok (.putfield 19, 3) := by decide +kernel
theorem dX6_keep_112 : decode cX6_keep 112 = .ok (.return_, 1) := by decide +kernel
theorem dX6_fact_0 : decode cX6_fact 0 = .ok (.aload_n 0, 1) := by decide +kernel
theorem dX6_fact_1 : decode cX6_fact 1 = .ok (.getfield 15, 3) := by decide +kernel
theorem dX6_fact_4 : decode cX6_fact 4 = .ok (.iconst 1, 1) := by decide +kernel
theorem dX6_fact_5 : decode cX6_fact 5 = .ok (.isub, 1) := by decide +kernel
theorem dX6_fact_6 : decode cX6_fact 6 = .ok (.iload_n 1, 1) := by decide +kernel
theorem dX6_fact_7 : decode cX6_fact 7 = .ok (.isub, 1) := by decide +kernel
theorem dX6_fact_8 : decode cX6_fact 8 = .ok (.bipush 100, 2) := by decide +kernel
theorem dX6_fact_10 : decode cX6_fact 10 = .ok (.invokestatic 46, 3) := by decide +kernel
theorem dX6_fact_13 : decode cX6_fact 13 = .ok (.bipush 6, 2) := by decide +kernel
theorem dX6_fact_15 : decode cX6_fact 15 = .ok (.imul, 1) := by decide +kernel
theorem dX6_fact_16 : decode cX6_fact 16 = .ok (.iload_n 2, 1) := by decide +kernel
theorem dX6_fact_17 : decode cX6_fact 17 = .ok (.iadd, 1) := by decide +kernel
theorem dX6_fact_18 : decode cX6_fact 18 = .ok (.istore_n 3, 1) := by decide +kernel
theorem dX6_fact_19 : decode cX6_fact 19 = .ok (.iload_n 3, 1) := by decide +kernel
theorem dX6_fact_20 : decode cX6_fact 20 = .ok (.ifCond .lt 12, 3) := by decide +kernel
theorem dX6_fact_23 : decode cX6_fact 23 = .ok (.iload_n 3, 1) := by decide +kernel
theorem dX6_fact_24 : decode cX6_fact 24 = .ok (.aload_n 0, 1) := by decide +kernel
theorem dX6_fact_25 : decode cX6_fact 25 = .ok (.getfield 11, 3) := by decide +kernel
theorem dX6_fact_28 : decode cX6_fact 28 = .ok (.arraylength, 1) := by decide +kernel
theorem dX6_fact_29 : decode cX6_fact 29 = .ok (.if_icmp .lt 8, 3) := by decide +kernel
theorem dX6_fact_32 : decode cX6_fact 32 = .ok (.bipush (-4), 2) := by decide +kernel
theorem dX6_fact_34 : decode cX6_fact 34 = .ok (.goto 9, 3) := by decide +kernel
theorem dX6_fact_37 : decode cX6_fact 37 = .ok (.aload_n 0, 1) := by decide +kernel
theorem dX6_fact_38 : decode cX6_fact 38 = .ok (.getfield 11, 3) := by decide +kernel
theorem dX6_fact_41 : decode cX6_fact 41 = .ok (.iload_n 3, 1) := by decide +kernel
theorem dX6_fact_42 : decode cX6_fact 42 = .ok (.iaload, 1) := by decide +kernel
theorem dX6_fact_43 : decode cX6_fact 43 = .ok (.ireturn, 1) := by decide +kernel
theorem dX6_jarsFouledBy_0 : decode cX6_jarsFouledBy 0 = .ok (.iconst 0, 1) := by decide +kernel
theorem dX6_jarsFouledBy_1 : decode cX6_jarsFouledBy 1 = .ok (.istore_n 3, 1) := by decide +kernel
theorem dX6_jarsFouledBy_2 : decode cX6_jarsFouledBy 2 = .ok (.iconst 0, 1) := by decide +kernel
theorem dX6_jarsFouledBy_3 : decode cX6_jarsFouledBy 3 = .ok (.istore 4, 2) := by decide +kernel
theorem dX6_jarsFouledBy_5 : decode cX6_jarsFouledBy 5 = .ok (.iload 4, 2) := by decide +kernel
theorem dX6_jarsFouledBy_7 : decode cX6_jarsFouledBy 7 = .ok (.aload_n 0, 1) := by decide +kernel
theorem dX6_jarsFouledBy_8 : decode cX6_jarsFouledBy 8 = .ok (.getfield 19, 3) := by decide +kernel
theorem dX6_jarsFouledBy_11 : decode cX6_jarsFouledBy 11 = .ok (.if_icmp .ge 43, 3) := by decide +kernel
theorem dX6_jarsFouledBy_14 : decode cX6_jarsFouledBy 14 = .ok (.aload_n 0, 1) := by decide +kernel
theorem dX6_jarsFouledBy_15 : decode cX6_jarsFouledBy 15 = .ok (.iload 4, 2) := by decide +kernel
theorem dX6_jarsFouledBy_17 : decode cX6_jarsFouledBy 17 = .ok (.iconst 4, 1) := by decide +kernel
theorem dX6_jarsFouledBy_18 : decode cX6_jarsFouledBy 18 = .ok (.invokevirtual 49, 3) := by decide +kernel
theorem dX6_jarsFouledBy_21 : decode cX6_jarsFouledBy 21 = .ok (.iload_n 1, 1) := by decide +kernel
theorem dX6_jarsFouledBy_22 : decode cX6_jarsFouledBy 22 = .ok (.if_icmp .ne 26, 3) := by decide +kernel
theorem dX6_jarsFouledBy_25 : decode cX6_jarsFouledBy 25 = .ok (.aload_n 0, 1) := by decide +kernel
theorem dX6_jarsFouledBy_26 : decode cX6_jarsFouledBy 26 = .ok (.iload 4, 2) := by decide +kernel
theorem dX6_jarsFouledBy_28 : decode cX6_jarsFouledBy 28 = .ok (.iconst 5, 1) := by decide +kernel
theorem dX6_jarsFouledBy_29 : decode cX6_jarsFouledBy 29 = .ok (.invokevirtual 49, 3) := by decide +kernel
theorem dX6_jarsFouledBy_32 : decode cX6_jarsFouledBy 32 = .ok (.iload_n 2, 1) := by decide +kernel
theorem dX6_jarsFouledBy_33 : decode cX6_jarsFouledBy 33 = .ok (.if_icmp .lt 15, 3) := by decide +kernel
theorem dX6_jarsFouledBy_36 : decode cX6_jarsFouledBy 36 = .ok (.iload_n 3, 1) := by decide +kernel
theorem dX6_jarsFouledBy_37 : decode cX6_jarsFouledBy 37 = .ok (.iconst 1, 1) := by decide +kernel
theorem dX6_jarsFouledBy_38 : decode cX6_jarsFouledBy 38 = .ok (.aload_n 0, 1) := by decide +kernel
theorem dX6_jarsFouledBy_39 : decode cX6_jarsFouledBy 39 = .ok (.iload 4, 2) := by decide +kernel
theorem dX6_jarsFouledBy_41 : decode cX6_jarsFouledBy 41 = .ok (.iconst 1, 1) := by decide +kernel
theorem dX6_jarsFouledBy_42 : decode cX6_jarsFouledBy 42 = .ok (.invokevirtual 49, 3) := by decide +kernel
theorem dX6_jarsFouledBy_45 : decode cX6_jarsFouledBy 45 = .ok (.ishl, 1) := by decide +kernel
theorem dX6_jarsFouledBy_46 : decode cX6_jarsFouledBy 46 = .ok (.ior, 1) := by decide +kernel
theorem dX6_jarsFouledBy_47 : decode cX6_jarsFouledBy 47 = .ok (.istore_n 3, 1) := by decide +kernel
theorem dX6_jarsFouledBy_48 : decode cX6_jarsFouledBy 48 = .ok (.iinc 4 1, 3) := by decide +kernel
theorem dX6_jarsFouledBy_51 : decode cX6_jarsFouledBy 51 = .ok (.goto (-46), 3) := by decide +kernel
theorem dX6_jarsFouledBy_54 : decode cX6_jarsFouledBy 54 = .ok (.iload_n 3, 1) := by decide +kernel
theorem dX6_jarsFouledBy_55 : decode cX6_jarsFouledBy 55 = .ok (.ireturn, 1) := by decide +kernel
theorem dX7_init_0 : decode cX7_init 0 = .ok (.aload_n 0, 1) := by decide +kernel
theorem dX7_init_1 : decode cX7_init 1 = .ok (.iload_n 1, 1) := by decide +kernel
theorem dX7_init_2 : decode cX7_init 2 = .ok (.iload_n 2, 1) := by decide +kernel
theorem dX7_init_3 : decode cX7_init 3 = .ok (.aload_n 3, 1) := by decide +kernel
theorem dX7_init_4 : decode cX7_init 4 = .ok (.aload 4, 2) := by decide +kernel
theorem dX7_init_6 : decode cX7_init 6 = .ok (.invokespecial 3, 3) := by decide +kernel
theorem dX7_init_9 : decode cX7_init 9 = .ok (.return_, 1) := by decide +kernel
theorem dX7_kind_0 : decode cX7_kind 0 = .ok (.iconst 1, 1) := by decide +kernel
theorem dX7_kind_1 : decode cX7_kind 1 = .ok (.ireturn, 1) := by decide +kernel
theorem dX7_canGoTo_0 : decode cX7_canGoTo 0 = .ok (.iconst 1, 1) := by decide +kernel
theorem dX7_canGoTo_1 : decode cX7_canGoTo 1 = .ok (.ireturn, 1) := by decide +kernel
theorem dX7_climbTime_0 : decode cX7_climbTime 0 = .ok (.iload_n 1, 1) := by decide +kernel
theorem dX7_climbTime_1 : decode cX7_climbTime 1 = .ok (.iconst 2, 1) := by decide +kernel
theorem dX7_climbTime_2 : decode cX7_climbTime 2 = .ok (.invokestatic 9, 3) := by decide +kernel
theorem dX7_climbTime_5 : decode cX7_climbTime 5 = .ok (.ireturn, 1) := by decide +kernel
theorem dX8_init_0 : decode cX8_init 0 = .ok (.aload_n 0, 1) := by decide +kernel
theorem dX8_init_1 : decode cX8_init 1 = .ok (.invokespecial 1, 3) := by decide +kernel
theorem dX8_init_4 : decode cX8_init 4 = .ok (.aload_n 0, 1) := by decide +kernel
theorem dX8_init_5 : decode cX8_init 5 = .ok (.new 7, 3) := by decide +kernel
theorem dX8_init_8 : decode cX8_init 8 = .ok (.dup, 1) := by decide +kernel
theorem dX8_init_9 : decode cX8_init 9 = .ok (.invokespecial 9, 3) := by decide +kernel
theorem dX8_init_12 : decode cX8_init 12 = .ok (.putfield 10, 3) := by decide +kernel
theorem dX8_init_15 : decode cX8_init 15 = .ok (.aload_n 0, 1) := by decide +kernel
theorem dX8_init_16 : decode cX8_init 16 = .ok (.new 7, 3) := by decide +kernel
theorem dX8_init_19 : decode cX8_init 19 = .ok (.dup, 1) := by decide +kernel
theorem dX8_init_20 : decode cX8_init 20 = .ok (.invokespecial 9, 3) := by decide +kernel
theorem dX8_init_23 : decode cX8_init 23 = .ok (.putfield 16, 3) := by decide +kernel
theorem dX8_init_26 : decode cX8_init 26 = .ok (.aload_n 0, 1) := by decide +kernel
theorem dX8_init_27 : decode cX8_init 27 = .ok (.new 7, 3) := by decide +kernel
theorem dX8_init_30 : decode cX8_init 30 = .ok (.dup, 1) := by decide +kernel
theorem dX8_init_31 : decode cX8_init 31 = .ok (.invokespecial 9, 3) := by decide +kernel
theorem dX8_init_34 : decode cX8_init 34 = .ok (.putfield 19, 3) := by decide +kernel
theorem dX8_init_37 : decode cX8_init 37 = .ok (.aload_n 0, 1) := by decide +kernel
theorem dX8_init_38 : decode cX8_init 38 = .ok (.new 22, 3) := by decide +kernel
theorem dX8_init_41 : decode cX8_init 41 = .ok (.dup, 1) := by decide +kernel
theorem dX8_init_42 : decode cX8_init 42 = .ok (.invokespecial 24, 3) := by decide +kernel
theorem dX8_init_45 : decode cX8_init 45 = .ok (.putfield 25, 3) := by decide +kernel
theorem dX8_init_48 : decode cX8_init 48 = .ok (.aload_n 0, 1) := by decide +kernel
theorem dX8_init_49 : decode cX8_init 49 = .ok (.new 29, 3) := by decide +kernel
theorem dX8_init_52 : decode cX8_init 52 = .ok (.dup, 1) := by decide +kernel
theorem dX8_init_53 : decode cX8_init 53 = .ok (.invokespecial 31, 3) := by decide +kernel
theorem dX8_init_56 : decode cX8_init 56 = .ok (.putfield 32, 3) := by decide +kernel
theorem dX8_init_59 : decode cX8_init 59 = .ok (.aload_n 0, 1) := by decide +kernel
theorem dX8_init_60 : decode cX8_init 60 = .ok (.new 36, 3) := by decide +kernel
theorem dX8_init_63 : decode cX8_init 63 = .ok (.dup, 1) := by decide +kernel
theorem dX8_init_64 : decode cX8_init 64 = .ok (.invokespecial 38, 3) := by decide +kernel
theorem dX8_init_67 : decode cX8_init 67 = .ok (.putfield 39, 3) := by decide +kernel
theorem dX8_init_70 : decode cX8_init 70 = .ok (.aload_n 0, 1) := by decide +kernel
theorem dX8_init_71 : decode cX8_init 71 = .ok (.bipush 7, 2) := by decide +kernel
theorem dX8_init_73 : decode cX8_init 73 = .ok (.newarray .long, 2) := by decide +kernel
theorem dX8_init_75 : decode cX8_init 75 = .ok (.putfield 43, 3) := by decide +kernel
theorem dX8_init_78 : decode cX8_init 78 = .ok (.aload_n 0, 1) := by decide +kernel
theorem dX8_init_79 : decode cX8_init 79 = .ok (.iconst 0, 1) := by decide +kernel
theorem dX8_init_80 : decode cX8_init 80 = .ok (.putfield 47, 3) := by decide +kernel
theorem dX8_init_83 : decode cX8_init 83 = .ok (.aload_n 0, 1) := by decide +kernel
theorem dX8_init_84 : decode cX8_init 84 = .ok (.bipush 100, 2) := by decide +kernel
theorem dX8_init_86 : decode cX8_init 86 = .ok (.putfield 51, 3) := by decide +kernel
theorem dX8_init_89 : decode cX8_init 89 = .ok (.return_, 1) := by decide +kernel
theorem dX8_fountain_0 : decode cX8_fountain 0 = .ok (.iload_n 1, 1) := by decide +kernel
theorem dX8_fountain_1 : decode cX8_fountain 1 = .ok (.iconst 1, 1) := by decide +kernel
theorem dX8_fountain_2 : decode cX8_fountain 2 = .ok (.bipush 20, 2) := by decide +kernel
theorem dX8_fountain_4 : decode cX8_fountain 4 = .ok (.invokestatic 54, 3) := by decide +kernel
theorem dX8_fountain_7 : decode cX8_fountain 7 = .ok (.ifCond .eq 5, 3) := by decide +kernel
theorem dX8_fountain_10 : decode cX8_fountain 10 = .ok (.iconst (-1), 1) := by decide +kernel
theorem dX8_fountain_11 : decode cX8_fountain 11 = .ok (.ireturn, 1) := by decide +kernel
theorem dX8_fountain_12 : decode cX8_fountain 12 = .ok (.aload_n 0, 1) := by decide +kernel
theorem dX8_fountain_13 : decode cX8_fountain 13 = .ok (.getfield 16, 3) := by decide +kernel
theorem dX8_fountain_16 : decode cX8_fountain 16 = .ok (.invokevirtual 58, 3) := by decide +kernel
theorem dX8_fountain_19 : decode cX8_fountain 19 = .ok (.ifCond .ne 6, 3) := by decide +kernel
theorem dX8_fountain_22 : decode cX8_fountain 22 = .ok (.bipush (-2), 2) := by decide +kernel
theorem dX8_fountain_24 : decode cX8_fountain 24 = .ok (.ireturn, 1) := by decide +kernel
theorem dX8_fountain_25 : decode cX8_fountain 25 = .ok (.aload_n 0, 1) := by decide +kernel
theorem dX8_fountain_26 : decode cX8_fountain 26 = .ok (.getfield 10, 3) := by decide +kernel
theorem dX8_fountain_29 : decode cX8_fountain 29 = .ok (.invokevirtual 62, 3) := by decide +kernel
theorem dX8_fountain_32 : decode cX8_fountain 32 = .ok (.istore_n 2, 1) := by decide +kernel
theorem dX8_fountain_33 : decode cX8_fountain 33 = .ok (.iload_n 2, 1) := by decide +kernel
theorem dX8_fountain_34 : decode cX8_fountain 34 = .ok (.iconst 4, 1) := by decide +kernel
theorem dX8_fountain_35 : decode cX8_fountain 35 = .ok (.if_icmp .lt 6, 3) := by decide +kernel
theorem dX8_fountain_38 : decode cX8_fountain 38 = .ok (.bipush (-3), 2) := by decide +kernel
theorem dX8_fountain_40 : decode cX8_fountain 40 = .ok (.ireturn, 1) := by decide +kernel
theorem dX8_fountain_41 : decode cX8_fountain 41 = .ok (.aload_n 0, 1) := by decide +kernel
theorem dX8_fountain_42 : decode cX8_fountain 42 = .ok (.getfield 10, 3) := by decide +kernel
theorem dX8_fountain_45 : decode cX8_fountain 45 = .ok (.new 66, 3) := by decide +kernel
theorem dX8_fountain_48 : decode cX8_fountain 48 = .ok (.dup, 1) := by decide +kernel
theorem dX8_fountain_49 : decode cX8_fountain 49 = .ok (.iload_n 2, 1) := by decide +kernel
theorem dX8_fountain_50 : decode cX8_fountain 50 = .ok (.iload_n 1, 1) := by decide +kernel
theorem dX8_fountain_51 : decode cX8_fountain 51 = .ok (.invokespecial 68, 3) := by decide +kernel
theorem dX8_fountain_54 : decode cX8_fountain 54 = .ok (.invokevirtual 71, 3) := by decide +kernel
theorem dX8_fountain_57 : decode cX8_fountain 57 = .ok (.pop, 1) := by decide +kernel
theorem dX8_fountain_58 : decode cX8_fountain 58 = .ok (.iload_n 2, 1) := by decide +kernel
theorem dX8_fountain_59 : decode cX8_fountain 59 = .ok (.ireturn, 1) := by decide +kernel
theorem dX8_jar_0 : decode cX8_jar 0 = .ok (.iload_n 1, 1) := by decide +kernel
theorem dX8_jar_1 : decode cX8_jar 1 = .ok (.iconst 0, 1) := by decide +kernel
theorem dX8_jar_2 : decode cX8_jar 2 = .ok (.bipush 9, 2) := by decide +kernel
theorem dX8_jar_4 : decode cX8_jar 4 = .ok (.invokestatic 54, 3) := by decide +kernel
theorem dX8_jar_7 : decode cX8_jar 7 = .ok (.ifCond .ne 14, 3) := by decide +kernel
theorem dX8_jar_10 : decode cX8_jar 10 = .ok (.iload_n 2, 1) := by decide +kernel
theorem dX8_jar_11 : decode cX8_jar 11 = .ok (.iconst 1, 1) := by decide +kernel
theorem dX8_jar_12 : decode cX8_jar 12 = .ok (.sipush 200, 3) := by decide +kernel
theorem dX8_jar_15 : decode cX8_jar 15 = .ok (.invokestatic 54, 3) := by decide +kernel
theorem dX8_jar_18 : decode cX8_jar 18 = .ok (.ifCond .eq 5, 3) := by decide +kernel
theorem dX8_jar_21 : decode cX8_jar 21 = .ok (.iconst (-1), 1) := by decide +kernel
theorem dX8_jar_22 : decode cX8_jar 22 = .ok (.ireturn, 1) := by decide +kernel
theorem dX8_jar_23 : decode cX8_jar 23 = .ok (.iconst 4, 1) := by decide +kernel
theorem dX8_jar_24 : decode cX8_jar 24 = .ok (.newarray .int, 2) := by decide +kernel
theorem dX8_jar_26 : decode cX8_jar 26 = .ok (.dup, 1) := by decide +kernel
theorem dX8_jar_27 : decode cX8_jar 27 = .ok (.iconst 0, 1) := by decide +kernel
theorem dX8_jar_28 : decode cX8_jar 28 = .ok (.iload_n 3, 1) := by decide +kernel
theorem dX8_jar_29 : decode cX8_jar 29 = .ok (.iastore, 1) := by decide +kernel
theorem dX8_jar_30 : decode cX8_jar 30 = .ok (.dup, 1) := by decide +kernel
theorem dX8_jar_31 : decode cX8_jar 31 = .ok (.iconst 1, 1) := by decide +kernel
theorem dX8_jar_32 : decode cX8_jar 32 = .ok (.iload 4, 2) := by decide +kernel
theorem dX8_jar_34 : decode cX8_jar 34 = .ok (.iastore, 1) := by decide +kernel
theorem dX8_jar_35 : decode cX8_jar 35 = .ok (.dup, 1) := by decide +kernel
theorem dX8_jar_36 : decode cX8_jar 36 = .ok (.iconst 2, 1) := by decide +kernel
theorem dX8_jar_37 : decode cX8_jar 37 = .ok (.iload 5, 2) := by decide +kernel
theorem dX8_jar_39 : decode cX8_jar 39 = .ok (.iastore, 1) := by decide +kernel
theorem dX8_jar_40 : decode cX8_jar 40 = .ok (.dup, 1) := by decide +kernel
theorem dX8_jar_41 : decode cX8_jar 41 = .ok (.iconst 3, 1) := by decide +kernel
theorem dX8_jar_42 : decode cX8_jar 42 = .ok (.iload 6, 2) := by decide +kernel
theorem dX8_jar_44 : decode cX8_jar 44 = .ok (.iastore, 1) := by decide +kernel
theorem dX8_jar_45 : decode cX8_jar 45 = .ok (.astore 7, 2) := by decide +kernel
theorem dX8_jar_47 : decode cX8_jar 47 = .ok (.iconst 0, 1) := by decide +kernel
theorem dX8_jar_48 : decode cX8_jar 48 = .ok (.istore 8, 2) := by decide +kernel
theorem dX8_jar_50 : decode cX8_jar 50 = .ok (.iload 8, 2) := by decide +kernel
theorem dX8_jar_52 : decode cX8_jar 52 = .ok (.aload_n 0, 1) := by decide +kernel
theorem dX8_jar_53 : decode cX8_jar 53 = .ok (.getfield 10, 3) := by decide +kernel
theorem dX8_jar_56 : decode cX8_jar 56 = .ok (.invokevirtual 62, 3) := by decide +kernel
theorem dX8_jar_59 : decode cX8_jar 59 = .ok (.if_icmp .ge 33, 3) := by decide +kernel
theorem dX8_jar_62 : decode cX8_jar 62 = .ok (.iload 8, 2) := by decide +kernel
theorem dX8_jar_64 : decode cX8_jar 64 = .ok (.aload 7, 2) := by decide +kernel
theorem dX8_jar_66 : decode cX8_jar 66 = .ok (.arraylength, 1) := by decide +kernel
theorem dX8_jar_67 : decode cX8_jar 67 = .ok (.if_icmp .ge 25, 3) := by decide +kernel
theorem dX8_jar_70 : decode cX8_jar 70 = .ok (.aload 7, 2) := by decide +kernel
theorem dX8_jar_72 : decode cX8_jar 72 = .ok (.iload 8, 2) := by decide +kernel
theorem dX8_jar_74 : decode cX8_jar 74 = .ok (.iaload, 1) := by decide +kernel
theorem dX8_jar_75 : decode cX8_jar 75 = .ok (.iconst 1, 1) := by decide +kernel
theorem dX8_jar_76 : decode cX8_jar 76 = .ok (.bipush 30, 2) := by decide +kernel
theorem dX8_jar_78 : decode cX8_jar 78 = .ok (.invokestatic 54, 3) := by decide +kernel
theorem dX8_jar_81 : decode cX8_jar 81 = .ok (.ifCond .eq 5, 3) := by decide +kernel
theorem dX8_jar_84 : decode cX8_jar 84 = .ok (.iconst (-1), 1) := by decide +kernel
theorem dX8_jar_85 : decode cX8_jar 85 = .ok (.ireturn, 1) := by decide +kernel
theorem dX8_jar_86 : decode cX8_jar 86 = .ok (.iinc 8 1, 3) := by decide +kernel
theorem dX8_jar_89 : decode cX8_jar 89 = .ok (.goto (-39), 3) := by decide +kernel
theorem dX8_jar_92 : decode cX8_jar 92 = .ok (.aload_n 0, 1) := by decide +kernel
theorem dX8_jar_93 : decode cX8_jar 93 = .ok (.getfield 10, 3) := by decide +kernel
theorem dX8_jar_96 : decode cX8_jar 96 = .ok (.invokevirtual 58, 3) := by decide +kernel
theorem dX8_jar_99 : decode cX8_jar 99 = .ok (.ifCond .eq 6, 3) := by decide +kernel
theorem dX8_jar_102 : decode cX8_jar 102 = .ok (.bipush (-2), 2) := by decide +kernel
theorem dX8_jar_104 : decode cX8_jar 104 = .ok (.ireturn, 1) := by decide +kernel
theorem dX8_jar_105 : decode cX8_jar 105 = .ok (.aload_n 0, 1) := by decide +kernel
theorem dX8_jar_106 : decode cX8_jar 106 = .ok (.getfield 16, 3) := by decide +kernel
theorem dX8_jar_109 : decode cX8_jar 109 = .ok (.invokevirtual 62, 3) := by decide +kernel
theorem dX8_jar_112 : decode cX8_jar 112 = .ok (.istore 8, 2) := by decide +kernel
theorem dX8_jar_114 : decode cX8_jar 114 = .ok (.iload 8, 2) := by decide +kernel
theorem dX8_jar_116 : decode cX8_jar 116 = .ok (.bipush 8, 2) := by decide +kernel
theorem dX8_jar_118 : decode cX8_jar 118 = .ok (.if_icmp .lt 6, 3) := by decide +kernel
theorem dX8_jar_121 : decode cX8_jar 121 = .ok (.bipush (-3), 2) := by decide +kernel
theorem dX8_jar_123 : decode cX8_jar 123 = .ok (.ireturn, 1) := by decide +kernel
theorem dX8_jar_124 : decode cX8_jar 124 = .ok (.aload_n 0, 1) := by decide +kernel
theorem dX8_jar_125 : decode cX8_jar 125 = .ok (.getfield 16, 3) := by decide +kernel
theorem dX8_jar_128 : decode cX8_jar 128 = .ok (.new 75, 3) := by decide +kernel
theorem dX8_jar_131 : decode cX8_jar 131 = .ok (.dup, 1) := by decide +kernel
theorem dX8_jar_132 : decode cX8_jar 132 = .ok (.iload 8, 2) := by decide +kernel
theorem dX8_jar_134 : decode cX8_jar 134 = .ok (.iload_n 1, 1) := by decide +kernel
theorem dX8_jar_135 : decode cX8_jar 135 = .ok (.iload_n 2, 1) := by decide +kernel
theorem dX8_jar_136 : decode cX8_jar 136 = .ok (.aload 7, 2) := by decide +kernel
theorem dX8_jar_138 : decode cX8_jar 138 = .ok (.invokespecial 77, 3) := by decide +kernel
theorem dX8_jar_141 : decode cX8_jar 141 = .ok (.invokevirtual 71, 3) := by decide +kernel
theorem dX8_jar_144 : decode cX8_jar 144 = .ok (.pop, 1) := by decide +kernel
theorem dX8_jar_145 : decode cX8_jar 145 = .ok (.iload 8, 2) := by decide +kernel
theorem dX8_jar_147 : decode cX8_jar 147 = .ok (.ireturn, 1) := by decide +kernel
theorem dX8_drinks_0 : decode cX8_drinks 0 = .ok (.aload_n 0, 1) := by decide +kernel
theorem dX8_drinks_1 : decode cX8_drinks 1 = .ok (.iload_n 1, 1) := by decide +kernel
theorem dX8_drinks_2 : decode cX8_drinks 2 = .ok (.invokevirtual 80, 3) := by decide +kernel
theorem dX8_drinks_5 : decode cX8_drinks 5 = .ok (.astore_n 3, 1) := by decide +kernel
theorem dX8_drinks_6 : decode cX8_drinks 6 = .ok (.aload_n 3, 1) := by decide +kernel
theorem dX8_drinks_7 : decode cX8_drinks 7 = .ok (.ifnull 13, 3) := by decide +kernel
theorem dX8_drinks_10 : decode cX8_drinks 10 = .ok (.iload_n 2, 1) := by decide +kernel
theorem dX8_drinks_11 : decode cX8_drinks 11 = .ok (.iconst 0, 1) := by decide +kernel
theorem dX8_drinks_12 : decode cX8_drinks 12 = .ok (.bipush 9, 2) := by decide +kernel
theorem dX8_drinks_14 : decode cX8_drinks 14 = .ok (.invokestatic 54, 3) := by decide +kernel
theorem dX8_drinks_17 : decode cX8_drinks 17 = .ok (.ifCond .eq 5, 3) := by decide +kernel
theorem dX8_drinks_20 : decode cX8_drinks 20 = .ok (.iconst (-1), 1) := by decide +kernel
theorem dX8_drinks_21 : decode cX8_drinks 21 = .ok (.ireturn, 1) := by decide +kernel
theorem dX8_drinks_22 : decode cX8_drinks 22 = .ok (.aload_n 3, 1) := by decide +kernel
theorem dX8_drinks_23 : decode cX8_drinks 23 = .ok (.getfield 84, 3) := by decide +kernel
theorem dX8_drinks_26 : decode cX8_drinks 26 = .ok (.istore 4, 2) := by decide +kernel
theorem dX8_drinks_28 : decode cX8_drinks 28 = .ok (.aload_n 3, 1) := by decide +kernel
theorem dX8_drinks_29 : decode cX8_drinks 29 = .ok (.iload_n 2, 1) := by decide +kernel
theorem dX8_drinks_30 : decode cX8_drinks 30 = .ok (.putfield 84, 3) := by decide +kernel
theorem dX8_drinks_33 : decode cX8_drinks 33 = .ok (.iload 4, 2) := by decide +kernel
theorem dX8_drinks_35 : decode cX8_drinks 35 = .ok (.ireturn, 1) := by decide +kernel
theorem dX8_man_0 : decode cX8_man 0 = .ok (.aload_n 0, 1) := by decide +kernel
theorem dX8_man_1 : decode cX8_man 1 = .ok (.iload_n 3, 1) := by decide +kernel
theorem dX8_man_2 : decode cX8_man 2 = .ok (.invokevirtual 87, 3) := by decide +kernel
theorem dX8_man_5 : decode cX8_man 5 = .ok (.astore 5, 2) := by decide +kernel
theorem dX8_man_7 : decode cX8_man 7 = .ok (.aload_n 0, 1) := by decide +kernel
theorem dX8_man_8 : decode cX8_man 8 = .ok (.iload 4, 2) := by decide +kernel
theorem dX8_man_10 : decode cX8_man 10 = .ok (.invokevirtual 80, 3) := by decide +kernel
theorem dX8_man_13 : decode cX8_man 13 = .ok (.astore 6, 2) := by decide +kernel
theorem dX8_man_15 : decode cX8_man 15 = .ok (.iload_n 1, 1) := by decide +kernel
theorem dX8_man_16 : decode cX8_man 16 = .ok (.iconst 0, 1) := by decide +kernel
theorem dX8_man_17 : decode cX8_man 17 = .ok (.iconst 2, 1) := by decide +kernel
theorem dX8_man_18 : decode cX8_man 18 = .ok (.invokestatic 54, 3) := by decide +kernel
theorem dX8_man_21 : decode cX8_man 21 = .ok (.ifCond .ne 13, 3) := by decide +kernel
theorem dX8_man_24 : decode cX8_man 24 = .ok (.iload_n 2, 1) := by decide +kernel
theorem dX8_man_25 : decode cX8_man 25 = .ok (.iconst 1, 1) := by decide +kernel
theorem dX8_man_26 : decode cX8_man 26 = .ok (.bipush 40, 2) := by decide +kernel
theorem dX8_man_28 : decode cX8_man 28 = .ok (.invokestatic 54, 3) := by decide +kernel
theorem dX8_man_31 : decode cX8_man 31 = .ok (.ifCond .eq 5, 3) := by decide +kernel
theorem dX8_man_34 : decode cX8_man 34 = .ok (.iconst (-1), 1) := by decide +kernel
theorem dX8_man_35 : decode cX8_man 35 = .ok (.ireturn, 1) := by decide +kernel
theorem dX8_man_36 : decode cX8_man 36 = .ok (.aload 5, 2) := by decide +kernel
theorem dX8_man_38 : decode cX8_man 38 = .ok (.ifnull 8, 3) := by decide +kernel
theorem dX8_man_41 : decode cX8_man 41 = .ok (.aload 6, 2) := by decide +kernel
theorem dX8_man_43 : decode cX8_man 43 = .ok (.ifnonnull 5, 3) := by decide +kernel
theorem dX8_man_46 : decode cX8_man 46 = .ok (.iconst (-1), 1) := by decide +kernel
theorem dX8_man_47 : decode cX8_man 47 = .ok (.ireturn, 1) := by decide +kernel
theorem dX8_man_48 : decode cX8_man 48 = .ok (.aload_n 0, 1) := by decide +kernel
theorem dX8_man_49 : decode cX8_man 49 = .ok (.getfield 19, 3) := by decide +kernel
theorem dX8_man_52 : decode cX8_man 52 = .ok (.invokevirtual 62, 3) := by decide +kernel
theorem dX8_man_55 : decode cX8_man 55 = .ok (.istore 7, 2) := by decide +kernel
theorem dX8_man_57 : decode cX8_man 57 = .ok (.iload_n 1, 1) := by decide +kernel
theorem dX8_man_58 : decode cX8_man 58 = .ok (.iload 7, 2) := by decide +kernel
theorem dX8_man_60 : decode cX8_man 60 = .ok (.iload_n 2, 1) := by decide +kernel
theorem dX8_man_61 : decode cX8_man 61 = .ok (.aload 5, 2) := by decide +kernel
theorem dX8_man_63 : decode cX8_man 63 = .ok (.aload 6, 2) := by decide +kernel
theorem dX8_man_65 : decode cX8_man 65 = .ok (.invokestatic 91, 3) := by decide +kernel
theorem dX8_man_68 : decode cX8_man 68 = .ok (.astore 8, 2) := by decide +kernel
theorem dX8_man_70 : decode cX8_man 70 = .ok (.aload 8, 2) := by decide +kernel
theorem dX8_man_72 : decode cX8_man 72 = .ok (.aload 6, 2) := by decide +kernel
theorem dX8_man_74 : decode cX8_man 74 = .ok (.invokevirtual 95, 3) := by decide +kernel
theorem dX8_man_77 : decode cX8_man 77 = .ok (.ifCond .ne 6, 3) := by decide +kernel
theorem dX8_man_80 : decode cX8_man 80 = .ok (.bipush (-2), 2) := by decide +kernel
theorem dX8_man_82 : decode cX8_man 82 = .ok (.ireturn, 1) := by decide +kernel
theorem dX8_man_83 : decode cX8_man 83 = .ok (.iload 7, 2) := by decide +kernel
theorem dX8_man_85 : decode cX8_man 85 = .ok (.bipush 10, 2) := by decide +kernel
theorem dX8_man_87 : decode cX8_man 87 = .ok (.if_icmp .lt 6, 3) := by decide +kernel
theorem dX8_man_90 : decode cX8_man 90 = .ok (.bipush (-3), 2) := by decide +kernel
theorem dX8_man_92 : decode cX8_man 92 = .ok (.ireturn, 1) := by decide +kernel
theorem dX8_man_93 : decode cX8_man 93 = .ok (.aload_n 0, 1) := by decide +kernel
theorem dX8_man_94 : decode cX8_man 94 = .ok (.getfield 19, 3) := by decide +kernel
theorem dX8_man_97 : decode cX8_man 97 = .ok (.aload 8, 2) := by decide +kernel
theorem dX8_man_99 : decode cX8_man 99 = .ok (.invokevirtual 71, 3) := by decide +kernel
theorem dX8_man_102 : decode cX8_man 102 = .ok (.pop, 1) := by decide +kernel
theorem dX8_man_103 : decode cX8_man 103 = .ok (.aload 8, 2) := by decide +kernel
theorem dX8_man_105 : decode cX8_man 105 = .ok (.invokevirtual 101, 3) := by decide +kernel
theorem dX8_man_108 : decode cX8_man 108 = .ok (.iload 7, 2) := by decide +kernel
theorem dX8_man_110 : decode cX8_man 110 = .ok (.ireturn, 1) := by decide +kernel
theorem dX8_right_0 : decode cX8_right 0 = .ok (.aload_n 0, 1) := by decide +kernel
theorem dX8_right_1 : decode cX8_right 1 = .ok (.iload_n 1, 1) := by decide +kernel
theorem dX8_right_2 : decode cX8_right 2 = .ok (.invokevirtual 104, 3) := by decide +kernel
theorem dX8_right_5 : decode cX8_right 5 = .ok (.astore_n 3, 1) := by decide +kernel
theorem dX8_right_6 : decode cX8_right 6 = .ok (.aload_n 3, 1) := by decide +kernel
theorem dX8_right_7 : decode cX8_right 7 = .ok (.ifnull 12, 3) := by decide +kernel
theorem dX8_right_10 : decode cX8_right 10 = .ok (.iload_n 2, 1) := by decide +kernel
theorem dX8_right_11 : decode cX8_right 11 = .ok (.iconst 0, 1) := by decide +kernel
theorem dX8_right_12 : decode cX8_right 12 = .ok (.iconst 3, 1) := by decide +kernel
theorem dX8_right_13 : decode cX8_right 13 = .ok (.invokestatic 54, 3) := by decide +kernel
theorem dX8_right_16 : decode cX8_right 16 = .ok (.ifCond .eq 5, 3) := by decide +kernel
theorem dX8_right_19 : decode cX8_right 19 = .ok (.iconst (-1), 1) := by decide +kernel
theorem dX8_right_20 : decode cX8_right 20 = .ok (.ireturn, 1) := by decide +kernel
theorem dX8_right_21 : decode cX8_right 21 = .ok (.aload_n 3, 1) := by decide +kernel
theorem dX8_right_22 : decode cX8_right 22 = .ok (.getfield 108, 3) := by decide +kernel
theorem dX8_right_25 : decode cX8_right 25 = .ok (.istore 4, 2) := by decide +kernel
theorem dX8_right_27 : decode cX8_right 27 = .ok (.aload_n 3, 1) := by decide +kernel
theorem dX8_right_28 : decode cX8_right 28 = .ok (.iload_n 2, 1) := by decide +kernel
theorem dX8_right_29 : decode cX8_right 29 = .ok (.putfield 108, 3) := by decide +kernel
theorem dX8_right_32 : decode cX8_right 32 = .ok (.iload 4, 2) := by decide +kernel
theorem dX8_right_34 : decode cX8_right 34 = .ok (.ireturn, 1) := by decide +kernel
theorem dX8_pace_0 : decode cX8_pace 0 = .ok (.aload_n 0, 1) := by decide +kernel
theorem dX8_pace_1 : decode cX8_pace 1 = .ok (.iload_n 1, 1) := by decide +kernel
theorem dX8_pace_2 : decode cX8_pace 2 = .ok (.invokevirtual 104, 3) := by decide +kernel
theorem dX8_pace_5 : decode cX8_pace 5 = .ok (.astore_n 3, 1) := by decide +kernel
theorem dX8_pace_6 : decode cX8_pace 6 = .ok (.aload_n 3, 1) := by decide +kernel
theorem dX8_pace_7 : decode cX8_pace 7 = .ok (.ifnull 12, 3) := by decide +kernel
theorem dX8_pace_10 : decode cX8_pace 10 = .ok (.iload_n 2, 1) := by decide +kernel
theorem dX8_pace_11 : decode cX8_pace 11 = .ok (.iconst 1, 1) := by decide +kernel
theorem dX8_pace_12 : decode cX8_pace 12 = .ok (.iconst 5, 1) := by decide +kernel
theorem dX8_pace_13 : decode cX8_pace 13 = .ok (.invokestatic 54, 3) := by decide +kernel
theorem dX8_pace_16 : decode cX8_pace 16 = .ok (.ifCond .eq 5, 3) := by decide +kernel
theorem dX8_pace_19 : decode cX8_pace 19 = .ok (.iconst (-1), 1) := by decide +kernel
theorem dX8_pace_20 : decode cX8_pace 20 = .ok (.ireturn, 1) := by decide +kernel
theorem dX8_pace_21 : decode cX8_pace 21 = .ok (.aload_n 3, 1) := by decide +kernel
theorem dX8_pace_22 : decode cX8_pace 22 = .ok (.instanceof 111, 3) := by decide +kernel
theorem dX8_pace_25 : decode cX8_pace 25 = .ok (.ifCond .eq 25, 3) := by decide +kernel
theorem dX8_pace_28 : decode cX8_pace 28 = .ok (.aload_n 3, 1) := by decide +kernel
theorem dX8_pace_29 : decode cX8_pace 29 = .ok (.checkcast 111, 3) := by decide +kernel
theorem dX8_pace_32 : decode cX8_pace 32 = .ok (.astore 4, 2) := by decide +kernel
theorem dX8_pace_34 : decode cX8_pace 34 = .ok (.aload 4, 2) := by decide +kernel
theorem dX8_pace_36 : decode cX8_pace 36 = .ok (.getfield 113, 3) := by decide +kernel
theorem dX8_pace_39 : decode cX8_pace 39 = .ok (.istore 5, 2) := by decide +kernel
theorem dX8_pace_41 : decode cX8_pace 41 = .ok (.aload 4, 2) := by decide +kernel
theorem dX8_pace_43 : decode cX8_pace 43 = .ok (.iload_n 2, 1) := by decide +kernel
theorem dX8_pace_44 : decode cX8_pace 44 = .ok (.putfield 113, 3) := by decide +kernel
theorem dX8_pace_47 : decode cX8_pace 47 = .ok (.iload 5, 2) := by decide +kernel
theorem dX8_pace_49 : decode cX8_pace 49 = .ok (.ireturn, 1) := by decide +kernel
theorem dX8_pace_50 : decode cX8_pace 50 = .ok (.bipush (-13), 2) := by decide +kernel
theorem dX8_pace_52 : decode cX8_pace 52 = .ok (.ireturn, 1) := by decide +kernel
theorem dX8_moves_0 : decode cX8_moves 0 = .ok (.aload_n 0, 1) := by decide +kernel
theorem dX8_moves_1 : decode cX8_moves 1 = .ok (.iload_n 1, 1) := by decide +kernel
theorem dX8_moves_2 : decode cX8_moves 2 = .ok (.invokevirtual 104, 3) := by decide +kernel
theorem dX8_moves_5 : decode cX8_moves 5 = .ok (.astore 4, 2) := by decide +kernel
theorem dX8_moves_7 : decode cX8_moves 7 = .ok (.aload_n 0, 1) := by decide +kernel
theorem dX8_moves_8 : decode cX8_moves 8 = .ok (.iload_n 2, 1) := by decide +kernel
theorem dX8_moves_9 : decode cX8_moves 9 = .ok (.invokevirtual 87, 3) := by decide +kernel
theorem dX8_moves_12 : decode cX8_moves 12 = .ok (.astore 5, 2) := by decide +kernel
theorem dX8_moves_14 : decode cX8_moves 14 = .ok (.aload_n 0, 1) := by decide +kernel
theorem dX8_moves_15 : decode cX8_moves 15 = .ok (.iload_n 3, 1) := by decide +kernel
theorem dX8_moves_16 : decode cX8_moves 16 = .ok (.invokevirtual 80, 3) := by decide +kernel
theorem dX8_moves_19 : decode cX8_moves 19 = .ok (.astore 6, 2) := by decide +kernel
theorem dX8_moves_21 : decode cX8_moves 21 = .ok (.aload 4, 2) := by decide +kernel
theorem dX8_moves_23 : decode cX8_moves 23 = .ok (.ifnull 13, 3) := by decide +kernel
theorem dX8_moves_26 : decode cX8_moves 26 = .ok (.aload 5, 2) := by decide +kernel
theorem dX8_moves_28 : decode cX8_moves 28 = .ok (.ifnull 8, 3) := by decide +kernel
theorem dX8_moves_31 : decode cX8_moves 31 = .ok (.aload 6, 2) := by decide +kernel
theorem dX8_moves_33 : decode cX8_moves 33 = .ok (.ifnonnull 5, 3) := by decide +kernel
theorem dX8_moves_36 : decode cX8_moves 36 = .ok (.iconst (-1), 1) := by decide +kernel
theorem dX8_moves_37 : decode cX8_moves 37 = .ok (.ireturn, 1) := by decide +kernel
theorem dX8_moves_38 : decode cX8_moves 38 = .ok (.aload 4, 2) := by decide +kernel
theorem dX8_moves_40 : decode cX8_moves 40 = .ok (.getfield 116, 3) := by decide +kernel
theorem dX8_moves_43 : decode cX8_moves 43 = .ok (.ifCond .ne 13, 3) := by decide +kernel
theorem dX8_moves_46 : decode cX8_moves 46 = .ok (.aload 4, 2) := by decide +kernel
theorem dX8_moves_48 : decode cX8_moves 48 = .ok (.aload 6, 2) := by decide +kernel
theorem dX8_moves_50 : decode cX8_moves 50 = .ok (.invokevirtual 95, 3) := by decide +kernel
theorem dX8_moves_53 : decode cX8_moves 53 = .ok (.ifCond .ne 6, 3) := by decide +kernel
theorem dX8_moves_56 : decode cX8_moves 56 = .ok (.bipush (-2), 2) := by decide +kernel
theorem dX8_moves_58 : decode cX8_moves 58 = .ok (.ireturn, 1) := by decide +kernel
theorem dX8_moves_59 : decode cX8_moves 59 = .ok (.aload 4, 2) := by decide +kernel
theorem dX8_moves_61 : decode cX8_moves 61 = .ok (.invokevirtual 119, 3) := by decide +kernel
theorem dX8_moves_64 : decode cX8_moves 64 = .ok (.aload 4, 2) := by decide +kernel
theorem dX8_moves_66 : decode cX8_moves 66 = .ok (.aload 5, 2) := by decide +kernel
theorem dX8_moves_68 : decode cX8_moves 68 = .ok (.putfield 122, 3) := by decide +kernel
theorem dX8_moves_71 : decode cX8_moves 71 = .ok (.aload 4, 2) := by decide +kernel
theorem dX8_moves_73 : decode cX8_moves 73 = .ok (.aload 6, 2) := by decide +kernel
theorem dX8_moves_75 : decode cX8_moves 75 = .ok (.putfield 126, 3) := by decide +kernel
theorem dX8_moves_78 : decode cX8_moves 78 = .ok (.aload 4, 2) := by decide +kernel
theorem dX8_moves_80 : decode cX8_moves 80 = .ok (.invokevirtual 101, 3) := by decide +kernel
theorem dX8_moves_83 : decode cX8_moves 83 = .ok (.iconst 1, 1) := by decide +kernel
theorem dX8_moves_84 : decode cX8_moves 84 = .ok (.ireturn, 1) := by decide +kernel
theorem dX8_open_0 : decode cX8_open 0 = .ok (.aload_n 0, 1) := by decide +kernel
theorem dX8_open_1 : decode cX8_open 1 = .ok (.iload_n 1, 1) := by decide +kernel
theorem dX8_open_2 : decode cX8_open 2 = .ok (.invokevirtual 87, 3) := by decide +kernel
theorem dX8_open_5 : decode cX8_open 5 = .ok (.astore_n 3, 1) := by decide +kernel
theorem dX8_open_6 : decode cX8_open 6 = .ok (.aload_n 3, 1) := by decide +kernel
theorem dX8_open_7 : decode cX8_open 7 = .ok (.ifnonnull 5, 3) := by decide +kernel
theorem dX8_open_10 : decode cX8_open 10 = .ok (.iconst (-1), 1) := by decide +kernel
theorem dX8_open_11 : decode cX8_open 11 = .ok (.ireturn, 1) := by decide +kernel
theorem dX8_open_12 : decode cX8_open 12 = .ok (.aload_n 3, 1) := by decide +kernel
theorem dX8_open_13 : decode cX8_open 13 = .ok (.getfield 130, 3) := by decide +kernel
theorem dX8_open_16 : decode cX8_open 16 = .ok (.ifCond .eq 7, 3) := by decide +kernel
theorem dX8_open_19 : decode cX8_open 19 = .ok (.iconst 1, 1) := by decide +kernel
theorem dX8_open_20 : decode cX8_open 20 = .ok (.goto 4, 3) := by decide +kernel
theorem dX8_open_23 : decode cX8_open 23 = .ok (.iconst 0, 1) := by decide +kernel
theorem dX8_open_24 : decode cX8_open 24 = .ok (.istore 4, 2) := by decide +kernel
theorem dX8_open_26 : decode cX8_open 26 = .ok (.aload_n 3, 1) := by decide +kernel
theorem dX8_open_27 : decode cX8_open 27 = .ok (.iload_n 2, 1) := by decide +kernel
theorem dX8_open_28 : decode cX8_open 28 = .ok (.putfield 130, 3) := by decide +kernel
theorem dX8_open_31 : decode cX8_open 31 = .ok (.iload 4, 2) := by decide +kernel
theorem dX8_open_33 : decode cX8_open 33 = .ok (.ireturn, 1) := by decide +kernel
theorem dX8_drought_0 : decode cX8_drought 0 = .ok (.iload_n 1, 1) := by decide +kernel
theorem dX8_drought_1 : decode cX8_drought 1 = .ok (.iconst 0, 1) := by decide +kernel
theorem dX8_drought_2 : decode cX8_drought 2 = .ok (.bipush 100, 2) := by decide +kernel
theorem dX8_drought_4 : decode cX8_drought 4 = .ok (.invokestatic 54, 3) := by decide +kernel
theorem dX8_drought_7 : decode cX8_drought 7 = .ok (.ifCond .eq 5, 3) := by decide +kernel
theorem dX8_drought_10 : decode cX8_drought 10 = .ok (.iconst (-1), 1) := by decide +kernel
theorem dX8_drought_11 : decode cX8_drought 11 = .ok (.ireturn, 1) := by decide +kernel
theorem dX8_drought_12 : decode cX8_drought 12 = .ok (.aload_n 0, 1) := by decide +kernel
theorem dX8_drought_13 : decode cX8_drought 13 = .ok (.getfield 51, 3) := by decide +kernel
theorem dX8_drought_16 : decode cX8_drought 16 = .ok (.istore_n 2, 1) := by decide +kernel
theorem dX8_drought_17 : decode cX8_drought 17 = .ok (.aload_n 0, 1) := by decide +kernel
theorem dX8_drought_18 : decode cX8_drought 18 = .ok (.iload_n 1, 1) := by decide +kernel
theorem dX8_drought_19 : decode cX8_drought 19 = .ok (.putfield 51, 3) := by decide +kernel
theorem dX8_drought_22 : decode cX8_drought 22 = .ok (.iload_n 2, 1) := by decide +kernel
theorem dX8_drought_23 : decode cX8_drought 23 = .ok (.ireturn, 1) := by decide +kernel
theorem dX8_type_0 : decode cX8_type 0 = .ok (.aload_n 0, 1) := by decide +kernel
theorem dX8_type_1 : decode cX8_type 1 = .ok (.getfield 25, 3) := by decide +kernel
theorem dX8_type_4 : decode cX8_type 4 = .ok (.lload_n 1, 1) := by decide +kernel
theorem dX8_type_5 : decode cX8_type 5 = .ok (.iload_n 3, 1) := by decide +kernel
theorem dX8_type_6 : decode cX8_type 6 = .ok (.invokevirtual 134, 3) := by decide +kernel
theorem dX8_type_9 : decode cX8_type 9 = .ok (.ireturn, 1) := by decide +kernel
theorem dX8_fares_0 : decode cX8_fares 0 = .ok (.aload_n 0, 1) := by decide +kernel
theorem dX8_fares_1 : decode cX8_fares 1 = .ok (.getfield 25, 3) := by decide +kernel
theorem dX8_fares_4 : decode cX8_fares 4 = .ok (.invokevirtual 138, 3) := by decide +kernel
theorem dX8_fares_7 : decode cX8_fares 7 = .ok (.ireturn, 1) := by decide +kernel
theorem dX8_fare_0 : decode cX8_fare 0 = .ok (.aload_n 0, 1) := by decide +kernel
theorem dX8_fare_1 : decode cX8_fare 1 = .ok (.getfield 25, 3) := by decide +kernel
theorem dX8_fare_4 : decode cX8_fare 4 = .ok (.iload_n 1, 1) := by decide +kernel
theorem dX8_fare_5 : decode cX8_fare 5 = .ok (.invokevirtual 141, 3) := by decide +kernel
theorem dX8_fare_8 : decode cX8_fare 8 = .ok (.ireturn, 1) := by decide +kernel
theorem dX8_run_0 : decode cX8_run 0 = .ok (.iload_n 1, 1) := by decide +kernel
theorem dX8_run_1 : decode cX8_run 1 = .ok (.iconst 1, 1) := by decide +kernel
theorem dX8_run_2 : decode cX8_run 2 = .ok (.sipush 500, 3) := by decide +kernel
theorem dX8_run_5 : decode cX8_run 5 = .ok (.invokestatic 54, 3) := by decide +kernel
theorem dX8_run_8 : decode cX8_run 8 = .ok (.ifCond .eq 5, 3) := by decide +kernel
theorem dX8_run_11 : decode cX8_run 11 = .ok (.iconst (-1), 1) := by decide +kernel
theorem dX8_run_12 : decode cX8_run 12 = .ok (.ireturn, 1) := by decide +kernel
theorem dX8_run_13 : decode cX8_run 13 = .ok (.aload_n 0, 1) := by decide +kernel
theorem dX8_run_14 : decode cX8_run 14 = .ok (.getfield 47, 3) := by decide +kernel
theorem dX8_run_17 : decode cX8_run 17 = .ok (.iload_n 1, 1) := by decide +kernel
theorem dX8_run_18 : decode cX8_run 18 = .ok (.iadd, 1) := by decide +kernel
theorem dX8_run_19 : decode cX8_run 19 = .ok (.sipush 20000, 3) := by decide +kernel
theorem dX8_run_22 : decode cX8_run 22 = .ok (.if_icmp .le 6, 3) := by decide +kernel
theorem dX8_run_25 : decode cX8_run 25 = .ok (.bipush (-3), 2) := by decide +kernel
theorem dX8_run_27 : decode cX8_run 27 = .ok (.ireturn, 1) := by decide +kernel
theorem dX8_run_28 : decode cX8_run 28 = .ok (.iconst 0, 1) := by decide +kernel
theorem dX8_run_29 : decode cX8_run 29 = .ok (.istore_n 2, 1) := by decide +kernel
theorem dX8_run_30 : decode cX8_run 30 = .ok (.iload_n 2, 1) := by decide +kernel
theorem dX8_run_31 : decode cX8_run 31 = .ok (.iload_n 1, 1) := by decide +kernel
theorem dX8_run_32 : decode cX8_run 32 = .ok (.if_icmp .ge 13, 3) := by decide +kernel
theorem dX8_run_35 : decode cX8_run 35 = .ok (.aload_n 0, 1) := by decide +kernel
theorem dX8_run_36 : decode cX8_run 36 = .ok (.invokevirtual 145, 3) := by decide +kernel
theorem dX8_run_39 : decode cX8_run 39 = .ok (.iinc 2 1, 3) := by decide +kernel
theorem dX8_run_42 : decode cX8_run 42 = .ok (.goto (-12), 3) := by decide +kernel
theorem dX8_run_45 : decode cX8_run 45 = .ok (.aload_n 0, 1) := by decide +kernel
theorem dX8_run_46 : decode cX8_run 46 = .ok (.getfield 47, 3) := by decide +kernel
theorem dX8_run_49 : decode cX8_run 49 = .ok (.ireturn, 1) := by decide +kernel
theorem dX8_told_0 : decode cX8_told 0 = .ok (.aload_n 0, 1) := by decide +kernel
theorem dX8_told_1 : decode cX8_told 1 = .ok (.iload_n 1, 1) := by decide +kernel
theorem dX8_told_2 : decode cX8_told 2 = .ok (.invokevirtual 104, 3) := by decide +kernel
theorem dX8_told_5 : decode cX8_told 5 = .ok (.astore_n 3, 1) := by decide +kernel
theorem dX8_told_6 : decode cX8_told 6 = .ok (.aload_n 3, 1) := by decide +kernel
theorem dX8_told_7 : decode cX8_told 7 = .ok (.ifnonnull 5, 3) := by decide +kernel
theorem dX8_told_10 : decode cX8_told 10 = .ok (.iconst (-1), 1) := by decide +kernel
theorem dX8_told_11 : decode cX8_told 11 = .ok (.ireturn, 1) := by decide +kernel
theorem dX8_told_12 : decode cX8_told 12 = .ok (.iload_n 2, 1) := by decide +kernel
theorem dX8_told_13 : decode cX8_told 13 = .ok (.tableswitch 128 0 8 #[51, 56, 79, 84, 89, 97, 105, 114, 123], 51) := by decide +kernel
theorem dX8_told_64 : decode cX8_told 64 = .ok (.aload_n 3, 1) := by decide +kernel
theorem dX8_told_65 : decode cX8_told 65 = .ok (.getfield 116, 3) := by decide +kernel
theorem dX8_told_68 : decode cX8_told 68 = .ok (.ireturn, 1) := by decide +kernel
theorem dX8_told_69 : decode cX8_told 69 = .ok (.aload_n 3, 1) := by decide +kernel
theorem dX8_told_70 : decode cX8_told 70 = .ok (.getfield 116, 3) := by decide +kernel
theorem dX8_told_73 : decode cX8_told 73 = .ok (.ifCond .ne 14, 3) := by decide +kernel
theorem dX8_told_76 : decode cX8_told 76 = .ok (.aload_n 3, 1) := by decide +kernel
theorem dX8_told_77 : decode cX8_told 77 = .ok (.getfield 122, 3) := by decide +kernel
theorem dX8_told_80 : decode cX8_told 80 = .ok (.aload_n 3, 1) := by decide +kernel
theorem dX8_told_81 : decode cX8_told 81 = .ok (.invokevirtual 148, 3) := by decide +kernel
theorem dX8_told_84 : decode cX8_told 84 = .ok (.goto 7, 3) := by decide +kernel
theorem dX8_told_87 : decode cX8_told 87 = .ok (.aload_n 3, 1) := by decide +kernel
theorem dX8_told_88 : decode cX8_told 88 = .ok (.getfield 152, 3) := by decide +kernel
theorem dX8_told_91 : decode cX8_told 91 = .ok (.ireturn, 1) := by decide +kernel
theorem dX8_told_92 : decode cX8_told 92 = .ok (.aload_n 3, 1) := by decide +kernel
theorem dX8_told_93 : decode cX8_told 93 = .ok (.getfield 155, 3) := by decide +kernel
theorem dX8_told_96 : decode cX8_told 96 = .ok (.ireturn, 1) := by decide +kernel
theorem dX8_told_97 : decode cX8_told 97 = .ok (.aload_n 3, 1) := by decide +kernel
theorem dX8_told_98 : decode cX8_told 98 = .ok (.getfield 158, 3) := by decide +kernel
theorem dX8_told_101 : decode cX8_told 101 = .ok (.ireturn, 1) := by decide +kernel
theorem dX8_told_102 : decode cX8_told 102 = .ok (.aload_n 3, 1) := by decide +kernel
theorem dX8_told_103 : decode cX8_told 103 = .ok (.getfield 122, 3) := by decide +kernel
theorem dX8_told_106 : decode cX8_told 106 = .ok (.getfield 161, 3) := by decide +kernel
theorem dX8_told_109 : decode cX8_told 109 = .ok (.ireturn, 1) := by decide +kernel
theorem dX8_told_110 : decode cX8_told 110 = .ok (.aload_n 3, 1) := by decide +kernel
theorem dX8_told_111 : decode cX8_told 111 = .ok (.getfield 126, 3) := by decide +kernel
theorem dX8_told_114 : decode cX8_told 114 = .ok (.getfield 164, 3) := by decide +kernel
theorem dX8_told_117 : decode cX8_told 117 = .ok (.ireturn, 1) := by decide +kernel
theorem dX8_told_118 : decode cX8_told 118 = .ok (.aload_n 3, 1) := by decide +kernel
theorem dX8_told_119 : decode cX8_told 119 = .ok (.aload_n 3, 1) := by decide +kernel
theorem dX8_told_120 : decode cX8_told 120 = .ok (.getfield 126, 3) := by decide +kernel
theorem dX8_told_123 : decode cX8_told 123 = .ok (.invokevirtual 165, 3) := by decide +kernel
theorem dX8_told_126 : decode cX8_told 126 = .ok (.ireturn, 1) := by decide +kernel
theorem dX8_told_127 : decode cX8_told 127 = .ok (.aload_n 3, 1) := by decide +kernel
theorem dX8_told_128 : decode cX8_told 128 = .ok (.aload_n 3, 1) := by decide +kernel
theorem dX8_told_129 : decode cX8_told 129 = .ok (.getfield 126, 3) := by decide +kernel
theorem dX8_told_132 : decode cX8_told 132 = .ok (.invokevirtual 169, 3) := by decide +kernel
theorem dX8_told_135 : decode cX8_told 135 = .ok (.ireturn, 1) := by decide +kernel
theorem dX8_told_136 : decode cX8_told 136 = .ok (.aload_n 3, 1) := by decide +kernel
theorem dX8_told_137 : decode cX8_told 137 = .ok (.invokevirtual 172, 3) := by decide +kernel
theorem dX8_told_140 : decode cX8_told 140 = .ok (.ireturn, 1) := by decide +kernel
theorem dX8_told_141 : decode cX8_told 141 = .ok (.iconst (-1), 1) := by decide +kernel
theorem dX8_told_142 : decode cX8_told 142 = .ok (.ireturn, 1) := by decide +kernel
theorem dX8_water_0 : decode cX8_water 0 = .ok (.iload_n 2, 1) := by decide +kernel
theorem dX8_water_1 : decode cX8_water 1 = .ok (.ifCond .eq 8, 3) := by decide +kernel
theorem dX8_water_4 : decode cX8_water 4 = .ok (.iload_n 2, 1) := by decide +kernel
theorem dX8_water_5 : decode cX8_water 5 = .ok (.iconst 2, 1) := by decide +kernel
theorem dX8_water_6 : decode cX8_water 6 = .ok (.if_icmp .ne 31, 3) := by decide +kernel
theorem dX8_water_9 : decode cX8_water 9 = .ok (.aload_n 0, 1) := by decide +kernel
theorem dX8_water_10 : decode cX8_water 10 = .ok (.iload_n 1, 1) := by decide +kernel
theorem dX8_water_11 : decode cX8_water 11 = .ok (.invokevirtual 87, 3) := by decide +kernel
theorem dX8_water_14 : decode cX8_water 14 = .ok (.astore_n 3, 1) := by decide +kernel
theorem dX8_water_15 : decode cX8_water 15 = .ok (.aload_n 3, 1) := by decide +kernel
theorem dX8_water_16 : decode cX8_water 16 = .ok (.ifnonnull 5, 3) := by decide +kernel
theorem dX8_water_19 : decode cX8_water 19 = .ok (.iconst (-1), 1) := by decide +kernel
theorem dX8_water_20 : decode cX8_water 20 = .ok (.ireturn, 1) := by decide +kernel
theorem dX8_water_21 : decode cX8_water 21 = .ok (.iload_n 2, 1) := by decide +kernel
theorem dX8_water_22 : decode cX8_water 22 = .ok (.ifCond .ne 10, 3) := by decide +kernel
theorem dX8_water_25 : decode cX8_water 25 = .ok (.aload_n 3, 1) := by decide +kernel
theorem dX8_water_26 : decode cX8_water 26 = .ok (.getfield 175, 3) := by decide +kernel
theorem dX8_water_29 : decode cX8_water 29 = .ok (.goto 7, 3) := by decide +kernel
theorem dX8_water_32 : decode cX8_water 32 = .ok (.aload_n 3, 1) := by decide +kernel
theorem dX8_water_33 : decode cX8_water 33 = .ok (.getfield 178, 3) := by decide +kernel
theorem dX8_water_36 : decode cX8_water 36 = .ok (.ireturn, 1) := by decide +kernel
theorem dX8_water_37 : decode cX8_water 37 = .ok (.iload_n 2, 1) := by decide +kernel
theorem dX8_water_38 : decode cX8_water 38 = .ok (.iconst 1, 1) := by decide +kernel
theorem dX8_water_39 : decode cX8_water 39 = .ok (.if_icmp .eq 8, 3) := by decide +kernel
theorem dX8_water_42 : decode cX8_water 42 = .ok (.iload_n 2, 1) := by decide +kernel
theorem dX8_water_43 : decode cX8_water 43 = .ok (.iconst 3, 1) := by decide +kernel
theorem dX8_water_44 : decode cX8_water 44 = .ok (.if_icmp .ne 32, 3) := by decide +kernel
theorem dX8_water_47 : decode cX8_water 47 = .ok (.aload_n 0, 1) := by decide +kernel
theorem dX8_water_48 : decode cX8_water 48 = .ok (.iload_n 1, 1) := by decide +kernel
theorem dX8_water_49 : decode cX8_water 49 = .ok (.invokevirtual 80, 3) := by decide +kernel
theorem dX8_water_52 : decode cX8_water 52 = .ok (.astore_n 3, 1) := by decide +kernel
theorem dX8_water_53 : decode cX8_water 53 = .ok (.aload_n 3, 1) := by decide +kernel
theorem dX8_water_54 : decode cX8_water 54 = .ok (.ifnonnull 5, 3) := by decide +kernel
theorem dX8_water_57 : decode cX8_water 57 = .ok (.iconst (-1), 1) := by decide +kernel
theorem dX8_water_58 : decode cX8_water 58 = .ok (.ireturn, 1) := by decide +kernel
theorem dX8_water_59 : decode cX8_water 59 = .ok (.iload_n 2, 1) := by decide +kernel
theorem dX8_water_60 : decode cX8_water 60 = .ok (.iconst 1, 1) := by decide +kernel
theorem dX8_water_61 : decode cX8_water 61 = .ok (.if_icmp .ne 10, 3) := by decide +kernel
theorem dX8_water_64 : decode cX8_water 64 = .ok (.aload_n 3, 1) := by decide +kernel
theorem dX8_water_65 : decode cX8_water 65 = .ok (.getfield 181, 3) := by decide +kernel
theorem dX8_water_68 : decode cX8_water 68 = .ok (.goto 7, 3) := by decide +kernel
theorem dX8_water_71 : decode cX8_water 71 = .ok (.aload_n 3, 1) := by decide +kernel
theorem dX8_water_72 : decode cX8_water 72 = .ok (.getfield 182, 3) := by decide +kernel
theorem dX8_water_75 : decode cX8_water 75 = .ok (.ireturn, 1) := by decide +kernel
theorem dX8_water_76 : decode cX8_water 76 = .ok (.iconst (-1), 1) := by decide +kernel
theorem dX8_water_77 : decode cX8_water 77 = .ok (.ireturn, 1) := by decide +kernel
theorem dX8_sum_0 : decode cX8_sum 0 = .ok (.iload_n 1, 1) := by decide +kernel
theorem dX8_sum_1 : decode cX8_sum 1 = .ok (.bipush 7, 2) := by decide +kernel
theorem dX8_sum_3 : decode cX8_sum 3 = .ok (.if_icmp .ne 9, 3) := by decide +kernel
theorem dX8_sum_6 : decode cX8_sum 6 = .ok (.aload_n 0, 1) := by decide +kernel
theorem dX8_sum_7 : decode cX8_sum 7 = .ok (.getfield 47, 3) := by decide +kernel
theorem dX8_sum_10 : decode cX8_sum 10 = .ok (.i2l, 1) := by decide +kernel
theorem dX8_sum_11 : decode cX8_sum 11 = .ok (.lreturn, 1) := by decide +kernel
theorem dX8_sum_12 : decode cX8_sum 12 = .ok (.iload_n 1, 1) := by decide +kernel
theorem dX8_sum_13 : decode cX8_sum 13 = .ok (.ifCond .lt 12, 3) := by decide +kernel
theorem dX8_sum_16 : decode cX8_sum 16 = .ok (.iload_n 1, 1) := by decide +kernel
theorem dX8_sum_17 : decode cX8_sum 17 = .ok (.aload_n 0, 1) := by decide +kernel
theorem dX8_sum_18 : decode cX8_sum 18 = .ok (.getfield 43, 3) := by decide +kernel
theorem dX8_sum_21 : decode cX8_sum 21 = .ok (.arraylength, 1) := by decide +kernel
theorem dX8_sum_22 : decode cX8_sum 22 = .ok (.if_icmp .lt 7, 3) := by decide +kernel
theorem dX8_sum_25 : decode cX8_sum 25 = .ok (.ldc2_w 185, 3) := by decide +kernel
theorem dX8_sum_28 : decode cX8_sum 28 = .ok (.lreturn, 1) := by decide +kernel
theorem dX8_sum_29 : decode cX8_sum 29 = .ok (.aload_n 0, 1) := by decide +kernel
theorem dX8_sum_30 : decode cX8_sum 30 = .ok (.getfield 43, 3) := by decide +kernel
theorem dX8_sum_33 : decode cX8_sum 33 = .ok (.iload_n 1, 1) := by decide +kernel
theorem dX8_sum_34 : decode cX8_sum 34 = .ok (.laload, 1) := by decide +kernel
theorem dX8_sum_35 : decode cX8_sum 35 = .ok (.lreturn, 1) := by decide +kernel
theorem dX8_fire_0 : decode cX8_fire 0 = .ok (.aload_n 0, 1) := by decide +kernel
theorem dX8_fire_1 : decode cX8_fire 1 = .ok (.iload_n 1, 1) := by decide +kernel
theorem dX8_fire_2 : decode cX8_fire 2 = .ok (.invokevirtual 80, 3) := by decide +kernel
theorem dX8_fire_5 : decode cX8_fire 5 = .ok (.astore_n 3, 1) := by decide +kernel
theorem dX8_fire_6 : decode cX8_fire 6 = .ok (.aload_n 3, 1) := by decide +kernel
theorem dX8_fire_7 : decode cX8_fire 7 = .ok (.ifnull 13, 3) := by decide +kernel
theorem dX8_fire_10 : decode cX8_fire 10 = .ok (.iload_n 2, 1) := by decide +kernel
theorem dX8_fire_11 : decode cX8_fire 11 = .ok (.iconst 0, 1) := by decide +kernel
theorem dX8_fire_12 : decode cX8_fire 12 = .ok (.bipush 60, 2) := by decide +kernel
theorem dX8_fire_14 : decode cX8_fire 14 = .ok (.invokestatic 54, 3) := by decide +kernel
theorem dX8_fire_17 : decode cX8_fire 17 = .ok (.ifCond .eq 5, 3) := by decide +kernel
theorem dX8_fire_20 : decode cX8_fire 20 = .ok (.iconst (-1), 1) := by decide +kernel
theorem dX8_fire_21 : decode cX8_fire 21 = .ok (.ireturn, 1) := by decide +kernel
theorem dX8_fire_22 : decode cX8_fire 22 = .ok (.iconst 0, 1) := by decide +kernel
theorem dX8_fire_23 : decode cX8_fire 23 = .ok (.istore 4, 2) := by decide +kernel
theorem dX8_fire_25 : decode cX8_fire 25 = .ok (.iconst 0, 1) := by decide +kernel
theorem dX8_fire_26 : decode cX8_fire 26 = .ok (.istore 5, 2) := by decide +kernel
theorem dX8_fire_28 : decode cX8_fire 28 = .ok (.iload 5, 2) := by decide +kernel
theorem dX8_fire_30 : decode cX8_fire 30 = .ok (.aload_n 0, 1) := by decide +kernel
theorem dX8_fire_31 : decode cX8_fire 31 = .ok (.getfield 19, 3) := by decide +kernel
theorem dX8_fire_34 : decode cX8_fire 34 = .ok (.invokevirtual 62, 3) := by decide +kernel
theorem dX8_fire_37 : decode cX8_fire 37 = .ok (.if_icmp .ge 71, 3) := by decide +kernel
theorem dX8_fire_40 : decode cX8_fire 40 = .ok (.aload_n 0, 1) := by decide +kernel
theorem dX8_fire_41 : decode cX8_fire 41 = .ok (.getfield 19, 3) := by decide +kernel
theorem dX8_fire_44 : decode cX8_fire 44 = .ok (.iload 5, 2) := by decide +kernel
theorem dX8_fire_46 : decode cX8_fire 46 = .ok (.invokevirtual 187, 3) := by decide +kernel
theorem dX8_fire_49 : decode cX8_fire 49 = .ok (.checkcast 96, 3) := by decide +kernel
theorem dX8_fire_52 : decode cX8_fire 52 = .ok (.astore 6, 2) := by decide +kernel
theorem dX8_fire_54 : decode cX8_fire 54 = .ok (.aload 6, 2) := by decide +kernel
theorem dX8_fire_56 : decode cX8_fire 56 = .ok (.getfield 116, 3) := by decide +kernel
theorem dX8_fire_59 : decode cX8_fire 59 = .ok (.iconst 1, 1) := by decide +kernel
theorem dX8_fire_60 : decode cX8_fire 60 = .ok (.if_icmp .ne 42, 3) := by decide +kernel
theorem dX8_fire_63 : decode cX8_fire 63 = .ok (.aload 6, 2) := by decide +kernel
theorem dX8_fire_65 : decode cX8_fire 65 = .ok (.getfield 126, 3) := by decide +kernel
theorem dX8_fire_68 : decode cX8_fire 68 = .ok (.aload_n 3, 1) := by decide +kernel
theorem dX8_fire_69 : decode cX8_fire 69 = .ok (.if_acmp .ne 33, 3) := by decide +kernel
theorem dX8_fire_72 : decode cX8_fire 72 = .ok (.aload 6, 2) := by decide +kernel
theorem dX8_fire_74 : decode cX8_fire 74 = .ok (.getfield 152, 3) := by decide +kernel
theorem dX8_fire_77 : decode cX8_fire 77 = .ok (.iload_n 2, 1) := by decide +kernel
theorem dX8_fire_78 : decode cX8_fire 78 = .ok (.if_icmp .gt 24, 3) := by decide +kernel
theorem dX8_fire_81 : decode cX8_fire 81 = .ok (.iload 4, 2) := by decide +kernel
theorem dX8_fire_83 : decode cX8_fire 83 = .ok (.aload 6, 2) := by decide +kernel
theorem dX8_fire_85 : decode cX8_fire 85 = .ok (.getfield 155, 3) := by decide +kernel
theorem dX8_fire_88 : decode cX8_fire 88 = .ok (.iadd, 1) := by decide +kernel
theorem dX8_fire_89 : decode cX8_fire 89 = .ok (.istore 4, 2) := by decide +kernel
theorem dX8_fire_91 : decode cX8_fire 91 = .ok (.aload 6, 2) := by decide +kernel
theorem dX8_fire_93 : decode cX8_fire 93 = .ok (.iconst 0, 1) := by decide +kernel
theorem dX8_fire_94 : decode cX8_fire 94 = .ok (.putfield 155, 3) := by decide +kernel
theorem dX8_fire_97 : decode cX8_fire 97 = .ok (.aload 6, 2) := by decide +kernel
theorem dX8_fire_99 : decode cX8_fire 99 = .ok (.invokevirtual 191, 3) := by decide +kernel
theorem dX8_fire_102 : decode cX8_fire 102 = .ok (.iinc 5 1, 3) := by decide +kernel
theorem dX8_fire_105 : decode cX8_fire 105 = .ok (.goto (-77), 3) := by decide +kernel
theorem dX8_fire_108 : decode cX8_fire 108 = .ok (.aload_n 0, 1) := by decide +kernel
theorem dX8_fire_109 : decode cX8_fire 109 = .ok (.getfield 43, 3) := by decide +kernel
theorem dX8_fire_112 : decode cX8_fire 112 = .ok (.iconst 5, 1) := by decide +kernel
theorem dX8_fire_113 : decode cX8_fire 113 = .ok (.dup2, 1) := by decide +kernel
theorem dX8_fire_114 : decode cX8_fire 114 = .ok (.laload, 1) := by decide +kernel
theorem dX8_fire_115 : decode cX8_fire 115 = .ok (.iload 4, 2) := by decide +kernel
theorem dX8_fire_117 : decode cX8_fire 117 = .ok (.i2l, 1) := by decide +kernel
theorem dX8_fire_118 : decode cX8_fire 118 = .ok (.ladd, 1) := by decide +kernel
theorem dX8_fire_119 : decode cX8_fire 119 = .ok (.lastore, 1) := by decide +kernel
theorem dX8_fire_120 : decode cX8_fire 120 = .ok (.iload 4, 2) := by decide +kernel
theorem dX8_fire_122 : decode cX8_fire 122 = .ok (.ireturn, 1) := by decide +kernel
theorem dX8_poured_0 : decode cX8_poured 0 = .ok (.iload_n 1, 1) := by decide +kernel
theorem dX8_poured_1 : decode cX8_poured 1 = .ok (.ifCond .lt 12, 3) := by decide +kernel
theorem dX8_poured_4 : decode cX8_poured 4 = .ok (.iload_n 2, 1) := by decide +kernel
theorem dX8_poured_5 : decode cX8_poured 5 = .ok (.iconst 0, 1) := by decide +kernel
theorem dX8_poured_6 : decode cX8_poured 6 = .ok (.iconst 5, 1) := by decide +kernel
theorem dX8_poured_7 : decode cX8_poured 7 = .ok (.invokestatic 54, 3) := by decide +kernel
theorem dX8_poured_10 : decode cX8_poured 10 = .ok (.ifCond .eq 5, 3) := by decide +kernel
theorem dX8_poured_13 : decode cX8_poured 13 = .ok (.iconst (-1), 1) := by decide +kernel
theorem dX8_poured_14 : decode cX8_poured 14 = .ok (.ireturn, 1) := by decide +kernel
theorem dX8_poured_15 : decode cX8_poured 15 = .ok (.iload_n 1, 1) := by decide +kernel
theorem dX8_poured_16 : decode cX8_poured 16 = .ok (.aload_n 0, 1) := by decide +kernel
theorem dX8_poured_17 : decode cX8_poured 17 = .ok (.getfield 32, 3) := by decide +kernel
theorem dX8_poured_20 : decode cX8_poured 20 = .ok (.getfield 194, 3) := by decide +kernel
theorem dX8_poured_23 : decode cX8_poured 23 = .ok (.if_icmp .lt 6, 3) := by decide +kernel
theorem dX8_poured_26 : decode cX8_poured 26 = .ok (.bipush (-4), 2) := by decide +kernel
theorem dX8_poured_28 : decode cX8_poured 28 = .ok (.ireturn, 1) := by decide +kernel
theorem dX8_poured_29 : decode cX8_poured 29 = .ok (.aload_n 0, 1) := by decide +kernel
theorem dX8_poured_30 : decode cX8_poured 30 = .ok (.getfield 32, 3) := by decide +kernel
theorem dX8_poured_33 : decode cX8_poured 33 = .ok (.iload_n 1, 1) := by decide +kernel
theorem dX8_poured_34 : decode cX8_poured 34 = .ok (.iload_n 2, 1) := by decide +kernel
theorem dX8_poured_35 : decode cX8_poured 35 = .ok (.invokevirtual 197, 3) := by decide +kernel
theorem dX8_poured_38 : decode cX8_poured 38 = .ok (.ireturn, 1) := by decide +kernel
theorem dX8_foul_0 : decode cX8_foul 0 = .ok (.aload_n 0, 1) := by decide +kernel
theorem dX8_foul_1 : decode cX8_foul 1 = .ok (.iload_n 1, 1) := by decide +kernel
theorem dX8_foul_2 : decode cX8_foul 2 = .ok (.invokevirtual 87, 3) := by decide +kernel
theorem dX8_foul_5 : decode cX8_foul 5 = .ok (.ifnull 7, 3) := by decide +kernel
theorem dX8_foul_8 : decode cX8_foul 8 = .ok (.iload_n 2, 1) := by decide +kernel
theorem dX8_foul_9 : decode cX8_foul 9 = .ok (.ifCond .ge 5, 3) := by decide +kernel
theorem dX8_foul_12 : decode cX8_foul 12 = .ok (.iconst (-1), 1) := by decide +kernel
theorem dX8_foul_13 : decode cX8_foul 13 = .ok (.ireturn, 1) := by decide +kernel
theorem dX8_foul_14 : decode cX8_foul 14 = .ok (.aload_n 0, 1) := by decide +kernel
theorem dX8_foul_15 : decode cX8_foul 15 = .ok (.getfield 32, 3) := by decide +kernel
theorem dX8_foul_18 : decode cX8_foul 18 = .ok (.iload_n 1, 1) := by decide +kernel
theorem dX8_foul_19 : decode cX8_foul 19 = .ok (.iload_n 2, 1) := by decide +kernel
theorem dX8_foul_20 : decode cX8_foul 20 = .ok (.invokevirtual 201, 3) := by decide +kernel
theorem dX8_foul_23 : decode cX8_foul 23 = .ok (.ireturn, 1) := by decide +kernel
theorem dX8_give_0 : decode cX8_give 0 = .ok (.iload_n 3, 1) := by decide +kernel
theorem dX8_give_1 : decode cX8_give 1 = .ok (.iconst 1, 1) := by decide +kernel
theorem dX8_give_2 : decode cX8_give 2 = .ok (.bipush 6, 2) := by decide +kernel
theorem dX8_give_4 : decode cX8_give 4 = .ok (.invokestatic 54, 3) := by decide +kernel
theorem dX8_give_7 : decode cX8_give 7 = .ok (.ifCond .eq 5, 3) := by decide +kernel
theorem dX8_give_10 : decode cX8_give 10 = .ok (.iconst (-1), 1) := by decide +kernel
theorem dX8_give_11 : decode cX8_give 11 = .ok (.ireturn, 1) := by decide +kernel
theorem dX8_give_12 : decode cX8_give 12 = .ok (.iload_n 1, 1) := by decide +kernel
theorem dX8_give_13 : decode cX8_give 13 = .ok (.iconst 0, 1) := by decide +kernel
theorem dX8_give_14 : decode cX8_give 14 = .ok (.aload_n 0, 1) := by decide +kernel
theorem dX8_give_15 : decode cX8_give 15 = .ok (.getfield 19, 3) := by decide +kernel
theorem dX8_give_18 : decode cX8_give 18 = .ok (.invokevirtual 62, 3) := by decide +kernel
theorem dX8_give_21 : decode cX8_give 21 = .ok (.iload_n 3, 1) := by decide +kernel
theorem dX8_give_22 : decode cX8_give 22 = .ok (.isub, 1) := by decide +kernel
theorem dX8_give_23 : decode cX8_give 23 = .ok (.invokestatic 54, 3) := by decide +kernel
theorem dX8_give_26 : decode cX8_give 26 = .ok (.ifCond .ne 20, 3) := by decide +kernel
theorem dX8_give_29 : decode cX8_give 29 = .ok (.iload_n 2, 1) := by decide +kernel
theorem dX8_give_30 : decode cX8_give 30 = .ok (.iconst 0, 1) := by decide +kernel
theorem dX8_give_31 : decode cX8_give 31 = .ok (.aload_n 0, 1) := by decide +kernel
theorem dX8_give_32 : decode cX8_give 32 = .ok (.getfield 16, 3) := by decide +kernel
theorem dX8_give_35 : decode cX8_give 35 = .ok (.invokevirtual 62, 3) := by decide +kernel
theorem dX8_give_38 : decode cX8_give 38 = .ok (.iload_n 3, 1) := by decide +kernel
theorem dX8_give_39 : decode cX8_give 39 = .ok (.isub, 1) := by decide +kernel
theorem dX8_give_40 : decode cX8_give 40 = .ok (.invokestatic 54, 3) := by decide +kernel
theorem dX8_give_43 : decode cX8_give 43 = .ok (.ifCond .eq 5, 3) := by decide +kernel
theorem dX8_give_46 : decode cX8_give 46 = .ok (.iconst (-1), 1) := by decide +kernel
theorem dX8_give_47 : decode cX8_give 47 = .ok (.ireturn, 1) := by decide +kernel
theorem dX8_give_48 : decode cX8_give 48 = .ok (.iconst 0, 1) := by decide +kernel
theorem dX8_give_49 : decode cX8_give 49 = .ok (.istore 4, 2) := by decide +kernel
theorem dX8_give_51 : decode cX8_give 51 = .ok (.iload 4, 2) := by decide +kernel
theorem dX8_give_53 : decode cX8_give 53 = .ok (.iload_n 3, 1) := by decide +kernel
theorem dX8_give_54 : decode cX8_give 54 = .ok (.if_icmp .ge 66, 3) := by decide +kernel
theorem dX8_give_57 : decode cX8_give 57 = .ok (.iconst 0, 1) := by decide +kernel
theorem dX8_give_58 : decode cX8_give 58 = .ok (.istore 5, 2) := by decide +kernel
theorem dX8_give_60 : decode cX8_give 60 = .ok (.iload 5, 2) := by decide +kernel
theorem dX8_give_62 : decode cX8_give 62 = .ok (.iload_n 3, 1) := by decide +kernel
theorem dX8_give_63 : decode cX8_give 63 = .ok (.if_icmp .ge 51, 3) := by decide +kernel
theorem dX8_give_66 : decode cX8_give 66 = .ok (.aload_n 0, 1) := by decide +kernel
theorem dX8_give_67 : decode cX8_give 67 = .ok (.getfield 39, 3) := by decide +kernel
theorem dX8_give_70 : decode cX8_give 70 = .ok (.iload 4, 2) := by decide +kernel
theorem dX8_give_72 : decode cX8_give 72 = .ok (.iload 5, 2) := by decide +kernel
theorem dX8_give_74 : decode cX8_give 74 = .ok (.aload_n 0, 1) := by decide +kernel
theorem dX8_give_75 : decode cX8_give 75 = .ok (.getfield 19, 3) := by decide +kernel
theorem dX8_give_78 : decode cX8_give 78 = .ok (.iload_n 1, 1) := by decide +kernel
theorem dX8_give_79 : decode cX8_give 79 = .ok (.iload 4, 2) := by decide +kernel
theorem dX8_give_81 : decode cX8_give 81 = .ok (.iadd, 1) := by decide +kernel
theorem dX8_give_82 : decode cX8_give 82 = .ok (.invokevirtual 187, 3) := by decide +kernel
theorem dX8_give_85 : decode cX8_give 85 = .ok (.checkcast 96, 3) := by decide +kernel
theorem dX8_give_88 : decode cX8_give 88 = .ok (.aload_n 0, 1) := by decide +kernel
theorem dX8_give_89 : decode cX8_give 89 = .ok (.getfield 16, 3) := by decide +kernel
theorem dX8_give_92 : decode cX8_give 92 = .ok (.iload_n 2, 1) := by decide +kernel
theorem dX8_give_93 : decode cX8_give 93 = .ok (.iload 5, 2) := by decide +kernel
theorem dX8_give_95 : decode cX8_give 95 = .ok (.iadd, 1) := by decide +kernel
theorem dX8_give_96 : decode cX8_give 96 = .ok (.invokevirtual 187, 3) := by decide +kernel
theorem dX8_give_99 : decode cX8_give 99 = .ok (.checkcast 75, 3) := by decide +kernel
theorem dX8_give_102 : decode cX8_give 102 = .ok (.invokevirtual 204, 3) := by decide +kernel
theorem dX8_give_105 : decode cX8_give 105 = .ok (.invokevirtual 207, 3) := by decide +kernel
theorem dX8_give_108 : decode cX8_give 108 = .ok (.iinc 5 1, 3) := by decide +kernel
theorem dX8_give_111 : decode cX8_give 111 = .ok (.goto (-51), 3) := by decide +kernel
theorem dX8_give_114 : decode cX8_give 114 = .ok (.iinc 4 1, 3) := by decide +kernel
theorem dX8_give_117 : decode cX8_give 117 = .ok (.goto (-66), 3) := by decide +kernel
theorem dX8_give_120 : decode cX8_give 120 = .ok (.aload_n 0, 1) := by decide +kernel
theorem dX8_give_121 : decode cX8_give 121 = .ok (.getfield 39, 3) := by decide +kernel
theorem dX8_give_124 : decode cX8_give 124 = .ok (.iload_n 3, 1) := by decide +kernel
theorem dX8_give_125 : decode cX8_give 125 = .ok (.invokevirtual 211, 3) := by decide +kernel
theorem dX8_give_128 : decode cX8_give 128 = .ok (.istore 4, 2) := by decide +kernel
theorem dX8_give_130 : decode cX8_give 130 = .ok (.iload 4, 2) := by decide +kernel
theorem dX8_give_132 : decode cX8_give 132 = .ok (.iconst (-1), 1) := by decide +kernel
theorem dX8_give_133 : decode cX8_give 133 = .ok (.if_icmp .ne 6, 3) := by decide +kernel
theorem dX8_give_136 : decode cX8_give 136 = .ok (.bipush (-4), 2) := by decide +kernel
theorem dX8_give_138 : decode cX8_give 138 = .ok (.ireturn, 1) := by decide +kernel
theorem dX8_give_139 : decode cX8_give 139 = .ok (.aload_n 0, 1) := by decide +kernel
theorem dX8_give_140 : decode cX8_give 140 = .ok (.getfield 39, 3) := by decide +kernel
theorem dX8_give_143 : decode cX8_give 143 = .ok (.iload_n 1, 1) := by decide +kernel
theorem dX8_give_144 : decode cX8_give 144 = .ok (.iload_n 2, 1) := by decide +kernel
theorem dX8_give_145 : decode cX8_give 145 = .ok (.iload_n 3, 1) := by decide +kernel
theorem dX8_give_146 : decode cX8_give 146 = .ok (.invokevirtual 214, 3) := by decide +kernel
theorem dX8_give_149 : decode cX8_give 149 = .ok (.iload 4, 2) := by decide +kernel
theorem dX8_give_151 : decode cX8_give 151 = .ok (.ireturn, 1) := by decide +kernel
theorem dX8_given_0 : decode cX8_given 0 = .ok (.aload_n 0, 1) := by decide +kernel
theorem dX8_given_1 : decode cX8_given 1 = .ok (.iload_n 1, 1) := by decide +kernel
theorem dX8_given_2 : decode cX8_given 2 = .ok (.invokevirtual 104, 3) := by decide +kernel
theorem dX8_given_5 : decode cX8_given 5 = .ok (.ifnonnull 5, 3) := by decide +kernel
theorem dX8_given_8 : decode cX8_given 8 = .ok (.iconst (-1), 1) := by decide +kernel
theorem dX8_given_9 : decode cX8_given 9 = .ok (.ireturn, 1) := by decide +kernel
theorem dX8_given_10 : decode cX8_given 10 = .ok (.aload_n 0, 1) := by decide +kernel
theorem dX8_given_11 : decode cX8_given 11 = .ok (.getfield 39, 3) := by decide +kernel
theorem dX8_given_14 : decode cX8_given 14 = .ok (.iload_n 1, 1) := by decide +kernel
theorem dX8_given_15 : decode cX8_given 15 = .ok (.invokevirtual 217, 3) := by decide +kernel
theorem dX8_given_18 : decode cX8_given 18 = .ok (.ireturn, 1) := by decide +kernel
theorem dX8_count_0 : decode cX8_count 0 = .ok (.iload_n 1, 1) := by decide +kernel
theorem dX8_count_1 : decode cX8_count 1 = .ok (.tableswitch 93 0 6 #[43, 51, 59, 67, 73, 79, 85], 43) := by decide +kernel
theorem dX8_count_44 : decode cX8_count 44 = .ok (.aload_n 0, 1) := by decide +kernel
theorem dX8_count_45 : decode cX8_count 45 = .ok (.getfield 10, 3) := by decide +kernel
theorem dX8_count_48 : decode cX8_count 48 = .ok (.invokevirtual 62, 3) := by decide +kernel
theorem dX8_count_51 : decode cX8_count 51 = .ok (.ireturn, 1) := by decide +kernel
theorem dX8_count_52 : decode cX8_count 52 = .ok (.aload_n 0, 1) := by decide +kernel
theorem dX8_count_53 : decode cX8_count 53 = .ok (.getfield 16, 3) := by decide +kernel
theorem dX8_count_56 : decode cX8_count 56 = .ok (.invokevirtual 62, 3) := by decide +kernel
theorem dX8_count_59 : decode cX8_count 59 = .ok (.ireturn, 1) := by decide +kernel
theorem dX8_count_60 : decode cX8_count 60 = .ok (.aload_n 0, 1) := by decide +kernel
theorem dX8_count_61 : decode cX8_count 61 = .ok (.getfield 19, 3) := by decide +kernel
theorem dX8_count_64 : decode cX8_count 64 = .ok (.invokevirtual 62, 3) := by decide +kernel
theorem dX8_count_67 : decode cX8_count 67 = .ok (.ireturn, 1) := by decide +kernel
theorem dX8_count_68 : decode cX8_count 68 = .ok (.aload_n 0, 1) := by decide +kernel
theorem dX8_count_69 : decode cX8_count 69 = .ok (.iconst 0, 1) := by decide +kernel
theorem dX8_count_70 : decode cX8_count 70 = .ok (.invokevirtual 220, 3) := by decide +kernel
theorem dX8_count_73 : decode cX8_count 73 = .ok (.ireturn, 1) := by decide +kernel
theorem dX8_count_74 : decode cX8_count 74 = .ok (.aload_n 0, 1) := by decide +kernel
theorem dX8_count_75 : decode cX8_count 75 = .ok (.iconst 1, 1) := by decide +kernel
theorem dX8_count_76 : decode cX8_count 76 = .ok (.invokevirtual 220, 3) := by decide +kernel
theorem dX8_count_79 : decode cX8_count 79 = .ok (.ireturn, 1) := by decide +kernel
theorem dX8_count_80 : decode cX8_count 80 = .ok (.aload_n 0, 1) := by decide +kernel
theorem dX8_count_81 : decode cX8_count 81 = .ok (.iconst 2, 1) := by decide +kernel
theorem dX8_count_82 : decode cX8_count 82 = .ok (.invokevirtual 220, 3) := by decide +kernel
theorem dX8_count_85 : decode cX8_count 85 = .ok (.ireturn, 1) := by decide +kernel
theorem dX8_count_86 : decode cX8_count 86 = .ok (.aload_n 0, 1) := by decide +kernel
theorem dX8_count_87 : decode cX8_count 87 = .ok (.getfield 32, 3) := by decide +kernel
theorem dX8_count_90 : decode cX8_count 90 = .ok (.getfield 194, 3) := by decide +kernel
theorem dX8_count_93 : decode cX8_count 93 = .ok (.ireturn, 1) := by decide +kernel
theorem dX8_count_94 : decode cX8_count 94 = .ok (.iconst (-1), 1) := by decide +kernel
theorem dX8_count_95 : decode cX8_count 95 = .ok (.ireturn, 1) := by decide +kernel
theorem dX8_outside_0 : decode cX8_outside 0 = .ok (.iload_n 0, 1) := by decide +kernel
theorem dX8_outside_1 : decode cX8_outside 1 = .ok (.iload_n 1, 1) := by decide +kernel
theorem dX8_outside_2 : decode cX8_outside 2 = .ok (.if_icmp .lt 8, 3) := by decide +kernel
theorem dX8_outside_5 : decode cX8_outside 5 = .ok (.iload_n 0, 1) := by decide +kernel
theorem dX8_outside_6 : decode cX8_outside 6 = .ok (.iload_n 2, 1) := by decide +kernel
theorem dX8_outside_7 : decode cX8_outside 7 = .ok (.if_icmp .le 7, 3) := by decide +kernel
theorem dX8_outside_10 : decode cX8_outside 10 = .ok (.iconst 1, 1) := by decide +kernel
theorem dX8_outside_11 : decode cX8_outside 11 = .ok (.goto 4, 3) := by decide +kernel
theorem dX8_outside_14 : decode cX8_outside 14 = .ok (.iconst 0, 1) := by decide +kernel
theorem dX8_outside_15 : decode cX8_outside 15 = .ok (.ireturn, 1) := by decide +kernel
theorem dX8_cutUp_0 : decode cX8_cutUp 0 = .ok (.iload_n 1, 1) := by decide +kernel
theorem dX8_cutUp_1 : decode cX8_cutUp 1 = .ok (.iconst 1, 1) := by decide +kernel
theorem dX8_cutUp_2 : decode cX8_cutUp 2 = .ok (.if_icmp .ge 7, 3) := by decide +kernel
theorem dX8_cutUp_5 : decode cX8_cutUp 5 = .ok (.iload_n 0, 1) := by decide +kernel
theorem dX8_cutUp_6 : decode cX8_cutUp 6 = .ok (.goto 10, 3) := by decide +kernel
theorem dX8_cutUp_9 : decode cX8_cutUp 9 = .ok (.iload_n 0, 1) := by decide +kernel
theorem dX8_cutUp_10 : decode cX8_cutUp 10 = .ok (.iload_n 1, 1) := by decide +kernel
theorem dX8_cutUp_11 : decode cX8_cutUp 11 = .ok (.iadd, 1) := by decide +kernel
theorem dX8_cutUp_12 : decode cX8_cutUp 12 = .ok (.iconst 1, 1) := by decide +kernel
theorem dX8_cutUp_13 : decode cX8_cutUp 13 = .ok (.isub, 1) := by decide +kernel
theorem dX8_cutUp_14 : decode cX8_cutUp 14 = .ok (.iload_n 1, 1) := by decide +kernel
theorem dX8_cutUp_15 : decode cX8_cutUp 15 = .ok (.idiv, 1) := by decide +kernel
theorem dX8_cutUp_16 : decode cX8_cutUp 16 = .ok (.ireturn, 1) := by decide +kernel
theorem dX8_fountainAt_0 : decode cX8_fountainAt 0 = .ok (.iload_n 1, 1) := by decide +kernel
theorem dX8_fountainAt_1 : decode cX8_fountainAt 1 = .ok (.ifCond .lt 14, 3) := by decide +kernel
theorem dX8_fountainAt_4 : decode cX8_fountainAt 4 = .ok (.iload_n 1, 1) := by decide +kernel
theorem dX8_fountainAt_5 : decode cX8_fountainAt 5 = .ok (.aload_n 0, 1) := by decide +kernel
theorem dX8_fountainAt_6 : decode cX8_fountainAt 6 = .ok (.getfield 10, 3) := by decide +kernel
theorem dX8_fountainAt_9 : decode cX8_fountainAt 9 = .ok (.invokevirtual 62, 3) := by decide +kernel
theorem dX8_fountainAt_12 : decode cX8_fountainAt 12 = .ok (.if_icmp .lt 7, 3) := by decide +kernel
theorem dX8_fountainAt_15 : decode cX8_fountainAt 15 = .ok (.aconst_null, 1) := by decide +kernel
theorem dX8_fountainAt_16 : decode cX8_fountainAt 16 = .ok (.goto 14, 3) := by decide +kernel
theorem dX8_fountainAt_19 : decode cX8_fountainAt 19 = .ok (.aload_n 0, 1) := by decide +kernel
theorem dX8_fountainAt_20 : decode cX8_fountainAt 20 = .ok (.getfield 10, 3) := by decide +kernel
theorem dX8_fountainAt_23 : decode cX8_fountainAt 23 = .ok (.iload_n 1, 1) := by decide +kernel
theorem dX8_fountainAt_24 : decode cX8_fountainAt 24 = .ok (.invokevirtual 187, 3) := by decide +kernel
theorem dX8_fountainAt_27 : decode cX8_fountainAt 27 = .ok (.checkcast 66, 3) := by decide +kernel
theorem dX8_fountainAt_30 : decode cX8_fountainAt 30 = .ok (.areturn, 1) := by decide +kernel
theorem dX8_jarAt_0 : decode cX8_jarAt 0 = .ok (.iload_n 1, 1) := by decide +kernel
theorem dX8_jarAt_1 : decode cX8_jarAt 1 = .ok (.ifCond .lt 14, 3) := by decide +kernel
theorem dX8_jarAt_4 : decode cX8_jarAt 4 = .ok (.iload_n 1, 1) := by decide +kernel
theorem dX8_jarAt_5 : decode cX8_jarAt 5 = .ok (.aload_n 0, 1) := by decide +kernel
theorem dX8_jarAt_6 : decode cX8_jarAt 6 = .ok (.getfield 16, 3) := by decide +kernel
theorem dX8_jarAt_9 : decode cX8_jarAt 9 = .ok (.invokevirtual 62, 3) := by decide +kernel
theorem dX8_jarAt_12 : decode cX8_jarAt 12 = .ok (.if_icmp .lt 7, 3) := by decide +kernel
theorem dX8_jarAt_15 : decode cX8_jarAt 15 = .ok (.aconst_null, 1) := by decide +kernel
theorem dX8_jarAt_16 : decode cX8_jarAt 16 = .ok (.goto 14, 3) := by decide +kernel
theorem dX8_jarAt_19 : decode cX8_jarAt 19 = .ok (.aload_n 0, 1) := by decide +kernel
theorem dX8_jarAt_20 : decode cX8_jarAt 20 = .ok (.getfield 16, 3) := by decide +kernel
theorem dX8_jarAt_23 : decode cX8_jarAt 23 = .ok (.iload_n 1, 1) := by decide +kernel
theorem dX8_jarAt_24 : decode cX8_jarAt 24 = .ok (.invokevirtual 187, 3) := by decide +kernel
theorem dX8_jarAt_27 : decode cX8_jarAt 27 = .ok (.checkcast 75, 3) := by decide +kernel
theorem dX8_jarAt_30 : decode cX8_jarAt 30 = .ok (.areturn, 1) := by decide +kernel
theorem dX8_manAt_0 : decode cX8_manAt 0 = .ok (.iload_n 1, 1) := by decide +kernel
theorem dX8_manAt_1 : decode cX8_manAt 1 = .ok (.ifCond .lt 14, 3) := by decide +kernel
theorem dX8_manAt_4 : decode cX8_manAt 4 = .ok (.iload_n 1, 1) := by decide +kernel
theorem dX8_manAt_5 : decode cX8_manAt 5 = .ok (.aload_n 0, 1) := by decide +kernel
theorem dX8_manAt_6 : decode cX8_manAt 6 = .ok (.getfield 19, 3) := by decide +kernel
theorem dX8_manAt_9 : decode cX8_manAt 9 = .ok (.invokevirtual 62, 3) := by decide +kernel
theorem dX8_manAt_12 : decode cX8_manAt 12 = .ok (.if_icmp .lt 7, 3) := by decide +kernel
theorem dX8_manAt_15 : decode cX8_manAt 15 = .ok (.aconst_null, 1) := by decide +kernel
theorem dX8_manAt_16 : decode cX8_manAt 16 = .ok (.goto 14, 3) := by decide +kernel
theorem dX8_manAt_19 : decode cX8_manAt 19 = .ok (.aload_n 0, 1) := by decide +kernel
theorem dX8_manAt_20 : decode cX8_manAt 20 = .ok (.getfield 19, 3) := by decide +kernel
theorem dX8_manAt_23 : decode cX8_manAt 23 = .ok (.iload_n 1, 1) := by decide +kernel
theorem dX8_manAt_24 : decode cX8_manAt 24 = .ok (.invokevirtual 187, 3) := by decide +kernel
theorem dX8_manAt_27 : decode cX8_manAt 27 = .ok (.checkcast 96, 3) := by decide +kernel
theorem dX8_manAt_30 : decode cX8_manAt 30 = .ok (.areturn, 1) := by decide +kernel
theorem dX8_newMan_0 : decode cX8_newMan 0 = .ok (.iload_n 0, 1) := by decide +kernel
theorem dX8_newMan_1 : decode cX8_newMan 1 = .ok (.iconst 2, 1) := by decide +kernel
theorem dX8_newMan_2 : decode cX8_newMan 2 = .ok (.if_icmp .ne 16, 3) := by decide +kernel
theorem dX8_newMan_5 : decode cX8_newMan 5 = .ok (.new 111, 3) := by decide +kernel
theorem dX8_newMan_8 : decode cX8_newMan 8 = .ok (.dup, 1) := by decide +kernel
theorem dX8_newMan_9 : decode cX8_newMan 9 = .ok (.iload_n 1, 1) := by decide +kernel
theorem dX8_newMan_10 : decode cX8_newMan 10 = .ok (.iload_n 2, 1) := by decide +kernel
theorem dX8_newMan_11 : decode cX8_newMan 11 = .ok (.aload_n 3, 1) := by decide +kernel
theorem dX8_newMan_12 : decode cX8_newMan 12 = .ok (.aload 4, 2) := by decide +kernel
theorem dX8_newMan_14 : decode cX8_newMan 14 = .ok (.invokespecial 223, 3) := by decide +kernel
theorem dX8_newMan_17 : decode cX8_newMan 17 = .ok (.areturn, 1) := by decide +kernel
theorem dX8_newMan_18 : decode cX8_newMan 18 = .ok (.iload_n 0, 1) := by decide +kernel
theorem dX8_newMan_19 : decode cX8_newMan 19 = .ok (.iconst 1, 1) := by decide +kernel
theorem dX8_newMan_20 : decode cX8_newMan 20 = .ok (.if_icmp .ne 16, 3) := by decide +kernel
theorem dX8_newMan_23 : decode cX8_newMan 23 = .ok (.new 226, 3) := by decide +kernel
theorem dX8_newMan_26 : decode cX8_newMan 26 = .ok (.dup, 1) := by decide +kernel
theorem dX8_newMan_27 : decode cX8_newMan 27 = .ok (.iload_n 1, 1) := by decide +kernel
theorem dX8_newMan_28 : decode cX8_newMan 28 = .ok (.iload_n 2, 1) := by decide +kernel
theorem dX8_newMan_29 : decode cX8_newMan 29 = .ok (.aload_n 3, 1) := by decide +kernel
theorem dX8_newMan_30 : decode cX8_newMan 30 = .ok (.aload 4, 2) := by decide +kernel
theorem dX8_newMan_32 : decode cX8_newMan 32 = .ok (.invokespecial 228, 3) := by decide +kernel
theorem dX8_newMan_35 : decode cX8_newMan 35 = .ok (.areturn, 1) := by decide +kernel
theorem dX8_newMan_36 : decode cX8_newMan 36 = .ok (.new 96, 3) := by decide +kernel
theorem dX8_newMan_39 : decode cX8_newMan 39 = .ok (.dup, 1) := by decide +kernel
theorem dX8_newMan_40 : decode cX8_newMan 40 = .ok (.iload_n 1, 1) := by decide +kernel
theorem dX8_newMan_41 : decode cX8_newMan 41 = .ok (.iload_n 2, 1) := by decide +kernel
theorem dX8_newMan_42 : decode cX8_newMan 42 = .ok (.aload_n 3, 1) := by decide +kernel
theorem dX8_newMan_43 : decode cX8_newMan 43 = .ok (.aload 4, 2) := by decide +kernel
theorem dX8_newMan_45 : decode cX8_newMan 45 = .ok (.invokespecial 229, 3) := by decide +kernel
theorem dX8_newMan_48 : decode cX8_newMan 48 = .ok (.areturn, 1) := by decide +kernel
theorem dX8_countDoing_0 : decode cX8_countDoing 0 = .ok (.iconst 0, 1) := by decide +kernel
theorem dX8_countDoing_1 : decode cX8_countDoing 1 = .ok (.istore_n 2, 1) := by decide +kernel
theorem dX8_countDoing_2 : decode cX8_countDoing 2 = .ok (.iconst 0, 1) := by decide +kernel
theorem dX8_countDoing_3 : decode cX8_countDoing 3 = .ok (.istore_n 3, 1) := by decide +kernel
theorem dX8_countDoing_4 : decode cX8_countDoing 4 = .ok (.iload_n 3, 1) := by decide +kernel
theorem dX8_countDoing_5 : decode cX8_countDoing 5 = .ok (.aload_n 0, 1) := by decide +kernel
theorem dX8_countDoing_6 : decode cX8_countDoing 6 = .ok (.getfield 19, 3) := by decide +kernel
theorem dX8_countDoing_9 : decode cX8_countDoing 9 = .ok (.invokevirtual 62, 3) := by decide +kernel
theorem dX8_countDoing_12 : decode cX8_countDoing 12 = .ok (.if_icmp .ge 30, 3) := by decide +kernel
theorem dX8_countDoing_15 : decode cX8_countDoing 15 = .ok (.aload_n 0, 1) := by decide +kernel
theorem dX8_countDoing_16 : decode cX8_countDoing 16 = .ok (.getfield 19, 3) := by decide +kernel
theorem dX8_countDoing_19 : decode cX8_countDoing 19 = .ok (.iload_n 3, 1) := by decide +kernel
theorem dX8_countDoing_20 : decode cX8_countDoing 20 = .ok (.invokevirtual 187, 3) := by decide +kernel
theorem dX8_countDoing_23 : decode cX8_countDoing 23 = .ok (.checkcast 96, 3) := by decide +kernel
theorem dX8_countDoing_26 : decode cX8_countDoing 26 = .ok (.getfield 116, 3) := by decide +kernel
theorem dX8_countDoing_29 : decode cX8_countDoing 29 = .ok (.iload_n 1, 1) := by decide +kernel
theorem dX8_countDoing_30 : decode cX8_countDoing 30 = .ok (.if_icmp .ne 6, 3) := by decide +kernel
theorem dX8_countDoing_33 : decode cX8_countDoing 33 = .ok (.iinc 2 1, 3) := by decide +kernel
theorem dX8_countDoing_36 : decode cX8_countDoing 36 = .ok (.iinc 3 1, 3) := by decide +kernel
theorem dX8_countDoing_39 : decode cX8_countDoing 39 = .ok (.goto (-35), 3) := by decide +kernel
theorem dX8_countDoing_42 : decode cX8_countDoing 42 = .ok (.iload_n 2, 1) := by decide +kernel
theorem dX8_countDoing_43 : decode cX8_countDoing 43 = .ok (.ireturn, 1) := by decide +kernel
theorem dX8_passMinute_0 : decode cX8_passMinute 0 = .ok (.iconst 0, 1) := by decide +kernel
theorem dX8_passMinute_1 : decode cX8_passMinute 1 = .ok (.istore_n 1, 1) := by decide +kernel
theorem dX8_passMinute_2 : decode cX8_passMinute 2 = .ok (.iload_n 1, 1) := by decide +kernel
theorem dX8_passMinute_3 : decode cX8_passMinute 3 = .ok (.aload_n 0, 1) := by decide +kernel
theorem dX8_passMinute_4 : decode cX8_passMinute 4 = .ok (.getfield 10, 3) := by decide +kernel
theorem dX8_passMinute_7 : decode cX8_passMinute 7 = .ok (.invokevirtual 62, 3) := by decide +kernel
theorem dX8_passMinute_10 : decode cX8_passMinute 10 = .ok (.if_icmp .ge 24, 3) := by decide +kernel
theorem dX8_passMinute_13 : decode cX8_passMinute 13 = .ok (.aload_n 0, 1) := by decide +kernel
theorem dX8_passMinute_14 : decode cX8_passMinute 14 = .ok (.aload_n 0, 1) := by decide +kernel
theorem dX8_passMinute_15 : decode cX8_passMinute 15 = .ok (.getfield 10, 3) := by decide +kernel
theorem dX8_passMinute_18 : decode cX8_passMinute 18 = .ok (.iload_n 1, 1) := by decide +kernel
theorem dX8_passMinute_19 : decode cX8_passMinute 19 = .ok (.invokevirtual 187, 3) := by decide +kernel
theorem dX8_passMinute_22 : decode cX8_passMinute 22 = .ok (.checkcast 66, 3) := by decide +kernel
theorem dX8_passMinute_25 : decode cX8_passMinute 25 = .ok (.invokevirtual 230, 3) := by decide +kernel
theorem dX8_passMinute_28 : decode cX8_passMinute 28 = .ok (.iinc 1 1, 3) := by decide +kernel
theorem dX8_passMinute_31 : decode cX8_passMinute 31 = .ok (.goto (-29), 3) := by decide +kernel
theorem dX8_passMinute_34 : decode cX8_passMinute 34 = .ok (.iconst 0, 1) := by decide +kernel
theorem dX8_passMinute_35 : decode cX8_passMinute 35 = .ok (.istore_n 1, 1) := by decide +kernel
theorem dX8_passMinute_36 : decode cX8_passMinute 36 = .ok (.iload_n 1, 1) := by decide +kernel
theorem dX8_passMinute_37 : decode cX8_passMinute 37 = .ok (.aload_n 0, 1) := by decide +kernel
theorem dX8_passMinute_38 : decode cX8_passMinute 38 = .ok (.getfield 10, 3) := by decide +kernel
theorem dX8_passMinute_41 : decode cX8_passMinute 41 = .ok (.invokevirtual 62, 3) := by decide +kernel
theorem dX8_passMinute_44 : decode cX8_passMinute 44 = .ok (.if_icmp .ge 24, 3) := by decide +kernel
theorem dX8_passMinute_47 : decode cX8_passMinute 47 = .ok (.aload_n 0, 1) := by decide +kernel
theorem dX8_passMinute_48 : decode cX8_passMinute 48 = .ok (.aload_n 0, 1) := by decide +kernel
theorem dX8_passMinute_49 : decode cX8_passMinute 49 = .ok (.getfield 10, 3) := by decide +kernel
theorem dX8_passMinute_52 : decode cX8_passMinute 52 = .ok (.iload_n 1, 1) := by decide +kernel
theorem dX8_passMinute_53 : decode cX8_passMinute 53 = .ok (.invokevirtual 187, 3) := by decide +kernel
theorem dX8_passMinute_56 : decode cX8_passMinute 56 = .ok (.checkcast 66, 3) := by decide +kernel
theorem dX8_passMinute_59 : decode cX8_passMinute 59 = .ok (.invokevirtual 234, 3) := by decide +kernel
theorem dX8_passMinute_62 : decode cX8_passMinute 62 = .ok (.iinc 1 1, 3) := by decide +kernel
theorem dX8_passMinute_65 : decode cX8_passMinute 65 = .ok (.goto (-29), 3) := by decide +kernel
theorem dX8_passMinute_68 : decode cX8_passMinute 68 = .ok (.iconst 0, 1) := by decide +kernel
theorem dX8_passMinute_69 : decode cX8_passMinute 69 = .ok (.istore_n 1, 1) := by decide +kernel
theorem dX8_passMinute_70 : decode cX8_passMinute 70 = .ok (.iload_n 1, 1) := by decide +kernel
theorem dX8_passMinute_71 : decode cX8_passMinute 71 = .ok (.aload_n 0, 1) := by decide +kernel
theorem dX8_passMinute_72 : decode cX8_passMinute 72 = .ok (.getfield 19, 3) := by decide +kernel
theorem dX8_passMinute_75 : decode cX8_passMinute 75 = .ok (.invokevirtual 62, 3) := by decide +kernel
theorem dX8_passMinute_78 : decode cX8_passMinute 78 = .ok (.if_icmp .ge 24, 3) := by decide +kernel
theorem dX8_passMinute_81 : decode cX8_passMinute 81 = .ok (.aload_n 0, 1) := by decide +kernel
theorem dX8_passMinute_82 : decode cX8_passMinute 82 = .ok (.aload_n 0, 1) := by decide +kernel
theorem dX8_passMinute_83 : decode cX8_passMinute 83 = .ok (.getfield 19, 3) := by decide +kernel
theorem dX8_passMinute_86 : decode cX8_passMinute 86 = .ok (.iload_n 1, 1) := by decide +kernel
theorem dX8_passMinute_87 : decode cX8_passMinute 87 = .ok (.invokevirtual 187, 3) := by decide +kernel
theorem dX8_passMinute_90 : decode cX8_passMinute 90 = .ok (.checkcast 96, 3) := by decide +kernel
theorem dX8_passMinute_93 : decode cX8_passMinute 93 = .ok (.invokevirtual 237, 3) := by decide +kernel
theorem dX8_passMinute_96 : decode cX8_passMinute 96 = .ok (.iinc 1 1, 3) := by decide +kernel
theorem dX8_passMinute_99 : decode cX8_passMinute 99 = .ok (.goto (-29), 3) := by decide +kernel
theorem dX8_passMinute_102 : decode cX8_passMinute 102 = .ok (.iconst 0, 1) := by decide +kernel
theorem dX8_passMinute_103 : decode cX8_passMinute 103 = .ok (.istore_n 1, 1) := by decide +kernel
theorem dX8_passMinute_104 : decode cX8_passMinute 104 = .ok (.iload_n 1, 1) := by decide +kernel
theorem dX8_passMinute_105 : decode cX8_passMinute 105 = .ok (.aload_n 0, 1) := by decide +kernel
theorem dX8_passMinute_106 : decode cX8_passMinute 106 = .ok (.getfield 16, 3) := by decide +kernel
theorem dX8_passMinute_109 : decode cX8_passMinute 109 = .ok (.invokevirtual 62, 3) := by decide +kernel
theorem dX8_passMinute_112 : decode cX8_passMinute 112 = .ok (.if_icmp .ge 33, 3) := by decide +kernel
theorem dX8_passMinute_115 : decode cX8_passMinute 115 = .ok (.aload_n 0, 1) := by decide +kernel
theorem dX8_passMinute_116 : decode cX8_passMinute 116 = .ok (.getfield 43, 3) := by decide +kernel
theorem dX8_passMinute_119 : decode cX8_passMinute 119 = .ok (.iconst 4, 1) := by decide +kernel
theorem dX8_passMinute_120 : decode cX8_passMinute 120 = .ok (.dup2, 1) := by decide +kernel
theorem dX8_passMinute_121 : decode cX8_passMinute 121 = .ok (.laload, 1) := by decide +kernel
theorem dX8_passMinute_122 : decode cX8_passMinute 122 = .ok (.aload_n 0, 1) := by decide +kernel
theorem dX8_passMinute_123 : decode cX8_passMinute 123 = .ok (.getfield 16, 3) := by decide +kernel
theorem dX8_passMinute_126 : decode cX8_passMinute 126 = .ok (.iload_n 1, 1) := by decide +kernel
theorem dX8_passMinute_127 : decode cX8_passMinute 127 = .ok (.invokevirtual 187, 3) := by decide +kernel
theorem dX8_passMinute_130 : decode cX8_passMinute 130 = .ok (.checkcast 75, 3) := by decide +kernel
theorem dX8_passMinute_133 : decode cX8_passMinute 133 = .ok (.invokevirtual 241, 3) := by decide +kernel
theorem dX8_passMinute_136 : decode cX8_passMinute 136 = .ok (.i2l, 1) := by decide +kernel
theorem dX8_passMinute_137 : decode cX8_passMinute 137 = .ok (.ladd, 1) := by decide +kernel
theorem dX8_passMinute_138 : decode cX8_passMinute 138 = .ok (.lastore, 1) := by decide +kernel
theorem dX8_passMinute_139 : decode cX8_passMinute 139 = .ok (.iinc 1 1, 3) := by decide +kernel
theorem dX8_passMinute_142 : decode cX8_passMinute 142 = .ok (.goto (-38), 3) := by decide +kernel
theorem dX8_passMinute_145 : decode cX8_passMinute 145 = .ok (.aload_n 0, 1) := by decide +kernel
theorem dX8_passMinute_146 : decode cX8_passMinute 146 = .ok (.dup, 1) := by decide +kernel
theorem dX8_passMinute_147 : decode cX8_passMinute 147 = .ok (.getfield 47, 3) := by decide +kernel
theorem dX8_passMinute_150 : decode cX8_passMinute 150 = .ok (.iconst 1, 1) := by decide +kernel
theorem dX8_passMinute_151 : decode cX8_passMinute 151 = .ok (.iadd, 1) := by decide +kernel
theorem dX8_passMinute_152 : decode cX8_passMinute 152 = .ok (.putfield 47, 3) := by decide +kernel
theorem dX8_passMinute_155 : decode cX8_passMinute 155 = .ok (.return_, 1) := by decide +kernel
theorem dX8_letFlow_0 : decode cX8_letFlow 0 = .ok (.aload_n 1, 1) := by decide +kernel
theorem dX8_letFlow_1 : decode cX8_letFlow 1 = .ok (.getfield 130, 3) := by decide +kernel
theorem dX8_letFlow_4 : decode cX8_letFlow 4 = .ok (.ifCond .ne 4, 3) := by decide +kernel
theorem dX8_letFlow_7 : decode cX8_letFlow 7 = .ok (.return_, 1) := by decide +kernel
theorem dX8_letFlow_8 : decode cX8_letFlow 8 = .ok (.aload_n 1, 1) := by decide +kernel
theorem dX8_letFlow_9 : decode cX8_letFlow 9 = .ok (.getfield 244, 3) := by decide +kernel
theorem dX8_letFlow_12 : decode cX8_letFlow 12 = .ok (.aload_n 0, 1) := by decide +kernel
theorem dX8_letFlow_13 : decode cX8_letFlow 13 = .ok (.getfield 51, 3) := by decide +kernel
theorem dX8_letFlow_16 : decode cX8_letFlow 16 = .ok (.imul, 1) := by decide +kernel
theorem dX8_letFlow_17 : decode cX8_letFlow 17 = .ok (.bipush 100, 2) := by decide +kernel
theorem dX8_letFlow_19 : decode cX8_letFlow 19 = .ok (.idiv, 1) := by decide +kernel
theorem dX8_letFlow_20 : decode cX8_letFlow 20 = .ok (.istore_n 2, 1) := by decide +kernel
theorem dX8_letFlow_21 : decode cX8_letFlow 21 = .ok (.iconst 0, 1) := by decide +kernel
theorem dX8_letFlow_22 : decode cX8_letFlow 22 = .ok (.aload_n 1, 1) := by decide +kernel
theorem dX8_letFlow_23 : decode cX8_letFlow 23 = .ok (.getfield 175, 3) := by decide +kernel
theorem dX8_letFlow_26 : decode cX8_letFlow 26 = .ok (.iload_n 2, 1) := by decide +kernel
theorem dX8_letFlow_27 : decode cX8_letFlow 27 = .ok (.iadd, 1) := by decide +kernel
theorem dX8_letFlow_28 : decode cX8_letFlow 28 = .ok (.sipush 300, 3) := by decide +kernel
theorem dX8_letFlow_31 : decode cX8_letFlow 31 = .ok (.isub, 1) := by decide +kernel
theorem dX8_letFlow_32 : decode cX8_letFlow 32 = .ok (.invokestatic 247, 3) := by decide +kernel
theorem dX8_letFlow_35 : decode cX8_letFlow 35 = .ok (.istore_n 3, 1) := by decide +kernel
theorem dX8_letFlow_36 : decode cX8_letFlow 36 = .ok (.aload_n 1, 1) := by decide +kernel
theorem dX8_letFlow_37 : decode cX8_letFlow 37 = .ok (.dup, 1) := by decide +kernel
theorem dX8_letFlow_38 : decode cX8_letFlow 38 = .ok (.getfield 175, 3) := by decide +kernel
theorem dX8_letFlow_41 : decode cX8_letFlow 41 = .ok (.iload_n 2, 1) := by decide +kernel
theorem dX8_letFlow_42 : decode cX8_letFlow 42 = .ok (.iload_n 3, 1) := by decide +kernel
theorem dX8_letFlow_43 : decode cX8_letFlow 43 = .ok (.isub, 1) := by decide +kernel
theorem dX8_letFlow_44 : decode cX8_letFlow 44 = .ok (.iadd, 1) := by decide +kernel
theorem dX8_letFlow_45 : decode cX8_letFlow 45 = .ok (.putfield 175, 3) := by decide +kernel
theorem dX8_letFlow_48 : decode cX8_letFlow 48 = .ok (.aload_n 1, 1) := by decide +kernel
theorem dX8_letFlow_49 : decode cX8_letFlow 49 = .ok (.dup, 1) := by decide +kernel
theorem dX8_letFlow_50 : decode cX8_letFlow 50 = .ok (.getfield 178, 3) := by decide +kernel
theorem dX8_letFlow_53 : decode cX8_letFlow 53 = .ok (.iload_n 3, 1) := by decide +kernel
theorem dX8_letFlow_54 : decode cX8_letFlow 54 = .ok (.iadd, 1) := by decide +kernel
theorem dX8_letFlow_55 : decode cX8_letFlow 55 = .ok (.putfield 178, 3) := by decide +kernel
theorem dX8_letFlow_58 : decode cX8_letFlow 58 = .ok (.aload_n 0, 1) := by decide +kernel
theorem dX8_letFlow_59 : decode cX8_letFlow 59 = .ok (.getfield 43, 3) := by decide +kernel
theorem dX8_letFlow_62 : decode cX8_letFlow 62 = .ok (.iconst 0, 1) := by decide +kernel
theorem dX8_letFlow_63 : decode cX8_letFlow 63 = .ok (.dup2, 1) := by decide +kernel
theorem dX8_letFlow_64 : decode cX8_letFlow 64 = .ok (.laload, 1) := by decide +kernel
theorem dX8_letFlow_65 : decode cX8_letFlow 65 = .ok (.iload_n 2, 1) := by decide +kernel
theorem dX8_letFlow_66 : decode cX8_letFlow 66 = .ok (.i2l, 1) := by decide +kernel
theorem dX8_letFlow_67 : decode cX8_letFlow 67 = .ok (.ladd, 1) := by decide +kernel
theorem dX8_letFlow_68 : decode cX8_letFlow 68 = .ok (.lastore, 1) := by decide +kernel
theorem dX8_letFlow_69 : decode cX8_letFlow 69 = .ok (.aload_n 0, 1) := by decide +kernel
theorem dX8_letFlow_70 : decode cX8_letFlow 70 = .ok (.getfield 43, 3) := by decide +kernel
theorem dX8_letFlow_73 : decode cX8_letFlow 73 = .ok (.iconst 1, 1) := by decide +kernel
theorem dX8_letFlow_74 : decode cX8_letFlow 74 = .ok (.dup2, 1) := by decide +kernel
theorem dX8_letFlow_75 : decode cX8_letFlow 75 = .ok (.laload, 1) := by decide +kernel
theorem dX8_letFlow_76 : decode cX8_letFlow 76 = .ok (.iload_n 3, 1) := by decide +kernel
theorem dX8_letFlow_77 : decode cX8_letFlow 77 = .ok (.i2l, 1) := by decide +kernel
theorem dX8_letFlow_78 : decode cX8_letFlow 78 = .ok (.ladd, 1) := by decide +kernel
theorem dX8_letFlow_79 : decode cX8_letFlow 79 = .ok (.lastore, 1) := by decide +kernel
theorem dX8_letFlow_80 : decode cX8_letFlow 80 = .ok (.return_, 1) := by decide +kernel
theorem dX8_fillNext_0 : decode cX8_fillNext 0 = .ok (.aload_n 1, 1) := by decide +kernel
theorem dX8_fillNext_1 : decode cX8_fillNext 1 = .ok (.getfield 130, 3) := by decide +kernel
theorem dX8_fillNext_4 : decode cX8_fillNext 4 = .ok (.ifCond .eq 10, 3) := by decide +kernel
theorem dX8_fillNext_7 : decode cX8_fillNext 7 = .ok (.aload_n 1, 1) := by decide +kernel
theorem dX8_fillNext_8 : decode cX8_fillNext 8 = .ok (.invokevirtual 252, 3) := by decide +kernel
theorem dX8_fillNext_11 : decode cX8_fillNext 11 = .ok (.goto 4, 3) := by decide +kernel
theorem dX8_fillNext_14 : decode cX8_fillNext 14 = .ok (.aconst_null, 1) := by decide +kernel
theorem dX8_fillNext_15 : decode cX8_fillNext 15 = .ok (.astore_n 2, 1) := by decide +kernel
theorem dX8_fillNext_16 : decode cX8_fillNext 16 = .ok (.aload_n 2, 1) := by decide +kernel
theorem dX8_fillNext_17 : decode cX8_fillNext 17 = .ok (.ifnonnull 4, 3) := by decide +kernel
theorem dX8_fillNext_20 : decode cX8_fillNext 20 = .ok (.return_, 1) := by decide +kernel
theorem dX8_fillNext_21 : decode cX8_fillNext 21 = .ok (.bipush 10, 2) := by decide +kernel
theorem dX8_fillNext_23 : decode cX8_fillNext 23 = .ok (.aload_n 1, 1) := by decide +kernel
theorem dX8_fillNext_24 : decode cX8_fillNext 24 = .ok (.getfield 175, 3) := by decide +kernel
theorem dX8_fillNext_27 : decode cX8_fillNext 27 = .ok (.aload_n 2, 1) := by decide +kernel
theorem dX8_fillNext_28 : decode cX8_fillNext 28 = .ok (.getfield 256, 3) := by decide +kernel
theorem dX8_fillNext_31 : decode cX8_fillNext 31 = .ok (.aload_n 2, 1) := by decide +kernel
theorem dX8_fillNext_32 : decode cX8_fillNext 32 = .ok (.getfield 155, 3) := by decide +kernel
theorem dX8_fillNext_35 : decode cX8_fillNext 35 = .ok (.isub, 1) := by decide +kernel
theorem dX8_fillNext_36 : decode cX8_fillNext 36 = .ok (.invokestatic 259, 3) := by decide +kernel
theorem dX8_fillNext_39 : decode cX8_fillNext 39 = .ok (.invokestatic 259, 3) := by decide +kernel
theorem dX8_fillNext_42 : decode cX8_fillNext 42 = .ok (.istore_n 3, 1) := by decide +kernel
theorem dX8_fillNext_43 : decode cX8_fillNext 43 = .ok (.aload_n 1, 1) := by decide +kernel
theorem dX8_fillNext_44 : decode cX8_fillNext 44 = .ok (.dup, 1) := by decide +kernel
theorem dX8_fillNext_45 : decode cX8_fillNext 45 = .ok (.getfield 175, 3) := by decide +kernel
theorem dX8_fillNext_48 : decode cX8_fillNext 48 = .ok (.iload_n 3, 1) := by decide +kernel
theorem dX8_fillNext_49 : decode cX8_fillNext 49 = .ok (.isub, 1) := by decide +kernel
theorem dX8_fillNext_50 : decode cX8_fillNext 50 = .ok (.putfield 175, 3) := by decide +kernel
theorem dX8_fillNext_53 : decode cX8_fillNext 53 = .ok (.aload_n 2, 1) := by decide +kernel
theorem dX8_fillNext_54 : decode cX8_fillNext 54 = .ok (.dup, 1) := by decide +kernel
theorem dX8_fillNext_55 : decode cX8_fillNext 55 = .ok (.getfield 155, 3) := by decide +kernel
theorem dX8_fillNext_58 : decode cX8_fillNext 58 = .ok (.iload_n 3, 1) := by decide +kernel
theorem dX8_fillNext_59 : decode cX8_fillNext 59 = .ok (.iadd, 1) := by decide +kernel
theorem dX8_fillNext_60 : decode cX8_fillNext 60 = .ok (.putfield 155, 3) := by decide +kernel
theorem dX8_fillNext_63 : decode cX8_fillNext 63 = .ok (.aload_n 0, 1) := by decide +kernel
theorem dX8_fillNext_64 : decode cX8_fillNext 64 = .ok (.getfield 43, 3) := by decide +kernel
theorem dX8_fillNext_67 : decode cX8_fillNext 67 = .ok (.iconst 2, 1) := by decide +kernel
theorem dX8_fillNext_68 : decode cX8_fillNext 68 = .ok (.dup2, 1) := by decide +kernel
theorem dX8_fillNext_69 : decode cX8_fillNext 69 = .ok (.laload, 1) := by decide +kernel
theorem dX8_fillNext_70 : decode cX8_fillNext 70 = .ok (.iload_n 3, 1) := by decide +kernel
theorem dX8_fillNext_71 : decode cX8_fillNext 71 = .ok (.i2l, 1) := by decide +kernel
theorem dX8_fillNext_72 : decode cX8_fillNext 72 = .ok (.ladd, 1) := by decide +kernel
theorem dX8_fillNext_73 : decode cX8_fillNext 73 = .ok (.lastore, 1) := by decide +kernel
theorem dX8_fillNext_74 : decode cX8_fillNext 74 = .ok (.iload_n 3, 1) := by decide +kernel
theorem dX8_fillNext_75 : decode cX8_fillNext 75 = .ok (.ifCond .le 19, 3) := by decide +kernel
theorem dX8_fillNext_78 : decode cX8_fillNext 78 = .ok (.aload_n 2, 1) := by decide +kernel
theorem dX8_fillNext_79 : decode cX8_fillNext 79 = .ok (.aload_n 1, 1) := by decide +kernel
theorem dX8_fillNext_80 : decode cX8_fillNext 80 = .ok (.getfield 161, 3) := by decide +kernel
theorem dX8_fillNext_83 : decode cX8_fillNext 83 = .ok (.putfield 262, 3) := by decide +kernel
theorem dX8_fillNext_86 : decode cX8_fillNext 86 = .ok (.aload_n 2, 1) := by decide +kernel
theorem dX8_fillNext_87 : decode cX8_fillNext 87 = .ok (.aload_n 0, 1) := by decide +kernel
theorem dX8_fillNext_88 : decode cX8_fillNext 88 = .ok (.getfield 47, 3) := by decide +kernel
theorem dX8_fillNext_91 : decode cX8_fillNext 91 = .ok (.putfield 265, 3) := by decide +kernel
theorem dX8_fillNext_94 : decode cX8_fillNext 94 = .ok (.aload_n 2, 1) := by decide +kernel
theorem dX8_fillNext_95 : decode cX8_fillNext 95 = .ok (.getfield 155, 3) := by decide +kernel
theorem dX8_fillNext_98 : decode cX8_fillNext 98 = .ok (.aload_n 2, 1) := by decide +kernel
theorem dX8_fillNext_99 : decode cX8_fillNext 99 = .ok (.getfield 256, 3) := by decide +kernel
theorem dX8_fillNext_102 : decode cX8_fillNext 102 = .ok (.if_icmp .lt 15, 3) := by decide +kernel
theorem dX8_fillNext_105 : decode cX8_fillNext 105 = .ok (.aload_n 2, 1) := by decide +kernel
theorem dX8_fillNext_106 : decode cX8_fillNext 106 = .ok (.invokevirtual 119, 3) := by decide +kernel
theorem dX8_fillNext_109 : decode cX8_fillNext 109 = .ok (.aload_n 2, 1) := by decide +kernel
theorem dX8_fillNext_110 : decode cX8_fillNext 110 = .ok (.aload_n 0, 1) := by decide +kernel
theorem dX8_fillNext_111 : decode cX8_fillNext 111 = .ok (.getfield 47, 3) := by decide +kernel
theorem dX8_fillNext_114 : decode cX8_fillNext 114 = .ok (.invokevirtual 268, 3) := by decide +kernel
theorem dX8_fillNext_117 : decode cX8_fillNext 117 = .ok (.return_, 1) := by decide +kernel
theorem dX8_walk_0 : decode cX8_walk 0 = .ok (.aload_n 1, 1) := by decide +kernel
theorem dX8_walk_1 : decode cX8_walk 1 = .ok (.getfield 116, 3) := by decide +kernel
theorem dX8_walk_4 : decode cX8_walk 4 = .ok (.ifCond .eq 14, 3) := by decide +kernel
theorem dX8_walk_7 : decode cX8_walk 7 = .ok (.aload_n 1, 1) := by decide +kernel
theorem dX8_walk_8 : decode cX8_walk 8 = .ok (.getfield 272, 3) := by decide +kernel
theorem dX8_walk_11 : decode cX8_walk 11 = .ok (.aload_n 0, 1) := by decide +kernel
theorem dX8_walk_12 : decode cX8_walk 12 = .ok (.getfield 47, 3) := by decide +kernel
theorem dX8_walk_15 : decode cX8_walk 15 = .ok (.if_icmp .ne 4, 3) := by decide +kernel
theorem dX8_walk_18 : decode cX8_walk 18 = .ok (.return_, 1) := by decide +kernel
theorem dX8_walk_19 : decode cX8_walk 19 = .ok (.aload_n 1, 1) := by decide +kernel
theorem dX8_walk_20 : decode cX8_walk 20 = .ok (.dup, 1) := by decide +kernel
theorem dX8_walk_21 : decode cX8_walk 21 = .ok (.getfield 152, 3) := by decide +kernel
theorem dX8_walk_24 : decode cX8_walk 24 = .ok (.iconst 1, 1) := by decide +kernel
theorem dX8_walk_25 : decode cX8_walk 25 = .ok (.isub, 1) := by decide +kernel
theorem dX8_walk_26 : decode cX8_walk 26 = .ok (.putfield 152, 3) := by decide +kernel
theorem dX8_walk_29 : decode cX8_walk 29 = .ok (.aload_n 1, 1) := by decide +kernel
theorem dX8_walk_30 : decode cX8_walk 30 = .ok (.getfield 152, 3) := by decide +kernel
theorem dX8_walk_33 : decode cX8_walk 33 = .ok (.ifCond .le 4, 3) := by decide +kernel
theorem dX8_walk_36 : decode cX8_walk 36 = .ok (.return_, 1) := by decide +kernel
theorem dX8_walk_37 : decode cX8_walk 37 = .ok (.aload_n 1, 1) := by decide +kernel
theorem dX8_walk_38 : decode cX8_walk 38 = .ok (.getfield 116, 3) := by decide +kernel
theorem dX8_walk_41 : decode cX8_walk 41 = .ok (.iconst 1, 1) := by decide +kernel
theorem dX8_walk_42 : decode cX8_walk 42 = .ok (.if_icmp .ne 15, 3) := by decide +kernel
theorem dX8_walk_45 : decode cX8_walk 45 = .ok (.aload_n 0, 1) := by decide +kernel
theorem dX8_walk_46 : decode cX8_walk 46 = .ok (.aload_n 1, 1) := by decide +kernel
theorem dX8_walk_47 : decode cX8_walk 47 = .ok (.invokevirtual 275, 3) := by decide +kernel
theorem dX8_walk_50 : decode cX8_walk 50 = .ok (.aload_n 1, 1) := by decide +kernel
theorem dX8_walk_51 : decode cX8_walk 51 = .ok (.invokevirtual 191, 3) := by decide +kernel
theorem dX8_walk_54 : decode cX8_walk 54 = .ok (.goto 7, 3) := by decide +kernel
theorem dX8_walk_57 : decode cX8_walk 57 = .ok (.aload_n 1, 1) := by decide +kernel
theorem dX8_walk_58 : decode cX8_walk 58 = .ok (.invokevirtual 101, 3) := by decide +kernel
theorem dX8_walk_61 : decode cX8_walk 61 = .ok (.return_, 1) := by decide +kernel
theorem dX8_pour_0 : decode cX8_pour 0 = .ok (.aload_n 1, 1) := by decide +kernel
theorem dX8_pour_1 : decode cX8_pour 1 = .ok (.getfield 126, 3) := by decide +kernel
theorem dX8_pour_4 : decode cX8_pour 4 = .ok (.astore_n 2, 1) := by decide +kernel
theorem dX8_pour_5 : decode cX8_pour 5 = .ok (.aload_n 1, 1) := by decide +kernel
theorem dX8_pour_6 : decode cX8_pour 6 = .ok (.getfield 155, 3) := by decide +kernel
theorem dX8_pour_9 : decode cX8_pour 9 = .ok (.aload_n 2, 1) := by decide +kernel
theorem dX8_pour_10 : decode cX8_pour 10 = .ok (.getfield 278, 3) := by decide +kernel
theorem dX8_pour_13 : decode cX8_pour 13 = .ok (.aload_n 2, 1) := by decide +kernel
theorem dX8_pour_14 : decode cX8_pour 14 = .ok (.getfield 181, 3) := by decide +kernel
theorem dX8_pour_17 : decode cX8_pour 17 = .ok (.isub, 1) := by decide +kernel
theorem dX8_pour_18 : decode cX8_pour 18 = .ok (.invokestatic 259, 3) := by decide +kernel
theorem dX8_pour_21 : decode cX8_pour 21 = .ok (.istore_n 3, 1) := by decide +kernel
theorem dX8_pour_22 : decode cX8_pour 22 = .ok (.iload_n 3, 1) := by decide +kernel
theorem dX8_pour_23 : decode cX8_pour 23 = .ok (.ifCond .gt 4, 3) := by decide +kernel
theorem dX8_pour_26 : decode cX8_pour 26 = .ok (.return_, 1) := by decide +kernel
theorem dX8_pour_27 : decode cX8_pour 27 = .ok (.iload_n 3, 1) := by decide +kernel
theorem dX8_pour_28 : decode cX8_pour 28 = .ok (.aload_n 0, 1) := by decide +kernel
theorem dX8_pour_29 : decode cX8_pour 29 = .ok (.getfield 25, 3) := by decide +kernel
theorem dX8_pour_32 : decode cX8_pour 32 = .ok (.aload_n 2, 1) := by decide +kernel
theorem dX8_pour_33 : decode cX8_pour 33 = .ok (.getfield 281, 3) := by decide +kernel
theorem dX8_pour_36 : decode cX8_pour 36 = .ok (.invokevirtual 141, 3) := by decide +kernel
theorem dX8_pour_39 : decode cX8_pour 39 = .ok (.imul, 1) := by decide +kernel
theorem dX8_pour_40 : decode cX8_pour 40 = .ok (.istore 4, 2) := by decide +kernel
theorem dX8_pour_42 : decode cX8_pour 42 = .ok (.aload_n 2, 1) := by decide +kernel
theorem dX8_pour_43 : decode cX8_pour 43 = .ok (.dup, 1) := by decide +kernel
theorem dX8_pour_44 : decode cX8_pour 44 = .ok (.getfield 181, 3) := by decide +kernel
theorem dX8_pour_47 : decode cX8_pour 47 = .ok (.iload_n 3, 1) := by decide +kernel
theorem dX8_pour_48 : decode cX8_pour 48 = .ok (.iadd, 1) := by decide +kernel
theorem dX8_pour_49 : decode cX8_pour 49 = .ok (.putfield 181, 3) := by decide +kernel
theorem dX8_pour_52 : decode cX8_pour 52 = .ok (.aload_n 1, 1) := by decide +kernel
theorem dX8_pour_53 : decode cX8_pour 53 = .ok (.dup, 1) := by decide +kernel
theorem dX8_pour_54 : decode cX8_pour 54 = .ok (.getfield 155, 3) := by decide +kernel
theorem dX8_pour_57 : decode cX8_pour 57 = .ok (.iload_n 3, 1) := by decide +kernel
theorem dX8_pour_58 : decode cX8_pour 58 = .ok (.isub, 1) := by decide +kernel
theorem dX8_pour_59 : decode cX8_pour 59 = .ok (.putfield 155, 3) := by decide +kernel
theorem dX8_pour_62 : decode cX8_pour 62 = .ok (.aload_n 1, 1) := by decide +kernel
theorem dX8_pour_63 : decode cX8_pour 63 = .ok (.dup, 1) := by decide +kernel
theorem dX8_pour_64 : decode cX8_pour 64 = .ok (.getfield 158, 3) := by decide +kernel
theorem dX8_pour_67 : decode cX8_pour 67 = .ok (.iload 4, 2) := by decide +kernel
theorem dX8_pour_69 : decode cX8_pour 69 = .ok (.iadd, 1) := by decide +kernel
theorem dX8_pour_70 : decode cX8_pour 70 = .ok (.putfield 158, 3) := by decide +kernel
theorem dX8_pour_73 : decode cX8_pour 73 = .ok (.aload_n 0, 1) := by decide +kernel
theorem dX8_pour_74 : decode cX8_pour 74 = .ok (.getfield 43, 3) := by decide +kernel
theorem dX8_pour_77 : decode cX8_pour 77 = .ok (.iconst 3, 1) := by decide +kernel
theorem dX8_pour_78 : decode cX8_pour 78 = .ok (.dup2, 1) := by decide +kernel
theorem dX8_pour_79 : decode cX8_pour 79 = .ok (.laload, 1) := by decide +kernel
theorem dX8_pour_80 : decode cX8_pour 80 = .ok (.iload_n 3, 1) := by decide +kernel
theorem dX8_pour_81 : decode cX8_pour 81 = .ok (.i2l, 1) := by decide +kernel
theorem dX8_pour_82 : decode cX8_pour 82 = .ok (.ladd, 1) := by decide +kernel
theorem dX8_pour_83 : decode cX8_pour 83 = .ok (.lastore, 1) := by decide +kernel
theorem dX8_pour_84 : decode cX8_pour 84 = .ok (.aload_n 0, 1) := by decide +kernel
theorem dX8_pour_85 : decode cX8_pour 85 = .ok (.getfield 43, 3) := by decide +kernel
theorem dX8_pour_88 : decode cX8_pour 88 = .ok (.bipush 6, 2) := by decide +kernel
theorem dX8_pour_90 : decode cX8_pour 90 = .ok (.dup2, 1) := by decide +kernel
theorem dX8_pour_91 : decode cX8_pour 91 = .ok (.laload, 1) := by decide +kernel
theorem dX8_pour_92 : decode cX8_pour 92 = .ok (.iload 4, 2) := by decide +kernel
theorem dX8_pour_94 : decode cX8_pour 94 = .ok (.i2l, 1) := by decide +kernel
theorem dX8_pour_95 : decode cX8_pour 95 = .ok (.ladd, 1) := by decide +kernel
theorem dX8_pour_96 : decode cX8_pour 96 = .ok (.lastore, 1) := by decide +kernel
theorem dX8_pour_97 : decode cX8_pour 97 = .ok (.aload_n 0, 1) := by decide +kernel
theorem dX8_pour_98 : decode cX8_pour 98 = .ok (.getfield 32, 3) := by decide +kernel
theorem dX8_pour_101 : decode cX8_pour 101 = .ok (.aload_n 1, 1) := by decide +kernel
theorem dX8_pour_102 : decode cX8_pour 102 = .ok (.iload_n 3, 1) := by decide +kernel
theorem dX8_pour_103 : decode cX8_pour 103 = .ok (.aload_n 0, 1) := by decide +kernel
theorem dX8_pour_104 : decode cX8_pour 104 = .ok (.getfield 47, 3) := by decide +kernel
theorem dX8_pour_107 : decode cX8_pour 107 = .ok (.invokevirtual 284, 3) := by decide +kernel
theorem dX8_pour_110 : decode cX8_pour 110 = .ok (.return_, 1) := by decide +kernel
theorem dJ6_bitCount_0f7a4_0 : decode cJ6_bitCount_0f7a4 0 = .ok (.iload_n 0, 1) := by decide +kernel
theorem dJ6_bitCount_0f7a4_1 : decode cJ6_bitCount_0f7a4 1 = .ok (.iload_n 0, 1) := by decide +kernel
theorem dJ6_bitCount_0f7a4_2 : decode cJ6_bitCount_0f7a4 2 = .ok (.iconst 1, 1) := by decide +kernel
theorem dJ6_bitCount_0f7a4_3 : decode cJ6_bitCount_0f7a4 3 = .ok (.iushr, 1) := by decide +kernel
theorem dJ6_bitCount_0f7a4_4 : decode cJ6_bitCount_0f7a4 4 = .ok (.ldc_w 265, 3) := by decide +kernel
theorem dJ6_bitCount_0f7a4_7 : decode cJ6_bitCount_0f7a4 7 = .ok (.iand, 1) := by decide +kernel
theorem dJ6_bitCount_0f7a4_8 : decode cJ6_bitCount_0f7a4 8 = .ok (.isub, 1) := by decide +kernel
theorem dJ6_bitCount_0f7a4_9 : decode cJ6_bitCount_0f7a4 9 = .ok (.istore_n 0, 1) := by decide +kernel
theorem dJ6_bitCount_0f7a4_10 : decode cJ6_bitCount_0f7a4 10 = .ok (.iload_n 0, 1) := by decide +kernel
theorem dJ6_bitCount_0f7a4_11 : decode cJ6_bitCount_0f7a4 11 = .ok (.ldc_w 266, 3) := by decide +kernel
theorem dJ6_bitCount_0f7a4_14 : decode cJ6_bitCount_0f7a4 14 = .ok (.iand, 1) := by decide +kernel
theorem dJ6_bitCount_0f7a4_15 : decode cJ6_bitCount_0f7a4 15 = .ok (.iload_n 0, 1) := by decide +kernel
theorem dJ6_bitCount_0f7a4_16 : decode cJ6_bitCount_0f7a4 16 = .ok (.iconst 2, 1) := by decide +kernel
theorem dJ6_bitCount_0f7a4_17 : decode cJ6_bitCount_0f7a4 17 = .ok (.iushr, 1) := by decide +kernel
theorem dJ6_bitCount_0f7a4_18 : decode cJ6_bitCount_0f7a4 18 = .ok (.ldc_w 266, 3) := by decide +kernel
theorem dJ6_bitCount_0f7a4_21 : decode cJ6_bitCount_0f7a4 21 = .ok (.iand, 1) := by decide +kernel
theorem dJ6_bitCount_0f7a4_22 : decode cJ6_bitCount_0f7a4 22 = .ok (.iadd, 1) := by decide +kernel
theorem dJ6_bitCount_0f7a4_23 : decode cJ6_bitCount_0f7a4 23 = .ok (.istore_n 0, 1) := by decide +kernel
theorem dJ6_bitCount_0f7a4_24 : decode cJ6_bitCount_0f7a4 24 = .ok (.iload_n 0, 1) := by decide +kernel
theorem dJ6_bitCount_0f7a4_25 : decode cJ6_bitCount_0f7a4 25 = .ok (.iload_n 0, 1) := by decide +kernel
theorem dJ6_bitCount_0f7a4_26 : decode cJ6_bitCount_0f7a4 26 = .ok (.iconst 4, 1) := by decide +kernel
theorem dJ6_bitCount_0f7a4_27 : decode cJ6_bitCount_0f7a4 27 = .ok (.iushr, 1) := by decide +kernel
theorem dJ6_bitCount_0f7a4_28 : decode cJ6_bitCount_0f7a4 28 = .ok (.iadd, 1) := by decide +kernel
theorem dJ6_bitCount_0f7a4_29 : decode cJ6_bitCount_0f7a4 29 = .ok (.ldc_w 267, 3) := by decide +kernel
theorem dJ6_bitCount_0f7a4_32 : decode cJ6_bitCount_0f7a4 32 = .ok (.iand, 1) := by decide +kernel
theorem dJ6_bitCount_0f7a4_33 : decode cJ6_bitCount_0f7a4 33 = .ok (.istore_n 0, 1) := by decide +kernel
theorem dJ6_bitCount_0f7a4_34 : decode cJ6_bitCount_0f7a4 34 = .ok (.iload_n 0, 1) := by decide +kernel
theorem dJ6_bitCount_0f7a4_35 : decode cJ6_bitCount_0f7a4 35 = .ok (.iload_n 0, 1) := by decide +kernel
theorem dJ6_bitCount_0f7a4_36 : decode cJ6_bitCount_0f7a4 36 = .ok (.bipush 8, 2) := by decide +kernel
theorem dJ6_bitCount_0f7a4_38 : decode cJ6_bitCount_0f7a4 38 = .ok (.iushr, 1) := by decide +kernel
theorem dJ6_bitCount_0f7a4_39 : decode cJ6_bitCount_0f7a4 39 = .ok (.iadd, 1) := by decide +kernel
theorem dJ6_bitCount_0f7a4_40 : decode cJ6_bitCount_0f7a4 40 = .ok (.istore_n 0, 1) := by decide +kernel
theorem dJ6_bitCount_0f7a4_41 : decode cJ6_bitCount_0f7a4 41 = .ok (.iload_n 0, 1) := by decide +kernel
theorem dJ6_bitCount_0f7a4_42 : decode cJ6_bitCount_0f7a4 42 = .ok (.iload_n 0, 1) := by decide +kernel
theorem dJ6_bitCount_0f7a4_43 : decode cJ6_bitCount_0f7a4 43 = .ok (.bipush 16, 2) := by decide +kernel
theorem dJ6_bitCount_0f7a4_45 : decode cJ6_bitCount_0f7a4 45 = .ok (.iushr, 1) := by decide +kernel
theorem dJ6_bitCount_0f7a4_46 : decode cJ6_bitCount_0f7a4 46 = .ok (.iadd, 1) := by decide +kernel
theorem dJ6_bitCount_0f7a4_47 : decode cJ6_bitCount_0f7a4 47 = .ok (.istore_n 0, 1) := by decide +kernel
theorem dJ6_bitCount_0f7a4_48 : decode cJ6_bitCount_0f7a4 48 = .ok (.iload_n 0, 1) := by decide +kernel
theorem dJ6_bitCount_0f7a4_49 : decode cJ6_bitCount_0f7a4 49 = .ok (.bipush 63, 2) := by decide +kernel
theorem dJ6_bitCount_0f7a4_51 : decode cJ6_bitCount_0f7a4 51 = .ok (.iand, 1) := by decide +kernel
theorem dJ6_bitCount_0f7a4_52 : decode cJ6_bitCount_0f7a4 52 = .ok (.ireturn, 1) := by decide +kernel
theorem dJ9_floorMod_7cf53_0 : decode cJ9_floorMod_7cf53 0 = .ok (.iload_n 0, 1) := by decide +kernel
theorem dJ9_floorMod_7cf53_1 : decode cJ9_floorMod_7cf53 1 = .ok (.iload_n 1, 1) := by decide +kernel
theorem dJ9_floorMod_7cf53_2 : decode cJ9_floorMod_7cf53 2 = .ok (.irem, 1) := by decide +kernel
theorem dJ9_floorMod_7cf53_3 : decode cJ9_floorMod_7cf53 3 = .ok (.istore_n 2, 1) := by decide +kernel
theorem dJ9_floorMod_7cf53_4 : decode cJ9_floorMod_7cf53 4 = .ok (.iload_n 0, 1) := by decide +kernel
theorem dJ9_floorMod_7cf53_5 : decode cJ9_floorMod_7cf53 5 = .ok (.iload_n 1, 1) := by decide +kernel
theorem dJ9_floorMod_7cf53_6 : decode cJ9_floorMod_7cf53 6 = .ok (.ixor, 1) := by decide +kernel
theorem dJ9_floorMod_7cf53_7 : decode cJ9_floorMod_7cf53 7 = .ok (.ifCond .ge 11, 3) := by decide +kernel
theorem dJ9_floorMod_7cf53_10 : decode cJ9_floorMod_7cf53 10 = .ok (.iload_n 2, 1) := by decide +kernel
theorem dJ9_floorMod_7cf53_11 : decode cJ9_floorMod_7cf53 11 = .ok (.ifCond .eq 7, 3) := by decide +kernel
theorem dJ9_floorMod_7cf53_14 : decode cJ9_floorMod_7cf53 14 = .ok (.iload_n 2, 1) := by decide +kernel
theorem dJ9_floorMod_7cf53_15 : decode cJ9_floorMod_7cf53 15 = .ok (.iload_n 1, 1) := by decide +kernel
theorem dJ9_floorMod_7cf53_16 : decode cJ9_floorMod_7cf53 16 = .ok (.iadd, 1) := by decide +kernel
theorem dJ9_floorMod_7cf53_17 : decode cJ9_floorMod_7cf53 17 = .ok (.ireturn, 1) := by decide +kernel
theorem dJ9_floorMod_7cf53_18 : decode cJ9_floorMod_7cf53 18 = .ok (.iload_n 2, 1) := by decide +kernel
theorem dJ9_floorMod_7cf53_19 : decode cJ9_floorMod_7cf53 19 = .ok (.ireturn, 1) := by decide +kernel
theorem dJ9_max_7cf53_0 : decode cJ9_max_7cf53 0 = .ok (.iload_n 0, 1) := by decide +kernel
theorem dJ9_max_7cf53_1 : decode cJ9_max_7cf53 1 = .ok (.iload_n 1, 1) := by decide +kernel
theorem dJ9_max_7cf53_2 : decode cJ9_max_7cf53 2 = .ok (.if_icmp .lt 7, 3) := by decide +kernel
theorem dJ9_max_7cf53_5 : decode cJ9_max_7cf53 5 = .ok (.iload_n 0, 1) := by decide +kernel
theorem dJ9_max_7cf53_6 : decode cJ9_max_7cf53 6 = .ok (.goto 4, 3) := by decide +kernel
theorem dJ9_max_7cf53_9 : decode cJ9_max_7cf53 9 = .ok (.iload_n 1, 1) := by decide +kernel
theorem dJ9_max_7cf53_10 : decode cJ9_max_7cf53 10 = .ok (.ireturn, 1) := by decide +kernel
theorem dJ9_min_7cf53_0 : decode cJ9_min_7cf53 0 = .ok (.iload_n 0, 1) := by decide +kernel
theorem dJ9_min_7cf53_1 : decode cJ9_min_7cf53 1 = .ok (.iload_n 1, 1) := by decide +kernel
theorem dJ9_min_7cf53_2 : decode cJ9_min_7cf53 2 = .ok (.if_icmp .gt 7, 3) := by decide +kernel
theorem dJ9_min_7cf53_5 : decode cJ9_min_7cf53 5 = .ok (.iload_n 0, 1) := by decide +kernel
theorem dJ9_min_7cf53_6 : decode cJ9_min_7cf53 6 = .ok (.goto 4, 3) := by decide +kernel
theorem dJ9_min_7cf53_9 : decode cJ9_min_7cf53 9 = .ok (.iload_n 1, 1) := by decide +kernel
theorem dJ9_min_7cf53_10 : decode cJ9_min_7cf53 10 = .ok (.ireturn, 1) := by decide +kernel
theorem dJxa1e45_init_da8c8_0 : decode cJxa1e45_init_da8c8 0 = .ok (.aload_n 0, 1) := by decide +kernel
theorem dJxa1e45_init_da8c8_1 : decode cJxa1e45_init_da8c8 1 = .ok (.invokespecial 1, 3) := by decide +kernel
theorem dJxa1e45_init_da8c8_4 : decode cJxa1e45_init_da8c8 4 = .ok (.return_, 1) := by decide +kernel
theorem dJxc12de_init_da8c8_0 : decode cJxc12de_init_da8c8 0 = .ok (.aload_n 0, 1) := by decide +kernel
theorem dJxc12de_init_da8c8_1 : decode cJxc12de_init_da8c8 1 = .ok (.invokespecial 1, 3) := by decide +kernel
theorem dJxc12de_init_da8c8_4 : decode cJxc12de_init_da8c8 4 = .ok (.aload_n 0, 1) := by decide +kernel
theorem dJxc12de_init_da8c8_5 : decode cJxc12de_init_da8c8 5 = .ok (.iconst 0, 1) := by decide +kernel
theorem dJxc12de_init_da8c8_6 : decode cJxc12de_init_da8c8 6 = .ok (.putfield 7, 3) := by decide +kernel
theorem dJxc12de_init_da8c8_9 : decode cJxc12de_init_da8c8 9 = .ok (.return_, 1) := by decide +kernel
theorem dJx4a65c_init_da8c8_0 : decode cJx4a65c_init_da8c8 0 = .ok (.aload_n 0, 1) := by decide +kernel
theorem dJx4a65c_init_da8c8_1 : decode cJx4a65c_init_da8c8 1 = .ok (.invokespecial 1, 3) := by decide +kernel
theorem dJx4a65c_init_da8c8_4 : decode cJx4a65c_init_da8c8 4 = .ok (.aload_n 0, 1) := by decide +kernel
theorem dJx4a65c_init_da8c8_5 : decode cJx4a65c_init_da8c8 5 = .ok (.getstatic 39, 3) := by decide +kernel
theorem dJx4a65c_init_da8c8_8 : decode cJx4a65c_init_da8c8 8 = .ok (.putfield 9, 3) := by decide +kernel
theorem dJx4a65c_init_da8c8_11 : decode cJx4a65c_init_da8c8 11 = .ok (.return_, 1) := by decide +kernel
theorem dJx4a65c_grow_92f84_0 : decode cJx4a65c_grow_92f84 0 = .ok (.aload_n 0, 1) := by decide +kernel
theorem dJx4a65c_grow_92f84_1 : decode cJx4a65c_grow_92f84 1 = .ok (.getfield 9, 3) := by decide +kernel
theorem dJx4a65c_grow_92f84_4 : decode cJx4a65c_grow_92f84 4 = .ok (.arraylength, 1) := by decide +kernel
theorem dJx4a65c_grow_92f84_5 : decode cJx4a65c_grow_92f84 5 = .ok (.istore_n 2, 1) := by decide +kernel
theorem dJx4a65c_grow_92f84_6 : decode cJx4a65c_grow_92f84 6 = .ok (.iload_n 2, 1) := by decide +kernel
theorem dJx4a65c_grow_92f84_7 : decode cJx4a65c_grow_92f84 7 = .ok (.ifCond .gt 13, 3) := by decide +kernel
theorem dJx4a65c_grow_92f84_10 : decode cJx4a65c_grow_92f84 10 = .ok (.aload_n 0, 1) := by decide +kernel
theorem dJx4a65c_grow_92f84_11 : decode cJx4a65c_grow_92f84 11 = .ok (.getfield 9, 3) := by decide +kernel
theorem dJx4a65c_grow_92f84_14 : decode cJx4a65c_grow_92f84 14 = .ok (.getstatic 39, 3) := by decide +kernel
theorem dJx4a65c_grow_92f84_17 : decode cJx4a65c_grow_92f84 17 = .ok (.if_acmp .eq 28, 3) := by decide +kernel
theorem dJx4a65c_grow_92f84_20 : decode cJx4a65c_grow_92f84 20 = .ok (.iload_n 2, 1) := by decide +kernel
theorem dJx4a65c_grow_92f84_21 : decode cJx4a65c_grow_92f84 21 = .ok (.iload_n 1, 1) := by decide +kernel
theorem dJx4a65c_grow_92f84_22 : decode cJx4a65c_grow_92f84 22 = .ok (.iload_n 2, 1) := by decide +kernel
theorem dJx4a65c_grow_92f84_23 : decode cJx4a65c_grow_92f84 23 = .ok (.isub, 1) := by decide +kernel
theorem dJx4a65c_grow_92f84_24 : decode cJx4a65c_grow_92f84 24 = .ok (.iload_n 2, 1) := by decide +kernel
theorem dJx4a65c_grow_92f84_25 : decode cJx4a65c_grow_92f84 25 = .ok (.iconst 1, 1) := by decide +kernel
theorem dJx4a65c_grow_92f84_26 : decode cJx4a65c_grow_92f84 26 = .ok (.ishr, 1) := by decide +kernel
theorem dJx4a65c_grow_92f84_27 : decode cJx4a65c_grow_92f84 27 = .ok (.invokestatic 73, 3) := by decide +kernel
theorem dJx4a65c_grow_92f84_30 : decode cJx4a65c_grow_92f84 30 = .ok (.istore_n 3, 1) := by decide +kernel
theorem dJx4a65c_grow_92f84_31 : decode cJx4a65c_grow_92f84 31 = .ok (.aload_n 0, 1) := by decide +kernel
theorem dJx4a65c_grow_92f84_32 : decode cJx4a65c_grow_92f84 32 = .ok (.aload_n 0, 1) := by decide +kernel
theorem dJx4a65c_grow_92f84_33 : decode cJx4a65c_grow_92f84 33 = .ok (.getfield 9, 3) := by decide +kernel
theorem dJx4a65c_grow_92f84_36 : decode cJx4a65c_grow_92f84 36 = .ok (.iload_n 3, 1) := by decide +kernel
theorem dJx4a65c_grow_92f84_37 : decode cJx4a65c_grow_92f84 37 = .ok (.invokestatic 66, 3) := by decide +kernel
theorem dJx4a65c_grow_92f84_40 : decode cJx4a65c_grow_92f84 40 = .ok (.dup_x1, 1) := by decide +kernel
theorem dJx4a65c_grow_92f84_41 : decode cJx4a65c_grow_92f84 41 = .ok (.putfield 9, 3) := by decide +kernel
theorem dJx4a65c_grow_92f84_44 : decode cJx4a65c_grow_92f84 44 = .ok (.areturn, 1) := by decide +kernel
theorem dJx4a65c_grow_92f84_45 : decode cJx4a65c_grow_92f84 45 = .ok (.aload_n 0, 1) := by decide +kernel
theorem dJx4a65c_grow_92f84_46 : decode cJx4a65c_grow_92f84 46 = .ok (.bipush 10, 2) := by decide +kernel
theorem dJx4a65c_grow_92f84_48 : decode cJx4a65c_grow_92f84 48 = .ok (.iload_n 1, 1) := by decide +kernel
theorem dJx4a65c_grow_92f84_49 : decode cJx4a65c_grow_92f84 49 = .ok (.invokestatic 79, 3) := by decide +kernel
theorem dJx4a65c_grow_92f84_52 : decode cJx4a65c_grow_92f84 52 = .ok (.anewarray 7, 3) := by decide +kernel
theorem dJx4a65c_grow_92f84_55 : decode cJx4a65c_grow_92f84 55 = .ok (.dup_x1, 1) := by decide +kernel
theorem dJx4a65c_grow_92f84_56 : decode cJx4a65c_grow_92f84 56 = .ok (.putfield 9, 3) := by decide +kernel
theorem dJx4a65c_grow_92f84_59 : decode cJx4a65c_grow_92f84 59 = .ok (.areturn, 1) := by decide +kernel
theorem dJx4a65c_grow_d5877_0 : decode cJx4a65c_grow_d5877 0 = .ok (.aload_n 0, 1) := by decide +kernel
theorem dJx4a65c_grow_d5877_1 : decode cJx4a65c_grow_d5877 1 = .ok (.aload_n 0, 1) := by decide +kernel
theorem dJx4a65c_grow_d5877_2 : decode cJx4a65c_grow_d5877 2 = .ok (.getfield 48, 3) := by decide +kernel
theorem dJx4a65c_grow_d5877_5 : decode cJx4a65c_grow_d5877 5 = .ok (.iconst 1, 1) := by decide +kernel
theorem dJx4a65c_grow_d5877_6 : decode cJx4a65c_grow_d5877 6 = .ok (.iadd, 1) := by decide +kernel
theorem dJx4a65c_grow_d5877_7 : decode cJx4a65c_grow_d5877 7 = .ok (.invokevirtual 69, 3) := by decide +kernel
theorem dJx4a65c_grow_d5877_10 : decode cJx4a65c_grow_d5877 10 = .ok (.areturn, 1) := by decide +kernel
theorem dJx4a65c_size_8abf5_0 : decode cJx4a65c_size_8abf5 0 = .ok (.aload_n 0, 1) := by decide +kernel
theorem dJx4a65c_size_8abf5_1 : decode cJx4a65c_size_8abf5 1 = .ok (.getfield 48, 3) := by decide +kernel
theorem dJx4a65c_size_8abf5_4 : decode cJx4a65c_size_8abf5 4 = .ok (.ireturn, 1) := by decide +kernel
theorem dJx4a65c_isEmpty_aae02_0 : decode cJx4a65c_isEmpty_aae02 0 = .ok (.aload_n 0, 1) := by decide +kernel
theorem dJx4a65c_isEmpty_aae02_1 : decode cJx4a65c_isEmpty_aae02 1 = .ok (.getfield 48, 3) := by decide +kernel
theorem dJx4a65c_isEmpty_aae02_4 : decode cJx4a65c_isEmpty_aae02 4 = .ok (.ifCond .ne 7, 3) := by decide +kernel
theorem dJx4a65c_isEmpty_aae02_7 : decode cJx4a65c_isEmpty_aae02 7 = .ok (.iconst 1, 1) := by decide +kernel
theorem dJx4a65c_isEmpty_aae02_8 : decode cJx4a65c_isEmpty_aae02 8 = .ok (.goto 4, 3) := by decide +kernel
theorem dJx4a65c_isEmpty_aae02_11 : decode cJx4a65c_isEmpty_aae02 11 = .ok (.iconst 0, 1) := by decide +kernel
theorem dJx4a65c_isEmpty_aae02_12 : decode cJx4a65c_isEmpty_aae02 12 = .ok (.ireturn, 1) := by decide +kernel
theorem dJx4a65c_elementData_915e3_0 : decode cJx4a65c_elementData_915e3 0 = .ok (.aload_n 0, 1) := by decide +kernel
theorem dJx4a65c_elementData_915e3_1 : decode cJx4a65c_elementData_915e3 1 = .ok (.getfield 9, 3) := by decide +kernel
theorem dJx4a65c_elementData_915e3_4 : decode cJx4a65c_elementData_915e3 4 = .ok (.iload_n 1, 1) := by decide +kernel
theorem dJx4a65c_elementData_915e3_5 : decode cJx4a65c_elementData_915e3 5 = .ok (.aaload, 1) := by decide +kernel
theorem dJx4a65c_elementData_915e3_6 : decode cJx4a65c_elementData_915e3 6 = .ok (.areturn, 1) := by decide +kernel
theorem dJx4a65c_get_915e3_0 : decode cJx4a65c_get_915e3 0 = .ok (.iload_n 1, 1) := by decide +kernel
theorem dJx4a65c_get_915e3_1 : decode cJx4a65c_get_915e3 1 = .ok (.aload_n 0, 1) := by decide +kernel
theorem dJx4a65c_get_915e3_2 : decode cJx4a65c_get_915e3 2 = .ok (.getfield 48, 3) := by decide +kernel
theorem dJx4a65c_get_915e3_5 : decode cJx4a65c_get_915e3 5 = .ok (.invokestatic 118, 3) := by decide +kernel
theorem dJx4a65c_get_915e3_8 : decode cJx4a65c_get_915e3 8 = .ok (.pop, 1) := by decide +kernel
theorem dJx4a65c_get_915e3_9 : decode cJx4a65c_get_915e3 9 = .ok (.aload_n 0, 1) := by decide +kernel
theorem dJx4a65c_get_915e3_10 : decode cJx4a65c_get_915e3 10 = .ok (.iload_n 1, 1) := by decide +kernel
theorem dJx4a65c_get_915e3_11 : decode cJx4a65c_get_915e3 11 = .ok (.invokevirtual 123, 3) := by decide +kernel
theorem dJx4a65c_get_915e3_14 : decode cJx4a65c_get_915e3 14 = .ok (.areturn, 1) := by decide +kernel
theorem dJx4a65c_add_72be8_0 : decode cJx4a65c_add_72be8 0 = .ok (.iload_n 3, 1) := by decide +kernel
theorem dJx4a65c_add_72be8_1 : decode cJx4a65c_add_72be8 1 = .ok (.aload_n 2, 1) := by decide +kernel
theorem dJx4a65c_add_72be8_2 : decode cJx4a65c_add_72be8 2 = .ok (.arraylength, 1) := by decide +kernel
theorem dJx4a65c_add_72be8_3 : decode cJx4a65c_add_72be8 3 = .ok (.if_icmp .ne 8, 3) := by decide +kernel
theorem dJx4a65c_add_72be8_6 : decode cJx4a65c_add_72be8 6 = .ok (.aload_n 0, 1) := by decide +kernel
theorem dJx4a65c_add_72be8_7 : decode cJx4a65c_add_72be8 7 = .ok (.invokevirtual 129, 3) := by decide +kernel
theorem dJx4a65c_add_72be8_10 : decode cJx4a65c_add_72be8 10 = .ok (.astore_n 2, 1) := by decide +kernel
theorem dJx4a65c_add_72be8_11 : decode cJx4a65c_add_72be8 11 = .ok (.aload_n 2, 1) := by decide +kernel
theorem dJx4a65c_add_72be8_12 : decode cJx4a65c_add_72be8 12 = .ok (.iload_n 3, 1) := by decide +kernel
theorem dJx4a65c_add_72be8_13 : decode cJx4a65c_add_72be8 13 = .ok (.aload_n 1, 1) := by decide +kernel
theorem dJx4a65c_add_72be8_14 : decode cJx4a65c_add_72be8 14 = .ok (.aastore, 1) := by decide +kernel
theorem dJx4a65c_add_72be8_15 : decode cJx4a65c_add_72be8 15 = .ok (.aload_n 0, 1) := by decide +kernel
theorem dJx4a65c_add_72be8_16 : decode cJx4a65c_add_72be8 16 = .ok (.iload_n 3, 1) := by decide +kernel
theorem dJx4a65c_add_72be8_17 : decode cJx4a65c_add_72be8 17 = .ok (.iconst 1, 1) := by decide +kernel
theorem dJx4a65c_add_72be8_18 : decode cJx4a65c_add_72be8 18 = .ok (.iadd, 1) := by decide +kernel
theorem dJx4a65c_add_72be8_19 : decode cJx4a65c_add_72be8 19 = .ok (.putfield 48, 3) := by decide +kernel
theorem dJx4a65c_add_72be8_22 : decode cJx4a65c_add_72be8 22 = .ok (.return_, 1) := by decide +kernel
theorem dJx4a65c_add_9ea2d_0 : decode cJx4a65c_add_9ea2d 0 = .ok (.aload_n 0, 1) := by decide +kernel
theorem dJx4a65c_add_9ea2d_1 : decode cJx4a65c_add_9ea2d 1 = .ok (.dup, 1) := by decide +kernel
theorem dJx4a65c_add_9ea2d_2 : decode cJx4a65c_add_9ea2d 2 = .ok (.getfield 63, 3) := by decide +kernel
theorem dJx4a65c_add_9ea2d_5 : decode cJx4a65c_add_9ea2d 5 = .ok (.iconst 1, 1) := by decide +kernel
theorem dJx4a65c_add_9ea2d_6 : decode cJx4a65c_add_9ea2d 6 = .ok (.iadd, 1) := by decide +kernel
theorem dJx4a65c_add_9ea2d_7 : decode cJx4a65c_add_9ea2d 7 = .ok (.putfield 63, 3) := by decide +kernel
theorem dJx4a65c_add_9ea2d_10 : decode cJx4a65c_add_9ea2d 10 = .ok (.aload_n 0, 1) := by decide +kernel
theorem dJx4a65c_add_9ea2d_11 : decode cJx4a65c_add_9ea2d 11 = .ok (.aload_n 1, 1) := by decide +kernel
theorem dJx4a65c_add_9ea2d_12 : decode cJx4a65c_add_9ea2d 12 = .ok (.aload_n 0, 1) := by decide +kernel
theorem dJx4a65c_add_9ea2d_13 : decode cJx4a65c_add_9ea2d 13 = .ok (.getfield 9, 3) := by decide +kernel
theorem dJx4a65c_add_9ea2d_16 : decode cJx4a65c_add_9ea2d 16 = .ok (.aload_n 0, 1) := by decide +kernel
theorem dJx4a65c_add_9ea2d_17 : decode cJx4a65c_add_9ea2d 17 = .ok (.getfield 48, 3) := by decide +kernel
theorem dJx4a65c_add_9ea2d_20 : decode cJx4a65c_add_9ea2d 20 = .ok (.invokevirtual 131, 3) := by decide +kernel
theorem dJx4a65c_add_9ea2d_23 : decode cJx4a65c_add_9ea2d 23 = .ok (.iconst 1, 1) := by decide +kernel
theorem dJx4a65c_add_9ea2d_24 : decode cJx4a65c_add_9ea2d 24 = .ok (.ireturn, 1) := by decide +kernel
theorem dJx4a65c_remove_915e3_0 : decode cJx4a65c_remove_915e3 0 = .ok (.iload_n 1, 1) := by decide +kernel
theorem dJx4a65c_remove_915e3_1 : decode cJx4a65c_remove_915e3 1 = .ok (.aload_n 0, 1) := by decide +kernel
theorem dJx4a65c_remove_915e3_2 : decode cJx4a65c_remove_915e3 2 = .ok (.getfield 48, 3) := by decide +kernel
theorem dJx4a65c_remove_915e3_5 : decode cJx4a65c_remove_915e3 5 = .ok (.invokestatic 118, 3) := by decide +kernel
theorem dJx4a65c_remove_915e3_8 : decode cJx4a65c_remove_915e3 8 = .ok (.pop, 1) := by decide +kernel
theorem dJx4a65c_remove_915e3_9 : decode cJx4a65c_remove_915e3 9 = .ok (.aload_n 0, 1) := by decide +kernel
theorem dJx4a65c_remove_915e3_10 : decode cJx4a65c_remove_915e3 10 = .ok (.getfield 9, 3) := by decide +kernel
theorem dJx4a65c_remove_915e3_13 : decode cJx4a65c_remove_915e3 13 = .ok (.astore_n 2, 1) := by decide +kernel
theorem dJx4a65c_remove_915e3_14 : decode cJx4a65c_remove_915e3 14 = .ok (.aload_n 2, 1) := by decide +kernel
theorem dJx4a65c_remove_915e3_15 : decode cJx4a65c_remove_915e3 15 = .ok (.iload_n 1, 1) := by decide +kernel
theorem dJx4a65c_remove_915e3_16 : decode cJx4a65c_remove_915e3 16 = .ok (.aaload, 1) := by decide +kernel
theorem dJx4a65c_remove_915e3_17 : decode cJx4a65c_remove_915e3 17 = .ok (.astore_n 3, 1) := by decide +kernel
theorem dJx4a65c_remove_915e3_18 : decode cJx4a65c_remove_915e3 18 = .ok (.aload_n 0, 1) := by decide +kernel
theorem dJx4a65c_remove_915e3_19 : decode cJx4a65c_remove_915e3 19 = .ok (.aload_n 2, 1) := by decide +kernel
theorem dJx4a65c_remove_915e3_20 : decode cJx4a65c_remove_915e3 20 = .ok (.iload_n 1, 1) := by decide +kernel
theorem dJx4a65c_remove_915e3_21 : decode cJx4a65c_remove_915e3 21 = .ok (.invokevirtual 144, 3) := by decide +kernel
theorem dJx4a65c_remove_915e3_24 : decode cJx4a65c_remove_915e3 24 = .ok (.aload_n 3, 1) := by decide +kernel
theorem dJx4a65c_remove_915e3_25 : decode cJx4a65c_remove_915e3 25 = .ok (.areturn, 1) := by decide +kernel
theorem dJx4a65c_fastRemove_b59b0_0 : decode cJx4a65c_fastRemove_b59b0 0 = .ok (.aload_n 0, 1) := by decide +kernel
theorem dJx4a65c_fastRemove_b59b0_1 : decode cJx4a65c_fastRemove_b59b0 1 = .ok (.dup, 1) := by decide +kernel
theorem dJx4a65c_fastRemove_b59b0_2 : decode cJx4a65c_fastRemove_b59b0 2 = .ok (.getfield 63, 3) := by decide +kernel
theorem dJx4a65c_fastRemove_b59b0_5 : decode cJx4a65c_fastRemove_b59b0 5 = .ok (.iconst 1, 1) := by decide +kernel
theorem dJx4a65c_fastRemove_b59b0_6 : decode cJx4a65c_fastRemove_b59b0 6 = .ok (.iadd, 1) := by decide +kernel
theorem dJx4a65c_fastRemove_b59b0_7 : decode cJx4a65c_fastRemove_b59b0 7 = .ok (.putfield 63, 3) := by decide +kernel
theorem dJx4a65c_fastRemove_b59b0_10 : decode cJx4a65c_fastRemove_b59b0 10 = .ok (.aload_n 0, 1) := by decide +kernel
theorem dJx4a65c_fastRemove_b59b0_11 : decode cJx4a65c_fastRemove_b59b0 11 = .ok (.getfield 48, 3) := by decide +kernel
theorem dJx4a65c_fastRemove_b59b0_14 : decode cJx4a65c_fastRemove_b59b0 14 = .ok (.iconst 1, 1) := by decide +kernel
theorem dJx4a65c_fastRemove_b59b0_15 : decode cJx4a65c_fastRemove_b59b0 15 = .ok (.isub, 1) := by decide +kernel
theorem dJx4a65c_fastRemove_b59b0_16 : decode cJx4a65c_fastRemove_b59b0 16 = .ok (.dup, 1) := by decide +kernel
theorem dJx4a65c_fastRemove_b59b0_17 : decode cJx4a65c_fastRemove_b59b0 17 = .ok (.istore_n 3, 1) := by decide +kernel
theorem dJx4a65c_fastRemove_b59b0_18 : decode cJx4a65c_fastRemove_b59b0 18 = .ok (.iload_n 2, 1) := by decide +kernel
theorem dJx4a65c_fastRemove_b59b0_19 : decode cJx4a65c_fastRemove_b59b0 19 = .ok (.if_icmp .le 15, 3) := by decide +kernel
theorem dJx4a65c_fastRemove_b59b0_22 : decode cJx4a65c_fastRemove_b59b0 22 = .ok (.aload_n 1, 1) := by decide +kernel
theorem dJx4a65c_fastRemove_b59b0_23 : decode cJx4a65c_fastRemove_b59b0 23 = .ok (.iload_n 2, 1) := by decide +kernel
theorem dJx4a65c_fastRemove_b59b0_24 : decode cJx4a65c_fastRemove_b59b0 24 = .ok (.iconst 1, 1) := by decide +kernel
theorem dJx4a65c_fastRemove_b59b0_25 : decode cJx4a65c_fastRemove_b59b0 25 = .ok (.iadd, 1) := by decide +kernel
theorem dJx4a65c_fastRemove_b59b0_26 : decode cJx4a65c_fastRemove_b59b0 26 = .ok (.aload_n 1, 1) := by decide +kernel
theorem dJx4a65c_fastRemove_b59b0_27 : decode cJx4a65c_fastRemove_b59b0 27 = .ok (.iload_n 2, 1) := by decide +kernel
theorem dJx4a65c_fastRemove_b59b0_28 : decode cJx4a65c_fastRemove_b59b0 28 = .ok (.iload_n 3, 1) := by decide +kernel
theorem dJx4a65c_fastRemove_b59b0_29 : decode cJx4a65c_fastRemove_b59b0 29 = .ok (.iload_n 2, 1) := by decide +kernel
theorem dJx4a65c_fastRemove_b59b0_30 : decode cJx4a65c_fastRemove_b59b0 30 = .ok (.isub, 1) := by decide +kernel
theorem dJx4a65c_fastRemove_b59b0_31 : decode cJx4a65c_fastRemove_b59b0 31 = .ok (.invokestatic 112, 3) := by decide +kernel
theorem dJx4a65c_fastRemove_b59b0_34 : decode cJx4a65c_fastRemove_b59b0 34 = .ok (.aload_n 1, 1) := by decide +kernel
theorem dJx4a65c_fastRemove_b59b0_35 : decode cJx4a65c_fastRemove_b59b0 35 = .ok (.aload_n 0, 1) := by decide +kernel
theorem dJx4a65c_fastRemove_b59b0_36 : decode cJx4a65c_fastRemove_b59b0 36 = .ok (.iload_n 3, 1) := by decide +kernel
theorem dJx4a65c_fastRemove_b59b0_37 : decode cJx4a65c_fastRemove_b59b0 37 = .ok (.dup_x1, 1) := by decide +kernel
theorem dJx4a65c_fastRemove_b59b0_38 : decode cJx4a65c_fastRemove_b59b0 38 = .ok (.putfield 48, 3) := by decide +kernel
theorem dJx4a65c_fastRemove_b59b0_41 : decode cJx4a65c_fastRemove_b59b0 41 = .ok (.aconst_null, 1) := by decide +kernel
theorem dJx4a65c_fastRemove_b59b0_42 : decode cJx4a65c_fastRemove_b59b0 42 = .ok (.aastore, 1) := by decide +kernel
theorem dJx4a65c_fastRemove_b59b0_43 : decode cJx4a65c_fastRemove_b59b0 43 = .ok (.return_, 1) := by decide +kernel
theorem dJ7_fill_53178_0 : decode cJ7_fill_53178 0 = .ok (.iconst 0, 1) := by decide +kernel
theorem dJ7_fill_53178_1 : decode cJ7_fill_53178 1 = .ok (.istore_n 2, 1) := by decide +kernel
theorem dJ7_fill_53178_2 : decode cJ7_fill_53178 2 = .ok (.aload_n 0, 1) := by decide +kernel
theorem dJ7_fill_53178_3 : decode cJ7_fill_53178 3 = .ok (.arraylength, 1) := by decide +kernel
theorem dJ7_fill_53178_4 : decode cJ7_fill_53178 4 = .ok (.istore_n 3, 1) := by decide +kernel
theorem dJ7_fill_53178_5 : decode cJ7_fill_53178 5 = .ok (.iload_n 2, 1) := by decide +kernel
theorem dJ7_fill_53178_6 : decode cJ7_fill_53178 6 = .ok (.iload_n 3, 1) := by decide +kernel
theorem dJ7_fill_53178_7 : decode cJ7_fill_53178 7 = .ok (.if_icmp .ge 13, 3) := by decide +kernel
theorem dJ7_fill_53178_10 : decode cJ7_fill_53178 10 = .ok (.aload_n 0, 1) := by decide +kernel
theorem dJ7_fill_53178_11 : decode cJ7_fill_53178 11 = .ok (.iload_n 2, 1) := by decide +kernel
theorem dJ7_fill_53178_12 : decode cJ7_fill_53178 12 = .ok (.iload_n 1, 1) := by decide +kernel
theorem dJ7_fill_53178_13 : decode cJ7_fill_53178 13 = .ok (.iastore, 1) := by decide +kernel
theorem dJ7_fill_53178_14 : decode cJ7_fill_53178 14 = .ok (.iinc 2 1, 3) := by decide +kernel
theorem dJ7_fill_53178_17 : decode cJ7_fill_53178 17 = .ok (.goto (-12), 3) := by decide +kernel
theorem dJ7_fill_53178_20 : decode cJ7_fill_53178 20 = .ok (.return_, 1) := by decide +kernel
theorem dJ7_copyOf_1904c_0 : decode cJ7_copyOf_1904c 0 = .ok (.aload_n 0, 1) := by decide +kernel
theorem dJ7_copyOf_1904c_1 : decode cJ7_copyOf_1904c 1 = .ok (.iload_n 1, 1) := by decide +kernel
theorem dJ7_copyOf_1904c_2 : decode cJ7_copyOf_1904c 2 = .ok (.aload_n 0, 1) := by decide +kernel
theorem dJ7_copyOf_1904c_3 : decode cJ7_copyOf_1904c 3 = .ok (.invokevirtual 86, 3) := by decide +kernel
theorem dJ7_copyOf_1904c_6 : decode cJ7_copyOf_1904c 6 = .ok (.invokestatic 300, 3) := by decide +kernel
theorem dJ7_copyOf_1904c_9 : decode cJ7_copyOf_1904c 9 = .ok (.areturn, 1) := by decide +kernel
theorem dJ7_copyOf_6403c_0 : decode cJ7_copyOf_6403c 0 = .ok (.aload_n 2, 1) := by decide +kernel
theorem dJ7_copyOf_6403c_1 : decode cJ7_copyOf_6403c 1 = .ok (.ldc 110, 2) := by decide +kernel
theorem dJ7_copyOf_6403c_3 : decode cJ7_copyOf_6403c 3 = .ok (.if_acmp .ne 10, 3) := by decide +kernel
theorem dJ7_copyOf_6403c_6 : decode cJ7_copyOf_6403c 6 = .ok (.iload_n 1, 1) := by decide +kernel
theorem dJ7_copyOf_6403c_7 : decode cJ7_copyOf_6403c 7 = .ok (.anewarray 2, 3) := by decide +kernel
theorem dJ7_copyOf_6403c_10 : decode cJ7_copyOf_6403c 10 = .ok (.goto 14, 3) := by decide +kernel
theorem dJ7_copyOf_6403c_13 : decode cJ7_copyOf_6403c 13 = .ok (.aload_n 2, 1) := by decide +kernel
theorem dJ7_copyOf_6403c_14 : decode cJ7_copyOf_6403c 14 = .ok (.invokevirtual 90, 3) := by decide +kernel
theorem dJ7_copyOf_6403c_17 : decode cJ7_copyOf_6403c 17 = .ok (.iload_n 1, 1) := by decide +kernel
theorem dJ7_copyOf_6403c_18 : decode cJ7_copyOf_6403c 18 = .ok (.invokestatic 95, 3) := by decide +kernel
theorem dJ7_copyOf_6403c_21 : decode cJ7_copyOf_6403c 21 = .ok (.checkcast 110, 3) := by decide +kernel
theorem dJ7_copyOf_6403c_24 : decode cJ7_copyOf_6403c 24 = .ok (.astore_n 3, 1) := by decide +kernel
theorem dJ7_copyOf_6403c_25 : decode cJ7_copyOf_6403c 25 = .ok (.aload_n 0, 1) := by decide +kernel
theorem dJ7_copyOf_6403c_26 : decode cJ7_copyOf_6403c 26 = .ok (.iconst 0, 1) := by decide +kernel
theorem dJ7_copyOf_6403c_27 : decode cJ7_copyOf_6403c 27 = .ok (.aload_n 3, 1) := by decide +kernel
theorem dJ7_copyOf_6403c_28 : decode cJ7_copyOf_6403c 28 = .ok (.iconst 0, 1) := by decide +kernel
theorem dJ7_copyOf_6403c_29 : decode cJ7_copyOf_6403c 29 = .ok (.aload_n 0, 1) := by decide +kernel
theorem dJ7_copyOf_6403c_30 : decode cJ7_copyOf_6403c 30 = .ok (.arraylength, 1) := by decide +kernel
theorem dJ7_copyOf_6403c_31 : decode cJ7_copyOf_6403c 31 = .ok (.iload_n 1, 1) := by decide +kernel
theorem dJ7_copyOf_6403c_32 : decode cJ7_copyOf_6403c 32 = .ok (.invokestatic 304, 3) := by decide +kernel
theorem dJ7_copyOf_6403c_35 : decode cJ7_copyOf_6403c 35 = .ok (.invokestatic 150, 3) := by decide +kernel
theorem dJ7_copyOf_6403c_38 : decode cJ7_copyOf_6403c 38 = .ok (.aload_n 3, 1) := by decide +kernel
theorem dJ7_copyOf_6403c_39 : decode cJ7_copyOf_6403c 39 = .ok (.areturn, 1) := by decide +kernel
theorem dJ15_checkIndex_7cf53_0 : decode cJ15_checkIndex_7cf53 0 = .ok (.iload_n 0, 1) := by decide +kernel
theorem dJ15_checkIndex_7cf53_1 : decode cJ15_checkIndex_7cf53 1 = .ok (.iload_n 1, 1) := by decide +kernel
theorem dJ15_checkIndex_7cf53_2 : decode cJ15_checkIndex_7cf53 2 = .ok (.aconst_null, 1) := by decide +kernel
theorem dJ15_checkIndex_7cf53_3 : decode cJ15_checkIndex_7cf53 3 = .ok (.invokestatic 105, 3) := by decide +kernel
theorem dJ15_checkIndex_7cf53_6 : decode cJ15_checkIndex_7cf53 6 = .ok (.ireturn, 1) := by decide +kernel
theorem dJ8_newLength_cabcc_0 : decode cJ8_newLength_cabcc 0 = .ok (.iload_n 0, 1) := by decide +kernel
theorem dJ8_newLength_cabcc_1 : decode cJ8_newLength_cabcc 1 = .ok (.iload_n 1, 1) := by decide +kernel
theorem dJ8_newLength_cabcc_2 : decode cJ8_newLength_cabcc 2 = .ok (.iload_n 2, 1) := by decide +kernel
theorem dJ8_newLength_cabcc_3 : decode cJ8_newLength_cabcc 3 = .ok (.invokestatic 194, 3) := by decide +kernel
theorem dJ8_newLength_cabcc_6 : decode cJ8_newLength_cabcc 6 = .ok (.iadd, 1) := by decide +kernel
theorem dJ8_newLength_cabcc_7 : decode cJ8_newLength_cabcc 7 = .ok (.istore_n 3, 1) := by decide +kernel
theorem dJ8_newLength_cabcc_8 : decode cJ8_newLength_cabcc 8 = .ok (.iconst 0, 1) := by decide +kernel
theorem dJ8_newLength_cabcc_9 : decode cJ8_newLength_cabcc 9 = .ok (.iload_n 3, 1) := by decide +kernel
theorem dJ8_newLength_cabcc_10 : decode cJ8_newLength_cabcc 10 = .ok (.if_icmp .ge 11, 3) := by decide +kernel
theorem dJ8_newLength_cabcc_13 : decode cJ8_newLength_cabcc 13 = .ok (.iload_n 3, 1) := by decide +kernel
theorem dJ8_newLength_cabcc_14 : decode cJ8_newLength_cabcc 14 = .ok (.ldc 200, 2) := by decide +kernel
theorem dJ8_newLength_cabcc_16 : decode cJ8_newLength_cabcc 16 = .ok (.if_icmp .gt 5, 3) := by decide +kernel
theorem dJ8_newLength_cabcc_19 : decode cJ8_newLength_cabcc 19 = .ok (.iload_n 3, 1) := by decide +kernel
theorem dJ8_newLength_cabcc_20 : decode cJ8_newLength_cabcc 20 = .ok (.ireturn, 1) := by decide +kernel
theorem dJ8_newLength_cabcc_21 : decode cJ8_newLength_cabcc 21 = .ok (.iload_n 0, 1) := by decide +kernel
theorem dJ8_newLength_cabcc_22 : decode cJ8_newLength_cabcc 22 = .ok (.iload_n 1, 1) := by decide +kernel
theorem dJ8_newLength_cabcc_23 : decode cJ8_newLength_cabcc 23 = .ok (.invokestatic 201, 3) := by decide +kernel
theorem dJ8_newLength_cabcc_26 : decode cJ8_newLength_cabcc 26 = .ok (.ireturn, 1) := by decide +kernel
theorem dJ8_hugeLength_7cf53_0 : decode cJ8_hugeLength_7cf53 0 = .ok (.iload_n 0, 1) := by decide +kernel
theorem dJ8_hugeLength_7cf53_1 : decode cJ8_hugeLength_7cf53 1 = .ok (.iload_n 1, 1) := by decide +kernel
theorem dJ8_hugeLength_7cf53_2 : decode cJ8_hugeLength_7cf53 2 = .ok (.iadd, 1) := by decide +kernel
theorem dJ8_hugeLength_7cf53_3 : decode cJ8_hugeLength_7cf53 3 = .ok (.istore_n 2, 1) := by decide +kernel
theorem dJ8_hugeLength_7cf53_4 : decode cJ8_hugeLength_7cf53 4 = .ok (.iload_n 2, 1) := by decide +kernel
theorem dJ8_hugeLength_7cf53_5 : decode cJ8_hugeLength_7cf53 5 = .ok (.ifCond .ge 44, 3) := by decide +kernel
theorem dJ8_hugeLength_7cf53_8 : decode cJ8_hugeLength_7cf53 8 = .ok (.new 204, 3) := by decide +kernel
theorem dJ8_hugeLength_7cf53_11 : decode cJ8_hugeLength_7cf53 11 = .ok (.dup, 1) := by decide +kernel
theorem dJ8_hugeLength_7cf53_12 : decode cJ8_hugeLength_7cf53 12 = .ok (.new 89, 3) := by decide +kernel
theorem dJ8_hugeLength_7cf53_15 : decode cJ8_hugeLength_7cf53 15 = .ok (.dup, 1) := by decide +kernel
theorem dJ8_hugeLength_7cf53_16 : decode cJ8_hugeLength_7cf53 16 = .ok (.invokespecial 91, 3) := by decide +kernel
theorem dJ8_hugeLength_7cf53_19 : decode cJ8_hugeLength_7cf53 19 = .ok (.ldc 206, 2) := by decide +kernel
theorem dJ8_hugeLength_7cf53_21 : decode cJ8_hugeLength_7cf53 21 = .ok (.invokevirtual 94, 3) := by decide +kernel
theorem dJ8_hugeLength_7cf53_24 : decode cJ8_hugeLength_7cf53 24 = .ok (.iload_n 0, 1) := by decide +kernel
theorem dJ8_hugeLength_7cf53_25 : decode cJ8_hugeLength_7cf53 25 = .ok (.invokevirtual 98, 3) := by decide +kernel
theorem dJ8_hugeLength_7cf53_28 : decode cJ8_hugeLength_7cf53 28 = .ok (.ldc 208, 2) := by decide +kernel
theorem dJ8_hugeLength_7cf53_30 : decode cJ8_hugeLength_7cf53 30 = .ok (.invokevirtual 94, 3) := by decide +kernel
theorem dJ8_hugeLength_7cf53_33 : decode cJ8_hugeLength_7cf53 33 = .ok (.iload_n 1, 1) := by decide +kernel
theorem dJ8_hugeLength_7cf53_34 : decode cJ8_hugeLength_7cf53 34 = .ok (.invokevirtual 98, 3) := by decide +kernel
theorem dJ8_hugeLength_7cf53_37 : decode cJ8_hugeLength_7cf53 37 = .ok (.ldc 210, 2) := by decide +kernel
theorem dJ8_hugeLength_7cf53_39 : decode cJ8_hugeLength_7cf53 39 = .ok (.invokevirtual 94, 3) := by decide +kernel
theorem dJ8_hugeLength_7cf53_42 : decode cJ8_hugeLength_7cf53 42 = .ok (.invokevirtual 101, 3) := by decide +kernel
theorem dJ8_hugeLength_7cf53_45 : decode cJ8_hugeLength_7cf53 45 = .ok (.invokespecial 212, 3) := by decide +kernel
theorem dJ8_hugeLength_7cf53_48 : decode cJ8_hugeLength_7cf53 48 = .ok (.athrow, 1) := by decide +kernel
theorem dJ8_hugeLength_7cf53_49 : decode cJ8_hugeLength_7cf53 49 = .ok (.iload_n 2, 1) := by decide +kernel
theorem dJ8_hugeLength_7cf53_50 : decode cJ8_hugeLength_7cf53 50 = .ok (.ldc 200, 2) := by decide +kernel
theorem dJ8_hugeLength_7cf53_52 : decode cJ8_hugeLength_7cf53 52 = .ok (.if_icmp .gt 6, 3) := by decide +kernel
theorem dJ8_hugeLength_7cf53_55 : decode cJ8_hugeLength_7cf53 55 = .ok (.ldc 200, 2) := by decide +kernel
theorem dJ8_hugeLength_7cf53_57 : decode cJ8_hugeLength_7cf53 57 = .ok (.ireturn, 1) := by decide +kernel
theorem dJ8_hugeLength_7cf53_58 : decode cJ8_hugeLength_7cf53 58 = .ok (.iload_n 2, 1) := by decide +kernel
theorem dJ8_hugeLength_7cf53_59 : decode cJ8_hugeLength_7cf53 59 = .ok (.ireturn, 1) := by decide +kernel
theorem dJ3_checkIndex_8e157_0 : decode cJ3_checkIndex_8e157 0 = .ok (.iload_n 0, 1) := by decide +kernel
theorem dJ3_checkIndex_8e157_1 : decode cJ3_checkIndex_8e157 1 = .ok (.ifCond .lt 8, 3) := by decide +kernel
theorem dJ3_checkIndex_8e157_4 : decode cJ3_checkIndex_8e157 4 = .ok (.iload_n 0, 1) := by decide +kernel
theorem dJ3_checkIndex_8e157_5 : decode cJ3_checkIndex_8e157 5 = .ok (.iload_n 1, 1) := by decide +kernel
theorem dJ3_checkIndex_8e157_6 : decode cJ3_checkIndex_8e157 6 = .ok (.if_icmp .lt 10, 3) := by decide +kernel
theorem dJ3_checkIndex_8e157_9 : decode cJ3_checkIndex_8e157 9 = .ok (.aload_n 2, 1) := by decide +kernel
theorem dJ3_checkIndex_8e157_10 : decode cJ3_checkIndex_8e157 10 = .ok (.iload_n 0, 1) := by decide +kernel
theorem dJ3_checkIndex_8e157_11 : decode cJ3_checkIndex_8e157 11 = .ok (.iload_n 1, 1) := by decide +kernel
theorem dJ3_checkIndex_8e157_12 : decode cJ3_checkIndex_8e157 12 = .ok (.invokestatic 95, 3) := by decide +kernel
theorem dJ3_checkIndex_8e157_15 : decode cJ3_checkIndex_8e157 15 = .ok (.athrow, 1) := by decide +kernel
theorem dJ3_checkIndex_8e157_16 : decode cJ3_checkIndex_8e157 16 = .ok (.iload_n 0, 1) := by decide +kernel
theorem dJ3_checkIndex_8e157_17 : decode cJ3_checkIndex_8e157 17 = .ok (.ireturn, 1) := by decide +kernel
