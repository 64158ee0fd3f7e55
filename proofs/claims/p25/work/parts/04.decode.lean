theorem dX0_init_0 : decode cX0_init 0 = .ok (.aload_n 0, 1) := by decide +kernel
theorem dX0_init_1 : decode cX0_init 1 = .ok (.invokespecial 3, 3) := by decide +kernel
theorem dX0_init_4 : decode cX0_init 4 = .ok (.aload_n 0, 1) := by decide +kernel
theorem dX0_init_5 : decode cX0_init 5 = .ok (.bipush 50, 2) := by decide +kernel
theorem dX0_init_7 : decode cX0_init 7 = .ok (.newarray .int, 2) := by decide +kernel
theorem dX0_init_9 : decode cX0_init 9 = .ok (.putfield 9, 3) := by decide +kernel
theorem dX0_init_12 : decode cX0_init 12 = .ok (.aload_n 0, 1) := by decide +kernel
theorem dX0_init_13 : decode cX0_init 13 = .ok (.bipush 50, 2) := by decide +kernel
theorem dX0_init_15 : decode cX0_init 15 = .ok (.newarray .int, 2) := by decide +kernel
theorem dX0_init_17 : decode cX0_init 17 = .ok (.putfield 15, 3) := by decide +kernel
theorem dX0_init_20 : decode cX0_init 20 = .ok (.aload_n 0, 1) := by decide +kernel
theorem dX0_init_21 : decode cX0_init 21 = .ok (.bipush 50, 2) := by decide +kernel
theorem dX0_init_23 : decode cX0_init 23 = .ok (.newarray .int, 2) := by decide +kernel
theorem dX0_init_25 : decode cX0_init 25 = .ok (.putfield 18, 3) := by decide +kernel
theorem dX0_init_28 : decode cX0_init 28 = .ok (.aload_n 0, 1) := by decide +kernel
theorem dX0_init_29 : decode cX0_init 29 = .ok (.bipush 50, 2) := by decide +kernel
theorem dX0_init_31 : decode cX0_init 31 = .ok (.newarray .int, 2) := by decide +kernel
theorem dX0_init_33 : decode cX0_init 33 = .ok (.putfield 21, 3) := by decide +kernel
theorem dX0_init_36 : decode cX0_init 36 = .ok (.aload_n 0, 1) := by decide +kernel
theorem dX0_init_37 : decode cX0_init 37 = .ok (.bipush 50, 2) := by decide +kernel
theorem dX0_init_39 : decode cX0_init 39 = .ok (.newarray .int, 2) := by decide +kernel
theorem dX0_init_41 : decode cX0_init 41 = .ok (.putfield 24, 3) := by decide +kernel
theorem dX0_init_44 : decode cX0_init 44 = .ok (.aload_n 0, 1) := by decide +kernel
theorem dX0_init_45 : decode cX0_init 45 = .ok (.getfield 9, 3) := by decide +kernel
theorem dX0_init_48 : decode cX0_init 48 = .ok (.bipush 100, 2) := by decide +kernel
theorem dX0_init_50 : decode cX0_init 50 = .ok (.invokestatic 27, 3) := by decide +kernel
theorem dX0_init_53 : decode cX0_init 53 = .ok (.aload_n 0, 1) := by decide +kernel
theorem dX0_init_54 : decode cX0_init 54 = .ok (.getfield 15, 3) := by decide +kernel
theorem dX0_init_57 : decode cX0_init 57 = .ok (.sipush 180, 3) := by decide +kernel
theorem dX0_init_60 : decode cX0_init 60 = .ok (.invokestatic 27, 3) := by decide +kernel
theorem dX0_init_63 : decode cX0_init 63 = .ok (.aload_n 0, 1) := by decide +kernel
theorem dX0_init_64 : decode cX0_init 64 = .ok (.getfield 18, 3) := by decide +kernel
theorem dX0_init_67 : decode cX0_init 67 = .ok (.bipush 10, 2) := by decide +kernel
theorem dX0_init_69 : decode cX0_init 69 = .ok (.invokestatic 27, 3) := by decide +kernel
theorem dX0_init_72 : decode cX0_init 72 = .ok (.return_, 1) := by decide +kernel
theorem dX0_tellLayer_0 : decode cX0_tellLayer 0 = .ok (.aload_n 0, 1) := by decide +kernel
theorem dX0_tellLayer_1 : decode cX0_tellLayer 1 = .ok (.getfield 9, 3) := by decide +kernel
theorem dX0_tellLayer_4 : decode cX0_tellLayer 4 = .ok (.iload_n 1, 1) := by decide +kernel
theorem dX0_tellLayer_5 : decode cX0_tellLayer 5 = .ok (.iload_n 2, 1) := by decide +kernel
theorem dX0_tellLayer_6 : decode cX0_tellLayer 6 = .ok (.invokestatic 33, 3) := by decide +kernel
theorem dX0_tellLayer_9 : decode cX0_tellLayer 9 = .ok (.aload_n 0, 1) := by decide +kernel
theorem dX0_tellLayer_10 : decode cX0_tellLayer 10 = .ok (.getfield 15, 3) := by decide +kernel
theorem dX0_tellLayer_13 : decode cX0_tellLayer 13 = .ok (.iload_n 1, 1) := by decide +kernel
theorem dX0_tellLayer_14 : decode cX0_tellLayer 14 = .ok (.iload_n 3, 1) := by decide +kernel
theorem dX0_tellLayer_15 : decode cX0_tellLayer 15 = .ok (.invokestatic 33, 3) := by decide +kernel
theorem dX0_tellLayer_18 : decode cX0_tellLayer 18 = .ok (.aload_n 0, 1) := by decide +kernel
theorem dX0_tellLayer_19 : decode cX0_tellLayer 19 = .ok (.getfield 18, 3) := by decide +kernel
theorem dX0_tellLayer_22 : decode cX0_tellLayer 22 = .ok (.iload_n 1, 1) := by decide +kernel
theorem dX0_tellLayer_23 : decode cX0_tellLayer 23 = .ok (.iload 4, 2) := by decide +kernel
theorem dX0_tellLayer_25 : decode cX0_tellLayer 25 = .ok (.invokestatic 33, 3) := by decide +kernel
theorem dX0_tellLayer_28 : decode cX0_tellLayer 28 = .ok (.aload_n 0, 1) := by decide +kernel
theorem dX0_tellLayer_29 : decode cX0_tellLayer 29 = .ok (.getfield 21, 3) := by decide +kernel
theorem dX0_tellLayer_32 : decode cX0_tellLayer 32 = .ok (.iload_n 1, 1) := by decide +kernel
theorem dX0_tellLayer_33 : decode cX0_tellLayer 33 = .ok (.iload 5, 2) := by decide +kernel
theorem dX0_tellLayer_35 : decode cX0_tellLayer 35 = .ok (.ifCond .eq 7, 3) := by decide +kernel
theorem dX0_tellLayer_38 : decode cX0_tellLayer 38 = .ok (.iconst 1, 1) := by decide +kernel
theorem dX0_tellLayer_39 : decode cX0_tellLayer 39 = .ok (.goto 4, 3) := by decide +kernel
theorem dX0_tellLayer_42 : decode cX0_tellLayer 42 = .ok (.iconst 0, 1) := by decide +kernel
theorem dX0_tellLayer_43 : decode cX0_tellLayer 43 = .ok (.invokestatic 33, 3) := by decide +kernel
theorem dX0_tellLayer_46 : decode cX0_tellLayer 46 = .ok (.return_, 1) := by decide +kernel
theorem dX0_layerOf_0 : decode cX0_layerOf 0 = .ok (.iload_n 0, 1) := by decide +kernel
theorem dX0_layerOf_1 : decode cX0_layerOf 1 = .ok (.ifCond .gt 7, 3) := by decide +kernel
theorem dX0_layerOf_4 : decode cX0_layerOf 4 = .ok (.iconst 0, 1) := by decide +kernel
theorem dX0_layerOf_5 : decode cX0_layerOf 5 = .ok (.goto 9, 3) := by decide +kernel
theorem dX0_layerOf_8 : decode cX0_layerOf 8 = .ok (.iload_n 0, 1) := by decide +kernel
theorem dX0_layerOf_9 : decode cX0_layerOf 9 = .ok (.iconst 1, 1) := by decide +kernel
theorem dX0_layerOf_10 : decode cX0_layerOf 10 = .ok (.isub, 1) := by decide +kernel
theorem dX0_layerOf_11 : decode cX0_layerOf 11 = .ok (.bipush 100, 2) := by decide +kernel
theorem dX0_layerOf_13 : decode cX0_layerOf 13 = .ok (.idiv, 1) := by decide +kernel
theorem dX0_layerOf_14 : decode cX0_layerOf 14 = .ok (.ireturn, 1) := by decide +kernel
theorem dX0_poreAt_0 : decode cX0_poreAt 0 = .ok (.aload_n 0, 1) := by decide +kernel
theorem dX0_poreAt_1 : decode cX0_poreAt 1 = .ok (.getfield 9, 3) := by decide +kernel
theorem dX0_poreAt_4 : decode cX0_poreAt 4 = .ok (.iload_n 1, 1) := by decide +kernel
theorem dX0_poreAt_5 : decode cX0_poreAt 5 = .ok (.invokestatic 37, 3) := by decide +kernel
theorem dX0_poreAt_8 : decode cX0_poreAt 8 = .ok (.invokestatic 41, 3) := by decide +kernel
theorem dX0_poreAt_11 : decode cX0_poreAt 11 = .ok (.iload_n 1, 1) := by decide +kernel
theorem dX0_poreAt_12 : decode cX0_poreAt 12 = .ok (.imul, 1) := by decide +kernel
theorem dX0_poreAt_13 : decode cX0_poreAt 13 = .ok (.bipush 10, 2) := by decide +kernel
theorem dX0_poreAt_15 : decode cX0_poreAt 15 = .ok (.idiv, 1) := by decide +kernel
theorem dX0_poreAt_16 : decode cX0_poreAt 16 = .ok (.ireturn, 1) := by decide +kernel
theorem dX0_breakAt_0 : decode cX0_breakAt 0 = .ok (.aload_n 0, 1) := by decide +kernel
theorem dX0_breakAt_1 : decode cX0_breakAt 1 = .ok (.getfield 15, 3) := by decide +kernel
theorem dX0_breakAt_4 : decode cX0_breakAt 4 = .ok (.iload_n 1, 1) := by decide +kernel
theorem dX0_breakAt_5 : decode cX0_breakAt 5 = .ok (.invokestatic 37, 3) := by decide +kernel
theorem dX0_breakAt_8 : decode cX0_breakAt 8 = .ok (.invokestatic 41, 3) := by decide +kernel
theorem dX0_breakAt_11 : decode cX0_breakAt 11 = .ok (.iload_n 1, 1) := by decide +kernel
theorem dX0_breakAt_12 : decode cX0_breakAt 12 = .ok (.imul, 1) := by decide +kernel
theorem dX0_breakAt_13 : decode cX0_breakAt 13 = .ok (.bipush 10, 2) := by decide +kernel
theorem dX0_breakAt_15 : decode cX0_breakAt 15 = .ok (.idiv, 1) := by decide +kernel
theorem dX0_breakAt_16 : decode cX0_breakAt 16 = .ok (.ireturn, 1) := by decide +kernel
theorem dX0_rateAt_0 : decode cX0_rateAt 0 = .ok (.aload_n 0, 1) := by decide +kernel
theorem dX0_rateAt_1 : decode cX0_rateAt 1 = .ok (.getfield 18, 3) := by decide +kernel
theorem dX0_rateAt_4 : decode cX0_rateAt 4 = .ok (.iload_n 1, 1) := by decide +kernel
theorem dX0_rateAt_5 : decode cX0_rateAt 5 = .ok (.invokestatic 37, 3) := by decide +kernel
theorem dX0_rateAt_8 : decode cX0_rateAt 8 = .ok (.invokestatic 41, 3) := by decide +kernel
theorem dX0_rateAt_11 : decode cX0_rateAt 11 = .ok (.ireturn, 1) := by decide +kernel
theorem dX0_bearsGasAt_0 : decode cX0_bearsGasAt 0 = .ok (.aload_n 0, 1) := by decide +kernel
theorem dX0_bearsGasAt_1 : decode cX0_bearsGasAt 1 = .ok (.getfield 21, 3) := by decide +kernel
theorem dX0_bearsGasAt_4 : decode cX0_bearsGasAt 4 = .ok (.iload_n 1, 1) := by decide +kernel
theorem dX0_bearsGasAt_5 : decode cX0_bearsGasAt 5 = .ok (.invokestatic 37, 3) := by decide +kernel
theorem dX0_bearsGasAt_8 : decode cX0_bearsGasAt 8 = .ok (.invokestatic 41, 3) := by decide +kernel
theorem dX0_bearsGasAt_11 : decode cX0_bearsGasAt 11 = .ok (.iconst 1, 1) := by decide +kernel
theorem dX0_bearsGasAt_12 : decode cX0_bearsGasAt 12 = .ok (.if_icmp .ne 7, 3) := by decide +kernel
theorem dX0_bearsGasAt_15 : decode cX0_bearsGasAt 15 = .ok (.iconst 1, 1) := by decide +kernel
theorem dX0_bearsGasAt_16 : decode cX0_bearsGasAt 16 = .ok (.goto 4, 3) := by decide +kernel
theorem dX0_bearsGasAt_19 : decode cX0_bearsGasAt 19 = .ok (.iconst 0, 1) := by decide +kernel
theorem dX0_bearsGasAt_20 : decode cX0_bearsGasAt 20 = .ok (.ireturn, 1) := by decide +kernel
theorem dX0_greatestPore_0 : decode cX0_greatestPore 0 = .ok (.aload_n 0, 1) := by decide +kernel
theorem dX0_greatestPore_1 : decode cX0_greatestPore 1 = .ok (.getfield 9, 3) := by decide +kernel
theorem dX0_greatestPore_4 : decode cX0_greatestPore 4 = .ok (.iload_n 1, 1) := by decide +kernel
theorem dX0_greatestPore_5 : decode cX0_greatestPore 5 = .ok (.invokestatic 41, 3) := by decide +kernel
theorem dX0_greatestPore_8 : decode cX0_greatestPore 8 = .ok (.istore_n 3, 1) := by decide +kernel
theorem dX0_greatestPore_9 : decode cX0_greatestPore 9 = .ok (.iload_n 1, 1) := by decide +kernel
theorem dX0_greatestPore_10 : decode cX0_greatestPore 10 = .ok (.iconst 1, 1) := by decide +kernel
theorem dX0_greatestPore_11 : decode cX0_greatestPore 11 = .ok (.iadd, 1) := by decide +kernel
theorem dX0_greatestPore_12 : decode cX0_greatestPore 12 = .ok (.istore 4, 2) := by decide +kernel
theorem dX0_greatestPore_14 : decode cX0_greatestPore 14 = .ok (.iload 4, 2) := by decide +kernel
theorem dX0_greatestPore_16 : decode cX0_greatestPore 16 = .ok (.iload_n 2, 1) := by decide +kernel
theorem dX0_greatestPore_17 : decode cX0_greatestPore 17 = .ok (.if_icmp .gt 23, 3) := by decide +kernel
theorem dX0_greatestPore_20 : decode cX0_greatestPore 20 = .ok (.iload_n 3, 1) := by decide +kernel
theorem dX0_greatestPore_21 : decode cX0_greatestPore 21 = .ok (.aload_n 0, 1) := by decide +kernel
theorem dX0_greatestPore_22 : decode cX0_greatestPore 22 = .ok (.getfield 9, 3) := by decide +kernel
theorem dX0_greatestPore_25 : decode cX0_greatestPore 25 = .ok (.iload 4, 2) := by decide +kernel
theorem dX0_greatestPore_27 : decode cX0_greatestPore 27 = .ok (.invokestatic 41, 3) := by decide +kernel
theorem dX0_greatestPore_30 : decode cX0_greatestPore 30 = .ok (.invokestatic 45, 3) := by decide +kernel
theorem dX0_greatestPore_33 : decode cX0_greatestPore 33 = .ok (.istore_n 3, 1) := by decide +kernel
theorem dX0_greatestPore_34 : decode cX0_greatestPore 34 = .ok (.iinc 4 1, 3) := by decide +kernel
theorem dX0_greatestPore_37 : decode cX0_greatestPore 37 = .ok (.goto (-23), 3) := by decide +kernel
theorem dX0_greatestPore_40 : decode cX0_greatestPore 40 = .ok (.iload_n 3, 1) := by decide +kernel
theorem dX0_greatestPore_41 : decode cX0_greatestPore 41 = .ok (.ireturn, 1) := by decide +kernel
theorem dX0_leastBreak_0 : decode cX0_leastBreak 0 = .ok (.aload_n 0, 1) := by decide +kernel
theorem dX0_leastBreak_1 : decode cX0_leastBreak 1 = .ok (.getfield 15, 3) := by decide +kernel
theorem dX0_leastBreak_4 : decode cX0_leastBreak 4 = .ok (.iload_n 1, 1) := by decide +kernel
theorem dX0_leastBreak_5 : decode cX0_leastBreak 5 = .ok (.invokestatic 41, 3) := by decide +kernel
theorem dX0_leastBreak_8 : decode cX0_leastBreak 8 = .ok (.istore_n 3, 1) := by decide +kernel
theorem dX0_leastBreak_9 : decode cX0_leastBreak 9 = .ok (.iload_n 1, 1) := by decide +kernel
theorem dX0_leastBreak_10 : decode cX0_leastBreak 10 = .ok (.iconst 1, 1) := by decide +kernel
theorem dX0_leastBreak_11 : decode cX0_leastBreak 11 = .ok (.iadd, 1) := by decide +kernel
theorem dX0_leastBreak_12 : decode cX0_leastBreak 12 = .ok (.istore 4, 2) := by decide +kernel
theorem dX0_leastBreak_14 : decode cX0_leastBreak 14 = .ok (.iload 4, 2) := by decide +kernel
theorem dX0_leastBreak_16 : decode cX0_leastBreak 16 = .ok (.iload_n 2, 1) := by decide +kernel
theorem dX0_leastBreak_17 : decode cX0_leastBreak 17 = .ok (.if_icmp .gt 23, 3) := by decide +kernel
theorem dX0_leastBreak_20 : decode cX0_leastBreak 20 = .ok (.iload_n 3, 1) := by decide +kernel
theorem dX0_leastBreak_21 : decode cX0_leastBreak 21 = .ok (.aload_n 0, 1) := by decide +kernel
theorem dX0_leastBreak_22 : decode cX0_leastBreak 22 = .ok (.getfield 15, 3) := by decide +kernel
theorem dX0_leastBreak_25 : decode cX0_leastBreak 25 = .ok (.iload 4, 2) := by decide +kernel
theorem dX0_leastBreak_27 : decode cX0_leastBreak 27 = .ok (.invokestatic 41, 3) := by decide +kernel
theorem dX0_leastBreak_30 : decode cX0_leastBreak 30 = .ok (.invokestatic 51, 3) := by decide +kernel
theorem dX0_leastBreak_33 : decode cX0_leastBreak 33 = .ok (.istore_n 3, 1) := by decide +kernel
theorem dX0_leastBreak_34 : decode cX0_leastBreak 34 = .ok (.iinc 4 1, 3) := by decide +kernel
theorem dX0_leastBreak_37 : decode cX0_leastBreak 37 = .ok (.goto (-23), 3) := by decide +kernel
theorem dX0_leastBreak_40 : decode cX0_leastBreak 40 = .ok (.iload_n 3, 1) := by decide +kernel
theorem dX0_leastBreak_41 : decode cX0_leastBreak 41 = .ok (.ireturn, 1) := by decide +kernel
theorem dX0_piecesFromAbove_0 : decode cX0_piecesFromAbove 0 = .ok (.iconst 1, 1) := by decide +kernel
theorem dX0_piecesFromAbove_1 : decode cX0_piecesFromAbove 1 = .ok (.istore_n 2, 1) := by decide +kernel
theorem dX0_piecesFromAbove_2 : decode cX0_piecesFromAbove 2 = .ok (.iconst 0, 1) := by decide +kernel
theorem dX0_piecesFromAbove_3 : decode cX0_piecesFromAbove 3 = .ok (.istore_n 3, 1) := by decide +kernel
theorem dX0_piecesFromAbove_4 : decode cX0_piecesFromAbove 4 = .ok (.sipush 300, 3) := by decide +kernel
theorem dX0_piecesFromAbove_7 : decode cX0_piecesFromAbove 7 = .ok (.istore 4, 2) := by decide +kernel
theorem dX0_piecesFromAbove_9 : decode cX0_piecesFromAbove 9 = .ok (.iconst 0, 1) := by decide +kernel
theorem dX0_piecesFromAbove_10 : decode cX0_piecesFromAbove 10 = .ok (.istore 5, 2) := by decide +kernel
theorem dX0_piecesFromAbove_12 : decode cX0_piecesFromAbove 12 = .ok (.iload 5, 2) := by decide +kernel
theorem dX0_piecesFromAbove_14 : decode cX0_piecesFromAbove 14 = .ok (.iload_n 1, 1) := by decide +kernel
theorem dX0_piecesFromAbove_15 : decode cX0_piecesFromAbove 15 = .ok (.if_icmp .gt 72, 3) := by decide +kernel
theorem dX0_piecesFromAbove_18 : decode cX0_piecesFromAbove 18 = .ok (.aload_n 0, 1) := by decide +kernel
theorem dX0_piecesFromAbove_19 : decode cX0_piecesFromAbove 19 = .ok (.getfield 9, 3) := by decide +kernel
theorem dX0_piecesFromAbove_22 : decode cX0_piecesFromAbove 22 = .ok (.iload 5, 2) := by decide +kernel
theorem dX0_piecesFromAbove_24 : decode cX0_piecesFromAbove 24 = .ok (.invokestatic 41, 3) := by decide +kernel
theorem dX0_piecesFromAbove_27 : decode cX0_piecesFromAbove 27 = .ok (.istore 6, 2) := by decide +kernel
theorem dX0_piecesFromAbove_29 : decode cX0_piecesFromAbove 29 = .ok (.aload_n 0, 1) := by decide +kernel
theorem dX0_piecesFromAbove_30 : decode cX0_piecesFromAbove 30 = .ok (.getfield 15, 3) := by decide +kernel
theorem dX0_piecesFromAbove_33 : decode cX0_piecesFromAbove 33 = .ok (.iload 5, 2) := by decide +kernel
theorem dX0_piecesFromAbove_35 : decode cX0_piecesFromAbove 35 = .ok (.invokestatic 41, 3) := by decide +kernel
theorem dX0_piecesFromAbove_38 : decode cX0_piecesFromAbove 38 = .ok (.istore 7, 2) := by decide +kernel
theorem dX0_piecesFromAbove_40 : decode cX0_piecesFromAbove 40 = .ok (.iload 6, 2) := by decide +kernel
theorem dX0_piecesFromAbove_42 : decode cX0_piecesFromAbove 42 = .ok (.iload 7, 2) := by decide +kernel
theorem dX0_piecesFromAbove_44 : decode cX0_piecesFromAbove 44 = .ok (.if_icmp .le 5, 3) := by decide +kernel
theorem dX0_piecesFromAbove_47 : decode cX0_piecesFromAbove 47 = .ok (.iconst (-1), 1) := by decide +kernel
theorem dX0_piecesFromAbove_48 : decode cX0_piecesFromAbove 48 = .ok (.ireturn, 1) := by decide +kernel
theorem dX0_piecesFromAbove_49 : decode cX0_piecesFromAbove 49 = .ok (.iload_n 3, 1) := by decide +kernel
theorem dX0_piecesFromAbove_50 : decode cX0_piecesFromAbove 50 = .ok (.iload 6, 2) := by decide +kernel
theorem dX0_piecesFromAbove_52 : decode cX0_piecesFromAbove 52 = .ok (.invokestatic 45, 3) := by decide +kernel
theorem dX0_piecesFromAbove_55 : decode cX0_piecesFromAbove 55 = .ok (.istore_n 3, 1) := by decide +kernel
theorem dX0_piecesFromAbove_56 : decode cX0_piecesFromAbove 56 = .ok (.iload 4, 2) := by decide +kernel
theorem dX0_piecesFromAbove_58 : decode cX0_piecesFromAbove 58 = .ok (.iload 7, 2) := by decide +kernel
theorem dX0_piecesFromAbove_60 : decode cX0_piecesFromAbove 60 = .ok (.invokestatic 51, 3) := by decide +kernel
theorem dX0_piecesFromAbove_63 : decode cX0_piecesFromAbove 63 = .ok (.istore 4, 2) := by decide +kernel
theorem dX0_piecesFromAbove_65 : decode cX0_piecesFromAbove 65 = .ok (.iload_n 3, 1) := by decide +kernel
theorem dX0_piecesFromAbove_66 : decode cX0_piecesFromAbove 66 = .ok (.iload 4, 2) := by decide +kernel
theorem dX0_piecesFromAbove_68 : decode cX0_piecesFromAbove 68 = .ok (.if_icmp .le 13, 3) := by decide +kernel
theorem dX0_piecesFromAbove_71 : decode cX0_piecesFromAbove 71 = .ok (.iinc 2 1, 3) := by decide +kernel
theorem dX0_piecesFromAbove_74 : decode cX0_piecesFromAbove 74 = .ok (.iload 6, 2) := by decide +kernel
theorem dX0_piecesFromAbove_76 : decode cX0_piecesFromAbove 76 = .ok (.istore_n 3, 1) := by decide +kernel
theorem dX0_piecesFromAbove_77 : decode cX0_piecesFromAbove 77 = .ok (.iload 7, 2) := by decide +kernel
theorem dX0_piecesFromAbove_79 : decode cX0_piecesFromAbove 79 = .ok (.istore 4, 2) := by decide +kernel
theorem dX0_piecesFromAbove_81 : decode cX0_piecesFromAbove 81 = .ok (.iinc 5 1, 3) := by decide +kernel
theorem dX0_piecesFromAbove_84 : decode cX0_piecesFromAbove 84 = .ok (.goto (-72), 3) := by decide +kernel
theorem dX0_piecesFromAbove_87 : decode cX0_piecesFromAbove 87 = .ok (.iload_n 2, 1) := by decide +kernel
theorem dX0_piecesFromAbove_88 : decode cX0_piecesFromAbove 88 = .ok (.ireturn, 1) := by decide +kernel
theorem dX0_piecesFromAll_0 : decode cX0_piecesFromAll 0 = .ok (.iconst 0, 1) := by decide +kernel
theorem dX0_piecesFromAll_1 : decode cX0_piecesFromAll 1 = .ok (.istore_n 2, 1) := by decide +kernel
theorem dX0_piecesFromAll_2 : decode cX0_piecesFromAll 2 = .ok (.iload_n 2, 1) := by decide +kernel
theorem dX0_piecesFromAll_3 : decode cX0_piecesFromAll 3 = .ok (.iload_n 1, 1) := by decide +kernel
theorem dX0_piecesFromAll_4 : decode cX0_piecesFromAll 4 = .ok (.if_icmp .gt 22, 3) := by decide +kernel
theorem dX0_piecesFromAll_7 : decode cX0_piecesFromAll 7 = .ok (.aload_n 0, 1) := by decide +kernel
theorem dX0_piecesFromAll_8 : decode cX0_piecesFromAll 8 = .ok (.getfield 24, 3) := by decide +kernel
theorem dX0_piecesFromAll_11 : decode cX0_piecesFromAll 11 = .ok (.iload_n 2, 1) := by decide +kernel
theorem dX0_piecesFromAll_12 : decode cX0_piecesFromAll 12 = .ok (.aload_n 0, 1) := by decide +kernel
theorem dX0_piecesFromAll_13 : decode cX0_piecesFromAll 13 = .ok (.iload_n 2, 1) := by decide +kernel
theorem dX0_piecesFromAll_14 : decode cX0_piecesFromAll 14 = .ok (.invokevirtual 54, 3) := by decide +kernel
theorem dX0_piecesFromAll_17 : decode cX0_piecesFromAll 17 = .ok (.invokestatic 33, 3) := by decide +kernel
theorem dX0_piecesFromAll_20 : decode cX0_piecesFromAll 20 = .ok (.iinc 2 1, 3) := by decide +kernel
theorem dX0_piecesFromAll_23 : decode cX0_piecesFromAll 23 = .ok (.goto (-21), 3) := by decide +kernel
theorem dX0_piecesFromAll_26 : decode cX0_piecesFromAll 26 = .ok (.aload_n 0, 1) := by decide +kernel
theorem dX0_piecesFromAll_27 : decode cX0_piecesFromAll 27 = .ok (.getfield 24, 3) := by decide +kernel
theorem dX0_piecesFromAll_30 : decode cX0_piecesFromAll 30 = .ok (.iload_n 1, 1) := by decide +kernel
theorem dX0_piecesFromAll_31 : decode cX0_piecesFromAll 31 = .ok (.invokestatic 41, 3) := by decide +kernel
theorem dX0_piecesFromAll_34 : decode cX0_piecesFromAll 34 = .ok (.ireturn, 1) := by decide +kernel
theorem dX0_leastPiecesTo_0 : decode cX0_leastPiecesTo 0 = .ok (.iconst (-1), 1) := by decide +kernel
theorem dX0_leastPiecesTo_1 : decode cX0_leastPiecesTo 1 = .ok (.istore_n 2, 1) := by decide +kernel
theorem dX0_leastPiecesTo_2 : decode cX0_leastPiecesTo 2 = .ok (.iconst 0, 1) := by decide +kernel
theorem dX0_leastPiecesTo_3 : decode cX0_leastPiecesTo 3 = .ok (.istore_n 3, 1) := by decide +kernel
theorem dX0_leastPiecesTo_4 : decode cX0_leastPiecesTo 4 = .ok (.sipush 300, 3) := by decide +kernel
theorem dX0_leastPiecesTo_7 : decode cX0_leastPiecesTo 7 = .ok (.istore 4, 2) := by decide +kernel
theorem dX0_leastPiecesTo_9 : decode cX0_leastPiecesTo 9 = .ok (.iload_n 1, 1) := by decide +kernel
theorem dX0_leastPiecesTo_10 : decode cX0_leastPiecesTo 10 = .ok (.istore 5, 2) := by decide +kernel
theorem dX0_leastPiecesTo_12 : decode cX0_leastPiecesTo 12 = .ok (.iload 5, 2) := by decide +kernel
theorem dX0_leastPiecesTo_14 : decode cX0_leastPiecesTo 14 = .ok (.ifCond .lt 103, 3) := by decide +kernel
theorem dX0_leastPiecesTo_17 : decode cX0_leastPiecesTo 17 = .ok (.iload_n 3, 1) := by decide +kernel
theorem dX0_leastPiecesTo_18 : decode cX0_leastPiecesTo 18 = .ok (.aload_n 0, 1) := by decide +kernel
theorem dX0_leastPiecesTo_19 : decode cX0_leastPiecesTo 19 = .ok (.getfield 9, 3) := by decide +kernel
theorem dX0_leastPiecesTo_22 : decode cX0_leastPiecesTo 22 = .ok (.iload 5, 2) := by decide +kernel
theorem dX0_leastPiecesTo_24 : decode cX0_leastPiecesTo 24 = .ok (.invokestatic 41, 3) := by decide +kernel
theorem dX0_leastPiecesTo_27 : decode cX0_leastPiecesTo 27 = .ok (.invokestatic 45, 3) := by decide +kernel
theorem dX0_leastPiecesTo_30 : decode cX0_leastPiecesTo 30 = .ok (.istore_n 3, 1) := by decide +kernel
theorem dX0_leastPiecesTo_31 : decode cX0_leastPiecesTo 31 = .ok (.iload 4, 2) := by decide +kernel
theorem dX0_leastPiecesTo_33 : decode cX0_leastPiecesTo 33 = .ok (.aload_n 0, 1) := by decide +kernel
theorem dX0_leastPiecesTo_34 : decode cX0_leastPiecesTo 34 = .ok (.getfield 15, 3) := by decide +kernel
theorem dX0_leastPiecesTo_37 : decode cX0_leastPiecesTo 37 = .ok (.iload 5, 2) := by decide +kernel
theorem dX0_leastPiecesTo_39 : decode cX0_leastPiecesTo 39 = .ok (.invokestatic 41, 3) := by decide +kernel
theorem dX0_leastPiecesTo_42 : decode cX0_leastPiecesTo 42 = .ok (.invokestatic 51, 3) := by decide +kernel
theorem dX0_leastPiecesTo_45 : decode cX0_leastPiecesTo 45 = .ok (.istore 4, 2) := by decide +kernel
theorem dX0_leastPiecesTo_47 : decode cX0_leastPiecesTo 47 = .ok (.iload 5, 2) := by decide +kernel
theorem dX0_leastPiecesTo_49 : decode cX0_leastPiecesTo 49 = .ok (.ifCond .ne 7, 3) := by decide +kernel
theorem dX0_leastPiecesTo_52 : decode cX0_leastPiecesTo 52 = .ok (.iconst 0, 1) := by decide +kernel
theorem dX0_leastPiecesTo_53 : decode cX0_leastPiecesTo 53 = .ok (.goto 14, 3) := by decide +kernel
theorem dX0_leastPiecesTo_56 : decode cX0_leastPiecesTo 56 = .ok (.aload_n 0, 1) := by decide +kernel
theorem dX0_leastPiecesTo_57 : decode cX0_leastPiecesTo 57 = .ok (.getfield 24, 3) := by decide +kernel
theorem dX0_leastPiecesTo_60 : decode cX0_leastPiecesTo 60 = .ok (.iload 5, 2) := by decide +kernel
theorem dX0_leastPiecesTo_62 : decode cX0_leastPiecesTo 62 = .ok (.iconst 1, 1) := by decide +kernel
theorem dX0_leastPiecesTo_63 : decode cX0_leastPiecesTo 63 = .ok (.isub, 1) := by decide +kernel
theorem dX0_leastPiecesTo_64 : decode cX0_leastPiecesTo 64 = .ok (.invokestatic 41, 3) := by decide +kernel
theorem dX0_leastPiecesTo_67 : decode cX0_leastPiecesTo 67 = .ok (.istore 6, 2) := by decide +kernel
theorem dX0_leastPiecesTo_69 : decode cX0_leastPiecesTo 69 = .ok (.iload_n 3, 1) := by decide +kernel
theorem dX0_leastPiecesTo_70 : decode cX0_leastPiecesTo 70 = .ok (.iload 4, 2) := by decide +kernel
theorem dX0_leastPiecesTo_72 : decode cX0_leastPiecesTo 72 = .ok (.if_icmp .gt 13, 3) := by decide +kernel
theorem dX0_leastPiecesTo_75 : decode cX0_leastPiecesTo 75 = .ok (.iload 6, 2) := by decide +kernel
theorem dX0_leastPiecesTo_77 : decode cX0_leastPiecesTo 77 = .ok (.iconst (-1), 1) := by decide +kernel
theorem dX0_leastPiecesTo_78 : decode cX0_leastPiecesTo 78 = .ok (.if_icmp .eq 7, 3) := by decide +kernel
theorem dX0_leastPiecesTo_81 : decode cX0_leastPiecesTo 81 = .ok (.iconst 1, 1) := by decide +kernel
theorem dX0_leastPiecesTo_82 : decode cX0_leastPiecesTo 82 = .ok (.goto 4, 3) := by decide +kernel
theorem dX0_leastPiecesTo_85 : decode cX0_leastPiecesTo 85 = .ok (.iconst 0, 1) := by decide +kernel
theorem dX0_leastPiecesTo_86 : decode cX0_leastPiecesTo 86 = .ok (.istore 7, 2) := by decide +kernel
theorem dX0_leastPiecesTo_88 : decode cX0_leastPiecesTo 88 = .ok (.iload 7, 2) := by decide +kernel
theorem dX0_leastPiecesTo_90 : decode cX0_leastPiecesTo 90 = .ok (.ifCond .eq 21, 3) := by decide +kernel
theorem dX0_leastPiecesTo_93 : decode cX0_leastPiecesTo 93 = .ok (.iload_n 2, 1) := by decide +kernel
theorem dX0_leastPiecesTo_94 : decode cX0_leastPiecesTo 94 = .ok (.iconst (-1), 1) := by decide +kernel
theorem dX0_leastPiecesTo_95 : decode cX0_leastPiecesTo 95 = .ok (.if_icmp .eq 11, 3) := by decide +kernel
theorem dX0_leastPiecesTo_98 : decode cX0_leastPiecesTo 98 = .ok (.iload 6, 2) := by decide +kernel
theorem dX0_leastPiecesTo_100 : decode cX0_leastPiecesTo 100 = .ok (.iconst 1, 1) := by decide +kernel
theorem dX0_leastPiecesTo_101 : decode cX0_leastPiecesTo 101 = .ok (.iadd, 1) := by decide +kernel
theorem dX0_leastPiecesTo_102 : decode cX0_leastPiecesTo 102 = .ok (.iload_n 2, 1) := by decide +kernel
theorem dX0_leastPiecesTo_103 : decode cX0_leastPiecesTo 103 = .ok (.if_icmp .ge 8, 3) := by decide +kernel
theorem dX0_leastPiecesTo_106 : decode cX0_leastPiecesTo 106 = .ok (.iload 6, 2) := by decide +kernel
theorem dX0_leastPiecesTo_108 : decode cX0_leastPiecesTo 108 = .ok (.iconst 1, 1) := by decide +kernel
theorem dX0_leastPiecesTo_109 : decode cX0_leastPiecesTo 109 = .ok (.iadd, 1) := by decide +kernel
theorem dX0_leastPiecesTo_110 : decode cX0_leastPiecesTo 110 = .ok (.istore_n 2, 1) := by decide +kernel
theorem dX0_leastPiecesTo_111 : decode cX0_leastPiecesTo 111 = .ok (.iinc 5 (-1), 3) := by decide +kernel
theorem dX0_leastPiecesTo_114 : decode cX0_leastPiecesTo 114 = .ok (.goto (-102), 3) := by decide +kernel
theorem dX0_leastPiecesTo_117 : decode cX0_leastPiecesTo 117 = .ok (.iload_n 2, 1) := by decide +kernel
theorem dX0_leastPiecesTo_118 : decode cX0_leastPiecesTo 118 = .ok (.ireturn, 1) := by decide +kernel
theorem dX1_init_0 : decode cX1_init 0 = .ok (.aload_n 0, 1) := by decide +kernel
theorem dX1_init_1 : decode cX1_init 1 = .ok (.invokespecial 3, 3) := by decide +kernel
theorem dX1_init_4 : decode cX1_init 4 = .ok (.aload_n 0, 1) := by decide +kernel
theorem dX1_init_5 : decode cX1_init 5 = .ok (.bipush 60, 2) := by decide +kernel
theorem dX1_init_7 : decode cX1_init 7 = .ok (.newarray .int, 2) := by decide +kernel
theorem dX1_init_9 : decode cX1_init 9 = .ok (.putfield 9, 3) := by decide +kernel
theorem dX1_init_12 : decode cX1_init 12 = .ok (.aload_n 0, 1) := by decide +kernel
theorem dX1_init_13 : decode cX1_init 13 = .ok (.bipush 60, 2) := by decide +kernel
theorem dX1_init_15 : decode cX1_init 15 = .ok (.newarray .int, 2) := by decide +kernel
theorem dX1_init_17 : decode cX1_init 17 = .ok (.putfield 15, 3) := by decide +kernel
theorem dX1_init_20 : decode cX1_init 20 = .ok (.aload_n 0, 1) := by decide +kernel
theorem dX1_init_21 : decode cX1_init 21 = .ok (.bipush 60, 2) := by decide +kernel
theorem dX1_init_23 : decode cX1_init 23 = .ok (.newarray .int, 2) := by decide +kernel
theorem dX1_init_25 : decode cX1_init 25 = .ok (.putfield 18, 3) := by decide +kernel
theorem dX1_init_28 : decode cX1_init 28 = .ok (.aload_n 0, 1) := by decide +kernel
theorem dX1_init_29 : decode cX1_init 29 = .ok (.bipush 60, 2) := by decide +kernel
theorem dX1_init_31 : decode cX1_init 31 = .ok (.newarray .int, 2) := by decide +kernel
theorem dX1_init_33 : decode cX1_init 33 = .ok (.putfield 21, 3) := by decide +kernel
theorem dX1_init_36 : decode cX1_init 36 = .ok (.aload_n 0, 1) := by decide +kernel
theorem dX1_init_37 : decode cX1_init 37 = .ok (.iconst (-1), 1) := by decide +kernel
theorem dX1_init_38 : decode cX1_init 38 = .ok (.putfield 24, 3) := by decide +kernel
theorem dX1_init_41 : decode cX1_init 41 = .ok (.aload_n 0, 1) := by decide +kernel
theorem dX1_init_42 : decode cX1_init 42 = .ok (.iconst (-1), 1) := by decide +kernel
theorem dX1_init_43 : decode cX1_init 43 = .ok (.putfield 28, 3) := by decide +kernel
theorem dX1_init_46 : decode cX1_init 46 = .ok (.return_, 1) := by decide +kernel
theorem dX1_keep_0 : decode cX1_keep 0 = .ok (.aload_n 0, 1) := by decide +kernel
theorem dX1_keep_1 : decode cX1_keep 1 = .ok (.getfield 9, 3) := by decide +kernel
theorem dX1_keep_4 : decode cX1_keep 4 = .ok (.aload_n 0, 1) := by decide +kernel
theorem dX1_keep_5 : decode cX1_keep 5 = .ok (.getfield 31, 3) := by decide +kernel
theorem dX1_keep_8 : decode cX1_keep 8 = .ok (.iload_n 1, 1) := by decide +kernel
theorem dX1_keep_9 : decode cX1_keep 9 = .ok (.invokestatic 34, 3) := by decide +kernel
theorem dX1_keep_12 : decode cX1_keep 12 = .ok (.aload_n 0, 1) := by decide +kernel
theorem dX1_keep_13 : decode cX1_keep 13 = .ok (.getfield 15, 3) := by decide +kernel
theorem dX1_keep_16 : decode cX1_keep 16 = .ok (.aload_n 0, 1) := by decide +kernel
theorem dX1_keep_17 : decode cX1_keep 17 = .ok (.getfield 31, 3) := by decide +kernel
theorem dX1_keep_20 : decode cX1_keep 20 = .ok (.iload_n 2, 1) := by decide +kernel
theorem dX1_keep_21 : decode cX1_keep 21 = .ok (.invokestatic 34, 3) := by decide +kernel
theorem dX1_keep_24 : decode cX1_keep 24 = .ok (.aload_n 0, 1) := by decide +kernel
theorem dX1_keep_25 : decode cX1_keep 25 = .ok (.getfield 18, 3) := by decide +kernel
theorem dX1_keep_28 : decode cX1_keep 28 = .ok (.aload_n 0, 1) := by decide +kernel
theorem dX1_keep_29 : decode cX1_keep 29 = .ok (.getfield 31, 3) := by decide +kernel
theorem dX1_keep_32 : decode cX1_keep 32 = .ok (.iload_n 3, 1) := by decide +kernel
theorem dX1_keep_33 : decode cX1_keep 33 = .ok (.ifCond .eq 7, 3) := by decide +kernel
theorem dX1_keep_36 : decode cX1_keep 36 = .ok (.iconst 1, 1) := by decide +kernel
theorem dX1_keep_37 : decode cX1_keep 37 = .ok (.goto 4, 3) := by decide +kernel
theorem dX1_keep_40 : decode cX1_keep 40 = .ok (.iconst 0, 1) := by decide +kernel
theorem dX1_keep_41 : decode cX1_keep 41 = .ok (.invokestatic 34, 3) := by decide +kernel
theorem dX1_keep_44 : decode cX1_keep 44 = .ok (.aload_n 0, 1) := by decide +kernel
theorem dX1_keep_45 : decode cX1_keep 45 = .ok (.getfield 21, 3) := by decide +kernel
theorem dX1_keep_48 : decode cX1_keep 48 = .ok (.aload_n 0, 1) := by decide +kernel
theorem dX1_keep_49 : decode cX1_keep 49 = .ok (.getfield 31, 3) := by decide +kernel
theorem dX1_keep_52 : decode cX1_keep 52 = .ok (.iload 4, 2) := by decide +kernel
theorem dX1_keep_54 : decode cX1_keep 54 = .ok (.invokestatic 34, 3) := by decide +kernel
theorem dX1_keep_57 : decode cX1_keep 57 = .ok (.iload_n 1, 1) := by decide +kernel
theorem dX1_keep_58 : decode cX1_keep 58 = .ok (.ifCond .ne 14, 3) := by decide +kernel
theorem dX1_keep_61 : decode cX1_keep 61 = .ok (.aload_n 0, 1) := by decide +kernel
theorem dX1_keep_62 : decode cX1_keep 62 = .ok (.aload_n 0, 1) := by decide +kernel
theorem dX1_keep_63 : decode cX1_keep 63 = .ok (.getfield 31, 3) := by decide +kernel
theorem dX1_keep_66 : decode cX1_keep 66 = .ok (.putfield 24, 3) := by decide +kernel
theorem dX1_keep_69 : decode cX1_keep 69 = .ok (.goto 11, 3) := by decide +kernel
theorem dX1_keep_72 : decode cX1_keep 72 = .ok (.aload_n 0, 1) := by decide +kernel
theorem dX1_keep_73 : decode cX1_keep 73 = .ok (.aload_n 0, 1) := by decide +kernel
theorem dX1_keep_74 : decode cX1_keep 74 = .ok (.getfield 31, 3) := by decide +kernel
theorem dX1_keep_77 : decode cX1_keep 77 = .ok (.putfield 28, 3) := by decide +kernel
theorem dX1_keep_80 : decode cX1_keep 80 = .ok (.aload_n 0, 1) := by decide +kernel
theorem dX1_keep_81 : decode cX1_keep 81 = .ok (.dup, 1) := by decide +kernel
theorem dX1_keep_82 : decode cX1_keep 82 = .ok (.getfield 31, 3) := by decide +kernel
theorem dX1_keep_85 : decode cX1_keep 85 = .ok (.iconst 1, 1) := by decide +kernel
theorem dX1_keep_86 : decode cX1_keep 86 = .ok (.iadd, 1) := by decide +kernel
theorem dX1_keep_87 : decode cX1_keep 87 = .ok (.putfield 31, 3) := by decide +kernel
theorem dX1_keep_90 : decode cX1_keep 90 = .ok (.return_, 1) := by decide +kernel
theorem dX1_isPassed_0 : decode cX1_isPassed 0 = .ok (.iload_n 1, 1) := by decide +kernel
theorem dX1_isPassed_1 : decode cX1_isPassed 1 = .ok (.iconst (-1), 1) := by decide +kernel
theorem dX1_isPassed_2 : decode cX1_isPassed 2 = .ok (.if_icmp .eq 19, 3) := by decide +kernel
theorem dX1_isPassed_5 : decode cX1_isPassed 5 = .ok (.aload_n 0, 1) := by decide +kernel
theorem dX1_isPassed_6 : decode cX1_isPassed 6 = .ok (.getfield 18, 3) := by decide +kernel
theorem dX1_isPassed_9 : decode cX1_isPassed 9 = .ok (.iload_n 1, 1) := by decide +kernel
theorem dX1_isPassed_10 : decode cX1_isPassed 10 = .ok (.invokestatic 38, 3) := by decide +kernel
theorem dX1_isPassed_13 : decode cX1_isPassed 13 = .ok (.iconst 1, 1) := by decide +kernel
theorem dX1_isPassed_14 : decode cX1_isPassed 14 = .ok (.if_icmp .ne 7, 3) := by decide +kernel
theorem dX1_isPassed_17 : decode cX1_isPassed 17 = .ok (.iconst 1, 1) := by decide +kernel
theorem dX1_isPassed_18 : decode cX1_isPassed 18 = .ok (.goto 4, 3) := by decide +kernel
theorem dX1_isPassed_21 : decode cX1_isPassed 21 = .ok (.iconst 0, 1) := by decide +kernel
theorem dX1_isPassed_22 : decode cX1_isPassed 22 = .ok (.ireturn, 1) := by decide +kernel
theorem dX2_init_0 : decode cX2_init 0 = .ok (.aload_n 0, 1) := by decide +kernel
theorem dX2_init_1 : decode cX2_init 1 = .ok (.invokespecial 1, 3) := by decide +kernel
theorem dX2_init_4 : decode cX2_init 4 = .ok (.aload_n 0, 1) := by decide +kernel
theorem dX2_init_5 : decode cX2_init 5 = .ok (.aload_n 1, 1) := by decide +kernel
theorem dX2_init_6 : decode cX2_init 6 = .ok (.putfield 7, 3) := by decide +kernel
theorem dX2_init_9 : decode cX2_init 9 = .ok (.aload_n 0, 1) := by decide +kernel
theorem dX2_init_10 : decode cX2_init 10 = .ok (.bipush 110, 2) := by decide +kernel
theorem dX2_init_12 : decode cX2_init 12 = .ok (.putfield 13, 3) := by decide +kernel
theorem dX2_init_15 : decode cX2_init 15 = .ok (.aload_n 0, 1) := by decide +kernel
theorem dX2_init_16 : decode cX2_init 16 = .ok (.sipush 10000, 3) := by decide +kernel
theorem dX2_init_19 : decode cX2_init 19 = .ok (.putfield 17, 3) := by decide +kernel
theorem dX2_init_22 : decode cX2_init 22 = .ok (.return_, 1) := by decide +kernel
theorem dX2_become_0 : decode cX2_become 0 = .ok (.aload_n 0, 1) := by decide +kernel
theorem dX2_become_1 : decode cX2_become 1 = .ok (.aload_n 1, 1) := by decide +kernel
theorem dX2_become_2 : decode cX2_become 2 = .ok (.getfield 20, 3) := by decide +kernel
theorem dX2_become_5 : decode cX2_become 5 = .ok (.putfield 20, 3) := by decide +kernel
theorem dX2_become_8 : decode cX2_become 8 = .ok (.aload_n 0, 1) := by decide +kernel
theorem dX2_become_9 : decode cX2_become 9 = .ok (.aload_n 1, 1) := by decide +kernel
theorem dX2_become_10 : decode cX2_become 10 = .ok (.getfield 23, 3) := by decide +kernel
theorem dX2_become_13 : decode cX2_become 13 = .ok (.putfield 23, 3) := by decide +kernel
theorem dX2_become_16 : decode cX2_become 16 = .ok (.aload_n 0, 1) := by decide +kernel
theorem dX2_become_17 : decode cX2_become 17 = .ok (.aload_n 1, 1) := by decide +kernel
theorem dX2_become_18 : decode cX2_become 18 = .ok (.getfield 13, 3) := by decide +kernel
theorem dX2_become_21 : decode cX2_become 21 = .ok (.putfield 13, 3) := by decide +kernel
theorem dX2_become_24 : decode cX2_become 24 = .ok (.aload_n 0, 1) := by decide +kernel
theorem dX2_become_25 : decode cX2_become 25 = .ok (.aload_n 1, 1) := by decide +kernel
theorem dX2_become_26 : decode cX2_become 26 = .ok (.getfield 26, 3) := by decide +kernel
theorem dX2_become_29 : decode cX2_become 29 = .ok (.putfield 26, 3) := by decide +kernel
theorem dX2_become_32 : decode cX2_become 32 = .ok (.aload_n 0, 1) := by decide +kernel
theorem dX2_become_33 : decode cX2_become 33 = .ok (.aload_n 1, 1) := by decide +kernel
theorem dX2_become_34 : decode cX2_become 34 = .ok (.getfield 30, 3) := by decide +kernel
theorem dX2_become_37 : decode cX2_become 37 = .ok (.putfield 30, 3) := by decide +kernel
theorem dX2_become_40 : decode cX2_become 40 = .ok (.aload_n 0, 1) := by decide +kernel
theorem dX2_become_41 : decode cX2_become 41 = .ok (.aload_n 1, 1) := by decide +kernel
theorem dX2_become_42 : decode cX2_become 42 = .ok (.getfield 17, 3) := by decide +kernel
theorem dX2_become_45 : decode cX2_become 45 = .ok (.putfield 17, 3) := by decide +kernel
theorem dX2_become_48 : decode cX2_become 48 = .ok (.aload_n 0, 1) := by decide +kernel
theorem dX2_become_49 : decode cX2_become 49 = .ok (.aload_n 1, 1) := by decide +kernel
theorem dX2_become_50 : decode cX2_become 50 = .ok (.getfield 33, 3) := by decide +kernel
theorem dX2_become_53 : decode cX2_become 53 = .ok (.putfield 33, 3) := by decide +kernel
theorem dX2_become_56 : decode cX2_become 56 = .ok (.aload_n 0, 1) := by decide +kernel
theorem dX2_become_57 : decode cX2_become 57 = .ok (.aload_n 1, 1) := by decide +kernel
theorem dX2_become_58 : decode cX2_become 58 = .ok (.getfield 36, 3) := by decide +kernel
theorem dX2_become_61 : decode cX2_become 61 = .ok (.putfield 36, 3) := by decide +kernel
theorem dX2_become_64 : decode cX2_become 64 = .ok (.aload_n 0, 1) := by decide +kernel
theorem dX2_become_65 : decode cX2_become 65 = .ok (.aload_n 1, 1) := by decide +kernel
theorem dX2_become_66 : decode cX2_become 66 = .ok (.getfield 40, 3) := by decide +kernel
theorem dX2_become_69 : decode cX2_become 69 = .ok (.putfield 40, 3) := by decide +kernel
theorem dX2_become_72 : decode cX2_become 72 = .ok (.aload_n 0, 1) := by decide +kernel
theorem dX2_become_73 : decode cX2_become 73 = .ok (.aload_n 1, 1) := by decide +kernel
theorem dX2_become_74 : decode cX2_become 74 = .ok (.getfield 43, 3) := by decide +kernel
theorem dX2_become_77 : decode cX2_become 77 = .ok (.putfield 43, 3) := by decide +kernel
theorem dX2_become_80 : decode cX2_become 80 = .ok (.aload_n 0, 1) := by decide +kernel
theorem dX2_become_81 : decode cX2_become 81 = .ok (.aload_n 1, 1) := by decide +kernel
theorem dX2_become_82 : decode cX2_become 82 = .ok (.getfield 46, 3) := by decide +kernel
theorem dX2_become_85 : decode cX2_become 85 = .ok (.putfield 46, 3) := by decide +kernel
theorem dX2_become_88 : decode cX2_become 88 = .ok (.aload_n 0, 1) := by decide +kernel
theorem dX2_become_89 : decode cX2_become 89 = .ok (.aload_n 1, 1) := by decide +kernel
theorem dX2_become_90 : decode cX2_become 90 = .ok (.getfield 49, 3) := by decide +kernel
theorem dX2_become_93 : decode cX2_become 93 = .ok (.putfield 49, 3) := by decide +kernel
theorem dX2_become_96 : decode cX2_become 96 = .ok (.aload_n 0, 1) := by decide +kernel
theorem dX2_become_97 : decode cX2_become 97 = .ok (.aload_n 1, 1) := by decide +kernel
theorem dX2_become_98 : decode cX2_become 98 = .ok (.getfield 52, 3) := by decide +kernel
theorem dX2_become_101 : decode cX2_become 101 = .ok (.putfield 52, 3) := by decide +kernel
theorem dX2_become_104 : decode cX2_become 104 = .ok (.aload_n 0, 1) := by decide +kernel
theorem dX2_become_105 : decode cX2_become 105 = .ok (.aload_n 1, 1) := by decide +kernel
theorem dX2_become_106 : decode cX2_become 106 = .ok (.getfield 55, 3) := by decide +kernel
theorem dX2_become_109 : decode cX2_become 109 = .ok (.putfield 55, 3) := by decide +kernel
theorem dX2_become_112 : decode cX2_become 112 = .ok (.return_, 1) := by decide +kernel
theorem dX2_hasGas_0 : decode cX2_hasGas 0 = .ok (.aload_n 0, 1) := by decide +kernel
theorem dX2_hasGas_1 : decode cX2_hasGas 1 = .ok (.getfield 36, 3) := by decide +kernel
theorem dX2_hasGas_4 : decode cX2_hasGas 4 = .ok (.lconst 0, 1) := by decide +kernel
theorem dX2_hasGas_5 : decode cX2_hasGas 5 = .ok (.lcmp, 1) := by decide +kernel
theorem dX2_hasGas_6 : decode cX2_hasGas 6 = .ok (.ifCond .le 7, 3) := by decide +kernel
theorem dX2_hasGas_9 : decode cX2_hasGas 9 = .ok (.iconst 1, 1) := by decide +kernel
theorem dX2_hasGas_10 : decode cX2_hasGas 10 = .ok (.goto 4, 3) := by decide +kernel
theorem dX2_hasGas_13 : decode cX2_hasGas 13 = .ok (.iconst 0, 1) := by decide +kernel
theorem dX2_hasGas_14 : decode cX2_hasGas 14 = .ok (.ireturn, 1) := by decide +kernel
theorem dX2_hasInflow_0 : decode cX2_hasInflow 0 = .ok (.aload_n 0, 1) := by decide +kernel
theorem dX2_hasInflow_1 : decode cX2_hasInflow 1 = .ok (.invokevirtual 58, 3) := by decide +kernel
theorem dX2_hasInflow_4 : decode cX2_hasInflow 4 = .ok (.ifCond .ne 10, 3) := by decide +kernel
theorem dX2_hasInflow_7 : decode cX2_hasInflow 7 = .ok (.aload_n 0, 1) := by decide +kernel
theorem dX2_hasInflow_8 : decode cX2_hasInflow 8 = .ok (.getfield 46, 3) := by decide +kernel
theorem dX2_hasInflow_11 : decode cX2_hasInflow 11 = .ok (.ifCond .le 7, 3) := by decide +kernel
theorem dX2_hasInflow_14 : decode cX2_hasInflow 14 = .ok (.iconst 1, 1) := by decide +kernel
theorem dX2_hasInflow_15 : decode cX2_hasInflow 15 = .ok (.goto 4, 3) := by decide +kernel
theorem dX2_hasInflow_18 : decode cX2_hasInflow 18 = .ok (.iconst 0, 1) := by decide +kernel
theorem dX2_hasInflow_19 : decode cX2_hasInflow 19 = .ok (.ireturn, 1) := by decide +kernel
theorem dX2_column_0 : decode cX2_column 0 = .ok (.aload_n 0, 1) := by decide +kernel
theorem dX2_column_1 : decode cX2_column 1 = .ok (.getfield 13, 3) := by decide +kernel
theorem dX2_column_4 : decode cX2_column 4 = .ok (.iconst 0, 1) := by decide +kernel
theorem dX2_column_5 : decode cX2_column 5 = .ok (.aload_n 0, 1) := by decide +kernel
theorem dX2_column_6 : decode cX2_column 6 = .ok (.getfield 20, 3) := by decide +kernel
theorem dX2_column_9 : decode cX2_column 9 = .ok (.aload_n 0, 1) := by decide +kernel
theorem dX2_column_10 : decode cX2_column 10 = .ok (.getfield 43, 3) := by decide +kernel
theorem dX2_column_13 : decode cX2_column 13 = .ok (.isub, 1) := by decide +kernel
theorem dX2_column_14 : decode cX2_column 14 = .ok (.aload_n 0, 1) := by decide +kernel
theorem dX2_column_15 : decode cX2_column 15 = .ok (.getfield 46, 3) := by decide +kernel
theorem dX2_column_18 : decode cX2_column 18 = .ok (.isub, 1) := by decide +kernel
theorem dX2_column_19 : decode cX2_column 19 = .ok (.invokestatic 62, 3) := by decide +kernel
theorem dX2_column_22 : decode cX2_column 22 = .ok (.imul, 1) := by decide +kernel
theorem dX2_column_23 : decode cX2_column 23 = .ok (.bipush 100, 2) := by decide +kernel
theorem dX2_column_25 : decode cX2_column 25 = .ok (.aload_n 0, 1) := by decide +kernel
theorem dX2_column_26 : decode cX2_column 26 = .ok (.getfield 46, 3) := by decide +kernel
theorem dX2_column_29 : decode cX2_column 29 = .ok (.imul, 1) := by decide +kernel
theorem dX2_column_30 : decode cX2_column 30 = .ok (.iadd, 1) := by decide +kernel
theorem dX2_column_31 : decode cX2_column 31 = .ok (.bipush 10, 2) := by decide +kernel
theorem dX2_column_33 : decode cX2_column 33 = .ok (.idiv, 1) := by decide +kernel
theorem dX2_column_34 : decode cX2_column 34 = .ok (.ireturn, 1) := by decide +kernel
theorem dX2_bottom_0 : decode cX2_bottom 0 = .ok (.aload_n 0, 1) := by decide +kernel
theorem dX2_bottom_1 : decode cX2_bottom 1 = .ok (.invokevirtual 68, 3) := by decide +kernel
theorem dX2_bottom_4 : decode cX2_bottom 4 = .ok (.aload_n 0, 1) := by decide +kernel
theorem dX2_bottom_5 : decode cX2_bottom 5 = .ok (.getfield 30, 3) := by decide +kernel
theorem dX2_bottom_8 : decode cX2_bottom 8 = .ok (.iadd, 1) := by decide +kernel
theorem dX2_bottom_9 : decode cX2_bottom 9 = .ok (.ireturn, 1) := by decide +kernel
theorem dX2_gasPressure_0 : decode cX2_gasPressure 0 = .ok (.iconst 1, 1) := by decide +kernel
theorem dX2_gasPressure_1 : decode cX2_gasPressure 1 = .ok (.aload_n 0, 1) := by decide +kernel
theorem dX2_gasPressure_2 : decode cX2_gasPressure 2 = .ok (.getfield 13, 3) := by decide +kernel
theorem dX2_gasPressure_5 : decode cX2_gasPressure 5 = .ok (.aload_n 0, 1) := by decide +kernel
theorem dX2_gasPressure_6 : decode cX2_gasPressure 6 = .ok (.getfield 40, 3) := by decide +kernel
theorem dX2_gasPressure_9 : decode cX2_gasPressure 9 = .ok (.imul, 1) := by decide +kernel
theorem dX2_gasPressure_10 : decode cX2_gasPressure 10 = .ok (.bipush 10, 2) := by decide +kernel
theorem dX2_gasPressure_12 : decode cX2_gasPressure 12 = .ok (.idiv, 1) := by decide +kernel
theorem dX2_gasPressure_13 : decode cX2_gasPressure 13 = .ok (.aload_n 0, 1) := by decide +kernel
theorem dX2_gasPressure_14 : decode cX2_gasPressure 14 = .ok (.getfield 30, 3) := by decide +kernel
theorem dX2_gasPressure_17 : decode cX2_gasPressure 17 = .ok (.iadd, 1) := by decide +kernel
theorem dX2_gasPressure_18 : decode cX2_gasPressure 18 = .ok (.invokestatic 62, 3) := by decide +kernel
theorem dX2_gasPressure_21 : decode cX2_gasPressure 21 = .ok (.ireturn, 1) := by decide +kernel
theorem dX2_foot_0 : decode cX2_foot 0 = .ok (.aload_n 0, 1) := by decide +kernel
theorem dX2_foot_1 : decode cX2_foot 1 = .ok (.invokevirtual 58, 3) := by decide +kernel
theorem dX2_foot_4 : decode cX2_foot 4 = .ok (.ifCond .eq 18, 3) := by decide +kernel
theorem dX2_foot_7 : decode cX2_foot 7 = .ok (.aload_n 0, 1) := by decide +kernel
theorem dX2_foot_8 : decode cX2_foot 8 = .ok (.getfield 40, 3) := by decide +kernel
theorem dX2_foot_11 : decode cX2_foot 11 = .ok (.aload_n 0, 1) := by decide +kernel
theorem dX2_foot_12 : decode cX2_foot 12 = .ok (.getfield 23, 3) := by decide +kernel
theorem dX2_foot_15 : decode cX2_foot 15 = .ok (.if_icmp .ge 7, 3) := by decide +kernel
theorem dX2_foot_18 : decode cX2_foot 18 = .ok (.iconst 1, 1) := by decide +kernel
theorem dX2_foot_19 : decode cX2_foot 19 = .ok (.goto 4, 3) := by decide +kernel
theorem dX2_foot_22 : decode cX2_foot 22 = .ok (.iconst 0, 1) := by decide +kernel
theorem dX2_foot_23 : decode cX2_foot 23 = .ok (.istore_n 1, 1) := by decide +kernel
theorem dX2_foot_24 : decode cX2_foot 24 = .ok (.iload_n 1, 1) := by decide +kernel
theorem dX2_foot_25 : decode cX2_foot 25 = .ok (.ifCond .eq 19, 3) := by decide +kernel
theorem dX2_foot_28 : decode cX2_foot 28 = .ok (.iconst 0, 1) := by decide +kernel
theorem dX2_foot_29 : decode cX2_foot 29 = .ok (.aload_n 0, 1) := by decide +kernel
theorem dX2_foot_30 : decode cX2_foot 30 = .ok (.getfield 23, 3) := by decide +kernel
theorem dX2_foot_33 : decode cX2_foot 33 = .ok (.aload_n 0, 1) := by decide +kernel
theorem dX2_foot_34 : decode cX2_foot 34 = .ok (.getfield 43, 3) := by decide +kernel
theorem dX2_foot_37 : decode cX2_foot 37 = .ok (.isub, 1) := by decide +kernel
theorem dX2_foot_38 : decode cX2_foot 38 = .ok (.invokestatic 62, 3) := by decide +kernel
theorem dX2_foot_41 : decode cX2_foot 41 = .ok (.goto 7, 3) := by decide +kernel
theorem dX2_foot_44 : decode cX2_foot 44 = .ok (.aload_n 0, 1) := by decide +kernel
theorem dX2_foot_45 : decode cX2_foot 45 = .ok (.getfield 23, 3) := by decide +kernel
theorem dX2_foot_48 : decode cX2_foot 48 = .ok (.istore_n 2, 1) := by decide +kernel
theorem dX2_foot_49 : decode cX2_foot 49 = .ok (.aload_n 0, 1) := by decide +kernel
theorem dX2_foot_50 : decode cX2_foot 50 = .ok (.getfield 30, 3) := by decide +kernel
theorem dX2_foot_53 : decode cX2_foot 53 = .ok (.aload_n 0, 1) := by decide +kernel
theorem dX2_foot_54 : decode cX2_foot 54 = .ok (.getfield 13, 3) := by decide +kernel
theorem dX2_foot_57 : decode cX2_foot 57 = .ok (.iload_n 2, 1) := by decide +kernel
theorem dX2_foot_58 : decode cX2_foot 58 = .ok (.imul, 1) := by decide +kernel
theorem dX2_foot_59 : decode cX2_foot 59 = .ok (.bipush 10, 2) := by decide +kernel
theorem dX2_foot_61 : decode cX2_foot 61 = .ok (.idiv, 1) := by decide +kernel
theorem dX2_foot_62 : decode cX2_foot 62 = .ok (.iadd, 1) := by decide +kernel
theorem dX2_foot_63 : decode cX2_foot 63 = .ok (.ireturn, 1) := by decide +kernel
theorem dX2_letMinutesGo_0 : decode cX2_letMinutesGo 0 = .ok (.iconst 0, 1) := by decide +kernel
theorem dX2_letMinutesGo_1 : decode cX2_letMinutesGo 1 = .ok (.istore_n 2, 1) := by decide +kernel
theorem dX2_letMinutesGo_2 : decode cX2_letMinutesGo 2 = .ok (.iload_n 2, 1) := by decide +kernel
theorem dX2_letMinutesGo_3 : decode cX2_letMinutesGo 3 = .ok (.iload_n 1, 1) := by decide +kernel
theorem dX2_letMinutesGo_4 : decode cX2_letMinutesGo 4 = .ok (.if_icmp .ge 15, 3) := by decide +kernel
theorem dX2_letMinutesGo_7 : decode cX2_letMinutesGo 7 = .ok (.aload_n 0, 1) := by decide +kernel
theorem dX2_letMinutesGo_8 : decode cX2_letMinutesGo 8 = .ok (.iconst 0, 1) := by decide +kernel
theorem dX2_letMinutesGo_9 : decode cX2_letMinutesGo 9 = .ok (.invokevirtual 72, 3) := by decide +kernel
theorem dX2_letMinutesGo_12 : decode cX2_letMinutesGo 12 = .ok (.pop, 1) := by decide +kernel
theorem dX2_letMinutesGo_13 : decode cX2_letMinutesGo 13 = .ok (.iinc 2 1, 3) := by decide +kernel
theorem dX2_letMinutesGo_16 : decode cX2_letMinutesGo 16 = .ok (.goto (-14), 3) := by decide +kernel
theorem dX2_letMinutesGo_19 : decode cX2_letMinutesGo 19 = .ok (.aload_n 0, 1) := by decide +kernel
theorem dX2_letMinutesGo_20 : decode cX2_letMinutesGo 20 = .ok (.getfield 43, 3) := by decide +kernel
theorem dX2_letMinutesGo_23 : decode cX2_letMinutesGo 23 = .ok (.aload_n 0, 1) := by decide +kernel
theorem dX2_letMinutesGo_24 : decode cX2_letMinutesGo 24 = .ok (.getfield 46, 3) := by decide +kernel
theorem dX2_letMinutesGo_27 : decode cX2_letMinutesGo 27 = .ok (.iadd, 1) := by decide +kernel
theorem dX2_letMinutesGo_28 : decode cX2_letMinutesGo 28 = .ok (.ireturn, 1) := by decide +kernel
theorem dX2_letMinuteGo_0 : decode cX2_letMinuteGo 0 = .ok (.aload_n 0, 1) := by decide +kernel
theorem dX2_letMinuteGo_1 : decode cX2_letMinuteGo 1 = .ok (.dup, 1) := by decide +kernel
theorem dX2_letMinuteGo_2 : decode cX2_letMinuteGo 2 = .ok (.getfield 55, 3) := by decide +kernel
theorem dX2_letMinuteGo_5 : decode cX2_letMinuteGo 5 = .ok (.iconst 1, 1) := by decide +kernel
theorem dX2_letMinuteGo_6 : decode cX2_letMinuteGo 6 = .ok (.iadd, 1) := by decide +kernel
theorem dX2_letMinuteGo_7 : decode cX2_letMinuteGo 7 = .ok (.putfield 55, 3) := by decide +kernel
theorem dX2_letMinuteGo_10 : decode cX2_letMinuteGo 10 = .ok (.aload_n 0, 1) := by decide +kernel
theorem dX2_letMinuteGo_11 : decode cX2_letMinuteGo 11 = .ok (.iload_n 1, 1) := by decide +kernel
theorem dX2_letMinuteGo_12 : decode cX2_letMinuteGo 12 = .ok (.invokevirtual 76, 3) := by decide +kernel
theorem dX2_letMinuteGo_15 : decode cX2_letMinuteGo 15 = .ok (.aload_n 0, 1) := by decide +kernel
theorem dX2_letMinuteGo_16 : decode cX2_letMinuteGo 16 = .ok (.iload_n 1, 1) := by decide +kernel
theorem dX2_letMinuteGo_17 : decode cX2_letMinuteGo 17 = .ok (.invokevirtual 80, 3) := by decide +kernel
theorem dX2_letMinuteGo_20 : decode cX2_letMinuteGo 20 = .ok (.aload_n 0, 1) := by decide +kernel
theorem dX2_letMinuteGo_21 : decode cX2_letMinuteGo 21 = .ok (.invokevirtual 83, 3) := by decide +kernel
theorem dX2_letMinuteGo_24 : decode cX2_letMinuteGo 24 = .ok (.aload_n 0, 1) := by decide +kernel
theorem dX2_letMinuteGo_25 : decode cX2_letMinuteGo 25 = .ok (.invokevirtual 86, 3) := by decide +kernel
theorem dX2_letMinuteGo_28 : decode cX2_letMinuteGo 28 = .ok (.aload_n 0, 1) := by decide +kernel
theorem dX2_letMinuteGo_29 : decode cX2_letMinuteGo 29 = .ok (.invokevirtual 89, 3) := by decide +kernel
theorem dX2_letMinuteGo_32 : decode cX2_letMinuteGo 32 = .ok (.istore_n 2, 1) := by decide +kernel
theorem dX2_letMinuteGo_33 : decode cX2_letMinuteGo 33 = .ok (.aload_n 0, 1) := by decide +kernel
theorem dX2_letMinuteGo_34 : decode cX2_letMinuteGo 34 = .ok (.invokevirtual 92, 3) := by decide +kernel
theorem dX2_letMinuteGo_37 : decode cX2_letMinuteGo 37 = .ok (.iload_n 2, 1) := by decide +kernel
theorem dX2_letMinuteGo_38 : decode cX2_letMinuteGo 38 = .ok (.ireturn, 1) := by decide +kernel
theorem dX2_raiseGas_0 : decode cX2_raiseGas 0 = .ok (.aload_n 0, 1) := by decide +kernel
theorem dX2_raiseGas_1 : decode cX2_raiseGas 1 = .ok (.invokevirtual 58, 3) := by decide +kernel
theorem dX2_raiseGas_4 : decode cX2_raiseGas 4 = .ok (.ifCond .eq 40, 3) := by decide +kernel
theorem dX2_raiseGas_7 : decode cX2_raiseGas 7 = .ok (.iload_n 1, 1) := by decide +kernel
theorem dX2_raiseGas_8 : decode cX2_raiseGas 8 = .ok (.ifCond .eq 8, 3) := by decide +kernel
theorem dX2_raiseGas_11 : decode cX2_raiseGas 11 = .ok (.bipush 20, 2) := by decide +kernel
theorem dX2_raiseGas_13 : decode cX2_raiseGas 13 = .ok (.goto 16, 3) := by decide +kernel
theorem dX2_raiseGas_16 : decode cX2_raiseGas 16 = .ok (.aload_n 0, 1) := by decide +kernel
theorem dX2_raiseGas_17 : decode cX2_raiseGas 17 = .ok (.getfield 26, 3) := by decide +kernel
theorem dX2_raiseGas_20 : decode cX2_raiseGas 20 = .ok (.ifCond .eq 7, 3) := by decide +kernel
theorem dX2_raiseGas_23 : decode cX2_raiseGas 23 = .ok (.iconst 2, 1) := by decide +kernel
theorem dX2_raiseGas_24 : decode cX2_raiseGas 24 = .ok (.goto 5, 3) := by decide +kernel
theorem dX2_raiseGas_27 : decode cX2_raiseGas 27 = .ok (.bipush 8, 2) := by decide +kernel
theorem dX2_raiseGas_29 : decode cX2_raiseGas 29 = .ok (.istore_n 2, 1) := by decide +kernel
theorem dX2_raiseGas_30 : decode cX2_raiseGas 30 = .ok (.aload_n 0, 1) := by decide +kernel
theorem dX2_raiseGas_31 : decode cX2_raiseGas 31 = .ok (.iconst 0, 1) := by decide +kernel
theorem dX2_raiseGas_32 : decode cX2_raiseGas 32 = .ok (.aload_n 0, 1) := by decide +kernel
theorem dX2_raiseGas_33 : decode cX2_raiseGas 33 = .ok (.getfield 40, 3) := by decide +kernel
theorem dX2_raiseGas_36 : decode cX2_raiseGas 36 = .ok (.iload_n 2, 1) := by decide +kernel
theorem dX2_raiseGas_37 : decode cX2_raiseGas 37 = .ok (.isub, 1) := by decide +kernel
theorem dX2_raiseGas_38 : decode cX2_raiseGas 38 = .ok (.invokestatic 62, 3) := by decide +kernel
theorem dX2_raiseGas_41 : decode cX2_raiseGas 41 = .ok (.putfield 40, 3) := by decide +kernel
theorem dX2_raiseGas_44 : decode cX2_raiseGas 44 = .ok (.return_, 1) := by decide +kernel
theorem dX2_ventGas_0 : decode cX2_ventGas 0 = .ok (.aload_n 0, 1) := by decide +kernel
theorem dX2_ventGas_1 : decode cX2_ventGas 1 = .ok (.invokevirtual 58, 3) := by decide +kernel
theorem dX2_ventGas_4 : decode cX2_ventGas 4 = .ok (.ifCond .eq 45, 3) := by decide +kernel
theorem dX2_ventGas_7 : decode cX2_ventGas 7 = .ok (.aload_n 0, 1) := by decide +kernel
theorem dX2_ventGas_8 : decode cX2_ventGas 8 = .ok (.getfield 40, 3) := by decide +kernel
theorem dX2_ventGas_11 : decode cX2_ventGas 11 = .ok (.ifCond .ne 38, 3) := by decide +kernel
theorem dX2_ventGas_14 : decode cX2_ventGas 14 = .ok (.iload_n 1, 1) := by decide +kernel
theorem dX2_ventGas_15 : decode cX2_ventGas 15 = .ok (.ifCond .ne 10, 3) := by decide +kernel
theorem dX2_ventGas_18 : decode cX2_ventGas 18 = .ok (.aload_n 0, 1) := by decide +kernel
theorem dX2_ventGas_19 : decode cX2_ventGas 19 = .ok (.getfield 26, 3) := by decide +kernel
theorem dX2_ventGas_22 : decode cX2_ventGas 22 = .ok (.ifCond .ne 27, 3) := by decide +kernel
theorem dX2_ventGas_25 : decode cX2_ventGas 25 = .ok (.aload_n 0, 1) := by decide +kernel
theorem dX2_ventGas_26 : decode cX2_ventGas 26 = .ok (.dup, 1) := by decide +kernel
theorem dX2_ventGas_27 : decode cX2_ventGas 27 = .ok (.getfield 49, 3) := by decide +kernel
theorem dX2_ventGas_30 : decode cX2_ventGas 30 = .ok (.aload_n 0, 1) := by decide +kernel
theorem dX2_ventGas_31 : decode cX2_ventGas 31 = .ok (.getfield 43, 3) := by decide +kernel
theorem dX2_ventGas_34 : decode cX2_ventGas 34 = .ok (.i2l, 1) := by decide +kernel
theorem dX2_ventGas_35 : decode cX2_ventGas 35 = .ok (.ladd, 1) := by decide +kernel
theorem dX2_ventGas_36 : decode cX2_ventGas 36 = .ok (.putfield 49, 3) := by decide +kernel
theorem dX2_ventGas_39 : decode cX2_ventGas 39 = .ok (.aload_n 0, 1) := by decide +kernel
theorem dX2_ventGas_40 : decode cX2_ventGas 40 = .ok (.lconst 0, 1) := by decide +kernel
theorem dX2_ventGas_41 : decode cX2_ventGas 41 = .ok (.putfield 36, 3) := by decide +kernel
theorem dX2_ventGas_44 : decode cX2_ventGas 44 = .ok (.aload_n 0, 1) := by decide +kernel
theorem dX2_ventGas_45 : decode cX2_ventGas 45 = .ok (.iconst 0, 1) := by decide +kernel
theorem dX2_ventGas_46 : decode cX2_ventGas 46 = .ok (.putfield 43, 3) := by decide +kernel
theorem dX2_ventGas_49 : decode cX2_ventGas 49 = .ok (.return_, 1) := by decide +kernel
theorem dX2_measureGas_0 : decode cX2_measureGas 0 = .ok (.aload_n 0, 1) := by decide +kernel
theorem dX2_measureGas_1 : decode cX2_measureGas 1 = .ok (.invokevirtual 95, 3) := by decide +kernel
theorem dX2_measureGas_4 : decode cX2_measureGas 4 = .ok (.istore_n 1, 1) := by decide +kernel
theorem dX2_measureGas_5 : decode cX2_measureGas 5 = .ok (.aload_n 0, 1) := by decide +kernel
theorem dX2_measureGas_6 : decode cX2_measureGas 6 = .ok (.invokevirtual 58, 3) := by decide +kernel
theorem dX2_measureGas_9 : decode cX2_measureGas 9 = .ok (.ifCond .eq 32, 3) := by decide +kernel
theorem dX2_measureGas_12 : decode cX2_measureGas 12 = .ok (.iload_n 1, 1) := by decide +kernel
theorem dX2_measureGas_13 : decode cX2_measureGas 13 = .ok (.ifCond .le 28, 3) := by decide +kernel
theorem dX2_measureGas_16 : decode cX2_measureGas 16 = .ok (.aload_n 0, 1) := by decide +kernel
theorem dX2_measureGas_17 : decode cX2_measureGas 17 = .ok (.aload_n 0, 1) := by decide +kernel
theorem dX2_measureGas_18 : decode cX2_measureGas 18 = .ok (.getfield 36, 3) := by decide +kernel
theorem dX2_measureGas_21 : decode cX2_measureGas 21 = .ok (.iload_n 1, 1) := by decide +kernel
theorem dX2_measureGas_22 : decode cX2_measureGas 22 = .ok (.i2l, 1) := by decide +kernel
theorem dX2_measureGas_23 : decode cX2_measureGas 23 = .ok (.ldiv, 1) := by decide +kernel
theorem dX2_measureGas_24 : decode cX2_measureGas 24 = .ok (.aload_n 0, 1) := by decide +kernel
theorem dX2_measureGas_25 : decode cX2_measureGas 25 = .ok (.getfield 20, 3) := by decide +kernel
theorem dX2_measureGas_28 : decode cX2_measureGas 28 = .ok (.aload_n 0, 1) := by decide +kernel
theorem dX2_measureGas_29 : decode cX2_measureGas 29 = .ok (.getfield 46, 3) := by decide +kernel
theorem dX2_measureGas_32 : decode cX2_measureGas 32 = .ok (.isub, 1) := by decide +kernel
theorem dX2_measureGas_33 : decode cX2_measureGas 33 = .ok (.i2l, 1) := by decide +kernel
theorem dX2_measureGas_34 : decode cX2_measureGas 34 = .ok (.invokestatic 98, 3) := by decide +kernel
theorem dX2_measureGas_37 : decode cX2_measureGas 37 = .ok (.l2i, 1) := by decide +kernel
theorem dX2_measureGas_38 : decode cX2_measureGas 38 = .ok (.putfield 43, 3) := by decide +kernel
theorem dX2_measureGas_41 : decode cX2_measureGas 41 = .ok (.return_, 1) := by decide +kernel
theorem dX2_setChoke_0 : decode cX2_setChoke 0 = .ok (.aload_n 0, 1) := by decide +kernel
theorem dX2_setChoke_1 : decode cX2_setChoke 1 = .ok (.getfield 26, 3) := by decide +kernel
theorem dX2_setChoke_4 : decode cX2_setChoke 4 = .ok (.ifCond .ne 4, 3) := by decide +kernel
theorem dX2_setChoke_7 : decode cX2_setChoke 7 = .ok (.return_, 1) := by decide +kernel
theorem dX2_setChoke_8 : decode cX2_setChoke 8 = .ok (.aload_n 0, 1) := by decide +kernel
theorem dX2_setChoke_9 : decode cX2_setChoke 9 = .ok (.iconst 0, 1) := by decide +kernel
theorem dX2_setChoke_10 : decode cX2_setChoke 10 = .ok (.aload_n 0, 1) := by decide +kernel
theorem dX2_setChoke_11 : decode cX2_setChoke 11 = .ok (.getfield 7, 3) := by decide +kernel
theorem dX2_setChoke_14 : decode cX2_setChoke 14 = .ok (.aload_n 0, 1) := by decide +kernel
theorem dX2_setChoke_15 : decode cX2_setChoke 15 = .ok (.getfield 20, 3) := by decide +kernel
theorem dX2_setChoke_18 : decode cX2_setChoke 18 = .ok (.invokevirtual 102, 3) := by decide +kernel
theorem dX2_setChoke_21 : decode cX2_setChoke 21 = .ok (.aload_n 0, 1) := by decide +kernel
theorem dX2_setChoke_22 : decode cX2_setChoke 22 = .ok (.invokevirtual 68, 3) := by decide +kernel
theorem dX2_setChoke_25 : decode cX2_setChoke 25 = .ok (.isub, 1) := by decide +kernel
theorem dX2_setChoke_26 : decode cX2_setChoke 26 = .ok (.invokestatic 62, 3) := by decide +kernel
theorem dX2_setChoke_29 : decode cX2_setChoke 29 = .ok (.putfield 30, 3) := by decide +kernel
theorem dX2_setChoke_32 : decode cX2_setChoke 32 = .ok (.aload_n 0, 1) := by decide +kernel
theorem dX2_setChoke_33 : decode cX2_setChoke 33 = .ok (.getfield 30, 3) := by decide +kernel
theorem dX2_setChoke_36 : decode cX2_setChoke 36 = .ok (.aload_n 0, 1) := by decide +kernel
theorem dX2_setChoke_37 : decode cX2_setChoke 37 = .ok (.getfield 17, 3) := by decide +kernel
theorem dX2_setChoke_40 : decode cX2_setChoke 40 = .ok (.if_icmp .le 18, 3) := by decide +kernel
theorem dX2_setChoke_43 : decode cX2_setChoke 43 = .ok (.aload_n 0, 1) := by decide +kernel
theorem dX2_setChoke_44 : decode cX2_setChoke 44 = .ok (.iconst 0, 1) := by decide +kernel
theorem dX2_setChoke_45 : decode cX2_setChoke 45 = .ok (.putfield 26, 3) := by decide +kernel
theorem dX2_setChoke_48 : decode cX2_setChoke 48 = .ok (.aload_n 0, 1) := by decide +kernel
theorem dX2_setChoke_49 : decode cX2_setChoke 49 = .ok (.iconst 0, 1) := by decide +kernel
theorem dX2_setChoke_50 : decode cX2_setChoke 50 = .ok (.putfield 30, 3) := by decide +kernel
theorem dX2_setChoke_53 : decode cX2_setChoke 53 = .ok (.aload_n 0, 1) := by decide +kernel
theorem dX2_setChoke_54 : decode cX2_setChoke 54 = .ok (.iconst 1, 1) := by decide +kernel
theorem dX2_setChoke_55 : decode cX2_setChoke 55 = .ok (.putfield 33, 3) := by decide +kernel
theorem dX2_setChoke_58 : decode cX2_setChoke 58 = .ok (.return_, 1) := by decide +kernel
theorem dX2_flowIn_0 : decode cX2_flowIn 0 = .ok (.aload_n 0, 1) := by decide +kernel
theorem dX2_flowIn_1 : decode cX2_flowIn 1 = .ok (.getfield 7, 3) := by decide +kernel
theorem dX2_flowIn_4 : decode cX2_flowIn 4 = .ok (.aload_n 0, 1) := by decide +kernel
theorem dX2_flowIn_5 : decode cX2_flowIn 5 = .ok (.getfield 20, 3) := by decide +kernel
theorem dX2_flowIn_8 : decode cX2_flowIn 8 = .ok (.invokevirtual 102, 3) := by decide +kernel
theorem dX2_flowIn_11 : decode cX2_flowIn 11 = .ok (.aload_n 0, 1) := by decide +kernel
theorem dX2_flowIn_12 : decode cX2_flowIn 12 = .ok (.invokevirtual 108, 3) := by decide +kernel
theorem dX2_flowIn_15 : decode cX2_flowIn 15 = .ok (.isub, 1) := by decide +kernel
theorem dX2_flowIn_16 : decode cX2_flowIn 16 = .ok (.istore_n 1, 1) := by decide +kernel
theorem dX2_flowIn_17 : decode cX2_flowIn 17 = .ok (.aload_n 0, 1) := by decide +kernel
theorem dX2_flowIn_18 : decode cX2_flowIn 18 = .ok (.getfield 26, 3) := by decide +kernel
theorem dX2_flowIn_21 : decode cX2_flowIn 21 = .ok (.ifCond .ne 7, 3) := by decide +kernel
theorem dX2_flowIn_24 : decode cX2_flowIn 24 = .ok (.iload_n 1, 1) := by decide +kernel
theorem dX2_flowIn_25 : decode cX2_flowIn 25 = .ok (.ifCond .gt 5, 3) := by decide +kernel
theorem dX2_flowIn_28 : decode cX2_flowIn 28 = .ok (.iconst 0, 1) := by decide +kernel
theorem dX2_flowIn_29 : decode cX2_flowIn 29 = .ok (.ireturn, 1) := by decide +kernel
theorem dX2_flowIn_30 : decode cX2_flowIn 30 = .ok (.bipush 40, 2) := by decide +kernel
theorem dX2_flowIn_32 : decode cX2_flowIn 32 = .ok (.iconst 1, 1) := by decide +kernel
theorem dX2_flowIn_33 : decode cX2_flowIn 33 = .ok (.iload_n 1, 1) := by decide +kernel
theorem dX2_flowIn_34 : decode cX2_flowIn 34 = .ok (.aload_n 0, 1) := by decide +kernel
theorem dX2_flowIn_35 : decode cX2_flowIn 35 = .ok (.getfield 7, 3) := by decide +kernel
theorem dX2_flowIn_38 : decode cX2_flowIn 38 = .ok (.aload_n 0, 1) := by decide +kernel
theorem dX2_flowIn_39 : decode cX2_flowIn 39 = .ok (.getfield 20, 3) := by decide +kernel
theorem dX2_flowIn_42 : decode cX2_flowIn 42 = .ok (.invokevirtual 111, 3) := by decide +kernel
theorem dX2_flowIn_45 : decode cX2_flowIn 45 = .ok (.imul, 1) := by decide +kernel
theorem dX2_flowIn_46 : decode cX2_flowIn 46 = .ok (.sipush 10000, 3) := by decide +kernel
theorem dX2_flowIn_49 : decode cX2_flowIn 49 = .ok (.idiv, 1) := by decide +kernel
theorem dX2_flowIn_50 : decode cX2_flowIn 50 = .ok (.iadd, 1) := by decide +kernel
theorem dX2_flowIn_51 : decode cX2_flowIn 51 = .ok (.invokestatic 114, 3) := by decide +kernel
theorem dX2_flowIn_54 : decode cX2_flowIn 54 = .ok (.istore_n 2, 1) := by decide +kernel
theorem dX2_flowIn_55 : decode cX2_flowIn 55 = .ok (.aload_n 0, 1) := by decide +kernel
theorem dX2_flowIn_56 : decode cX2_flowIn 56 = .ok (.getfield 7, 3) := by decide +kernel
theorem dX2_flowIn_59 : decode cX2_flowIn 59 = .ok (.aload_n 0, 1) := by decide +kernel
theorem dX2_flowIn_60 : decode cX2_flowIn 60 = .ok (.getfield 20, 3) := by decide +kernel
theorem dX2_flowIn_63 : decode cX2_flowIn 63 = .ok (.invokevirtual 116, 3) := by decide +kernel
theorem dX2_flowIn_66 : decode cX2_flowIn 66 = .ok (.ifCond .ne 32, 3) := by decide +kernel
theorem dX2_flowIn_69 : decode cX2_flowIn 69 = .ok (.aload_n 0, 1) := by decide +kernel
theorem dX2_flowIn_70 : decode cX2_flowIn 70 = .ok (.dup, 1) := by decide +kernel
theorem dX2_flowIn_71 : decode cX2_flowIn 71 = .ok (.getfield 46, 3) := by decide +kernel
theorem dX2_flowIn_74 : decode cX2_flowIn 74 = .ok (.iload_n 2, 1) := by decide +kernel
theorem dX2_flowIn_75 : decode cX2_flowIn 75 = .ok (.aload_n 0, 1) := by decide +kernel
theorem dX2_flowIn_76 : decode cX2_flowIn 76 = .ok (.getfield 20, 3) := by decide +kernel
theorem dX2_flowIn_79 : decode cX2_flowIn 79 = .ok (.aload_n 0, 1) := by decide +kernel
theorem dX2_flowIn_80 : decode cX2_flowIn 80 = .ok (.getfield 43, 3) := by decide +kernel
theorem dX2_flowIn_83 : decode cX2_flowIn 83 = .ok (.isub, 1) := by decide +kernel
theorem dX2_flowIn_84 : decode cX2_flowIn 84 = .ok (.aload_n 0, 1) := by decide +kernel
theorem dX2_flowIn_85 : decode cX2_flowIn 85 = .ok (.getfield 46, 3) := by decide +kernel
theorem dX2_flowIn_88 : decode cX2_flowIn 88 = .ok (.isub, 1) := by decide +kernel
theorem dX2_flowIn_89 : decode cX2_flowIn 89 = .ok (.invokestatic 114, 3) := by decide +kernel
theorem dX2_flowIn_92 : decode cX2_flowIn 92 = .ok (.iadd, 1) := by decide +kernel
theorem dX2_flowIn_93 : decode cX2_flowIn 93 = .ok (.putfield 46, 3) := by decide +kernel
theorem dX2_flowIn_96 : decode cX2_flowIn 96 = .ok (.iconst 1, 1) := by decide +kernel
theorem dX2_flowIn_97 : decode cX2_flowIn 97 = .ok (.ireturn, 1) := by decide +kernel
theorem dX2_flowIn_98 : decode cX2_flowIn 98 = .ok (.aload_n 0, 1) := by decide +kernel
theorem dX2_flowIn_99 : decode cX2_flowIn 99 = .ok (.invokevirtual 58, 3) := by decide +kernel
theorem dX2_flowIn_102 : decode cX2_flowIn 102 = .ok (.ifCond .ne 11, 3) := by decide +kernel
theorem dX2_flowIn_105 : decode cX2_flowIn 105 = .ok (.aload_n 0, 1) := by decide +kernel
theorem dX2_flowIn_106 : decode cX2_flowIn 106 = .ok (.aload_n 0, 1) := by decide +kernel
theorem dX2_flowIn_107 : decode cX2_flowIn 107 = .ok (.getfield 20, 3) := by decide +kernel
theorem dX2_flowIn_110 : decode cX2_flowIn 110 = .ok (.putfield 40, 3) := by decide +kernel
theorem dX2_flowIn_113 : decode cX2_flowIn 113 = .ok (.aload_n 0, 1) := by decide +kernel
theorem dX2_flowIn_114 : decode cX2_flowIn 114 = .ok (.dup, 1) := by decide +kernel
theorem dX2_flowIn_115 : decode cX2_flowIn 115 = .ok (.getfield 36, 3) := by decide +kernel
theorem dX2_flowIn_118 : decode cX2_flowIn 118 = .ok (.iload_n 2, 1) := by decide +kernel
theorem dX2_flowIn_119 : decode cX2_flowIn 119 = .ok (.i2l, 1) := by decide +kernel
theorem dX2_flowIn_120 : decode cX2_flowIn 120 = .ok (.iconst 1, 1) := by decide +kernel
theorem dX2_flowIn_121 : decode cX2_flowIn 121 = .ok (.aload_n 0, 1) := by decide +kernel
theorem dX2_flowIn_122 : decode cX2_flowIn 122 = .ok (.invokevirtual 108, 3) := by decide +kernel
theorem dX2_flowIn_125 : decode cX2_flowIn 125 = .ok (.invokestatic 62, 3) := by decide +kernel
theorem dX2_flowIn_128 : decode cX2_flowIn 128 = .ok (.i2l, 1) := by decide +kernel
theorem dX2_flowIn_129 : decode cX2_flowIn 129 = .ok (.lmul, 1) := by decide +kernel
theorem dX2_flowIn_130 : decode cX2_flowIn 130 = .ok (.ladd, 1) := by decide +kernel
theorem dX2_flowIn_131 : decode cX2_flowIn 131 = .ok (.putfield 36, 3) := by decide +kernel
theorem dX2_flowIn_134 : decode cX2_flowIn 134 = .ok (.aload_n 0, 1) := by decide +kernel
theorem dX2_flowIn_135 : decode cX2_flowIn 135 = .ok (.invokevirtual 83, 3) := by decide +kernel
theorem dX2_flowIn_138 : decode cX2_flowIn 138 = .ok (.iconst 1, 1) := by decide +kernel
theorem dX2_flowIn_139 : decode cX2_flowIn 139 = .ok (.ireturn, 1) := by decide +kernel
theorem dX2_loseAtShoe_0 : decode cX2_loseAtShoe 0 = .ok (.aload_n 0, 1) := by decide +kernel
theorem dX2_loseAtShoe_1 : decode cX2_loseAtShoe 1 = .ok (.getfield 23, 3) := by decide +kernel
theorem dX2_loseAtShoe_4 : decode cX2_loseAtShoe 4 = .ok (.ifCond .le 31, 3) := by decide +kernel
theorem dX2_loseAtShoe_7 : decode cX2_loseAtShoe 7 = .ok (.aload_n 0, 1) := by decide +kernel
theorem dX2_loseAtShoe_8 : decode cX2_loseAtShoe 8 = .ok (.invokevirtual 120, 3) := by decide +kernel
theorem dX2_loseAtShoe_11 : decode cX2_loseAtShoe 11 = .ok (.aload_n 0, 1) := by decide +kernel
theorem dX2_loseAtShoe_12 : decode cX2_loseAtShoe 12 = .ok (.getfield 7, 3) := by decide +kernel
theorem dX2_loseAtShoe_15 : decode cX2_loseAtShoe 15 = .ok (.aload_n 0, 1) := by decide +kernel
theorem dX2_loseAtShoe_16 : decode cX2_loseAtShoe 16 = .ok (.getfield 23, 3) := by decide +kernel
theorem dX2_loseAtShoe_19 : decode cX2_loseAtShoe 19 = .ok (.invokevirtual 123, 3) := by decide +kernel
theorem dX2_loseAtShoe_22 : decode cX2_loseAtShoe 22 = .ok (.if_icmp .le 13, 3) := by decide +kernel
theorem dX2_loseAtShoe_25 : decode cX2_loseAtShoe 25 = .ok (.aload_n 0, 1) := by decide +kernel
theorem dX2_loseAtShoe_26 : decode cX2_loseAtShoe 26 = .ok (.dup, 1) := by decide +kernel
theorem dX2_loseAtShoe_27 : decode cX2_loseAtShoe 27 = .ok (.getfield 52, 3) := by decide +kernel
theorem dX2_loseAtShoe_30 : decode cX2_loseAtShoe 30 = .ok (.iconst 5, 1) := by decide +kernel
theorem dX2_loseAtShoe_31 : decode cX2_loseAtShoe 31 = .ok (.iadd, 1) := by decide +kernel
theorem dX2_loseAtShoe_32 : decode cX2_loseAtShoe 32 = .ok (.putfield 52, 3) := by decide +kernel
theorem dX2_loseAtShoe_35 : decode cX2_loseAtShoe 35 = .ok (.return_, 1) := by decide +kernel
theorem dX3_init_0 : decode cX3_init 0 = .ok (.aload_n 0, 1) := by decide +kernel
theorem dX3_init_1 : decode cX3_init 1 = .ok (.invokespecial 1, 3) := by decide +kernel
theorem dX3_init_4 : decode cX3_init 4 = .ok (.aload_n 0, 1) := by decide +kernel
theorem dX3_init_5 : decode cX3_init 5 = .ok (.new 7, 3) := by decide +kernel
theorem dX3_init_8 : decode cX3_init 8 = .ok (.dup, 1) := by decide +kernel
theorem dX3_init_9 : decode cX3_init 9 = .ok (.invokespecial 9, 3) := by decide +kernel
theorem dX3_init_12 : decode cX3_init 12 = .ok (.putfield 10, 3) := by decide +kernel
theorem dX3_init_15 : decode cX3_init 15 = .ok (.aload_n 0, 1) := by decide +kernel
theorem dX3_init_16 : decode cX3_init 16 = .ok (.new 16, 3) := by decide +kernel
theorem dX3_init_19 : decode cX3_init 19 = .ok (.dup, 1) := by decide +kernel
theorem dX3_init_20 : decode cX3_init 20 = .ok (.aload_n 0, 1) := by decide +kernel
theorem dX3_init_21 : decode cX3_init 21 = .ok (.getfield 10, 3) := by decide +kernel
theorem dX3_init_24 : decode cX3_init 24 = .ok (.invokespecial 18, 3) := by decide +kernel
theorem dX3_init_27 : decode cX3_init 27 = .ok (.putfield 21, 3) := by decide +kernel
theorem dX3_init_30 : decode cX3_init 30 = .ok (.aload_n 0, 1) := by decide +kernel
theorem dX3_init_31 : decode cX3_init 31 = .ok (.new 16, 3) := by decide +kernel
theorem dX3_init_34 : decode cX3_init 34 = .ok (.dup, 1) := by decide +kernel
theorem dX3_init_35 : decode cX3_init 35 = .ok (.aload_n 0, 1) := by decide +kernel
theorem dX3_init_36 : decode cX3_init 36 = .ok (.getfield 10, 3) := by decide +kernel
theorem dX3_init_39 : decode cX3_init 39 = .ok (.invokespecial 18, 3) := by decide +kernel
theorem dX3_init_42 : decode cX3_init 42 = .ok (.putfield 25, 3) := by decide +kernel
theorem dX3_init_45 : decode cX3_init 45 = .ok (.aload_n 0, 1) := by decide +kernel
theorem dX3_init_46 : decode cX3_init 46 = .ok (.new 28, 3) := by decide +kernel
theorem dX3_init_49 : decode cX3_init 49 = .ok (.dup, 1) := by decide +kernel
theorem dX3_init_50 : decode cX3_init 50 = .ok (.invokespecial 30, 3) := by decide +kernel
theorem dX3_init_53 : decode cX3_init 53 = .ok (.putfield 31, 3) := by decide +kernel
theorem dX3_init_56 : decode cX3_init 56 = .ok (.aload_n 0, 1) := by decide +kernel
theorem dX3_init_57 : decode cX3_init 57 = .ok (.iconst (-1), 1) := by decide +kernel
theorem dX3_init_58 : decode cX3_init 58 = .ok (.putfield 35, 3) := by decide +kernel
theorem dX3_init_61 : decode cX3_init 61 = .ok (.return_, 1) := by decide +kernel
theorem dX3_layer_0 : decode cX3_layer 0 = .ok (.iload_n 1, 1) := by decide +kernel
theorem dX3_layer_1 : decode cX3_layer 1 = .ok (.iconst 0, 1) := by decide +kernel
theorem dX3_layer_2 : decode cX3_layer 2 = .ok (.bipush 49, 2) := by decide +kernel
theorem dX3_layer_4 : decode cX3_layer 4 = .ok (.invokestatic 39, 3) := by decide +kernel
theorem dX3_layer_7 : decode cX3_layer 7 = .ok (.ifCond .ne 13, 3) := by decide +kernel
theorem dX3_layer_10 : decode cX3_layer 10 = .ok (.new 43, 3) := by decide +kernel
theorem dX3_layer_13 : decode cX3_layer 13 = .ok (.dup, 1) := by decide +kernel
theorem dX3_layer_14 : decode cX3_layer 14 = .ok (.ldc 45, 2) := by decide +kernel
theorem dX3_layer_16 : decode cX3_layer 16 = .ok (.invokespecial 47, 3) := by decide +kernel
theorem dX3_layer_19 : decode cX3_layer 19 = .ok (.athrow, 1) := by decide +kernel
theorem dX3_layer_20 : decode cX3_layer 20 = .ok (.iload_n 2, 1) := by decide +kernel
theorem dX3_layer_21 : decode cX3_layer 21 = .ok (.iconst 0, 1) := by decide +kernel
theorem dX3_layer_22 : decode cX3_layer 22 = .ok (.sipush 300, 3) := by decide +kernel
theorem dX3_layer_25 : decode cX3_layer 25 = .ok (.invokestatic 39, 3) := by decide +kernel
theorem dX3_layer_28 : decode cX3_layer 28 = .ok (.ifCond .eq 26, 3) := by decide +kernel
theorem dX3_layer_31 : decode cX3_layer 31 = .ok (.iload_n 3, 1) := by decide +kernel
theorem dX3_layer_32 : decode cX3_layer 32 = .ok (.iconst 0, 1) := by decide +kernel
theorem dX3_layer_33 : decode cX3_layer 33 = .ok (.sipush 300, 3) := by decide +kernel
theorem dX3_layer_36 : decode cX3_layer 36 = .ok (.invokestatic 39, 3) := by decide +kernel
theorem dX3_layer_39 : decode cX3_layer 39 = .ok (.ifCond .eq 15, 3) := by decide +kernel
theorem dX3_layer_42 : decode cX3_layer 42 = .ok (.iload 4, 2) := by decide +kernel
theorem dX3_layer_44 : decode cX3_layer 44 = .ok (.iconst 0, 1) := by decide +kernel
theorem dX3_layer_45 : decode cX3_layer 45 = .ok (.sipush 1000, 3) := by decide +kernel
theorem dX3_layer_48 : decode cX3_layer 48 = .ok (.invokestatic 39, 3) := by decide +kernel
theorem dX3_layer_51 : decode cX3_layer 51 = .ok (.ifCond .ne 13, 3) := by decide +kernel
theorem dX3_layer_54 : decode cX3_layer 54 = .ok (.new 50, 3) := by decide +kernel
theorem dX3_layer_57 : decode cX3_layer 57 = .ok (.dup, 1) := by decide +kernel
theorem dX3_layer_58 : decode cX3_layer 58 = .ok (.ldc 52, 2) := by decide +kernel
theorem dX3_layer_60 : decode cX3_layer 60 = .ok (.invokespecial 54, 3) := by decide +kernel
theorem dX3_layer_63 : decode cX3_layer 63 = .ok (.athrow, 1) := by decide +kernel
theorem dX3_layer_64 : decode cX3_layer 64 = .ok (.aload_n 0, 1) := by decide +kernel
theorem dX3_layer_65 : decode cX3_layer 65 = .ok (.getfield 21, 3) := by decide +kernel
theorem dX3_layer_68 : decode cX3_layer 68 = .ok (.getfield 55, 3) := by decide +kernel
theorem dX3_layer_71 : decode cX3_layer 71 = .ok (.iload_n 1, 1) := by decide +kernel
theorem dX3_layer_72 : decode cX3_layer 72 = .ok (.bipush 100, 2) := by decide +kernel
theorem dX3_layer_74 : decode cX3_layer 74 = .ok (.imul, 1) := by decide +kernel
theorem dX3_layer_75 : decode cX3_layer 75 = .ok (.if_icmp .le 13, 3) := by decide +kernel
theorem dX3_layer_78 : decode cX3_layer 78 = .ok (.new 58, 3) := by decide +kernel
theorem dX3_layer_81 : decode cX3_layer 81 = .ok (.dup, 1) := by decide +kernel
theorem dX3_layer_82 : decode cX3_layer 82 = .ok (.ldc 60, 2) := by decide +kernel
theorem dX3_layer_84 : decode cX3_layer 84 = .ok (.invokespecial 62, 3) := by decide +kernel
theorem dX3_layer_87 : decode cX3_layer 87 = .ok (.athrow, 1) := by decide +kernel
theorem dX3_layer_88 : decode cX3_layer 88 = .ok (.aload_n 0, 1) := by decide +kernel
theorem dX3_layer_89 : decode cX3_layer 89 = .ok (.getfield 10, 3) := by decide +kernel
theorem dX3_layer_92 : decode cX3_layer 92 = .ok (.iload_n 1, 1) := by decide +kernel
theorem dX3_layer_93 : decode cX3_layer 93 = .ok (.iload_n 2, 1) := by decide +kernel
theorem dX3_layer_94 : decode cX3_layer 94 = .ok (.iload_n 3, 1) := by decide +kernel
theorem dX3_layer_95 : decode cX3_layer 95 = .ok (.iload 4, 2) := by decide +kernel
theorem dX3_layer_97 : decode cX3_layer 97 = .ok (.iload 5, 2) := by decide +kernel
theorem dX3_layer_99 : decode cX3_layer 99 = .ok (.invokevirtual 63, 3) := by decide +kernel
theorem dX3_layer_102 : decode cX3_layer 102 = .ok (.return_, 1) := by decide +kernel
theorem dX3_mud_0 : decode cX3_mud 0 = .ok (.iload_n 1, 1) := by decide +kernel
theorem dX3_mud_1 : decode cX3_mud 1 = .ok (.iconst 0, 1) := by decide +kernel
theorem dX3_mud_2 : decode cX3_mud 2 = .ok (.sipush 300, 3) := by decide +kernel
theorem dX3_mud_5 : decode cX3_mud 5 = .ok (.invokestatic 39, 3) := by decide +kernel
theorem dX3_mud_8 : decode cX3_mud 8 = .ok (.ifCond .ne 13, 3) := by decide +kernel
theorem dX3_mud_11 : decode cX3_mud 11 = .ok (.new 50, 3) := by decide +kernel
theorem dX3_mud_14 : decode cX3_mud 14 = .ok (.dup, 1) := by decide +kernel
theorem dX3_mud_15 : decode cX3_mud 15 = .ok (.ldc 67, 2) := by decide +kernel
theorem dX3_mud_17 : decode cX3_mud 17 = .ok (.invokespecial 54, 3) := by decide +kernel
theorem dX3_mud_20 : decode cX3_mud 20 = .ok (.athrow, 1) := by decide +kernel
theorem dX3_mud_21 : decode cX3_mud 21 = .ok (.aload_n 0, 1) := by decide +kernel
theorem dX3_mud_22 : decode cX3_mud 22 = .ok (.getfield 21, 3) := by decide +kernel
theorem dX3_mud_25 : decode cX3_mud 25 = .ok (.getfield 69, 3) := by decide +kernel
theorem dX3_mud_28 : decode cX3_mud 28 = .ok (.ifCond .eq 13, 3) := by decide +kernel
theorem dX3_mud_31 : decode cX3_mud 31 = .ok (.new 58, 3) := by decide +kernel
theorem dX3_mud_34 : decode cX3_mud 34 = .ok (.dup, 1) := by decide +kernel
theorem dX3_mud_35 : decode cX3_mud 35 = .ok (.ldc 73, 2) := by decide +kernel
theorem dX3_mud_37 : decode cX3_mud 37 = .ok (.invokespecial 62, 3) := by decide +kernel
theorem dX3_mud_40 : decode cX3_mud 40 = .ok (.athrow, 1) := by decide +kernel
theorem dX3_mud_41 : decode cX3_mud 41 = .ok (.aload_n 0, 1) := by decide +kernel
theorem dX3_mud_42 : decode cX3_mud 42 = .ok (.getfield 21, 3) := by decide +kernel
theorem dX3_mud_45 : decode cX3_mud 45 = .ok (.getfield 75, 3) := by decide +kernel
theorem dX3_mud_48 : decode cX3_mud 48 = .ok (.istore_n 2, 1) := by decide +kernel
theorem dX3_mud_49 : decode cX3_mud 49 = .ok (.aload_n 0, 1) := by decide +kernel
theorem dX3_mud_50 : decode cX3_mud 50 = .ok (.getfield 21, 3) := by decide +kernel
theorem dX3_mud_53 : decode cX3_mud 53 = .ok (.iload_n 1, 1) := by decide +kernel
theorem dX3_mud_54 : decode cX3_mud 54 = .ok (.putfield 75, 3) := by decide +kernel
theorem dX3_mud_57 : decode cX3_mud 57 = .ok (.aload_n 0, 1) := by decide +kernel
theorem dX3_mud_58 : decode cX3_mud 58 = .ok (.iconst 0, 1) := by decide +kernel
theorem dX3_mud_59 : decode cX3_mud 59 = .ok (.putfield 78, 3) := by decide +kernel
theorem dX3_mud_62 : decode cX3_mud 62 = .ok (.iload_n 2, 1) := by decide +kernel
theorem dX3_mud_63 : decode cX3_mud 63 = .ok (.ireturn, 1) := by decide +kernel
theorem dX3_drill_0 : decode cX3_drill 0 = .ok (.iload_n 1, 1) := by decide +kernel
theorem dX3_drill_1 : decode cX3_drill 1 = .ok (.iconst 1, 1) := by decide +kernel
theorem dX3_drill_2 : decode cX3_drill 2 = .ok (.sipush 500, 3) := by decide +kernel
theorem dX3_drill_5 : decode cX3_drill 5 = .ok (.invokestatic 39, 3) := by decide +kernel
theorem dX3_drill_8 : decode cX3_drill 8 = .ok (.ifCond .ne 13, 3) := by decide +kernel
theorem dX3_drill_11 : decode cX3_drill 11 = .ok (.new 50, 3) := by decide +kernel
theorem dX3_drill_14 : decode cX3_drill 14 = .ok (.dup, 1) := by decide +kernel
theorem dX3_drill_15 : decode cX3_drill 15 = .ok (.ldc 81, 2) := by decide +kernel
theorem dX3_drill_17 : decode cX3_drill 17 = .ok (.invokespecial 54, 3) := by decide +kernel
theorem dX3_drill_20 : decode cX3_drill 20 = .ok (.athrow, 1) := by decide +kernel
theorem dX3_drill_21 : decode cX3_drill 21 = .ok (.aload_n 0, 1) := by decide +kernel
theorem dX3_drill_22 : decode cX3_drill 22 = .ok (.invokevirtual 83, 3) := by decide +kernel
theorem dX3_drill_25 : decode cX3_drill 25 = .ok (.ifCond .ne 26, 3) := by decide +kernel
theorem dX3_drill_28 : decode cX3_drill 28 = .ok (.aload_n 0, 1) := by decide +kernel
theorem dX3_drill_29 : decode cX3_drill 29 = .ok (.getfield 21, 3) := by decide +kernel
theorem dX3_drill_32 : decode cX3_drill 32 = .ok (.getfield 55, 3) := by decide +kernel
theorem dX3_drill_35 : decode cX3_drill 35 = .ok (.iload_n 1, 1) := by decide +kernel
theorem dX3_drill_36 : decode cX3_drill 36 = .ok (.iadd, 1) := by decide +kernel
theorem dX3_drill_37 : decode cX3_drill 37 = .ok (.sipush 5000, 3) := by decide +kernel
theorem dX3_drill_40 : decode cX3_drill 40 = .ok (.if_icmp .gt 11, 3) := by decide +kernel
theorem dX3_drill_43 : decode cX3_drill 43 = .ok (.aload_n 0, 1) := by decide +kernel
theorem dX3_drill_44 : decode cX3_drill 44 = .ok (.iload_n 1, 1) := by decide +kernel
theorem dX3_drill_45 : decode cX3_drill 45 = .ok (.invokevirtual 87, 3) := by decide +kernel
theorem dX3_drill_48 : decode cX3_drill 48 = .ok (.ifCond .ne 13, 3) := by decide +kernel
theorem dX3_drill_51 : decode cX3_drill 51 = .ok (.new 58, 3) := by decide +kernel
theorem dX3_drill_54 : decode cX3_drill 54 = .ok (.dup, 1) := by decide +kernel
theorem dX3_drill_55 : decode cX3_drill 55 = .ok (.ldc 91, 2) := by decide +kernel
theorem dX3_drill_57 : decode cX3_drill 57 = .ok (.invokespecial 62, 3) := by decide +kernel
theorem dX3_drill_60 : decode cX3_drill 60 = .ok (.athrow, 1) := by decide +kernel
theorem dX3_drill_61 : decode cX3_drill 61 = .ok (.iconst 1, 1) := by decide +kernel
theorem dX3_drill_62 : decode cX3_drill 62 = .ok (.istore_n 2, 1) := by decide +kernel
theorem dX3_drill_63 : decode cX3_drill 63 = .ok (.iload_n 2, 1) := by decide +kernel
theorem dX3_drill_64 : decode cX3_drill 64 = .ok (.iload_n 1, 1) := by decide +kernel
theorem dX3_drill_65 : decode cX3_drill 65 = .ok (.if_icmp .gt 35, 3) := by decide +kernel
theorem dX3_drill_68 : decode cX3_drill 68 = .ok (.aload_n 0, 1) := by decide +kernel
theorem dX3_drill_69 : decode cX3_drill 69 = .ok (.getfield 21, 3) := by decide +kernel
theorem dX3_drill_72 : decode cX3_drill 72 = .ok (.dup, 1) := by decide +kernel
theorem dX3_drill_73 : decode cX3_drill 73 = .ok (.getfield 55, 3) := by decide +kernel
theorem dX3_drill_76 : decode cX3_drill 76 = .ok (.iconst 1, 1) := by decide +kernel
theorem dX3_drill_77 : decode cX3_drill 77 = .ok (.iadd, 1) := by decide +kernel
theorem dX3_drill_78 : decode cX3_drill 78 = .ok (.putfield 55, 3) := by decide +kernel
theorem dX3_drill_81 : decode cX3_drill 81 = .ok (.aload_n 0, 1) := by decide +kernel
theorem dX3_drill_82 : decode cX3_drill 82 = .ok (.getfield 21, 3) := by decide +kernel
theorem dX3_drill_85 : decode cX3_drill 85 = .ok (.iconst 0, 1) := by decide +kernel
theorem dX3_drill_86 : decode cX3_drill 86 = .ok (.invokevirtual 93, 3) := by decide +kernel
theorem dX3_drill_89 : decode cX3_drill 89 = .ok (.ifCond .eq 5, 3) := by decide +kernel
theorem dX3_drill_92 : decode cX3_drill 92 = .ok (.iload_n 2, 1) := by decide +kernel
theorem dX3_drill_93 : decode cX3_drill 93 = .ok (.ireturn, 1) := by decide +kernel
theorem dX3_drill_94 : decode cX3_drill 94 = .ok (.iinc 2 1, 3) := by decide +kernel
theorem dX3_drill_97 : decode cX3_drill 97 = .ok (.goto (-34), 3) := by decide +kernel
theorem dX3_drill_100 : decode cX3_drill 100 = .ok (.iload_n 1, 1) := by decide +kernel
theorem dX3_drill_101 : decode cX3_drill 101 = .ok (.ireturn, 1) := by decide +kernel
theorem dX3_pass_0 : decode cX3_pass 0 = .ok (.iload_n 1, 1) := by decide +kernel
theorem dX3_pass_1 : decode cX3_pass 1 = .ok (.iconst 1, 1) := by decide +kernel
theorem dX3_pass_2 : decode cX3_pass 2 = .ok (.sipush 2000, 3) := by decide +kernel
theorem dX3_pass_5 : decode cX3_pass 5 = .ok (.invokestatic 39, 3) := by decide +kernel
theorem dX3_pass_8 : decode cX3_pass 8 = .ok (.ifCond .ne 13, 3) := by decide +kernel
theorem dX3_pass_11 : decode cX3_pass 11 = .ok (.new 50, 3) := by decide +kernel
theorem dX3_pass_14 : decode cX3_pass 14 = .ok (.dup, 1) := by decide +kernel
theorem dX3_pass_15 : decode cX3_pass 15 = .ok (.ldc 97, 2) := by decide +kernel
theorem dX3_pass_17 : decode cX3_pass 17 = .ok (.invokespecial 54, 3) := by decide +kernel
theorem dX3_pass_20 : decode cX3_pass 20 = .ok (.athrow, 1) := by decide +kernel
theorem dX3_pass_21 : decode cX3_pass 21 = .ok (.aload_n 0, 1) := by decide +kernel
theorem dX3_pass_22 : decode cX3_pass 22 = .ok (.iload_n 1, 1) := by decide +kernel
theorem dX3_pass_23 : decode cX3_pass 23 = .ok (.invokevirtual 87, 3) := by decide +kernel
theorem dX3_pass_26 : decode cX3_pass 26 = .ok (.ifCond .ne 13, 3) := by decide +kernel
theorem dX3_pass_29 : decode cX3_pass 29 = .ok (.new 58, 3) := by decide +kernel
theorem dX3_pass_32 : decode cX3_pass 32 = .ok (.dup, 1) := by decide +kernel
theorem dX3_pass_33 : decode cX3_pass 33 = .ok (.ldc 99, 2) := by decide +kernel
theorem dX3_pass_35 : decode cX3_pass 35 = .ok (.invokespecial 62, 3) := by decide +kernel
theorem dX3_pass_38 : decode cX3_pass 38 = .ok (.athrow, 1) := by decide +kernel
theorem dX3_pass_39 : decode cX3_pass 39 = .ok (.aload_n 0, 1) := by decide +kernel
theorem dX3_pass_40 : decode cX3_pass 40 = .ok (.getfield 21, 3) := by decide +kernel
theorem dX3_pass_43 : decode cX3_pass 43 = .ok (.iload_n 1, 1) := by decide +kernel
theorem dX3_pass_44 : decode cX3_pass 44 = .ok (.invokevirtual 101, 3) := by decide +kernel
theorem dX3_pass_47 : decode cX3_pass 47 = .ok (.ireturn, 1) := by decide +kernel
theorem dX3_close_0 : decode cX3_close 0 = .ok (.aload_n 0, 1) := by decide +kernel
theorem dX3_close_1 : decode cX3_close 1 = .ok (.getfield 21, 3) := by decide +kernel
theorem dX3_close_4 : decode cX3_close 4 = .ok (.getfield 69, 3) := by decide +kernel
theorem dX3_close_7 : decode cX3_close 7 = .ok (.ifCond .eq 13, 3) := by decide +kernel
theorem dX3_close_10 : decode cX3_close 10 = .ok (.new 58, 3) := by decide +kernel
theorem dX3_close_13 : decode cX3_close 13 = .ok (.dup, 1) := by decide +kernel
theorem dX3_close_14 : decode cX3_close 14 = .ok (.ldc 73, 2) := by decide +kernel
theorem dX3_close_16 : decode cX3_close 16 = .ok (.invokespecial 62, 3) := by decide +kernel
theorem dX3_close_19 : decode cX3_close 19 = .ok (.athrow, 1) := by decide +kernel
theorem dX3_close_20 : decode cX3_close 20 = .ok (.aload_n 0, 1) := by decide +kernel
theorem dX3_close_21 : decode cX3_close 21 = .ok (.getfield 21, 3) := by decide +kernel
theorem dX3_close_24 : decode cX3_close 24 = .ok (.iconst 1, 1) := by decide +kernel
theorem dX3_close_25 : decode cX3_close 25 = .ok (.putfield 69, 3) := by decide +kernel
theorem dX3_close_28 : decode cX3_close 28 = .ok (.return_, 1) := by decide +kernel
theorem dX3_open_0 : decode cX3_open 0 = .ok (.aload_n 0, 1) := by decide +kernel
theorem dX3_open_1 : decode cX3_open 1 = .ok (.getfield 21, 3) := by decide +kernel
theorem dX3_open_4 : decode cX3_open 4 = .ok (.getfield 69, 3) := by decide +kernel
theorem dX3_open_7 : decode cX3_open 7 = .ok (.ifCond .ne 13, 3) := by decide +kernel
theorem dX3_open_10 : decode cX3_open 10 = .ok (.new 58, 3) := by decide +kernel
theorem dX3_open_13 : decode cX3_open 13 = .ok (.dup, 1) := by decide +kernel
theorem dX3_open_14 : decode cX3_open 14 = .ok (.ldc 105, 2) := by decide +kernel
theorem dX3_open_16 : decode cX3_open 16 = .ok (.invokespecial 62, 3) := by decide +kernel
theorem dX3_open_19 : decode cX3_open 19 = .ok (.athrow, 1) := by decide +kernel
theorem dX3_open_20 : decode cX3_open 20 = .ok (.aload_n 0, 1) := by decide +kernel
theorem dX3_open_21 : decode cX3_open 21 = .ok (.getfield 21, 3) := by decide +kernel
theorem dX3_open_24 : decode cX3_open 24 = .ok (.getfield 107, 3) := by decide +kernel
theorem dX3_open_27 : decode cX3_open 27 = .ok (.istore_n 1, 1) := by decide +kernel
theorem dX3_open_28 : decode cX3_open 28 = .ok (.aload_n 0, 1) := by decide +kernel
theorem dX3_open_29 : decode cX3_open 29 = .ok (.getfield 21, 3) := by decide +kernel
theorem dX3_open_32 : decode cX3_open 32 = .ok (.iconst 0, 1) := by decide +kernel
theorem dX3_open_33 : decode cX3_open 33 = .ok (.putfield 69, 3) := by decide +kernel
theorem dX3_open_36 : decode cX3_open 36 = .ok (.aload_n 0, 1) := by decide +kernel
theorem dX3_open_37 : decode cX3_open 37 = .ok (.getfield 21, 3) := by decide +kernel
theorem dX3_open_40 : decode cX3_open 40 = .ok (.iconst 0, 1) := by decide +kernel
theorem dX3_open_41 : decode cX3_open 41 = .ok (.putfield 107, 3) := by decide +kernel
theorem dX3_open_44 : decode cX3_open 44 = .ok (.iload_n 1, 1) := by decide +kernel
theorem dX3_open_45 : decode cX3_open 45 = .ok (.ireturn, 1) := by decide +kernel
theorem dX3_pump_0 : decode cX3_pump 0 = .ok (.iload_n 1, 1) := by decide +kernel
theorem dX3_pump_1 : decode cX3_pump 1 = .ok (.iconst 1, 1) := by decide +kernel
theorem dX3_pump_2 : decode cX3_pump 2 = .ok (.sipush 500, 3) := by decide +kernel
theorem dX3_pump_5 : decode cX3_pump 5 = .ok (.invokestatic 39, 3) := by decide +kernel
theorem dX3_pump_8 : decode cX3_pump 8 = .ok (.ifCond .eq 14, 3) := by decide +kernel
theorem dX3_pump_11 : decode cX3_pump 11 = .ok (.iload_n 2, 1) := by decide +kernel
theorem dX3_pump_12 : decode cX3_pump 12 = .ok (.iconst 0, 1) := by decide +kernel
theorem dX3_pump_13 : decode cX3_pump 13 = .ok (.sipush 300, 3) := by decide +kernel
theorem dX3_pump_16 : decode cX3_pump 16 = .ok (.invokestatic 39, 3) := by decide +kernel
theorem dX3_pump_19 : decode cX3_pump 19 = .ok (.ifCond .ne 13, 3) := by decide +kernel
theorem dX3_pump_22 : decode cX3_pump 22 = .ok (.new 50, 3) := by decide +kernel
theorem dX3_pump_25 : decode cX3_pump 25 = .ok (.dup, 1) := by decide +kernel
theorem dX3_pump_26 : decode cX3_pump 26 = .ok (.ldc 110, 2) := by decide +kernel
theorem dX3_pump_28 : decode cX3_pump 28 = .ok (.invokespecial 54, 3) := by decide +kernel
theorem dX3_pump_31 : decode cX3_pump 31 = .ok (.athrow, 1) := by decide +kernel
theorem dX3_pump_32 : decode cX3_pump 32 = .ok (.aload_n 0, 1) := by decide +kernel
theorem dX3_pump_33 : decode cX3_pump 33 = .ok (.getfield 21, 3) := by decide +kernel
theorem dX3_pump_36 : decode cX3_pump 36 = .ok (.getfield 69, 3) := by decide +kernel
theorem dX3_pump_39 : decode cX3_pump 39 = .ok (.ifCond .eq 21, 3) := by decide +kernel
theorem dX3_pump_42 : decode cX3_pump 42 = .ok (.aload_n 0, 1) := by decide +kernel
theorem dX3_pump_43 : decode cX3_pump 43 = .ok (.getfield 21, 3) := by decide +kernel
theorem dX3_pump_46 : decode cX3_pump 46 = .ok (.getfield 55, 3) := by decide +kernel
theorem dX3_pump_49 : decode cX3_pump 49 = .ok (.ifCond .eq 11, 3) := by decide +kernel
theorem dX3_pump_52 : decode cX3_pump 52 = .ok (.aload_n 0, 1) := by decide +kernel
theorem dX3_pump_53 : decode cX3_pump 53 = .ok (.iload_n 1, 1) := by decide +kernel
theorem dX3_pump_54 : decode cX3_pump 54 = .ok (.invokevirtual 87, 3) := by decide +kernel
theorem dX3_pump_57 : decode cX3_pump 57 = .ok (.ifCond .ne 13, 3) := by decide +kernel
theorem dX3_pump_60 : decode cX3_pump 60 = .ok (.new 58, 3) := by decide +kernel
theorem dX3_pump_63 : decode cX3_pump 63 = .ok (.dup, 1) := by decide +kernel
theorem dX3_pump_64 : decode cX3_pump 64 = .ok (.ldc 112, 2) := by decide +kernel
theorem dX3_pump_66 : decode cX3_pump 66 = .ok (.invokespecial 62, 3) := by decide +kernel
theorem dX3_pump_69 : decode cX3_pump 69 = .ok (.athrow, 1) := by decide +kernel
theorem dX3_pump_70 : decode cX3_pump 70 = .ok (.iload_n 2, 1) := by decide +kernel
theorem dX3_pump_71 : decode cX3_pump 71 = .ok (.aload_n 0, 1) := by decide +kernel
theorem dX3_pump_72 : decode cX3_pump 72 = .ok (.getfield 35, 3) := by decide +kernel
theorem dX3_pump_75 : decode cX3_pump 75 = .ok (.if_icmp .eq 8, 3) := by decide +kernel
theorem dX3_pump_78 : decode cX3_pump 78 = .ok (.aload_n 0, 1) := by decide +kernel
theorem dX3_pump_79 : decode cX3_pump 79 = .ok (.iconst 0, 1) := by decide +kernel
theorem dX3_pump_80 : decode cX3_pump 80 = .ok (.putfield 78, 3) := by decide +kernel
theorem dX3_pump_83 : decode cX3_pump 83 = .ok (.aload_n 0, 1) := by decide +kernel
theorem dX3_pump_84 : decode cX3_pump 84 = .ok (.iload_n 2, 1) := by decide +kernel
theorem dX3_pump_85 : decode cX3_pump 85 = .ok (.putfield 35, 3) := by decide +kernel
theorem dX3_pump_88 : decode cX3_pump 88 = .ok (.iconst 1, 1) := by decide +kernel
theorem dX3_pump_89 : decode cX3_pump 89 = .ok (.istore_n 3, 1) := by decide +kernel
theorem dX3_pump_90 : decode cX3_pump 90 = .ok (.iload_n 3, 1) := by decide +kernel
theorem dX3_pump_91 : decode cX3_pump 91 = .ok (.iload_n 1, 1) := by decide +kernel
theorem dX3_pump_92 : decode cX3_pump 92 = .ok (.if_icmp .gt 35, 3) := by decide +kernel
theorem dX3_pump_95 : decode cX3_pump 95 = .ok (.aload_n 0, 1) := by decide +kernel
theorem dX3_pump_96 : decode cX3_pump 96 = .ok (.getfield 21, 3) := by decide +kernel
theorem dX3_pump_99 : decode cX3_pump 99 = .ok (.iconst 1, 1) := by decide +kernel
theorem dX3_pump_100 : decode cX3_pump 100 = .ok (.invokevirtual 93, 3) := by decide +kernel
theorem dX3_pump_103 : decode cX3_pump 103 = .ok (.pop, 1) := by decide +kernel
theorem dX3_pump_104 : decode cX3_pump 104 = .ok (.aload_n 0, 1) := by decide +kernel
theorem dX3_pump_105 : decode cX3_pump 105 = .ok (.getfield 21, 3) := by decide +kernel
theorem dX3_pump_108 : decode cX3_pump 108 = .ok (.getfield 69, 3) := by decide +kernel
theorem dX3_pump_111 : decode cX3_pump 111 = .ok (.ifCond .ne 5, 3) := by decide +kernel
theorem dX3_pump_114 : decode cX3_pump 114 = .ok (.iload_n 3, 1) := by decide +kernel
theorem dX3_pump_115 : decode cX3_pump 115 = .ok (.ireturn, 1) := by decide +kernel
theorem dX3_pump_116 : decode cX3_pump 116 = .ok (.aload_n 0, 1) := by decide +kernel
theorem dX3_pump_117 : decode cX3_pump 117 = .ok (.iload_n 2, 1) := by decide +kernel
theorem dX3_pump_118 : decode cX3_pump 118 = .ok (.invokevirtual 114, 3) := by decide +kernel
theorem dX3_pump_121 : decode cX3_pump 121 = .ok (.iinc 3 1, 3) := by decide +kernel
theorem dX3_pump_124 : decode cX3_pump 124 = .ok (.goto (-34), 3) := by decide +kernel
theorem dX3_pump_127 : decode cX3_pump 127 = .ok (.iload_n 1, 1) := by decide +kernel
theorem dX3_pump_128 : decode cX3_pump 128 = .ok (.ireturn, 1) := by decide +kernel
theorem dX3_pumpOn_0 : decode cX3_pumpOn 0 = .ok (.aload_n 0, 1) := by decide +kernel
theorem dX3_pumpOn_1 : decode cX3_pumpOn 1 = .ok (.dup, 1) := by decide +kernel
theorem dX3_pumpOn_2 : decode cX3_pumpOn 2 = .ok (.getfield 78, 3) := by decide +kernel
theorem dX3_pumpOn_5 : decode cX3_pumpOn 5 = .ok (.bipush 20, 2) := by decide +kernel
theorem dX3_pumpOn_7 : decode cX3_pumpOn 7 = .ok (.iadd, 1) := by decide +kernel
theorem dX3_pumpOn_8 : decode cX3_pumpOn 8 = .ok (.putfield 78, 3) := by decide +kernel
theorem dX3_pumpOn_11 : decode cX3_pumpOn 11 = .ok (.aload_n 0, 1) := by decide +kernel
theorem dX3_pumpOn_12 : decode cX3_pumpOn 12 = .ok (.getfield 78, 3) := by decide +kernel
theorem dX3_pumpOn_15 : decode cX3_pumpOn 15 = .ok (.aload_n 0, 1) := by decide +kernel
theorem dX3_pumpOn_16 : decode cX3_pumpOn 16 = .ok (.getfield 21, 3) := by decide +kernel
theorem dX3_pumpOn_19 : decode cX3_pumpOn 19 = .ok (.getfield 55, 3) := by decide +kernel
theorem dX3_pumpOn_22 : decode cX3_pumpOn 22 = .ok (.if_icmp .lt 24, 3) := by decide +kernel
theorem dX3_pumpOn_25 : decode cX3_pumpOn 25 = .ok (.aload_n 0, 1) := by decide +kernel
theorem dX3_pumpOn_26 : decode cX3_pumpOn 26 = .ok (.getfield 21, 3) := by decide +kernel
theorem dX3_pumpOn_29 : decode cX3_pumpOn 29 = .ok (.iload_n 1, 1) := by decide +kernel
theorem dX3_pumpOn_30 : decode cX3_pumpOn 30 = .ok (.putfield 75, 3) := by decide +kernel
theorem dX3_pumpOn_33 : decode cX3_pumpOn 33 = .ok (.aload_n 0, 1) := by decide +kernel
theorem dX3_pumpOn_34 : decode cX3_pumpOn 34 = .ok (.getfield 21, 3) := by decide +kernel
theorem dX3_pumpOn_37 : decode cX3_pumpOn 37 = .ok (.iconst 0, 1) := by decide +kernel
theorem dX3_pumpOn_38 : decode cX3_pumpOn 38 = .ok (.putfield 118, 3) := by decide +kernel
theorem dX3_pumpOn_41 : decode cX3_pumpOn 41 = .ok (.aload_n 0, 1) := by decide +kernel
theorem dX3_pumpOn_42 : decode cX3_pumpOn 42 = .ok (.iconst 0, 1) := by decide +kernel
theorem dX3_pumpOn_43 : decode cX3_pumpOn 43 = .ok (.putfield 78, 3) := by decide +kernel
theorem dX3_pumpOn_46 : decode cX3_pumpOn 46 = .ok (.return_, 1) := by decide +kernel
theorem dX3_casing_0 : decode cX3_casing 0 = .ok (.iload_n 1, 1) := by decide +kernel
theorem dX3_casing_1 : decode cX3_casing 1 = .ok (.iconst 0, 1) := by decide +kernel
theorem dX3_casing_2 : decode cX3_casing 2 = .ok (.sipush 1000, 3) := by decide +kernel
theorem dX3_casing_5 : decode cX3_casing 5 = .ok (.invokestatic 39, 3) := by decide +kernel
theorem dX3_casing_8 : decode cX3_casing 8 = .ok (.ifCond .ne 13, 3) := by decide +kernel
theorem dX3_casing_11 : decode cX3_casing 11 = .ok (.new 50, 3) := by decide +kernel
theorem dX3_casing_14 : decode cX3_casing 14 = .ok (.dup, 1) := by decide +kernel
theorem dX3_casing_15 : decode cX3_casing 15 = .ok (.ldc 121, 2) := by decide +kernel
theorem dX3_casing_17 : decode cX3_casing 17 = .ok (.invokespecial 54, 3) := by decide +kernel
theorem dX3_casing_20 : decode cX3_casing 20 = .ok (.athrow, 1) := by decide +kernel
theorem dX3_casing_21 : decode cX3_casing 21 = .ok (.aload_n 0, 1) := by decide +kernel
theorem dX3_casing_22 : decode cX3_casing 22 = .ok (.getfield 21, 3) := by decide +kernel
theorem dX3_casing_25 : decode cX3_casing 25 = .ok (.getfield 55, 3) := by decide +kernel
theorem dX3_casing_28 : decode cX3_casing 28 = .ok (.aload_n 0, 1) := by decide +kernel
theorem dX3_casing_29 : decode cX3_casing 29 = .ok (.getfield 21, 3) := by decide +kernel
theorem dX3_casing_32 : decode cX3_casing 32 = .ok (.getfield 123, 3) := by decide +kernel
theorem dX3_casing_35 : decode cX3_casing 35 = .ok (.isub, 1) := by decide +kernel
theorem dX3_casing_36 : decode cX3_casing 36 = .ok (.istore_n 2, 1) := by decide +kernel
theorem dX3_casing_37 : decode cX3_casing 37 = .ok (.iload_n 2, 1) := by decide +kernel
theorem dX3_casing_38 : decode cX3_casing 38 = .ok (.ifCond .le 13, 3) := by decide +kernel
theorem dX3_casing_41 : decode cX3_casing 41 = .ok (.aload_n 0, 1) := by decide +kernel
theorem dX3_casing_42 : decode cX3_casing 42 = .ok (.getfield 21, 3) := by decide +kernel
theorem dX3_casing_45 : decode cX3_casing 45 = .ok (.invokevirtual 126, 3) := by decide +kernel
theorem dX3_casing_48 : decode cX3_casing 48 = .ok (.ifCond .eq 13, 3) := by decide +kernel
theorem dX3_casing_51 : decode cX3_casing 51 = .ok (.new 58, 3) := by decide +kernel
theorem dX3_casing_54 : decode cX3_casing 54 = .ok (.dup, 1) := by decide +kernel
theorem dX3_casing_55 : decode cX3_casing 55 = .ok (.ldc 130, 2) := by decide +kernel
theorem dX3_casing_57 : decode cX3_casing 57 = .ok (.invokespecial 62, 3) := by decide +kernel
theorem dX3_casing_60 : decode cX3_casing 60 = .ok (.athrow, 1) := by decide +kernel
theorem dX3_casing_61 : decode cX3_casing 61 = .ok (.aload_n 0, 1) := by decide +kernel
theorem dX3_casing_62 : decode cX3_casing 62 = .ok (.sipush 1000, 3) := by decide +kernel
theorem dX3_casing_65 : decode cX3_casing 65 = .ok (.iload_n 1, 1) := by decide +kernel
theorem dX3_casing_66 : decode cX3_casing 66 = .ok (.imul, 1) := by decide +kernel
theorem dX3_casing_67 : decode cX3_casing 67 = .ok (.iload_n 2, 1) := by decide +kernel
theorem dX3_casing_68 : decode cX3_casing 68 = .ok (.idiv, 1) := by decide +kernel
theorem dX3_casing_69 : decode cX3_casing 69 = .ok (.putfield 132, 3) := by decide +kernel
theorem dX3_casing_72 : decode cX3_casing 72 = .ok (.aload_n 0, 1) := by decide +kernel
theorem dX3_casing_73 : decode cX3_casing 73 = .ok (.getfield 21, 3) := by decide +kernel
theorem dX3_casing_76 : decode cX3_casing 76 = .ok (.aload_n 0, 1) := by decide +kernel
theorem dX3_casing_77 : decode cX3_casing 77 = .ok (.getfield 21, 3) := by decide +kernel
theorem dX3_casing_80 : decode cX3_casing 80 = .ok (.getfield 55, 3) := by decide +kernel
theorem dX3_casing_83 : decode cX3_casing 83 = .ok (.putfield 123, 3) := by decide +kernel
theorem dX3_casing_86 : decode cX3_casing 86 = .ok (.aload_n 0, 1) := by decide +kernel
theorem dX3_casing_87 : decode cX3_casing 87 = .ok (.getfield 31, 3) := by decide +kernel
theorem dX3_casing_90 : decode cX3_casing 90 = .ok (.iconst (-1), 1) := by decide +kernel
theorem dX3_casing_91 : decode cX3_casing 91 = .ok (.putfield 135, 3) := by decide +kernel
theorem dX3_casing_94 : decode cX3_casing 94 = .ok (.aload_n 0, 1) := by decide +kernel
theorem dX3_casing_95 : decode cX3_casing 95 = .ok (.getfield 132, 3) := by decide +kernel
theorem dX3_casing_98 : decode cX3_casing 98 = .ok (.ireturn, 1) := by decide +kernel
theorem dX3_strength_0 : decode cX3_strength 0 = .ok (.iload_n 1, 1) := by decide +kernel
theorem dX3_strength_1 : decode cX3_strength 1 = .ok (.iconst 0, 1) := by decide +kernel
theorem dX3_strength_2 : decode cX3_strength 2 = .ok (.ldc 138, 2) := by decide +kernel
theorem dX3_strength_4 : decode cX3_strength 4 = .ok (.invokestatic 39, 3) := by decide +kernel
theorem dX3_strength_7 : decode cX3_strength 7 = .ok (.ifCond .ne 13, 3) := by decide +kernel
theorem dX3_strength_10 : decode cX3_strength 10 = .ok (.new 50, 3) := by decide +kernel
theorem dX3_strength_13 : decode cX3_strength 13 = .ok (.dup, 1) := by decide +kernel
theorem dX3_strength_14 : decode cX3_strength 14 = .ok (.ldc 139, 2) := by decide +kernel
theorem dX3_strength_16 : decode cX3_strength 16 = .ok (.invokespecial 54, 3) := by decide +kernel
theorem dX3_strength_19 : decode cX3_strength 19 = .ok (.athrow, 1) := by decide +kernel
theorem dX3_strength_20 : decode cX3_strength 20 = .ok (.aload_n 0, 1) := by decide +kernel
theorem dX3_strength_21 : decode cX3_strength 21 = .ok (.getfield 21, 3) := by decide +kernel
theorem dX3_strength_24 : decode cX3_strength 24 = .ok (.getfield 141, 3) := by decide +kernel
theorem dX3_strength_27 : decode cX3_strength 27 = .ok (.istore_n 2, 1) := by decide +kernel
theorem dX3_strength_28 : decode cX3_strength 28 = .ok (.aload_n 0, 1) := by decide +kernel
theorem dX3_strength_29 : decode cX3_strength 29 = .ok (.getfield 21, 3) := by decide +kernel
theorem dX3_strength_32 : decode cX3_strength 32 = .ok (.iload_n 1, 1) := by decide +kernel
theorem dX3_strength_33 : decode cX3_strength 33 = .ok (.putfield 141, 3) := by decide +kernel
theorem dX3_strength_36 : decode cX3_strength 36 = .ok (.iload_n 2, 1) := by decide +kernel
theorem dX3_strength_37 : decode cX3_strength 37 = .ok (.ireturn, 1) := by decide +kernel
theorem dX3_test_0 : decode cX3_test 0 = .ok (.iload_n 1, 1) := by decide +kernel
theorem dX3_test_1 : decode cX3_test 1 = .ok (.iconst 0, 1) := by decide +kernel
theorem dX3_test_2 : decode cX3_test 2 = .ok (.iconst 1, 1) := by decide +kernel
theorem dX3_test_3 : decode cX3_test 3 = .ok (.invokestatic 39, 3) := by decide +kernel
theorem dX3_test_6 : decode cX3_test 6 = .ok (.ifCond .eq 15, 3) := by decide +kernel
theorem dX3_test_9 : decode cX3_test 9 = .ok (.iload_n 2, 1) := by decide +kernel
theorem dX3_test_10 : decode cX3_test 10 = .ok (.sipush 1000, 3) := by decide +kernel
theorem dX3_test_13 : decode cX3_test 13 = .ok (.ldc 138, 2) := by decide +kernel
theorem dX3_test_15 : decode cX3_test 15 = .ok (.invokestatic 39, 3) := by decide +kernel
theorem dX3_test_18 : decode cX3_test 18 = .ok (.ifCond .ne 13, 3) := by decide +kernel
theorem dX3_test_21 : decode cX3_test 21 = .ok (.new 50, 3) := by decide +kernel
theorem dX3_test_24 : decode cX3_test 24 = .ok (.dup, 1) := by decide +kernel
theorem dX3_test_25 : decode cX3_test 25 = .ok (.ldc 144, 2) := by decide +kernel
theorem dX3_test_27 : decode cX3_test 27 = .ok (.invokespecial 54, 3) := by decide +kernel
theorem dX3_test_30 : decode cX3_test 30 = .ok (.athrow, 1) := by decide +kernel
theorem dX3_test_31 : decode cX3_test 31 = .ok (.aload_n 0, 1) := by decide +kernel
theorem dX3_test_32 : decode cX3_test 32 = .ok (.getfield 21, 3) := by decide +kernel
theorem dX3_test_35 : decode cX3_test 35 = .ok (.getfield 69, 3) := by decide +kernel
theorem dX3_test_38 : decode cX3_test 38 = .ok (.ifCond .ne 30, 3) := by decide +kernel
theorem dX3_test_41 : decode cX3_test 41 = .ok (.aload_n 0, 1) := by decide +kernel
theorem dX3_test_42 : decode cX3_test 42 = .ok (.getfield 31, 3) := by decide +kernel
theorem dX3_test_45 : decode cX3_test 45 = .ok (.getfield 146, 3) := by decide +kernel
theorem dX3_test_48 : decode cX3_test 48 = .ok (.bipush 60, 2) := by decide +kernel
theorem dX3_test_50 : decode cX3_test 50 = .ok (.if_icmp .ge 18, 3) := by decide +kernel
theorem dX3_test_53 : decode cX3_test 53 = .ok (.iload_n 1, 1) := by decide +kernel
theorem dX3_test_54 : decode cX3_test 54 = .ok (.iconst 1, 1) := by decide +kernel
theorem dX3_test_55 : decode cX3_test 55 = .ok (.if_icmp .ne 23, 3) := by decide +kernel
theorem dX3_test_58 : decode cX3_test 58 = .ok (.aload_n 0, 1) := by decide +kernel
theorem dX3_test_59 : decode cX3_test 59 = .ok (.getfield 21, 3) := by decide +kernel
theorem dX3_test_62 : decode cX3_test 62 = .ok (.getfield 123, 3) := by decide +kernel
theorem dX3_test_65 : decode cX3_test 65 = .ok (.ifCond .ne 13, 3) := by decide +kernel
theorem dX3_test_68 : decode cX3_test 68 = .ok (.new 58, 3) := by decide +kernel
theorem dX3_test_71 : decode cX3_test 71 = .ok (.dup, 1) := by decide +kernel
theorem dX3_test_72 : decode cX3_test 72 = .ok (.ldc 149, 2) := by decide +kernel
theorem dX3_test_74 : decode cX3_test 74 = .ok (.invokespecial 62, 3) := by decide +kernel
theorem dX3_test_77 : decode cX3_test 77 = .ok (.athrow, 1) := by decide +kernel
theorem dX3_test_78 : decode cX3_test 78 = .ok (.iload_n 2, 1) := by decide +kernel
theorem dX3_test_79 : decode cX3_test 79 = .ok (.iload_n 1, 1) := by decide +kernel
theorem dX3_test_80 : decode cX3_test 80 = .ok (.ifCond .ne 13, 3) := by decide +kernel
theorem dX3_test_83 : decode cX3_test 83 = .ok (.aload_n 0, 1) := by decide +kernel
theorem dX3_test_84 : decode cX3_test 84 = .ok (.getfield 21, 3) := by decide +kernel
theorem dX3_test_87 : decode cX3_test 87 = .ok (.getfield 141, 3) := by decide +kernel
theorem dX3_test_90 : decode cX3_test 90 = .ok (.goto 7, 3) := by decide +kernel
theorem dX3_test_93 : decode cX3_test 93 = .ok (.aload_n 0, 1) := by decide +kernel
theorem dX3_test_94 : decode cX3_test 94 = .ok (.getfield 132, 3) := by decide +kernel
theorem dX3_test_97 : decode cX3_test 97 = .ok (.if_icmp .gt 7, 3) := by decide +kernel
theorem dX3_test_100 : decode cX3_test 100 = .ok (.iconst 1, 1) := by decide +kernel
theorem dX3_test_101 : decode cX3_test 101 = .ok (.goto 4, 3) := by decide +kernel
theorem dX3_test_104 : decode cX3_test 104 = .ok (.iconst 0, 1) := by decide +kernel
theorem dX3_test_105 : decode cX3_test 105 = .ok (.istore_n 3, 1) := by decide +kernel
theorem dX3_test_106 : decode cX3_test 106 = .ok (.aload_n 0, 1) := by decide +kernel
theorem dX3_test_107 : decode cX3_test 107 = .ok (.getfield 31, 3) := by decide +kernel
theorem dX3_test_110 : decode cX3_test 110 = .ok (.iload_n 1, 1) := by decide +kernel
theorem dX3_test_111 : decode cX3_test 111 = .ok (.iload_n 2, 1) := by decide +kernel
theorem dX3_test_112 : decode cX3_test 112 = .ok (.iload_n 3, 1) := by decide +kernel
theorem dX3_test_113 : decode cX3_test 113 = .ok (.aload_n 0, 1) := by decide +kernel
theorem dX3_test_114 : decode cX3_test 114 = .ok (.getfield 21, 3) := by decide +kernel
theorem dX3_test_117 : decode cX3_test 117 = .ok (.getfield 151, 3) := by decide +kernel
theorem dX3_test_120 : decode cX3_test 120 = .ok (.invokevirtual 154, 3) := by decide +kernel
theorem dX3_test_123 : decode cX3_test 123 = .ok (.iload_n 1, 1) := by decide +kernel
theorem dX3_test_124 : decode cX3_test 124 = .ok (.ifCond .ne 11, 3) := by decide +kernel
theorem dX3_test_127 : decode cX3_test 127 = .ok (.aload_n 0, 1) := by decide +kernel
theorem dX3_test_128 : decode cX3_test 128 = .ok (.getfield 21, 3) := by decide +kernel
theorem dX3_test_131 : decode cX3_test 131 = .ok (.iconst 0, 1) := by decide +kernel
theorem dX3_test_132 : decode cX3_test 132 = .ok (.putfield 158, 3) := by decide +kernel
theorem dX3_test_135 : decode cX3_test 135 = .ok (.iload_n 3, 1) := by decide +kernel
theorem dX3_test_136 : decode cX3_test 136 = .ok (.ireturn, 1) := by decide +kernel
theorem dX3_stop_0 : decode cX3_stop 0 = .ok (.iload_n 1, 1) := by decide +kernel
theorem dX3_stop_1 : decode cX3_stop 1 = .ok (.iconst 0, 1) := by decide +kernel
theorem dX3_stop_2 : decode cX3_stop 2 = .ok (.iconst 5, 1) := by decide +kernel
theorem dX3_stop_3 : decode cX3_stop 3 = .ok (.invokestatic 39, 3) := by decide +kernel
theorem dX3_stop_6 : decode cX3_stop 6 = .ok (.ifCond .ne 13, 3) := by decide +kernel
theorem dX3_stop_9 : decode cX3_stop 9 = .ok (.new 43, 3) := by decide +kernel
theorem dX3_stop_12 : decode cX3_stop 12 = .ok (.dup, 1) := by decide +kernel
theorem dX3_stop_13 : decode cX3_stop 13 = .ok (.ldc 161, 2) := by decide +kernel
theorem dX3_stop_15 : decode cX3_stop 15 = .ok (.invokespecial 47, 3) := by decide +kernel
theorem dX3_stop_18 : decode cX3_stop 18 = .ok (.athrow, 1) := by decide +kernel
theorem dX3_stop_19 : decode cX3_stop 19 = .ok (.iconst 1, 1) := by decide +kernel
theorem dX3_stop_20 : decode cX3_stop 20 = .ok (.iload_n 1, 1) := by decide +kernel
theorem dX3_stop_21 : decode cX3_stop 21 = .ok (.ishl, 1) := by decide +kernel
theorem dX3_stop_22 : decode cX3_stop 22 = .ok (.istore_n 3, 1) := by decide +kernel
theorem dX3_stop_23 : decode cX3_stop 23 = .ok (.aload_n 0, 1) := by decide +kernel
theorem dX3_stop_24 : decode cX3_stop 24 = .ok (.iload_n 2, 1) := by decide +kernel
theorem dX3_stop_25 : decode cX3_stop 25 = .ok (.ifCond .eq 12, 3) := by decide +kernel
theorem dX3_stop_28 : decode cX3_stop 28 = .ok (.aload_n 0, 1) := by decide +kernel
theorem dX3_stop_29 : decode cX3_stop 29 = .ok (.getfield 163, 3) := by decide +kernel
theorem dX3_stop_32 : decode cX3_stop 32 = .ok (.iload_n 3, 1) := by decide +kernel
theorem dX3_stop_33 : decode cX3_stop 33 = .ok (.ior, 1) := by decide +kernel
theorem dX3_stop_34 : decode cX3_stop 34 = .ok (.goto 11, 3) := by decide +kernel
theorem dX3_stop_37 : decode cX3_stop 37 = .ok (.aload_n 0, 1) := by decide +kernel
theorem dX3_stop_38 : decode cX3_stop 38 = .ok (.getfield 163, 3) := by decide +kernel
theorem dX3_stop_41 : decode cX3_stop 41 = .ok (.iload_n 3, 1) := by decide +kernel
theorem dX3_stop_42 : decode cX3_stop 42 = .ok (.iconst (-1), 1) := by decide +kernel
theorem dX3_stop_43 : decode cX3_stop 43 = .ok (.ixor, 1) := by decide +kernel
theorem dX3_stop_44 : decode cX3_stop 44 = .ok (.iand, 1) := by decide +kernel
theorem dX3_stop_45 : decode cX3_stop 45 = .ok (.putfield 163, 3) := by decide +kernel
theorem dX3_stop_48 : decode cX3_stop 48 = .ok (.aload_n 0, 1) := by decide +kernel
theorem dX3_stop_49 : decode cX3_stop 49 = .ok (.getfield 163, 3) := by decide +kernel
theorem dX3_stop_52 : decode cX3_stop 52 = .ok (.invokestatic 166, 3) := by decide +kernel
theorem dX3_stop_55 : decode cX3_stop 55 = .ok (.ireturn, 1) := by decide +kernel
theorem dX3_pressure_0 : decode cX3_pressure 0 = .ok (.iload_n 1, 1) := by decide +kernel
theorem dX3_pressure_1 : decode cX3_pressure 1 = .ok (.tableswitch 115 0 5 #[39, 47, 62, 70, 85, 93], 39) := by decide +kernel
theorem dX3_pressure_40 : decode cX3_pressure 40 = .ok (.aload_n 0, 1) := by decide +kernel
theorem dX3_pressure_41 : decode cX3_pressure 41 = .ok (.getfield 21, 3) := by decide +kernel
theorem dX3_pressure_44 : decode cX3_pressure 44 = .ok (.invokevirtual 171, 3) := by decide +kernel
theorem dX3_pressure_47 : decode cX3_pressure 47 = .ok (.ireturn, 1) := by decide +kernel
theorem dX3_pressure_48 : decode cX3_pressure 48 = .ok (.aload_n 0, 1) := by decide +kernel
theorem dX3_pressure_49 : decode cX3_pressure 49 = .ok (.getfield 10, 3) := by decide +kernel
theorem dX3_pressure_52 : decode cX3_pressure 52 = .ok (.aload_n 0, 1) := by decide +kernel
theorem dX3_pressure_53 : decode cX3_pressure 53 = .ok (.getfield 21, 3) := by decide +kernel
theorem dX3_pressure_56 : decode cX3_pressure 56 = .ok (.getfield 55, 3) := by decide +kernel
theorem dX3_pressure_59 : decode cX3_pressure 59 = .ok (.invokevirtual 174, 3) := by decide +kernel
theorem dX3_pressure_62 : decode cX3_pressure 62 = .ok (.ireturn, 1) := by decide +kernel
theorem dX3_pressure_63 : decode cX3_pressure 63 = .ok (.aload_n 0, 1) := by decide +kernel
theorem dX3_pressure_64 : decode cX3_pressure 64 = .ok (.getfield 21, 3) := by decide +kernel
theorem dX3_pressure_67 : decode cX3_pressure 67 = .ok (.invokevirtual 177, 3) := by decide +kernel
theorem dX3_pressure_70 : decode cX3_pressure 70 = .ok (.ireturn, 1) := by decide +kernel
theorem dX3_pressure_71 : decode cX3_pressure 71 = .ok (.aload_n 0, 1) := by decide +kernel
theorem dX3_pressure_72 : decode cX3_pressure 72 = .ok (.getfield 10, 3) := by decide +kernel
theorem dX3_pressure_75 : decode cX3_pressure 75 = .ok (.aload_n 0, 1) := by decide +kernel
theorem dX3_pressure_76 : decode cX3_pressure 76 = .ok (.getfield 21, 3) := by decide +kernel
theorem dX3_pressure_79 : decode cX3_pressure 79 = .ok (.getfield 123, 3) := by decide +kernel
theorem dX3_pressure_82 : decode cX3_pressure 82 = .ok (.invokevirtual 180, 3) := by decide +kernel
theorem dX3_pressure_85 : decode cX3_pressure 85 = .ok (.ireturn, 1) := by decide +kernel
theorem dX3_pressure_86 : decode cX3_pressure 86 = .ok (.aload_n 0, 1) := by decide +kernel
theorem dX3_pressure_87 : decode cX3_pressure 87 = .ok (.getfield 21, 3) := by decide +kernel
theorem dX3_pressure_90 : decode cX3_pressure 90 = .ok (.getfield 107, 3) := by decide +kernel
theorem dX3_pressure_93 : decode cX3_pressure 93 = .ok (.ireturn, 1) := by decide +kernel
theorem dX3_pressure_94 : decode cX3_pressure 94 = .ok (.aload_n 0, 1) := by decide +kernel
theorem dX3_pressure_95 : decode cX3_pressure 95 = .ok (.getfield 21, 3) := by decide +kernel
theorem dX3_pressure_98 : decode cX3_pressure 98 = .ok (.invokevirtual 183, 3) := by decide +kernel
theorem dX3_pressure_101 : decode cX3_pressure 101 = .ok (.ifCond .eq 13, 3) := by decide +kernel
theorem dX3_pressure_104 : decode cX3_pressure 104 = .ok (.aload_n 0, 1) := by decide +kernel
theorem dX3_pressure_105 : decode cX3_pressure 105 = .ok (.getfield 21, 3) := by decide +kernel
theorem dX3_pressure_108 : decode cX3_pressure 108 = .ok (.invokevirtual 186, 3) := by decide +kernel
theorem dX3_pressure_111 : decode cX3_pressure 111 = .ok (.goto 4, 3) := by decide +kernel
theorem dX3_pressure_114 : decode cX3_pressure 114 = .ok (.iconst 0, 1) := by decide +kernel
theorem dX3_pressure_115 : decode cX3_pressure 115 = .ok (.ireturn, 1) := by decide +kernel
theorem dX3_pressure_116 : decode cX3_pressure 116 = .ok (.new 50, 3) := by decide +kernel
theorem dX3_pressure_119 : decode cX3_pressure 119 = .ok (.dup, 1) := by decide +kernel
theorem dX3_pressure_120 : decode cX3_pressure 120 = .ok (.ldc 189, 2) := by decide +kernel
theorem dX3_pressure_122 : decode cX3_pressure 122 = .ok (.invokespecial 54, 3) := by decide +kernel
theorem dX3_pressure_125 : decode cX3_pressure 125 = .ok (.athrow, 1) := by decide +kernel
theorem dX3_of_0 : decode cX3_of 0 = .ok (.iload_n 1, 1) := by decide +kernel
theorem dX3_of_1 : decode cX3_of 1 = .ok (.tableswitch 187 0 11 #[63, 72, 81, 90, 106, 115, 124, 149, 158, 166, 175, 181], 63) := by decide +kernel
theorem dX3_of_64 : decode cX3_of 64 = .ok (.aload_n 0, 1) := by decide +kernel
theorem dX3_of_65 : decode cX3_of 65 = .ok (.getfield 21, 3) := by decide +kernel
theorem dX3_of_68 : decode cX3_of 68 = .ok (.getfield 55, 3) := by decide +kernel
theorem dX3_of_71 : decode cX3_of 71 = .ok (.i2l, 1) := by decide +kernel
theorem dX3_of_72 : decode cX3_of 72 = .ok (.lreturn, 1) := by decide +kernel
theorem dX3_of_73 : decode cX3_of 73 = .ok (.aload_n 0, 1) := by decide +kernel
theorem dX3_of_74 : decode cX3_of 74 = .ok (.getfield 21, 3) := by decide +kernel
theorem dX3_of_77 : decode cX3_of 77 = .ok (.getfield 123, 3) := by decide +kernel
theorem dX3_of_80 : decode cX3_of 80 = .ok (.i2l, 1) := by decide +kernel
theorem dX3_of_81 : decode cX3_of 81 = .ok (.lreturn, 1) := by decide +kernel
theorem dX3_of_82 : decode cX3_of 82 = .ok (.aload_n 0, 1) := by decide +kernel
theorem dX3_of_83 : decode cX3_of 83 = .ok (.getfield 21, 3) := by decide +kernel
theorem dX3_of_86 : decode cX3_of 86 = .ok (.getfield 75, 3) := by decide +kernel
theorem dX3_of_89 : decode cX3_of 89 = .ok (.i2l, 1) := by decide +kernel
theorem dX3_of_90 : decode cX3_of 90 = .ok (.lreturn, 1) := by decide +kernel
theorem dX3_of_91 : decode cX3_of 91 = .ok (.aload_n 0, 1) := by decide +kernel
theorem dX3_of_92 : decode cX3_of 92 = .ok (.getfield 21, 3) := by decide +kernel
theorem dX3_of_95 : decode cX3_of 95 = .ok (.getfield 69, 3) := by decide +kernel
theorem dX3_of_98 : decode cX3_of 98 = .ok (.ifCond .eq 7, 3) := by decide +kernel
theorem dX3_of_101 : decode cX3_of 101 = .ok (.lconst 1, 1) := by decide +kernel
theorem dX3_of_102 : decode cX3_of 102 = .ok (.goto 4, 3) := by decide +kernel
theorem dX3_of_105 : decode cX3_of 105 = .ok (.lconst 0, 1) := by decide +kernel
theorem dX3_of_106 : decode cX3_of 106 = .ok (.lreturn, 1) := by decide +kernel
theorem dX3_of_107 : decode cX3_of 107 = .ok (.aload_n 0, 1) := by decide +kernel
theorem dX3_of_108 : decode cX3_of 108 = .ok (.getfield 21, 3) := by decide +kernel
theorem dX3_of_111 : decode cX3_of 111 = .ok (.getfield 151, 3) := by decide +kernel
theorem dX3_of_114 : decode cX3_of 114 = .ok (.i2l, 1) := by decide +kernel
theorem dX3_of_115 : decode cX3_of 115 = .ok (.lreturn, 1) := by decide +kernel
theorem dX3_of_116 : decode cX3_of 116 = .ok (.aload_n 0, 1) := by decide +kernel
theorem dX3_of_117 : decode cX3_of 117 = .ok (.getfield 21, 3) := by decide +kernel
theorem dX3_of_120 : decode cX3_of 120 = .ok (.getfield 191, 3) := by decide +kernel
theorem dX3_of_123 : decode cX3_of 123 = .ok (.i2l, 1) := by decide +kernel
theorem dX3_of_124 : decode cX3_of 124 = .ok (.lreturn, 1) := by decide +kernel
theorem dX3_of_125 : decode cX3_of 125 = .ok (.aload_n 0, 1) := by decide +kernel
theorem dX3_of_126 : decode cX3_of 126 = .ok (.getfield 21, 3) := by decide +kernel
theorem dX3_of_129 : decode cX3_of 129 = .ok (.invokevirtual 183, 3) := by decide +kernel
theorem dX3_of_132 : decode cX3_of 132 = .ok (.ifCond .eq 14, 3) := by decide +kernel
theorem dX3_of_135 : decode cX3_of 135 = .ok (.aload_n 0, 1) := by decide +kernel
theorem dX3_of_136 : decode cX3_of 136 = .ok (.getfield 21, 3) := by decide +kernel
theorem dX3_of_139 : decode cX3_of 139 = .ok (.getfield 194, 3) := by decide +kernel
theorem dX3_of_142 : decode cX3_of 142 = .ok (.i2l, 1) := by decide +kernel
theorem dX3_of_143 : decode cX3_of 143 = .ok (.goto 6, 3) := by decide +kernel
theorem dX3_of_146 : decode cX3_of 146 = .ok (.ldc2_w 197, 3) := by decide +kernel
theorem dX3_of_149 : decode cX3_of 149 = .ok (.lreturn, 1) := by decide +kernel
theorem dX3_of_150 : decode cX3_of 150 = .ok (.aload_n 0, 1) := by decide +kernel
theorem dX3_of_151 : decode cX3_of 151 = .ok (.getfield 21, 3) := by decide +kernel
theorem dX3_of_154 : decode cX3_of 154 = .ok (.getfield 118, 3) := by decide +kernel
theorem dX3_of_157 : decode cX3_of 157 = .ok (.i2l, 1) := by decide +kernel
theorem dX3_of_158 : decode cX3_of 158 = .ok (.lreturn, 1) := by decide +kernel
theorem dX3_of_159 : decode cX3_of 159 = .ok (.aload_n 0, 1) := by decide +kernel
theorem dX3_of_160 : decode cX3_of 160 = .ok (.getfield 21, 3) := by decide +kernel
theorem dX3_of_163 : decode cX3_of 163 = .ok (.getfield 199, 3) := by decide +kernel
theorem dX3_of_166 : decode cX3_of 166 = .ok (.lreturn, 1) := by decide +kernel
theorem dX3_of_167 : decode cX3_of 167 = .ok (.aload_n 0, 1) := by decide +kernel
theorem dX3_of_168 : decode cX3_of 168 = .ok (.getfield 21, 3) := by decide +kernel
theorem dX3_of_171 : decode cX3_of 171 = .ok (.getfield 203, 3) := by decide +kernel
theorem dX3_of_174 : decode cX3_of 174 = .ok (.i2l, 1) := by decide +kernel
theorem dX3_of_175 : decode cX3_of 175 = .ok (.lreturn, 1) := by decide +kernel
theorem dX3_of_176 : decode cX3_of 176 = .ok (.aload_n 0, 1) := by decide +kernel
theorem dX3_of_177 : decode cX3_of 177 = .ok (.getfield 78, 3) := by decide +kernel
theorem dX3_of_180 : decode cX3_of 180 = .ok (.i2l, 1) := by decide +kernel
theorem dX3_of_181 : decode cX3_of 181 = .ok (.lreturn, 1) := by decide +kernel
theorem dX3_of_182 : decode cX3_of 182 = .ok (.aload_n 0, 1) := by decide +kernel
theorem dX3_of_183 : decode cX3_of 183 = .ok (.getfield 132, 3) := by decide +kernel
theorem dX3_of_186 : decode cX3_of 186 = .ok (.i2l, 1) := by decide +kernel
theorem dX3_of_187 : decode cX3_of 187 = .ok (.lreturn, 1) := by decide +kernel
theorem dX3_of_188 : decode cX3_of 188 = .ok (.new 50, 3) := by decide +kernel
theorem dX3_of_191 : decode cX3_of 191 = .ok (.dup, 1) := by decide +kernel
theorem dX3_of_192 : decode cX3_of 192 = .ok (.ldc 189, 2) := by decide +kernel
theorem dX3_of_194 : decode cX3_of 194 = .ok (.invokespecial 54, 3) := by decide +kernel
theorem dX3_of_197 : decode cX3_of 197 = .ok (.athrow, 1) := by decide +kernel
theorem dX3_barriers_0 : decode cX3_barriers 0 = .ok (.aload_n 0, 1) := by decide +kernel
theorem dX3_barriers_1 : decode cX3_barriers 1 = .ok (.invokevirtual 206, 3) := by decide +kernel
theorem dX3_barriers_4 : decode cX3_barriers 4 = .ok (.ifCond .eq 7, 3) := by decide +kernel
theorem dX3_barriers_7 : decode cX3_barriers 7 = .ok (.iconst 1, 1) := by decide +kernel
theorem dX3_barriers_8 : decode cX3_barriers 8 = .ok (.goto 4, 3) := by decide +kernel
theorem dX3_barriers_11 : decode cX3_barriers 11 = .ok (.iconst 0, 1) := by decide +kernel
theorem dX3_barriers_12 : decode cX3_barriers 12 = .ok (.aload_n 0, 1) := by decide +kernel
theorem dX3_barriers_13 : decode cX3_barriers 13 = .ok (.invokevirtual 209, 3) := by decide +kernel
theorem dX3_barriers_16 : decode cX3_barriers 16 = .ok (.ifCond .eq 7, 3) := by decide +kernel
theorem dX3_barriers_19 : decode cX3_barriers 19 = .ok (.iconst 2, 1) := by decide +kernel
theorem dX3_barriers_20 : decode cX3_barriers 20 = .ok (.goto 4, 3) := by decide +kernel
theorem dX3_barriers_23 : decode cX3_barriers 23 = .ok (.iconst 0, 1) := by decide +kernel
theorem dX3_barriers_24 : decode cX3_barriers 24 = .ok (.iadd, 1) := by decide +kernel
theorem dX3_barriers_25 : decode cX3_barriers 25 = .ok (.aload_n 0, 1) := by decide +kernel
theorem dX3_barriers_26 : decode cX3_barriers 26 = .ok (.invokevirtual 212, 3) := by decide +kernel
theorem dX3_barriers_29 : decode cX3_barriers 29 = .ok (.ifCond .eq 7, 3) := by decide +kernel
theorem dX3_barriers_32 : decode cX3_barriers 32 = .ok (.iconst 4, 1) := by decide +kernel
theorem dX3_barriers_33 : decode cX3_barriers 33 = .ok (.goto 4, 3) := by decide +kernel
theorem dX3_barriers_36 : decode cX3_barriers 36 = .ok (.iconst 0, 1) := by decide +kernel
theorem dX3_barriers_37 : decode cX3_barriers 37 = .ok (.iadd, 1) := by decide +kernel
theorem dX3_barriers_38 : decode cX3_barriers 38 = .ok (.ireturn, 1) := by decide +kernel
theorem dX3_bars_0 : decode cX3_bars 0 = .ok (.aload_n 0, 1) := by decide +kernel
theorem dX3_bars_1 : decode cX3_bars 1 = .ok (.getfield 163, 3) := by decide +kernel
theorem dX3_bars_4 : decode cX3_bars 4 = .ok (.ifCond .eq 5, 3) := by decide +kernel
theorem dX3_bars_7 : decode cX3_bars 7 = .ok (.iconst 1, 1) := by decide +kernel
theorem dX3_bars_8 : decode cX3_bars 8 = .ok (.ireturn, 1) := by decide +kernel
theorem dX3_bars_9 : decode cX3_bars 9 = .ok (.aload_n 0, 1) := by decide +kernel
theorem dX3_bars_10 : decode cX3_bars 10 = .ok (.getfield 21, 3) := by decide +kernel
theorem dX3_bars_13 : decode cX3_bars 13 = .ok (.getfield 69, 3) := by decide +kernel
theorem dX3_bars_16 : decode cX3_bars 16 = .ok (.ifCond .eq 5, 3) := by decide +kernel
theorem dX3_bars_19 : decode cX3_bars 19 = .ok (.iconst 2, 1) := by decide +kernel
theorem dX3_bars_20 : decode cX3_bars 20 = .ok (.ireturn, 1) := by decide +kernel
theorem dX3_bars_21 : decode cX3_bars 21 = .ok (.aload_n 0, 1) := by decide +kernel
theorem dX3_bars_22 : decode cX3_bars 22 = .ok (.getfield 21, 3) := by decide +kernel
theorem dX3_bars_25 : decode cX3_bars 25 = .ok (.invokevirtual 126, 3) := by decide +kernel
theorem dX3_bars_28 : decode cX3_bars 28 = .ok (.ifCond .eq 5, 3) := by decide +kernel
theorem dX3_bars_31 : decode cX3_bars 31 = .ok (.iconst 3, 1) := by decide +kernel
theorem dX3_bars_32 : decode cX3_bars 32 = .ok (.ireturn, 1) := by decide +kernel
theorem dX3_bars_33 : decode cX3_bars 33 = .ok (.aload_n 0, 1) := by decide +kernel
theorem dX3_bars_34 : decode cX3_bars 34 = .ok (.invokevirtual 215, 3) := by decide +kernel
theorem dX3_bars_37 : decode cX3_bars 37 = .ok (.invokestatic 166, 3) := by decide +kernel
theorem dX3_bars_40 : decode cX3_bars 40 = .ok (.iconst 2, 1) := by decide +kernel
theorem dX3_bars_41 : decode cX3_bars 41 = .ok (.if_icmp .ge 5, 3) := by decide +kernel
theorem dX3_bars_44 : decode cX3_bars 44 = .ok (.iconst 4, 1) := by decide +kernel
theorem dX3_bars_45 : decode cX3_bars 45 = .ok (.ireturn, 1) := by decide +kernel
theorem dX3_bars_46 : decode cX3_bars 46 = .ok (.aload_n 0, 1) := by decide +kernel
theorem dX3_bars_47 : decode cX3_bars 47 = .ok (.getfield 21, 3) := by decide +kernel
theorem dX3_bars_50 : decode cX3_bars 50 = .ok (.getfield 55, 3) := by decide +kernel
theorem dX3_bars_53 : decode cX3_bars 53 = .ok (.sipush 5000, 3) := by decide +kernel
theorem dX3_bars_56 : decode cX3_bars 56 = .ok (.if_icmp .lt 7, 3) := by decide +kernel
theorem dX3_bars_59 : decode cX3_bars 59 = .ok (.iconst 5, 1) := by decide +kernel
theorem dX3_bars_60 : decode cX3_bars 60 = .ok (.goto 4, 3) := by decide +kernel
theorem dX3_bars_63 : decode cX3_bars 63 = .ok (.iconst 0, 1) := by decide +kernel
theorem dX3_bars_64 : decode cX3_bars 64 = .ok (.ireturn, 1) := by decide +kernel
theorem dX3_ofTest_0 : decode cX3_ofTest 0 = .ok (.iload_n 1, 1) := by decide +kernel
theorem dX3_ofTest_1 : decode cX3_ofTest 1 = .ok (.iconst 0, 1) := by decide +kernel
theorem dX3_ofTest_2 : decode cX3_ofTest 2 = .ok (.aload_n 0, 1) := by decide +kernel
theorem dX3_ofTest_3 : decode cX3_ofTest 3 = .ok (.getfield 31, 3) := by decide +kernel
theorem dX3_ofTest_6 : decode cX3_ofTest 6 = .ok (.getfield 146, 3) := by decide +kernel
theorem dX3_ofTest_9 : decode cX3_ofTest 9 = .ok (.iconst 1, 1) := by decide +kernel
theorem dX3_ofTest_10 : decode cX3_ofTest 10 = .ok (.isub, 1) := by decide +kernel
theorem dX3_ofTest_11 : decode cX3_ofTest 11 = .ok (.invokestatic 39, 3) := by decide +kernel
theorem dX3_ofTest_14 : decode cX3_ofTest 14 = .ok (.ifCond .ne 13, 3) := by decide +kernel
theorem dX3_ofTest_17 : decode cX3_ofTest 17 = .ok (.new 43, 3) := by decide +kernel
theorem dX3_ofTest_20 : decode cX3_ofTest 20 = .ok (.dup, 1) := by decide +kernel
theorem dX3_ofTest_21 : decode cX3_ofTest 21 = .ok (.ldc 218, 2) := by decide +kernel
theorem dX3_ofTest_23 : decode cX3_ofTest 23 = .ok (.invokespecial 47, 3) := by decide +kernel
theorem dX3_ofTest_26 : decode cX3_ofTest 26 = .ok (.athrow, 1) := by decide +kernel
theorem dX3_ofTest_27 : decode cX3_ofTest 27 = .ok (.iload_n 2, 1) := by decide +kernel
theorem dX3_ofTest_28 : decode cX3_ofTest 28 = .ok (.tableswitch 80 0 3 #[32, 44, 56, 68], 32) := by decide +kernel
theorem dX3_ofTest_60 : decode cX3_ofTest 60 = .ok (.aload_n 0, 1) := by decide +kernel
theorem dX3_ofTest_61 : decode cX3_ofTest 61 = .ok (.getfield 31, 3) := by decide +kernel
theorem dX3_ofTest_64 : decode cX3_ofTest 64 = .ok (.getfield 220, 3) := by decide +kernel
theorem dX3_ofTest_67 : decode cX3_ofTest 67 = .ok (.iload_n 1, 1) := by decide +kernel
theorem dX3_ofTest_68 : decode cX3_ofTest 68 = .ok (.invokestatic 224, 3) := by decide +kernel
theorem dX3_ofTest_71 : decode cX3_ofTest 71 = .ok (.ireturn, 1) := by decide +kernel
theorem dX3_ofTest_72 : decode cX3_ofTest 72 = .ok (.aload_n 0, 1) := by decide +kernel
theorem dX3_ofTest_73 : decode cX3_ofTest 73 = .ok (.getfield 31, 3) := by decide +kernel
theorem dX3_ofTest_76 : decode cX3_ofTest 76 = .ok (.getfield 228, 3) := by decide +kernel
theorem dX3_ofTest_79 : decode cX3_ofTest 79 = .ok (.iload_n 1, 1) := by decide +kernel
theorem dX3_ofTest_80 : decode cX3_ofTest 80 = .ok (.invokestatic 224, 3) := by decide +kernel
theorem dX3_ofTest_83 : decode cX3_ofTest 83 = .ok (.ireturn, 1) := by decide +kernel
theorem dX3_ofTest_84 : decode cX3_ofTest 84 = .ok (.aload_n 0, 1) := by decide +kernel
theorem dX3_ofTest_85 : decode cX3_ofTest 85 = .ok (.getfield 31, 3) := by decide +kernel
theorem dX3_ofTest_88 : decode cX3_ofTest 88 = .ok (.getfield 231, 3) := by decide +kernel
theorem dX3_ofTest_91 : decode cX3_ofTest 91 = .ok (.iload_n 1, 1) := by decide +kernel
theorem dX3_ofTest_92 : decode cX3_ofTest 92 = .ok (.invokestatic 224, 3) := by decide +kernel
theorem dX3_ofTest_95 : decode cX3_ofTest 95 = .ok (.ireturn, 1) := by decide +kernel
theorem dX3_ofTest_96 : decode cX3_ofTest 96 = .ok (.aload_n 0, 1) := by decide +kernel
theorem dX3_ofTest_97 : decode cX3_ofTest 97 = .ok (.getfield 31, 3) := by decide +kernel
theorem dX3_ofTest_100 : decode cX3_ofTest 100 = .ok (.getfield 234, 3) := by decide +kernel
theorem dX3_ofTest_103 : decode cX3_ofTest 103 = .ok (.iload_n 1, 1) := by decide +kernel
theorem dX3_ofTest_104 : decode cX3_ofTest 104 = .ok (.invokestatic 224, 3) := by decide +kernel
theorem dX3_ofTest_107 : decode cX3_ofTest 107 = .ok (.ireturn, 1) := by decide +kernel
theorem dX3_ofTest_108 : decode cX3_ofTest 108 = .ok (.new 50, 3) := by decide +kernel
theorem dX3_ofTest_111 : decode cX3_ofTest 111 = .ok (.dup, 1) := by decide +kernel
theorem dX3_ofTest_112 : decode cX3_ofTest 112 = .ok (.ldc 189, 2) := by decide +kernel
theorem dX3_ofTest_114 : decode cX3_ofTest 114 = .ok (.invokespecial 54, 3) := by decide +kernel
theorem dX3_ofTest_117 : decode cX3_ofTest 117 = .ok (.athrow, 1) := by decide +kernel
theorem dX3_killWeight_0 : decode cX3_killWeight 0 = .ok (.aload_n 0, 1) := by decide +kernel
theorem dX3_killWeight_1 : decode cX3_killWeight 1 = .ok (.getfield 21, 3) := by decide +kernel
theorem dX3_killWeight_4 : decode cX3_killWeight 4 = .ok (.getfield 55, 3) := by decide +kernel
theorem dX3_killWeight_7 : decode cX3_killWeight 7 = .ok (.istore_n 1, 1) := by decide +kernel
theorem dX3_killWeight_8 : decode cX3_killWeight 8 = .ok (.iload_n 1, 1) := by decide +kernel
theorem dX3_killWeight_9 : decode cX3_killWeight 9 = .ok (.ifCond .gt 13, 3) := by decide +kernel
theorem dX3_killWeight_12 : decode cX3_killWeight 12 = .ok (.new 58, 3) := by decide +kernel
theorem dX3_killWeight_15 : decode cX3_killWeight 15 = .ok (.dup, 1) := by decide +kernel
theorem dX3_killWeight_16 : decode cX3_killWeight 16 = .ok (.ldc 236, 2) := by decide +kernel
theorem dX3_killWeight_18 : decode cX3_killWeight 18 = .ok (.invokespecial 62, 3) := by decide +kernel
theorem dX3_killWeight_21 : decode cX3_killWeight 21 = .ok (.athrow, 1) := by decide +kernel
theorem dX3_killWeight_22 : decode cX3_killWeight 22 = .ok (.bipush 10, 2) := by decide +kernel
theorem dX3_killWeight_24 : decode cX3_killWeight 24 = .ok (.aload_n 0, 1) := by decide +kernel
theorem dX3_killWeight_25 : decode cX3_killWeight 25 = .ok (.getfield 10, 3) := by decide +kernel
theorem dX3_killWeight_28 : decode cX3_killWeight 28 = .ok (.iload_n 1, 1) := by decide +kernel
theorem dX3_killWeight_29 : decode cX3_killWeight 29 = .ok (.invokevirtual 174, 3) := by decide +kernel
theorem dX3_killWeight_32 : decode cX3_killWeight 32 = .ok (.imul, 1) := by decide +kernel
theorem dX3_killWeight_33 : decode cX3_killWeight 33 = .ok (.iload_n 1, 1) := by decide +kernel
theorem dX3_killWeight_34 : decode cX3_killWeight 34 = .ok (.iadd, 1) := by decide +kernel
theorem dX3_killWeight_35 : decode cX3_killWeight 35 = .ok (.iconst 1, 1) := by decide +kernel
theorem dX3_killWeight_36 : decode cX3_killWeight 36 = .ok (.isub, 1) := by decide +kernel
theorem dX3_killWeight_37 : decode cX3_killWeight 37 = .ok (.iload_n 1, 1) := by decide +kernel
theorem dX3_killWeight_38 : decode cX3_killWeight 38 = .ok (.idiv, 1) := by decide +kernel
theorem dX3_killWeight_39 : decode cX3_killWeight 39 = .ok (.ireturn, 1) := by decide +kernel
theorem dX3_window_0 : decode cX3_window 0 = .ok (.iload_n 1, 1) := by decide +kernel
theorem dX3_window_1 : decode cX3_window 1 = .ok (.iconst 0, 1) := by decide +kernel
theorem dX3_window_2 : decode cX3_window 2 = .ok (.sipush 4999, 3) := by decide +kernel
theorem dX3_window_5 : decode cX3_window 5 = .ok (.invokestatic 39, 3) := by decide +kernel
theorem dX3_window_8 : decode cX3_window 8 = .ok (.ifCond .eq 16, 3) := by decide +kernel
theorem dX3_window_11 : decode cX3_window 11 = .ok (.iload_n 2, 1) := by decide +kernel
theorem dX3_window_12 : decode cX3_window 12 = .ok (.iload_n 1, 1) := by decide +kernel
theorem dX3_window_13 : decode cX3_window 13 = .ok (.iconst 1, 1) := by decide +kernel
theorem dX3_window_14 : decode cX3_window 14 = .ok (.iadd, 1) := by decide +kernel
theorem dX3_window_15 : decode cX3_window 15 = .ok (.sipush 5000, 3) := by decide +kernel
theorem dX3_window_18 : decode cX3_window 18 = .ok (.invokestatic 39, 3) := by decide +kernel
theorem dX3_window_21 : decode cX3_window 21 = .ok (.ifCond .ne 13, 3) := by decide +kernel
theorem dX3_window_24 : decode cX3_window 24 = .ok (.new 50, 3) := by decide +kernel
theorem dX3_window_27 : decode cX3_window 27 = .ok (.dup, 1) := by decide +kernel
theorem dX3_window_28 : decode cX3_window 28 = .ok (.ldc 238, 2) := by decide +kernel
theorem dX3_window_30 : decode cX3_window 30 = .ok (.invokespecial 54, 3) := by decide +kernel
theorem dX3_window_33 : decode cX3_window 33 = .ok (.athrow, 1) := by decide +kernel
theorem dX3_window_34 : decode cX3_window 34 = .ok (.iload_n 1, 1) := by decide +kernel
theorem dX3_window_35 : decode cX3_window 35 = .ok (.iconst 1, 1) := by decide +kernel
theorem dX3_window_36 : decode cX3_window 36 = .ok (.iadd, 1) := by decide +kernel
theorem dX3_window_37 : decode cX3_window 37 = .ok (.invokestatic 240, 3) := by decide +kernel
theorem dX3_window_40 : decode cX3_window 40 = .ok (.istore 4, 2) := by decide +kernel
theorem dX3_window_42 : decode cX3_window 42 = .ok (.iload_n 2, 1) := by decide +kernel
theorem dX3_window_43 : decode cX3_window 43 = .ok (.invokestatic 240, 3) := by decide +kernel
theorem dX3_window_46 : decode cX3_window 46 = .ok (.istore 5, 2) := by decide +kernel
theorem dX3_window_48 : decode cX3_window 48 = .ok (.iload_n 3, 1) := by decide +kernel
theorem dX3_window_49 : decode cX3_window 49 = .ok (.ifCond .eq 17, 3) := by decide +kernel
theorem dX3_window_52 : decode cX3_window 52 = .ok (.aload_n 0, 1) := by decide +kernel
theorem dX3_window_53 : decode cX3_window 53 = .ok (.getfield 10, 3) := by decide +kernel
theorem dX3_window_56 : decode cX3_window 56 = .ok (.iload 4, 2) := by decide +kernel
theorem dX3_window_58 : decode cX3_window 58 = .ok (.iload 5, 2) := by decide +kernel
theorem dX3_window_60 : decode cX3_window 60 = .ok (.invokevirtual 243, 3) := by decide +kernel
theorem dX3_window_63 : decode cX3_window 63 = .ok (.goto 14, 3) := by decide +kernel
theorem dX3_window_66 : decode cX3_window 66 = .ok (.aload_n 0, 1) := by decide +kernel
theorem dX3_window_67 : decode cX3_window 67 = .ok (.getfield 10, 3) := by decide +kernel
theorem dX3_window_70 : decode cX3_window 70 = .ok (.iload 4, 2) := by decide +kernel
theorem dX3_window_72 : decode cX3_window 72 = .ok (.iload 5, 2) := by decide +kernel
theorem dX3_window_74 : decode cX3_window 74 = .ok (.invokevirtual 247, 3) := by decide +kernel
theorem dX3_window_77 : decode cX3_window 77 = .ok (.ireturn, 1) := by decide +kernel
theorem dX3_casings_0 : decode cX3_casings 0 = .ok (.iload_n 1, 1) := by decide +kernel
theorem dX3_casings_1 : decode cX3_casings 1 = .ok (.iconst 1, 1) := by decide +kernel
theorem dX3_casings_2 : decode cX3_casings 2 = .ok (.sipush 5000, 3) := by decide +kernel
theorem dX3_casings_5 : decode cX3_casings 5 = .ok (.invokestatic 39, 3) := by decide +kernel
theorem dX3_casings_8 : decode cX3_casings 8 = .ok (.ifCond .ne 13, 3) := by decide +kernel
theorem dX3_casings_11 : decode cX3_casings 11 = .ok (.new 50, 3) := by decide +kernel
theorem dX3_casings_14 : decode cX3_casings 14 = .ok (.dup, 1) := by decide +kernel
theorem dX3_casings_15 : decode cX3_casings 15 = .ok (.ldc 250, 2) := by decide +kernel
theorem dX3_casings_17 : decode cX3_casings 17 = .ok (.invokespecial 54, 3) := by decide +kernel
theorem dX3_casings_20 : decode cX3_casings 20 = .ok (.athrow, 1) := by decide +kernel
theorem dX3_casings_21 : decode cX3_casings 21 = .ok (.aload_n 0, 1) := by decide +kernel
theorem dX3_casings_22 : decode cX3_casings 22 = .ok (.getfield 10, 3) := by decide +kernel
theorem dX3_casings_25 : decode cX3_casings 25 = .ok (.iload_n 1, 1) := by decide +kernel
theorem dX3_casings_26 : decode cX3_casings 26 = .ok (.invokestatic 240, 3) := by decide +kernel
theorem dX3_casings_29 : decode cX3_casings 29 = .ok (.invokevirtual 252, 3) := by decide +kernel
theorem dX3_casings_32 : decode cX3_casings 32 = .ok (.ireturn, 1) := by decide +kernel
theorem dX3_casingsAnew_0 : decode cX3_casingsAnew 0 = .ok (.iload_n 1, 1) := by decide +kernel
theorem dX3_casingsAnew_1 : decode cX3_casingsAnew 1 = .ok (.iconst 1, 1) := by decide +kernel
theorem dX3_casingsAnew_2 : decode cX3_casingsAnew 2 = .ok (.sipush 5000, 3) := by decide +kernel
theorem dX3_casingsAnew_5 : decode cX3_casingsAnew 5 = .ok (.invokestatic 39, 3) := by decide +kernel
theorem dX3_casingsAnew_8 : decode cX3_casingsAnew 8 = .ok (.ifCond .ne 13, 3) := by decide +kernel
theorem dX3_casingsAnew_11 : decode cX3_casingsAnew 11 = .ok (.new 50, 3) := by decide +kernel
theorem dX3_casingsAnew_14 : decode cX3_casingsAnew 14 = .ok (.dup, 1) := by decide +kernel
theorem dX3_casingsAnew_15 : decode cX3_casingsAnew 15 = .ok (.ldc 250, 2) := by decide +kernel
theorem dX3_casingsAnew_17 : decode cX3_casingsAnew 17 = .ok (.invokespecial 54, 3) := by decide +kernel
theorem dX3_casingsAnew_20 : decode cX3_casingsAnew 20 = .ok (.athrow, 1) := by decide +kernel
theorem dX3_casingsAnew_21 : decode cX3_casingsAnew 21 = .ok (.aload_n 0, 1) := by decide +kernel
theorem dX3_casingsAnew_22 : decode cX3_casingsAnew 22 = .ok (.getfield 10, 3) := by decide +kernel
theorem dX3_casingsAnew_25 : decode cX3_casingsAnew 25 = .ok (.iload_n 1, 1) := by decide +kernel
theorem dX3_casingsAnew_26 : decode cX3_casingsAnew 26 = .ok (.invokestatic 240, 3) := by decide +kernel
theorem dX3_casingsAnew_29 : decode cX3_casingsAnew 29 = .ok (.invokevirtual 255, 3) := by decide +kernel
theorem dX3_casingsAnew_32 : decode cX3_casingsAnew 32 = .ok (.ireturn, 1) := by decide +kernel
theorem dX3_equivalent_0 : decode cX3_equivalent 0 = .ok (.aload_n 0, 1) := by decide +kernel
theorem dX3_equivalent_1 : decode cX3_equivalent 1 = .ok (.getfield 21, 3) := by decide +kernel
theorem dX3_equivalent_4 : decode cX3_equivalent 4 = .ok (.getfield 123, 3) := by decide +kernel
theorem dX3_equivalent_7 : decode cX3_equivalent 7 = .ok (.istore_n 1, 1) := by decide +kernel
theorem dX3_equivalent_8 : decode cX3_equivalent 8 = .ok (.iload_n 1, 1) := by decide +kernel
theorem dX3_equivalent_9 : decode cX3_equivalent 9 = .ok (.ifCond .gt 14, 3) := by decide +kernel
theorem dX3_equivalent_12 : decode cX3_equivalent 12 = .ok (.new 58, 3) := by decide +kernel
theorem dX3_equivalent_15 : decode cX3_equivalent 15 = .ok (.dup, 1) := by decide +kernel
theorem dX3_equivalent_16 : decode cX3_equivalent 16 = .ok (.ldc_w 258, 3) := by decide +kernel
theorem dX3_equivalent_19 : decode cX3_equivalent 19 = .ok (.invokespecial 62, 3) := by decide +kernel
theorem dX3_equivalent_22 : decode cX3_equivalent 22 = .ok (.athrow, 1) := by decide +kernel
theorem dX3_equivalent_23 : decode cX3_equivalent 23 = .ok (.bipush 10, 2) := by decide +kernel
theorem dX3_equivalent_25 : decode cX3_equivalent 25 = .ok (.aload_n 0, 1) := by decide +kernel
theorem dX3_equivalent_26 : decode cX3_equivalent 26 = .ok (.getfield 21, 3) := by decide +kernel
theorem dX3_equivalent_29 : decode cX3_equivalent 29 = .ok (.invokevirtual 177, 3) := by decide +kernel
theorem dX3_equivalent_32 : decode cX3_equivalent 32 = .ok (.imul, 1) := by decide +kernel
theorem dX3_equivalent_33 : decode cX3_equivalent 33 = .ok (.i2f, 1) := by decide +kernel
theorem dX3_equivalent_34 : decode cX3_equivalent 34 = .ok (.iload_n 1, 1) := by decide +kernel
theorem dX3_equivalent_35 : decode cX3_equivalent 35 = .ok (.i2f, 1) := by decide +kernel
theorem dX3_equivalent_36 : decode cX3_equivalent 36 = .ok (.fdiv, 1) := by decide +kernel
theorem dX3_equivalent_37 : decode cX3_equivalent 37 = .ok (.freturn, 1) := by decide +kernel
theorem dX3_ahead_0 : decode cX3_ahead 0 = .ok (.iload_n 1, 1) := by decide +kernel
theorem dX3_ahead_1 : decode cX3_ahead 1 = .ok (.iconst 1, 1) := by decide +kernel
theorem dX3_ahead_2 : decode cX3_ahead 2 = .ok (.sipush 2000, 3) := by decide +kernel
theorem dX3_ahead_5 : decode cX3_ahead 5 = .ok (.invokestatic 39, 3) := by decide +kernel
theorem dX3_ahead_8 : decode cX3_ahead 8 = .ok (.ifCond .ne 13, 3) := by decide +kernel
theorem dX3_ahead_11 : decode cX3_ahead 11 = .ok (.new 50, 3) := by decide +kernel
theorem dX3_ahead_14 : decode cX3_ahead 14 = .ok (.dup, 1) := by decide +kernel
theorem dX3_ahead_15 : decode cX3_ahead 15 = .ok (.ldc 97, 2) := by decide +kernel
theorem dX3_ahead_17 : decode cX3_ahead 17 = .ok (.invokespecial 54, 3) := by decide +kernel
theorem dX3_ahead_20 : decode cX3_ahead 20 = .ok (.athrow, 1) := by decide +kernel
theorem dX3_ahead_21 : decode cX3_ahead 21 = .ok (.aload_n 0, 1) := by decide +kernel
theorem dX3_ahead_22 : decode cX3_ahead 22 = .ok (.getfield 25, 3) := by decide +kernel
theorem dX3_ahead_25 : decode cX3_ahead 25 = .ok (.aload_n 0, 1) := by decide +kernel
theorem dX3_ahead_26 : decode cX3_ahead 26 = .ok (.getfield 21, 3) := by decide +kernel
theorem dX3_ahead_29 : decode cX3_ahead 29 = .ok (.invokevirtual 260, 3) := by decide +kernel
theorem dX3_ahead_32 : decode cX3_ahead 32 = .ok (.aload_n 0, 1) := by decide +kernel
theorem dX3_ahead_33 : decode cX3_ahead 33 = .ok (.getfield 25, 3) := by decide +kernel
theorem dX3_ahead_36 : decode cX3_ahead 36 = .ok (.iload_n 1, 1) := by decide +kernel
theorem dX3_ahead_37 : decode cX3_ahead 37 = .ok (.invokevirtual 101, 3) := by decide +kernel
theorem dX3_ahead_40 : decode cX3_ahead 40 = .ok (.ireturn, 1) := by decide +kernel
theorem dX3_hasMinutes_0 : decode cX3_hasMinutes 0 = .ok (.aload_n 0, 1) := by decide +kernel
theorem dX3_hasMinutes_1 : decode cX3_hasMinutes 1 = .ok (.getfield 21, 3) := by decide +kernel
theorem dX3_hasMinutes_4 : decode cX3_hasMinutes 4 = .ok (.getfield 151, 3) := by decide +kernel
theorem dX3_hasMinutes_7 : decode cX3_hasMinutes 7 = .ok (.iload_n 1, 1) := by decide +kernel
theorem dX3_hasMinutes_8 : decode cX3_hasMinutes 8 = .ok (.iadd, 1) := by decide +kernel
theorem dX3_hasMinutes_9 : decode cX3_hasMinutes 9 = .ok (.ldc 138, 2) := by decide +kernel
theorem dX3_hasMinutes_11 : decode cX3_hasMinutes 11 = .ok (.if_icmp .gt 7, 3) := by decide +kernel
theorem dX3_hasMinutes_14 : decode cX3_hasMinutes 14 = .ok (.iconst 1, 1) := by decide +kernel
theorem dX3_hasMinutes_15 : decode cX3_hasMinutes 15 = .ok (.goto 4, 3) := by decide +kernel
theorem dX3_hasMinutes_18 : decode cX3_hasMinutes 18 = .ok (.iconst 0, 1) := by decide +kernel
theorem dX3_hasMinutes_19 : decode cX3_hasMinutes 19 = .ok (.ireturn, 1) := by decide +kernel
theorem dX3_isMudBarrier_0 : decode cX3_isMudBarrier 0 = .ok (.aload_n 0, 1) := by decide +kernel
theorem dX3_isMudBarrier_1 : decode cX3_isMudBarrier 1 = .ok (.getfield 21, 3) := by decide +kernel
theorem dX3_isMudBarrier_4 : decode cX3_isMudBarrier 4 = .ok (.invokevirtual 126, 3) := by decide +kernel
theorem dX3_isMudBarrier_7 : decode cX3_isMudBarrier 7 = .ok (.ifCond .ne 31, 3) := by decide +kernel
theorem dX3_isMudBarrier_10 : decode cX3_isMudBarrier 10 = .ok (.aload_n 0, 1) := by decide +kernel
theorem dX3_isMudBarrier_11 : decode cX3_isMudBarrier 11 = .ok (.getfield 21, 3) := by decide +kernel
theorem dX3_isMudBarrier_14 : decode cX3_isMudBarrier 14 = .ok (.invokevirtual 171, 3) := by decide +kernel
theorem dX3_isMudBarrier_17 : decode cX3_isMudBarrier 17 = .ok (.aload_n 0, 1) := by decide +kernel
theorem dX3_isMudBarrier_18 : decode cX3_isMudBarrier 18 = .ok (.getfield 10, 3) := by decide +kernel
theorem dX3_isMudBarrier_21 : decode cX3_isMudBarrier 21 = .ok (.aload_n 0, 1) := by decide +kernel
theorem dX3_isMudBarrier_22 : decode cX3_isMudBarrier 22 = .ok (.getfield 21, 3) := by decide +kernel
theorem dX3_isMudBarrier_25 : decode cX3_isMudBarrier 25 = .ok (.getfield 55, 3) := by decide +kernel
theorem dX3_isMudBarrier_28 : decode cX3_isMudBarrier 28 = .ok (.invokevirtual 174, 3) := by decide +kernel
theorem dX3_isMudBarrier_31 : decode cX3_isMudBarrier 31 = .ok (.if_icmp .lt 7, 3) := by decide +kernel
theorem dX3_isMudBarrier_34 : decode cX3_isMudBarrier 34 = .ok (.iconst 1, 1) := by decide +kernel
theorem dX3_isMudBarrier_35 : decode cX3_isMudBarrier 35 = .ok (.goto 4, 3) := by decide +kernel
theorem dX3_isMudBarrier_38 : decode cX3_isMudBarrier 38 = .ok (.iconst 0, 1) := by decide +kernel
theorem dX3_isMudBarrier_39 : decode cX3_isMudBarrier 39 = .ok (.ireturn, 1) := by decide +kernel
theorem dX3_isValveBarrier_0 : decode cX3_isValveBarrier 0 = .ok (.aload_n 0, 1) := by decide +kernel
theorem dX3_isValveBarrier_1 : decode cX3_isValveBarrier 1 = .ok (.getfield 31, 3) := by decide +kernel
theorem dX3_isValveBarrier_4 : decode cX3_isValveBarrier 4 = .ok (.getfield 264, 3) := by decide +kernel
theorem dX3_isValveBarrier_7 : decode cX3_isValveBarrier 7 = .ok (.istore_n 1, 1) := by decide +kernel
theorem dX3_isValveBarrier_8 : decode cX3_isValveBarrier 8 = .ok (.aload_n 0, 1) := by decide +kernel
theorem dX3_isValveBarrier_9 : decode cX3_isValveBarrier 9 = .ok (.getfield 31, 3) := by decide +kernel
theorem dX3_isValveBarrier_12 : decode cX3_isValveBarrier 12 = .ok (.iload_n 1, 1) := by decide +kernel
theorem dX3_isValveBarrier_13 : decode cX3_isValveBarrier 13 = .ok (.invokevirtual 267, 3) := by decide +kernel
theorem dX3_isValveBarrier_16 : decode cX3_isValveBarrier 16 = .ok (.ifCond .eq 42, 3) := by decide +kernel
theorem dX3_isValveBarrier_19 : decode cX3_isValveBarrier 19 = .ok (.aload_n 0, 1) := by decide +kernel
theorem dX3_isValveBarrier_20 : decode cX3_isValveBarrier 20 = .ok (.getfield 21, 3) := by decide +kernel
theorem dX3_isValveBarrier_23 : decode cX3_isValveBarrier 23 = .ok (.getfield 151, 3) := by decide +kernel
theorem dX3_isValveBarrier_26 : decode cX3_isValveBarrier 26 = .ok (.aload_n 0, 1) := by decide +kernel
theorem dX3_isValveBarrier_27 : decode cX3_isValveBarrier 27 = .ok (.getfield 31, 3) := by decide +kernel
theorem dX3_isValveBarrier_30 : decode cX3_isValveBarrier 30 = .ok (.getfield 234, 3) := by decide +kernel
theorem dX3_isValveBarrier_33 : decode cX3_isValveBarrier 33 = .ok (.iload_n 1, 1) := by decide +kernel
theorem dX3_isValveBarrier_34 : decode cX3_isValveBarrier 34 = .ok (.invokestatic 224, 3) := by decide +kernel
theorem dX3_isValveBarrier_37 : decode cX3_isValveBarrier 37 = .ok (.isub, 1) := by decide +kernel
theorem dX3_isValveBarrier_38 : decode cX3_isValveBarrier 38 = .ok (.sipush 20160, 3) := by decide +kernel
theorem dX3_isValveBarrier_41 : decode cX3_isValveBarrier 41 = .ok (.if_icmp .gt 17, 3) := by decide +kernel
theorem dX3_isValveBarrier_44 : decode cX3_isValveBarrier 44 = .ok (.aload_n 0, 1) := by decide +kernel
theorem dX3_isValveBarrier_45 : decode cX3_isValveBarrier 45 = .ok (.getfield 21, 3) := by decide +kernel
theorem dX3_isValveBarrier_48 : decode cX3_isValveBarrier 48 = .ok (.getfield 158, 3) := by decide +kernel
theorem dX3_isValveBarrier_51 : decode cX3_isValveBarrier 51 = .ok (.ifCond .ne 7, 3) := by decide +kernel
theorem dX3_isValveBarrier_54 : decode cX3_isValveBarrier 54 = .ok (.iconst 1, 1) := by decide +kernel
theorem dX3_isValveBarrier_55 : decode cX3_isValveBarrier 55 = .ok (.goto 4, 3) := by decide +kernel
theorem dX3_isValveBarrier_58 : decode cX3_isValveBarrier 58 = .ok (.iconst 0, 1) := by decide +kernel
theorem dX3_isValveBarrier_59 : decode cX3_isValveBarrier 59 = .ok (.ireturn, 1) := by decide +kernel
theorem dX3_isCementBarrier_0 : decode cX3_isCementBarrier 0 = .ok (.aload_n 0, 1) := by decide +kernel
theorem dX3_isCementBarrier_1 : decode cX3_isCementBarrier 1 = .ok (.getfield 21, 3) := by decide +kernel
theorem dX3_isCementBarrier_4 : decode cX3_isCementBarrier 4 = .ok (.getfield 123, 3) := by decide +kernel
theorem dX3_isCementBarrier_7 : decode cX3_isCementBarrier 7 = .ok (.ifCond .le 24, 3) := by decide +kernel
theorem dX3_isCementBarrier_10 : decode cX3_isCementBarrier 10 = .ok (.aload_n 0, 1) := by decide +kernel
theorem dX3_isCementBarrier_11 : decode cX3_isCementBarrier 11 = .ok (.getfield 31, 3) := by decide +kernel
theorem dX3_isCementBarrier_14 : decode cX3_isCementBarrier 14 = .ok (.aload_n 0, 1) := by decide +kernel
theorem dX3_isCementBarrier_15 : decode cX3_isCementBarrier 15 = .ok (.getfield 31, 3) := by decide +kernel
theorem dX3_isCementBarrier_18 : decode cX3_isCementBarrier 18 = .ok (.getfield 135, 3) := by decide +kernel
theorem dX3_isCementBarrier_21 : decode cX3_isCementBarrier 21 = .ok (.invokevirtual 267, 3) := by decide +kernel
theorem dX3_isCementBarrier_24 : decode cX3_isCementBarrier 24 = .ok (.ifCond .eq 7, 3) := by decide +kernel
theorem dX3_isCementBarrier_27 : decode cX3_isCementBarrier 27 = .ok (.iconst 1, 1) := by decide +kernel
theorem dX3_isCementBarrier_28 : decode cX3_isCementBarrier 28 = .ok (.goto 4, 3) := by decide +kernel
theorem dX3_isCementBarrier_31 : decode cX3_isCementBarrier 31 = .ok (.iconst 0, 1) := by decide +kernel
theorem dX3_isCementBarrier_32 : decode cX3_isCementBarrier 32 = .ok (.ireturn, 1) := by decide +kernel
theorem dX3_isWithin_0 : decode cX3_isWithin 0 = .ok (.iload_n 0, 1) := by decide +kernel
theorem dX3_isWithin_1 : decode cX3_isWithin 1 = .ok (.iload_n 1, 1) := by decide +kernel
theorem dX3_isWithin_2 : decode cX3_isWithin 2 = .ok (.if_icmp .lt 12, 3) := by decide +kernel
theorem dX3_isWithin_5 : decode cX3_isWithin 5 = .ok (.iload_n 0, 1) := by decide +kernel
theorem dX3_isWithin_6 : decode cX3_isWithin 6 = .ok (.iload_n 2, 1) := by decide +kernel
theorem dX3_isWithin_7 : decode cX3_isWithin 7 = .ok (.if_icmp .gt 7, 3) := by decide +kernel
theorem dX3_isWithin_10 : decode cX3_isWithin 10 = .ok (.iconst 1, 1) := by decide +kernel
theorem dX3_isWithin_11 : decode cX3_isWithin 11 = .ok (.goto 4, 3) := by decide +kernel
theorem dX3_isWithin_14 : decode cX3_isWithin 14 = .ok (.iconst 0, 1) := by decide +kernel
theorem dX3_isWithin_15 : decode cX3_isWithin 15 = .ok (.ireturn, 1) := by decide +kernel
theorem dX3_read_0 : decode cX3_read 0 = .ok (.iload_n 1, 1) := by decide +kernel
theorem dX3_read_1 : decode cX3_read 1 = .ok (.ifCond .lt 15, 3) := by decide +kernel
theorem dX3_read_4 : decode cX3_read 4 = .ok (.iload_n 1, 1) := by decide +kernel
theorem dX3_read_5 : decode cX3_read 5 = .ok (.aload_n 0, 1) := by decide +kernel
theorem dX3_read_6 : decode cX3_read 6 = .ok (.arraylength, 1) := by decide +kernel
theorem dX3_read_7 : decode cX3_read 7 = .ok (.if_icmp .ge 9, 3) := by decide +kernel
theorem dX3_read_10 : decode cX3_read 10 = .ok (.aload_n 0, 1) := by decide +kernel
theorem dX3_read_11 : decode cX3_read 11 = .ok (.iload_n 1, 1) := by decide +kernel
theorem dX3_read_12 : decode cX3_read 12 = .ok (.iaload, 1) := by decide +kernel
theorem dX3_read_13 : decode cX3_read 13 = .ok (.goto 4, 3) := by decide +kernel
theorem dX3_read_16 : decode cX3_read 16 = .ok (.iconst 0, 1) := by decide +kernel
theorem dX3_read_17 : decode cX3_read 17 = .ok (.ireturn, 1) := by decide +kernel
theorem dX3_write_0 : decode cX3_write 0 = .ok (.iload_n 1, 1) := by decide +kernel
theorem dX3_write_1 : decode cX3_write 1 = .ok (.ifCond .lt 13, 3) := by decide +kernel
theorem dX3_write_4 : decode cX3_write 4 = .ok (.iload_n 1, 1) := by decide +kernel
theorem dX3_write_5 : decode cX3_write 5 = .ok (.aload_n 0, 1) := by decide +kernel
theorem dX3_write_6 : decode cX3_write 6 = .ok (.arraylength, 1) := by decide +kernel
theorem dX3_write_7 : decode cX3_write 7 = .ok (.if_icmp .ge 7, 3) := by decide +kernel
theorem dX3_write_10 : decode cX3_write 10 = .ok (.aload_n 0, 1) := by decide +kernel
theorem dX3_write_11 : decode cX3_write 11 = .ok (.iload_n 1, 1) := by decide +kernel
theorem dX3_write_12 : decode cX3_write 12 = .ok (.iload_n 2, 1) := by decide +kernel
theorem dX3_write_13 : decode cX3_write 13 = .ok (.iastore, 1) := by decide +kernel
theorem dX3_write_14 : decode cX3_write 14 = .ok (.return_, 1) := by decide +kernel
theorem dJ6_bitCount_0f7a4_0 : decode cJ6_bitCount_0f7a4 0 = .ok (.iload_n 0, 1) := by decide +kernel
theorem dJ6_bitCount_0f7a4_1 : decode cJ6_bitCount_0f7a4 1 = .ok (.iload_n 0, 1) := by decide +kernel
theorem dJ6_bitCount_0f7a4_2 : decode cJ6_bitCount_0f7a4 2 = .ok (.iconst 1, 1) := by decide +kernel
theorem dJ6_bitCount_0f7a4_3 : decode cJ6_bitCount_0f7a4 3 = .ok (.iushr, 1) := by decide +kernel
theorem dJ6_bitCount_0f7a4_4 : decode cJ6_bitCount_0f7a4 4 = .ok (.ldc_w 265, 3) := by decide +kernel
theorem dJ6_bitCount_0f7a4_7 : decode cJ6_bitCount_0f7a4 7 = .ok (.iand, 1) := by decide +kernel
theorem dJ6_bitCount_0f7a4_8 : decode cJ6_bitCount_0f7a4 8 = .ok (.isub, 1) := by decide +kernel
theorem dJ6_bitCount_0f7a4_9 : decode cJ6_bitCount_0f7a4 9 = .ok (.istore_n 0, 1) := by decide +kernel
theorem dJ6_bitCount_0f7a4_10 : decode cJ6_bitCount_0f7a4 10 = .ok (.iload_n 0, 1) := by decide +kernel
theorem dJ6_bitCount_0f7a4_11 : decode cJ6_bitCount_0f7a4 11 = .ok (.ldc_w 266, 3) := by decide +kernel
theorem dJ6_bitCount_0f7a4_14 : decode cJ6_bitCount_0f7a4 14 = .ok (.iand, 1) := by decide +kernel
theorem dJ6_bitCount_0f7a4_15 : decode cJ6_bitCount_0f7a4 15 = .ok (.iload_n 0, 1) := by decide +kernel
theorem dJ6_bitCount_0f7a4_16 : decode cJ6_bitCount_0f7a4 16 = .ok (.iconst 2, 1) := by decide +kernel
theorem dJ6_bitCount_0f7a4_17 : decode cJ6_bitCount_0f7a4 17 = .ok (.iushr, 1) := by decide +kernel
theorem dJ6_bitCount_0f7a4_18 : decode cJ6_bitCount_0f7a4 18 = .ok (.ldc_w 266, 3) := by decide +kernel
theorem dJ6_bitCount_0f7a4_21 : decode cJ6_bitCount_0f7a4 21 = .ok (.iand, 1) := by decide +kernel
theorem dJ6_bitCount_0f7a4_22 : decode cJ6_bitCount_0f7a4 22 = .ok (.iadd, 1) := by decide +kernel
theorem dJ6_bitCount_0f7a4_23 : decode cJ6_bitCount_0f7a4 23 = .ok (.istore_n 0, 1) := by decide +kernel
theorem dJ6_bitCount_0f7a4_24 : decode cJ6_bitCount_0f7a4 24 = .ok (.iload_n 0, 1) := by decide +kernel
theorem dJ6_bitCount_0f7a4_25 : decode cJ6_bitCount_0f7a4 25 = .ok (.iload_n 0, 1) := by decide +kernel
theorem dJ6_bitCount_0f7a4_26 : decode cJ6_bitCount_0f7a4 26 = .ok (.iconst 4, 1) := by decide +kernel
theorem dJ6_bitCount_0f7a4_27 : decode cJ6_bitCount_0f7a4 27 = .ok (.iushr, 1) := by decide +kernel
theorem dJ6_bitCount_0f7a4_28 : decode cJ6_bitCount_0f7a4 28 = .ok (.iadd, 1) := by decide +kernel
theorem dJ6_bitCount_0f7a4_29 : decode cJ6_bitCount_0f7a4 29 = .ok (.ldc_w 267, 3) := by decide +kernel
theorem dJ6_bitCount_0f7a4_32 : decode cJ6_bitCount_0f7a4 32 = .ok (.iand, 1) := by decide +kernel
theorem dJ6_bitCount_0f7a4_33 : decode cJ6_bitCount_0f7a4 33 = .ok (.istore_n 0, 1) := by decide +kernel
theorem dJ6_bitCount_0f7a4_34 : decode cJ6_bitCount_0f7a4 34 = .ok (.iload_n 0, 1) := by decide +kernel
theorem dJ6_bitCount_0f7a4_35 : decode cJ6_bitCount_0f7a4 35 = .ok (.iload_n 0, 1) := by decide +kernel
theorem dJ6_bitCount_0f7a4_36 : decode cJ6_bitCount_0f7a4 36 = .ok (.bipush 8, 2) := by decide +kernel
theorem dJ6_bitCount_0f7a4_38 : decode cJ6_bitCount_0f7a4 38 = .ok (.iushr, 1) := by decide +kernel
theorem dJ6_bitCount_0f7a4_39 : decode cJ6_bitCount_0f7a4 39 = .ok (.iadd, 1) := by decide +kernel
theorem dJ6_bitCount_0f7a4_40 : decode cJ6_bitCount_0f7a4 40 = .ok (.istore_n 0, 1) := by decide +kernel
theorem dJ6_bitCount_0f7a4_41 : decode cJ6_bitCount_0f7a4 41 = .ok (.iload_n 0, 1) := by decide +kernel
theorem dJ6_bitCount_0f7a4_42 : decode cJ6_bitCount_0f7a4 42 = .ok (.iload_n 0, 1) := by decide +kernel
theorem dJ6_bitCount_0f7a4_43 : decode cJ6_bitCount_0f7a4 43 = .ok (.bipush 16, 2) := by decide +kernel
theorem dJ6_bitCount_0f7a4_45 : decode cJ6_bitCount_0f7a4 45 = .ok (.iushr, 1) := by decide +kernel
theorem dJ6_bitCount_0f7a4_46 : decode cJ6_bitCount_0f7a4 46 = .ok (.iadd, 1) := by decide +kernel
theorem dJ6_bitCount_0f7a4_47 : decode cJ6_bitCount_0f7a4 47 = .ok (.istore_n 0, 1) := by decide +kernel
theorem dJ6_bitCount_0f7a4_48 : decode cJ6_bitCount_0f7a4 48 = .ok (.iload_n 0, 1) := by decide +kernel
theorem dJ6_bitCount_0f7a4_49 : decode cJ6_bitCount_0f7a4 49 = .ok (.bipush 63, 2) := by decide +kernel
theorem dJ6_bitCount_0f7a4_51 : decode cJ6_bitCount_0f7a4 51 = .ok (.iand, 1) := by decide +kernel
theorem dJ6_bitCount_0f7a4_52 : decode cJ6_bitCount_0f7a4 52 = .ok (.ireturn, 1) := by decide +kernel
theorem dJ9_max_7cf53_0 : decode cJ9_max_7cf53 0 = .ok (.iload_n 0, 1) := by decide +kernel
theorem dJ9_max_7cf53_1 : decode cJ9_max_7cf53 1 = .ok (.iload_n 1, 1) := by decide +kernel
theorem dJ9_max_7cf53_2 : decode cJ9_max_7cf53 2 = .ok (.if_icmp .lt 7, 3) := by decide +kernel
theorem dJ9_max_7cf53_5 : decode cJ9_max_7cf53 5 = .ok (.iload_n 0, 1) := by decide +kernel
theorem dJ9_max_7cf53_6 : decode cJ9_max_7cf53 6 = .ok (.goto 4, 3) := by decide +kernel
theorem dJ9_max_7cf53_9 : decode cJ9_max_7cf53 9 = .ok (.iload_n 1, 1) := by decide +kernel
theorem dJ9_max_7cf53_10 : decode cJ9_max_7cf53 10 = .ok (.ireturn, 1) := by decide +kernel
theorem dJ9_min_7cf53_0 : decode cJ9_min_7cf53 0 = .ok (.iload_n 0, 1) := by decide +kernel
theorem dJ9_min_7cf53_1 : decode cJ9_min_7cf53 1 = .ok (.iload_n 1, 1) := by decide +kernel
theorem dJ9_min_7cf53_2 : decode cJ9_min_7cf53 2 = .ok (.if_icmp .gt 7, 3) := by decide +kernel
theorem dJ9_min_7cf53_5 : decode cJ9_min_7cf53 5 = .ok (.iload_n 0, 1) := by decide +kernel
theorem dJ9_min_7cf53_6 : decode cJ9_min_7cf53 6 = .ok (.goto 4, 3) := by decide +kernel
theorem dJ9_min_7cf53_9 : decode cJ9_min_7cf53 9 = .ok (.iload_n 1, 1) := by decide +kernel
theorem dJ9_min_7cf53_10 : decode cJ9_min_7cf53 10 = .ok (.ireturn, 1) := by decide +kernel
theorem dJ9_min_f86c9_0 : decode cJ9_min_f86c9 0 = .ok (.lload_n 0, 1) := by decide +kernel
theorem dJ9_min_f86c9_1 : decode cJ9_min_f86c9 1 = .ok (.lload_n 2, 1) := by decide +kernel
theorem dJ9_min_f86c9_2 : decode cJ9_min_f86c9 2 = .ok (.lcmp, 1) := by decide +kernel
theorem dJ9_min_f86c9_3 : decode cJ9_min_f86c9 3 = .ok (.ifCond .gt 7, 3) := by decide +kernel
theorem dJ9_min_f86c9_6 : decode cJ9_min_f86c9 6 = .ok (.lload_n 0, 1) := by decide +kernel
theorem dJ9_min_f86c9_7 : decode cJ9_min_f86c9 7 = .ok (.goto 4, 3) := by decide +kernel
theorem dJ9_min_f86c9_10 : decode cJ9_min_f86c9 10 = .ok (.lload_n 2, 1) := by decide +kernel
theorem dJ9_min_f86c9_11 : decode cJ9_min_f86c9 11 = .ok (.lreturn, 1) := by decide +kernel
theorem dJ7_fill_53178_0 : decode cJ7_fill_53178 0 = .ok (.iconst 0, 1) := by decide +kernel
theorem dJ7_fill_53178_1 : decode cJ7_fill_53178 1 = .ok (.istore_n 2, 1) := by decide +kernel
theorem dJ7_fill_53178_2 : decode cJ7_fill_53178 2 = .ok (.aload_n 0, 1) := by decide +kernel
theorem dJ7_fill_53178_3 : decode cJ7_fill_53178 3 = .ok (.arraylength, 1) := by decide +kernel
theorem dJ7_fill_53178_4 : decode cJ7_fill_53178 4 = .ok (.istore_n 3, 1) := by decide +kernel
theorem dJ7_fill_53178_5 : decode cJ7_fill_53178 5 = .ok (.iload_n 2, 1) := by decide +kernel
theorem dJ7_fill_53178_6 : decode cJ7_fill_53178 6 = .ok (.iload_n 3, 1) := by decide +kernel
theorem dJ7_fill_53178_7 : decode cJ7_fill_53178 7 = .ok (.if_icmp .ge 13, 3) := by decide +kernel
theorem dJ7_fill_53178_10 : decode cJ7_fill_53178 10 = .ok (.aload_n 0, 1) := by decide +kernel
theorem dJ7_fill_53178_11 : decode cJ7_fill_53178 11 = .ok (.iload_n 2, 1) := by decide +kernel
theorem dJ7_fill_53178_12 : decode cJ7_fill_53178 12 = .ok (.iload_n 1, 1) := by decide +kernel
theorem dJ7_fill_53178_13 : decode cJ7_fill_53178 13 = .ok (.iastore, 1) := by decide +kernel
theorem dJ7_fill_53178_14 : decode cJ7_fill_53178 14 = .ok (.iinc 2 1, 3) := by decide +kernel
theorem dJ7_fill_53178_17 : decode cJ7_fill_53178 17 = .ok (.goto (-12), 3) := by decide +kernel
theorem dJ7_fill_53178_20 : decode cJ7_fill_53178 20 = .ok (.return_, 1) := by decide +kernel
theorem dL_cell_0 : decode cL_cell 0 = .ok (.iload_n 1, 1) := by decide +kernel
theorem dL_cell_1 : decode cL_cell 1 = .ok (.aload_n 0, 1) := by decide +kernel
theorem dL_cell_2 : decode cL_cell 2 = .ok (.arraylength, 1) := by decide +kernel
theorem dL_cell_3 : decode cL_cell 3 = .ok (.if_icmp .ge 9, 3) := by decide +kernel
theorem dL_cell_6 : decode cL_cell 6 = .ok (.aload_n 0, 1) := by decide +kernel
theorem dL_cell_7 : decode cL_cell 7 = .ok (.iload_n 1, 1) := by decide +kernel
theorem dL_cell_8 : decode cL_cell 8 = .ok (.iaload, 1) := by decide +kernel
theorem dL_cell_9 : decode cL_cell 9 = .ok (.goto 18, 3) := by decide +kernel
theorem dL_cell_12 : decode cL_cell 12 = .ok (.sipush 7919, 3) := by decide +kernel
theorem dL_cell_15 : decode cL_cell 15 = .ok (.iload_n 1, 1) := by decide +kernel
theorem dL_cell_16 : decode cL_cell 16 = .ok (.sipush 2917, 3) := by decide +kernel
theorem dL_cell_19 : decode cL_cell 19 = .ok (.iadd, 1) := by decide +kernel
theorem dL_cell_20 : decode cL_cell 20 = .ok (.imul, 1) := by decide +kernel
theorem dL_cell_21 : decode cL_cell 21 = .ok (.iload_n 1, 1) := by decide +kernel
theorem dL_cell_22 : decode cL_cell 22 = .ok (.sipush 619, 3) := by decide +kernel
theorem dL_cell_25 : decode cL_cell 25 = .ok (.iadd, 1) := by decide +kernel
theorem dL_cell_26 : decode cL_cell 26 = .ok (.imul, 1) := by decide +kernel
theorem dL_cell_27 : decode cL_cell 27 = .ok (.ireturn, 1) := by decide +kernel
theorem dL_low_0 : decode cL_low 0 = .ok (.iload_n 0, 1) := by decide +kernel
theorem dL_low_1 : decode cL_low 1 = .ok (.ldc 7, 2) := by decide +kernel
theorem dL_low_3 : decode cL_low 3 = .ok (.iand, 1) := by decide +kernel
theorem dL_low_4 : decode cL_low 4 = .ok (.iload_n 1, 1) := by decide +kernel
theorem dL_low_5 : decode cL_low 5 = .ok (.irem, 1) := by decide +kernel
theorem dL_low_6 : decode cL_low 6 = .ok (.ireturn, 1) := by decide +kernel
theorem dL_layer_0 : decode cL_layer 0 = .ok (.aload_n 0, 1) := by decide +kernel
theorem dL_layer_1 : decode cL_layer 1 = .ok (.iload_n 1, 1) := by decide +kernel
theorem dL_layer_2 : decode cL_layer 2 = .ok (.iload_n 2, 1) := by decide +kernel
theorem dL_layer_3 : decode cL_layer 3 = .ok (.iload_n 3, 1) := by decide +kernel
theorem dL_layer_4 : decode cL_layer 4 = .ok (.iload 4, 2) := by decide +kernel
theorem dL_layer_6 : decode cL_layer 6 = .ok (.iload 5, 2) := by decide +kernel
theorem dL_layer_8 : decode cL_layer 8 = .ok (.invokevirtual 8, 3) := by decide +kernel
theorem dL_layer_11 : decode cL_layer 11 = .ok (.iconst 0, 1) := by decide +kernel
theorem dL_layer_12 : decode cL_layer 12 = .ok (.ireturn, 1) := by decide +kernel
theorem dL_layer_13 : decode cL_layer 13 = .ok (.astore 6, 2) := by decide +kernel
theorem dL_layer_15 : decode cL_layer 15 = .ok (.ldc 16, 2) := by decide +kernel
theorem dL_layer_17 : decode cL_layer 17 = .ok (.ireturn, 1) := by decide +kernel
theorem dL_layer_18 : decode cL_layer 18 = .ok (.astore 6, 2) := by decide +kernel
theorem dL_layer_20 : decode cL_layer 20 = .ok (.ldc 16, 2) := by decide +kernel
theorem dL_layer_22 : decode cL_layer 22 = .ok (.ireturn, 1) := by decide +kernel
theorem dL_layer_23 : decode cL_layer 23 = .ok (.astore 6, 2) := by decide +kernel
theorem dL_layer_25 : decode cL_layer 25 = .ok (.ldc 16, 2) := by decide +kernel
theorem dL_layer_27 : decode cL_layer 27 = .ok (.ireturn, 1) := by decide +kernel
theorem dL_mud_0 : decode cL_mud 0 = .ok (.aload_n 0, 1) := by decide +kernel
theorem dL_mud_1 : decode cL_mud 1 = .ok (.iload_n 1, 1) := by decide +kernel
theorem dL_mud_2 : decode cL_mud 2 = .ok (.invokevirtual 21, 3) := by decide +kernel
theorem dL_mud_5 : decode cL_mud 5 = .ok (.ireturn, 1) := by decide +kernel
theorem dL_mud_6 : decode cL_mud 6 = .ok (.astore_n 2, 1) := by decide +kernel
theorem dL_mud_7 : decode cL_mud 7 = .ok (.ldc 16, 2) := by decide +kernel
theorem dL_mud_9 : decode cL_mud 9 = .ok (.ireturn, 1) := by decide +kernel
theorem dL_mud_10 : decode cL_mud 10 = .ok (.astore_n 2, 1) := by decide +kernel
theorem dL_mud_11 : decode cL_mud 11 = .ok (.ldc 16, 2) := by decide +kernel
theorem dL_mud_13 : decode cL_mud 13 = .ok (.ireturn, 1) := by decide +kernel
theorem dL_drill_0 : decode cL_drill 0 = .ok (.aload_n 0, 1) := by decide +kernel
theorem dL_drill_1 : decode cL_drill 1 = .ok (.iload_n 1, 1) := by decide +kernel
theorem dL_drill_2 : decode cL_drill 2 = .ok (.invokevirtual 25, 3) := by decide +kernel
theorem dL_drill_5 : decode cL_drill 5 = .ok (.ireturn, 1) := by decide +kernel
theorem dL_drill_6 : decode cL_drill 6 = .ok (.astore_n 2, 1) := by decide +kernel
theorem dL_drill_7 : decode cL_drill 7 = .ok (.ldc 16, 2) := by decide +kernel
theorem dL_drill_9 : decode cL_drill 9 = .ok (.ireturn, 1) := by decide +kernel
theorem dL_drill_10 : decode cL_drill 10 = .ok (.astore_n 2, 1) := by decide +kernel
theorem dL_drill_11 : decode cL_drill 11 = .ok (.ldc 16, 2) := by decide +kernel
theorem dL_drill_13 : decode cL_drill 13 = .ok (.ireturn, 1) := by decide +kernel
theorem dL_pass_0 : decode cL_pass 0 = .ok (.aload_n 0, 1) := by decide +kernel
theorem dL_pass_1 : decode cL_pass 1 = .ok (.iload_n 1, 1) := by decide +kernel
theorem dL_pass_2 : decode cL_pass 2 = .ok (.invokevirtual 28, 3) := by decide +kernel
theorem dL_pass_5 : decode cL_pass 5 = .ok (.ireturn, 1) := by decide +kernel
theorem dL_pass_6 : decode cL_pass 6 = .ok (.astore_n 2, 1) := by decide +kernel
theorem dL_pass_7 : decode cL_pass 7 = .ok (.ldc 16, 2) := by decide +kernel
theorem dL_pass_9 : decode cL_pass 9 = .ok (.ireturn, 1) := by decide +kernel
theorem dL_pass_10 : decode cL_pass 10 = .ok (.astore_n 2, 1) := by decide +kernel
theorem dL_pass_11 : decode cL_pass 11 = .ok (.ldc 16, 2) := by decide +kernel
theorem dL_pass_13 : decode cL_pass 13 = .ok (.ireturn, 1) := by decide +kernel
theorem dL_close_0 : decode cL_close 0 = .ok (.aload_n 0, 1) := by decide +kernel
theorem dL_close_1 : decode cL_close 1 = .ok (.invokevirtual 31, 3) := by decide +kernel
theorem dL_close_4 : decode cL_close 4 = .ok (.iconst 0, 1) := by decide +kernel
theorem dL_close_5 : decode cL_close 5 = .ok (.ireturn, 1) := by decide +kernel
theorem dL_close_6 : decode cL_close 6 = .ok (.astore_n 1, 1) := by decide +kernel
theorem dL_close_7 : decode cL_close 7 = .ok (.ldc 16, 2) := by decide +kernel
theorem dL_close_9 : decode cL_close 9 = .ok (.ireturn, 1) := by decide +kernel
theorem dL_open_0 : decode cL_open 0 = .ok (.aload_n 0, 1) := by decide +kernel
theorem dL_open_1 : decode cL_open 1 = .ok (.invokevirtual 34, 3) := by decide +kernel
theorem dL_open_4 : decode cL_open 4 = .ok (.ireturn, 1) := by decide +kernel
theorem dL_open_5 : decode cL_open 5 = .ok (.astore_n 1, 1) := by decide +kernel
theorem dL_open_6 : decode cL_open 6 = .ok (.ldc 16, 2) := by decide +kernel
theorem dL_open_8 : decode cL_open 8 = .ok (.ireturn, 1) := by decide +kernel
theorem dL_pump_0 : decode cL_pump 0 = .ok (.aload_n 0, 1) := by decide +kernel
theorem dL_pump_1 : decode cL_pump 1 = .ok (.iload_n 1, 1) := by decide +kernel
theorem dL_pump_2 : decode cL_pump 2 = .ok (.iload_n 2, 1) := by decide +kernel
theorem dL_pump_3 : decode cL_pump 3 = .ok (.invokevirtual 38, 3) := by decide +kernel
theorem dL_pump_6 : decode cL_pump 6 = .ok (.ireturn, 1) := by decide +kernel
theorem dL_pump_7 : decode cL_pump 7 = .ok (.astore_n 3, 1) := by decide +kernel
theorem dL_pump_8 : decode cL_pump 8 = .ok (.ldc 16, 2) := by decide +kernel
theorem dL_pump_10 : decode cL_pump 10 = .ok (.ireturn, 1) := by decide +kernel
theorem dL_pump_11 : decode cL_pump 11 = .ok (.astore_n 3, 1) := by decide +kernel
theorem dL_pump_12 : decode cL_pump 12 = .ok (.ldc 16, 2) := by decide +kernel
theorem dL_pump_14 : decode cL_pump 14 = .ok (.ireturn, 1) := by decide +kernel
theorem dL_casing_0 : decode cL_casing 0 = .ok (.aload_n 0, 1) := by decide +kernel
theorem dL_casing_1 : decode cL_casing 1 = .ok (.iload_n 1, 1) := by decide +kernel
theorem dL_casing_2 : decode cL_casing 2 = .ok (.invokevirtual 42, 3) := by decide +kernel
theorem dL_casing_5 : decode cL_casing 5 = .ok (.ireturn, 1) := by decide +kernel
theorem dL_casing_6 : decode cL_casing 6 = .ok (.astore_n 2, 1) := by decide +kernel
theorem dL_casing_7 : decode cL_casing 7 = .ok (.ldc 16, 2) := by decide +kernel
theorem dL_casing_9 : decode cL_casing 9 = .ok (.ireturn, 1) := by decide +kernel
theorem dL_casing_10 : decode cL_casing 10 = .ok (.astore_n 2, 1) := by decide +kernel
theorem dL_casing_11 : decode cL_casing 11 = .ok (.ldc 16, 2) := by decide +kernel
theorem dL_casing_13 : decode cL_casing 13 = .ok (.ireturn, 1) := by decide +kernel
theorem dL_strength_0 : decode cL_strength 0 = .ok (.aload_n 0, 1) := by decide +kernel
theorem dL_strength_1 : decode cL_strength 1 = .ok (.iload_n 1, 1) := by decide +kernel
theorem dL_strength_2 : decode cL_strength 2 = .ok (.invokevirtual 45, 3) := by decide +kernel
theorem dL_strength_5 : decode cL_strength 5 = .ok (.ireturn, 1) := by decide +kernel
theorem dL_strength_6 : decode cL_strength 6 = .ok (.astore_n 2, 1) := by decide +kernel
theorem dL_strength_7 : decode cL_strength 7 = .ok (.ldc 16, 2) := by decide +kernel
theorem dL_strength_9 : decode cL_strength 9 = .ok (.ireturn, 1) := by decide +kernel
theorem dL_test_0 : decode cL_test 0 = .ok (.aload_n 0, 1) := by decide +kernel
theorem dL_test_1 : decode cL_test 1 = .ok (.iload_n 1, 1) := by decide +kernel
theorem dL_test_2 : decode cL_test 2 = .ok (.iload_n 2, 1) := by decide +kernel
theorem dL_test_3 : decode cL_test 3 = .ok (.invokevirtual 48, 3) := by decide +kernel
theorem dL_test_6 : decode cL_test 6 = .ok (.ifCond .eq 7, 3) := by decide +kernel
theorem dL_test_9 : decode cL_test 9 = .ok (.iconst 1, 1) := by decide +kernel
theorem dL_test_10 : decode cL_test 10 = .ok (.goto 4, 3) := by decide +kernel
theorem dL_test_13 : decode cL_test 13 = .ok (.iconst 0, 1) := by decide +kernel
theorem dL_test_14 : decode cL_test 14 = .ok (.ireturn, 1) := by decide +kernel
theorem dL_test_15 : decode cL_test 15 = .ok (.astore_n 3, 1) := by decide +kernel
theorem dL_test_16 : decode cL_test 16 = .ok (.ldc 16, 2) := by decide +kernel
theorem dL_test_18 : decode cL_test 18 = .ok (.ireturn, 1) := by decide +kernel
theorem dL_test_19 : decode cL_test 19 = .ok (.astore_n 3, 1) := by decide +kernel
theorem dL_test_20 : decode cL_test 20 = .ok (.ldc 16, 2) := by decide +kernel
theorem dL_test_22 : decode cL_test 22 = .ok (.ireturn, 1) := by decide +kernel
theorem dL_stop_0 : decode cL_stop 0 = .ok (.aload_n 0, 1) := by decide +kernel
theorem dL_stop_1 : decode cL_stop 1 = .ok (.iload_n 1, 1) := by decide +kernel
theorem dL_stop_2 : decode cL_stop 2 = .ok (.iload_n 2, 1) := by decide +kernel
theorem dL_stop_3 : decode cL_stop 3 = .ok (.invokevirtual 52, 3) := by decide +kernel
theorem dL_stop_6 : decode cL_stop 6 = .ok (.ireturn, 1) := by decide +kernel
theorem dL_stop_7 : decode cL_stop 7 = .ok (.astore_n 3, 1) := by decide +kernel
theorem dL_stop_8 : decode cL_stop 8 = .ok (.ldc 16, 2) := by decide +kernel
theorem dL_stop_10 : decode cL_stop 10 = .ok (.ireturn, 1) := by decide +kernel
theorem dL_pressure_0 : decode cL_pressure 0 = .ok (.aload_n 0, 1) := by decide +kernel
theorem dL_pressure_1 : decode cL_pressure 1 = .ok (.iload_n 1, 1) := by decide +kernel
theorem dL_pressure_2 : decode cL_pressure 2 = .ok (.invokevirtual 56, 3) := by decide +kernel
theorem dL_pressure_5 : decode cL_pressure 5 = .ok (.ireturn, 1) := by decide +kernel
theorem dL_pressure_6 : decode cL_pressure 6 = .ok (.astore_n 2, 1) := by decide +kernel
theorem dL_pressure_7 : decode cL_pressure 7 = .ok (.ldc 16, 2) := by decide +kernel
theorem dL_pressure_9 : decode cL_pressure 9 = .ok (.ireturn, 1) := by decide +kernel
theorem dL_of_0 : decode cL_of 0 = .ok (.aload_n 0, 1) := by decide +kernel
theorem dL_of_1 : decode cL_of 1 = .ok (.iload_n 1, 1) := by decide +kernel
theorem dL_of_2 : decode cL_of 2 = .ok (.invokevirtual 59, 3) := by decide +kernel
theorem dL_of_5 : decode cL_of 5 = .ok (.lreturn, 1) := by decide +kernel
theorem dL_of_6 : decode cL_of 6 = .ok (.astore_n 2, 1) := by decide +kernel
theorem dL_of_7 : decode cL_of 7 = .ok (.ldc2_w 63, 3) := by decide +kernel
theorem dL_of_10 : decode cL_of 10 = .ok (.lreturn, 1) := by decide +kernel
theorem dL_ofTest_0 : decode cL_ofTest 0 = .ok (.aload_n 0, 1) := by decide +kernel
theorem dL_ofTest_1 : decode cL_ofTest 1 = .ok (.iload_n 1, 1) := by decide +kernel
theorem dL_ofTest_2 : decode cL_ofTest 2 = .ok (.iload_n 2, 1) := by decide +kernel
theorem dL_ofTest_3 : decode cL_ofTest 3 = .ok (.invokevirtual 65, 3) := by decide +kernel
theorem dL_ofTest_6 : decode cL_ofTest 6 = .ok (.ireturn, 1) := by decide +kernel
theorem dL_ofTest_7 : decode cL_ofTest 7 = .ok (.astore_n 3, 1) := by decide +kernel
theorem dL_ofTest_8 : decode cL_ofTest 8 = .ok (.ldc 16, 2) := by decide +kernel
theorem dL_ofTest_10 : decode cL_ofTest 10 = .ok (.ireturn, 1) := by decide +kernel
theorem dL_ofTest_11 : decode cL_ofTest 11 = .ok (.astore_n 3, 1) := by decide +kernel
theorem dL_ofTest_12 : decode cL_ofTest 12 = .ok (.ldc 16, 2) := by decide +kernel
theorem dL_ofTest_14 : decode cL_ofTest 14 = .ok (.ireturn, 1) := by decide +kernel
theorem dL_killWeight_0 : decode cL_killWeight 0 = .ok (.aload_n 0, 1) := by decide +kernel
theorem dL_killWeight_1 : decode cL_killWeight 1 = .ok (.invokevirtual 68, 3) := by decide +kernel
theorem dL_killWeight_4 : decode cL_killWeight 4 = .ok (.ireturn, 1) := by decide +kernel
theorem dL_killWeight_5 : decode cL_killWeight 5 = .ok (.astore_n 1, 1) := by decide +kernel
theorem dL_killWeight_6 : decode cL_killWeight 6 = .ok (.ldc 16, 2) := by decide +kernel
theorem dL_killWeight_8 : decode cL_killWeight 8 = .ok (.ireturn, 1) := by decide +kernel
theorem dL_window_0 : decode cL_window 0 = .ok (.aload_n 0, 1) := by decide +kernel
theorem dL_window_1 : decode cL_window 1 = .ok (.iload_n 1, 1) := by decide +kernel
theorem dL_window_2 : decode cL_window 2 = .ok (.iload_n 2, 1) := by decide +kernel
theorem dL_window_3 : decode cL_window 3 = .ok (.iload_n 3, 1) := by decide +kernel
theorem dL_window_4 : decode cL_window 4 = .ok (.invokevirtual 71, 3) := by decide +kernel
theorem dL_window_7 : decode cL_window 7 = .ok (.ireturn, 1) := by decide +kernel
theorem dL_window_8 : decode cL_window 8 = .ok (.astore 4, 2) := by decide +kernel
theorem dL_window_10 : decode cL_window 10 = .ok (.ldc 16, 2) := by decide +kernel
theorem dL_window_12 : decode cL_window 12 = .ok (.ireturn, 1) := by decide +kernel
theorem dL_casings_0 : decode cL_casings 0 = .ok (.aload_n 0, 1) := by decide +kernel
theorem dL_casings_1 : decode cL_casings 1 = .ok (.iload_n 1, 1) := by decide +kernel
theorem dL_casings_2 : decode cL_casings 2 = .ok (.invokevirtual 75, 3) := by decide +kernel
theorem dL_casings_5 : decode cL_casings 5 = .ok (.ireturn, 1) := by decide +kernel
theorem dL_casings_6 : decode cL_casings 6 = .ok (.astore_n 2, 1) := by decide +kernel
theorem dL_casings_7 : decode cL_casings 7 = .ok (.ldc 16, 2) := by decide +kernel
theorem dL_casings_9 : decode cL_casings 9 = .ok (.ireturn, 1) := by decide +kernel
theorem dL_casingsAnew_0 : decode cL_casingsAnew 0 = .ok (.aload_n 0, 1) := by decide +kernel
theorem dL_casingsAnew_1 : decode cL_casingsAnew 1 = .ok (.iload_n 1, 1) := by decide +kernel
theorem dL_casingsAnew_2 : decode cL_casingsAnew 2 = .ok (.invokevirtual 78, 3) := by decide +kernel
theorem dL_casingsAnew_5 : decode cL_casingsAnew 5 = .ok (.ireturn, 1) := by decide +kernel
theorem dL_casingsAnew_6 : decode cL_casingsAnew 6 = .ok (.astore_n 2, 1) := by decide +kernel
theorem dL_casingsAnew_7 : decode cL_casingsAnew 7 = .ok (.ldc 16, 2) := by decide +kernel
theorem dL_casingsAnew_9 : decode cL_casingsAnew 9 = .ok (.ireturn, 1) := by decide +kernel
theorem dL_equivalent_0 : decode cL_equivalent 0 = .ok (.ldc 81, 2) := by decide +kernel
theorem dL_equivalent_2 : decode cL_equivalent 2 = .ok (.aload_n 0, 1) := by decide +kernel
theorem dL_equivalent_3 : decode cL_equivalent 3 = .ok (.invokevirtual 82, 3) := by decide +kernel
theorem dL_equivalent_6 : decode cL_equivalent 6 = .ok (.fmul, 1) := by decide +kernel
theorem dL_equivalent_7 : decode cL_equivalent 7 = .ok (.f2i, 1) := by decide +kernel
theorem dL_equivalent_8 : decode cL_equivalent 8 = .ok (.ireturn, 1) := by decide +kernel
theorem dL_equivalent_9 : decode cL_equivalent 9 = .ok (.astore_n 1, 1) := by decide +kernel
theorem dL_equivalent_10 : decode cL_equivalent 10 = .ok (.ldc 16, 2) := by decide +kernel
theorem dL_equivalent_12 : decode cL_equivalent 12 = .ok (.ireturn, 1) := by decide +kernel
theorem dL_ahead_0 : decode cL_ahead 0 = .ok (.aload_n 0, 1) := by decide +kernel
theorem dL_ahead_1 : decode cL_ahead 1 = .ok (.iload_n 1, 1) := by decide +kernel
theorem dL_ahead_2 : decode cL_ahead 2 = .ok (.invokevirtual 86, 3) := by decide +kernel
theorem dL_ahead_5 : decode cL_ahead 5 = .ok (.ireturn, 1) := by decide +kernel
theorem dL_ahead_6 : decode cL_ahead 6 = .ok (.astore_n 2, 1) := by decide +kernel
theorem dL_ahead_7 : decode cL_ahead 7 = .ok (.ldc 16, 2) := by decide +kernel
theorem dL_ahead_9 : decode cL_ahead 9 = .ok (.ireturn, 1) := by decide +kernel
theorem dL_areAlike_0 : decode cL_areAlike 0 = .ok (.aload_n 0, 1) := by decide +kernel
theorem dL_areAlike_1 : decode cL_areAlike 1 = .ok (.invokevirtual 116, 3) := by decide +kernel
theorem dL_areAlike_4 : decode cL_areAlike 4 = .ok (.aload_n 1, 1) := by decide +kernel
theorem dL_areAlike_5 : decode cL_areAlike 5 = .ok (.invokevirtual 116, 3) := by decide +kernel
theorem dL_areAlike_8 : decode cL_areAlike 8 = .ok (.if_icmp .ne 18, 3) := by decide +kernel
theorem dL_areAlike_11 : decode cL_areAlike 11 = .ok (.aload_n 0, 1) := by decide +kernel
theorem dL_areAlike_12 : decode cL_areAlike 12 = .ok (.invokevirtual 131, 3) := by decide +kernel
theorem dL_areAlike_15 : decode cL_areAlike 15 = .ok (.aload_n 1, 1) := by decide +kernel
theorem dL_areAlike_16 : decode cL_areAlike 16 = .ok (.invokevirtual 131, 3) := by decide +kernel
theorem dL_areAlike_19 : decode cL_areAlike 19 = .ok (.if_icmp .ne 7, 3) := by decide +kernel
theorem dL_areAlike_22 : decode cL_areAlike 22 = .ok (.iconst 1, 1) := by decide +kernel
theorem dL_areAlike_23 : decode cL_areAlike 23 = .ok (.goto 4, 3) := by decide +kernel
theorem dL_areAlike_26 : decode cL_areAlike 26 = .ok (.iconst 0, 1) := by decide +kernel
theorem dL_areAlike_27 : decode cL_areAlike 27 = .ok (.istore_n 3, 1) := by decide +kernel
theorem dL_areAlike_28 : decode cL_areAlike 28 = .ok (.iconst 0, 1) := by decide +kernel
theorem dL_areAlike_29 : decode cL_areAlike 29 = .ok (.istore 4, 2) := by decide +kernel
theorem dL_areAlike_31 : decode cL_areAlike 31 = .ok (.iload 4, 2) := by decide +kernel
theorem dL_areAlike_33 : decode cL_areAlike 33 = .ok (.bipush 12, 2) := by decide +kernel
theorem dL_areAlike_35 : decode cL_areAlike 35 = .ok (.if_icmp .ge 75, 3) := by decide +kernel
theorem dL_areAlike_38 : decode cL_areAlike 38 = .ok (.iload_n 3, 1) := by decide +kernel
theorem dL_areAlike_39 : decode cL_areAlike 39 = .ok (.ifCond .eq 71, 3) := by decide +kernel
theorem dL_areAlike_42 : decode cL_areAlike 42 = .ok (.aload_n 0, 1) := by decide +kernel
theorem dL_areAlike_43 : decode cL_areAlike 43 = .ok (.iload 4, 2) := by decide +kernel
theorem dL_areAlike_45 : decode cL_areAlike 45 = .ok (.invokestatic 126, 3) := by decide +kernel
theorem dL_areAlike_48 : decode cL_areAlike 48 = .ok (.aload_n 1, 1) := by decide +kernel
theorem dL_areAlike_49 : decode cL_areAlike 49 = .ok (.iload 4, 2) := by decide +kernel
theorem dL_areAlike_51 : decode cL_areAlike 51 = .ok (.invokestatic 126, 3) := by decide +kernel
theorem dL_areAlike_54 : decode cL_areAlike 54 = .ok (.lcmp, 1) := by decide +kernel
theorem dL_areAlike_55 : decode cL_areAlike 55 = .ok (.ifCond .ne 47, 3) := by decide +kernel
theorem dL_areAlike_58 : decode cL_areAlike 58 = .ok (.aload_n 0, 1) := by decide +kernel
theorem dL_areAlike_59 : decode cL_areAlike 59 = .ok (.iload 4, 2) := by decide +kernel
theorem dL_areAlike_61 : decode cL_areAlike 61 = .ok (.invokestatic 124, 3) := by decide +kernel
theorem dL_areAlike_64 : decode cL_areAlike 64 = .ok (.aload_n 1, 1) := by decide +kernel
theorem dL_areAlike_65 : decode cL_areAlike 65 = .ok (.iload 4, 2) := by decide +kernel
theorem dL_areAlike_67 : decode cL_areAlike 67 = .ok (.invokestatic 124, 3) := by decide +kernel
theorem dL_areAlike_70 : decode cL_areAlike 70 = .ok (.if_icmp .ne 32, 3) := by decide +kernel
theorem dL_areAlike_73 : decode cL_areAlike 73 = .ok (.aload_n 0, 1) := by decide +kernel
theorem dL_areAlike_74 : decode cL_areAlike 74 = .ok (.iload 4, 2) := by decide +kernel
theorem dL_areAlike_76 : decode cL_areAlike 76 = .ok (.iload_n 2, 1) := by decide +kernel
theorem dL_areAlike_77 : decode cL_areAlike 77 = .ok (.iconst 4, 1) := by decide +kernel
theorem dL_areAlike_78 : decode cL_areAlike 78 = .ok (.invokestatic 89, 3) := by decide +kernel
theorem dL_areAlike_81 : decode cL_areAlike 81 = .ok (.invokestatic 134, 3) := by decide +kernel
theorem dL_areAlike_84 : decode cL_areAlike 84 = .ok (.aload_n 1, 1) := by decide +kernel
theorem dL_areAlike_85 : decode cL_areAlike 85 = .ok (.iload 4, 2) := by decide +kernel
theorem dL_areAlike_87 : decode cL_areAlike 87 = .ok (.iload_n 2, 1) := by decide +kernel
theorem dL_areAlike_88 : decode cL_areAlike 88 = .ok (.iconst 4, 1) := by decide +kernel
theorem dL_areAlike_89 : decode cL_areAlike 89 = .ok (.invokestatic 89, 3) := by decide +kernel
theorem dL_areAlike_92 : decode cL_areAlike 92 = .ok (.invokestatic 134, 3) := by decide +kernel
theorem dL_areAlike_95 : decode cL_areAlike 95 = .ok (.if_icmp .ne 7, 3) := by decide +kernel
theorem dL_areAlike_98 : decode cL_areAlike 98 = .ok (.iconst 1, 1) := by decide +kernel
theorem dL_areAlike_99 : decode cL_areAlike 99 = .ok (.goto 4, 3) := by decide +kernel
theorem dL_areAlike_102 : decode cL_areAlike 102 = .ok (.iconst 0, 1) := by decide +kernel
theorem dL_areAlike_103 : decode cL_areAlike 103 = .ok (.istore_n 3, 1) := by decide +kernel
theorem dL_areAlike_104 : decode cL_areAlike 104 = .ok (.iinc 4 1, 3) := by decide +kernel
theorem dL_areAlike_107 : decode cL_areAlike 107 = .ok (.goto (-76), 3) := by decide +kernel
theorem dL_areAlike_110 : decode cL_areAlike 110 = .ok (.iload_n 3, 1) := by decide +kernel
theorem dL_areAlike_111 : decode cL_areAlike 111 = .ok (.ifCond .eq 35, 3) := by decide +kernel
theorem dL_areAlike_114 : decode cL_areAlike 114 = .ok (.aload_n 0, 1) := by decide +kernel
theorem dL_areAlike_115 : decode cL_areAlike 115 = .ok (.sipush 5000, 3) := by decide +kernel
theorem dL_areAlike_118 : decode cL_areAlike 118 = .ok (.invokestatic 141, 3) := by decide +kernel
theorem dL_areAlike_121 : decode cL_areAlike 121 = .ok (.aload_n 1, 1) := by decide +kernel
theorem dL_areAlike_122 : decode cL_areAlike 122 = .ok (.sipush 5000, 3) := by decide +kernel
theorem dL_areAlike_125 : decode cL_areAlike 125 = .ok (.invokestatic 141, 3) := by decide +kernel
theorem dL_areAlike_128 : decode cL_areAlike 128 = .ok (.if_icmp .ne 18, 3) := by decide +kernel
theorem dL_areAlike_131 : decode cL_areAlike 131 = .ok (.aload_n 0, 1) := by decide +kernel
theorem dL_areAlike_132 : decode cL_areAlike 132 = .ok (.invokestatic 145, 3) := by decide +kernel
theorem dL_areAlike_135 : decode cL_areAlike 135 = .ok (.aload_n 1, 1) := by decide +kernel
theorem dL_areAlike_136 : decode cL_areAlike 136 = .ok (.invokestatic 145, 3) := by decide +kernel
theorem dL_areAlike_139 : decode cL_areAlike 139 = .ok (.if_icmp .ne 7, 3) := by decide +kernel
theorem dL_areAlike_142 : decode cL_areAlike 142 = .ok (.iconst 1, 1) := by decide +kernel
theorem dL_areAlike_143 : decode cL_areAlike 143 = .ok (.goto 4, 3) := by decide +kernel
theorem dL_areAlike_146 : decode cL_areAlike 146 = .ok (.iconst 0, 1) := by decide +kernel
theorem dL_areAlike_147 : decode cL_areAlike 147 = .ok (.ireturn, 1) := by decide +kernel
theorem dL_isSo_0 : decode cL_isSo 0 = .ok (.iconst 1, 1) := by decide +kernel
theorem dL_isSo_1 : decode cL_isSo 1 = .ok (.iload_n 1, 1) := by decide +kernel
theorem dL_isSo_2 : decode cL_isSo 2 = .ok (.iconst 3, 1) := by decide +kernel
theorem dL_isSo_3 : decode cL_isSo 3 = .ok (.ishr, 1) := by decide +kernel
theorem dL_isSo_4 : decode cL_isSo 4 = .ok (.bipush 60, 2) := by decide +kernel
theorem dL_isSo_6 : decode cL_isSo 6 = .ok (.invokestatic 89, 3) := by decide +kernel
theorem dL_isSo_9 : decode cL_isSo 9 = .ok (.iadd, 1) := by decide +kernel
theorem dL_isSo_10 : decode cL_isSo 10 = .ok (.istore_n 2, 1) := by decide +kernel
theorem dL_isSo_11 : decode cL_isSo 11 = .ok (.aload_n 0, 1) := by decide +kernel
theorem dL_isSo_12 : decode cL_isSo 12 = .ok (.iconst 4, 1) := by decide +kernel
theorem dL_isSo_13 : decode cL_isSo 13 = .ok (.invokevirtual 59, 3) := by decide +kernel
theorem dL_isSo_16 : decode cL_isSo 16 = .ok (.lstore_n 3, 1) := by decide +kernel
theorem dL_isSo_17 : decode cL_isSo 17 = .ok (.aload_n 0, 1) := by decide +kernel
theorem dL_isSo_18 : decode cL_isSo 18 = .ok (.iload_n 2, 1) := by decide +kernel
theorem dL_isSo_19 : decode cL_isSo 19 = .ok (.invokevirtual 86, 3) := by decide +kernel
theorem dL_isSo_22 : decode cL_isSo 22 = .ok (.istore 5, 2) := by decide +kernel
theorem dL_isSo_24 : decode cL_isSo 24 = .ok (.aload_n 0, 1) := by decide +kernel
theorem dL_isSo_25 : decode cL_isSo 25 = .ok (.iconst 5, 1) := by decide +kernel
theorem dL_isSo_26 : decode cL_isSo 26 = .ok (.invokevirtual 59, 3) := by decide +kernel
theorem dL_isSo_29 : decode cL_isSo 29 = .ok (.aload_n 0, 1) := by decide +kernel
theorem dL_isSo_30 : decode cL_isSo 30 = .ok (.bipush 7, 2) := by decide +kernel
theorem dL_isSo_32 : decode cL_isSo 32 = .ok (.invokevirtual 59, 3) := by decide +kernel
theorem dL_isSo_35 : decode cL_isSo 35 = .ok (.ladd, 1) := by decide +kernel
theorem dL_isSo_36 : decode cL_isSo 36 = .ok (.aload_n 0, 1) := by decide +kernel
theorem dL_isSo_37 : decode cL_isSo 37 = .ok (.iconst 0, 1) := by decide +kernel
theorem dL_isSo_38 : decode cL_isSo 38 = .ok (.invokevirtual 59, 3) := by decide +kernel
theorem dL_isSo_41 : decode cL_isSo 41 = .ok (.lcmp, 1) := by decide +kernel
theorem dL_isSo_42 : decode cL_isSo 42 = .ok (.ifCond .gt 115, 3) := by decide +kernel
theorem dL_isSo_45 : decode cL_isSo 45 = .ok (.aload_n 0, 1) := by decide +kernel
theorem dL_isSo_46 : decode cL_isSo 46 = .ok (.iconst 1, 1) := by decide +kernel
theorem dL_isSo_47 : decode cL_isSo 47 = .ok (.invokevirtual 59, 3) := by decide +kernel
theorem dL_isSo_50 : decode cL_isSo 50 = .ok (.aload_n 0, 1) := by decide +kernel
theorem dL_isSo_51 : decode cL_isSo 51 = .ok (.iconst 0, 1) := by decide +kernel
theorem dL_isSo_52 : decode cL_isSo 52 = .ok (.invokevirtual 59, 3) := by decide +kernel
theorem dL_isSo_55 : decode cL_isSo 55 = .ok (.lcmp, 1) := by decide +kernel
theorem dL_isSo_56 : decode cL_isSo 56 = .ok (.ifCond .gt 101, 3) := by decide +kernel
theorem dL_isSo_59 : decode cL_isSo 59 = .ok (.aload_n 0, 1) := by decide +kernel
theorem dL_isSo_60 : decode cL_isSo 60 = .ok (.iconst 5, 1) := by decide +kernel
theorem dL_isSo_61 : decode cL_isSo 61 = .ok (.invokevirtual 59, 3) := by decide +kernel
theorem dL_isSo_64 : decode cL_isSo 64 = .ok (.lconst 0, 1) := by decide +kernel
theorem dL_isSo_65 : decode cL_isSo 65 = .ok (.lcmp, 1) := by decide +kernel
theorem dL_isSo_66 : decode cL_isSo 66 = .ok (.ifCond .lt 91, 3) := by decide +kernel
theorem dL_isSo_69 : decode cL_isSo 69 = .ok (.aload_n 0, 1) := by decide +kernel
theorem dL_isSo_70 : decode cL_isSo 70 = .ok (.bipush 7, 2) := by decide +kernel
theorem dL_isSo_72 : decode cL_isSo 72 = .ok (.invokevirtual 59, 3) := by decide +kernel
theorem dL_isSo_75 : decode cL_isSo 75 = .ok (.lconst 0, 1) := by decide +kernel
theorem dL_isSo_76 : decode cL_isSo 76 = .ok (.lcmp, 1) := by decide +kernel
theorem dL_isSo_77 : decode cL_isSo 77 = .ok (.ifCond .lt 80, 3) := by decide +kernel
theorem dL_isSo_80 : decode cL_isSo 80 = .ok (.aload_n 0, 1) := by decide +kernel
theorem dL_isSo_81 : decode cL_isSo 81 = .ok (.iconst 4, 1) := by decide +kernel
theorem dL_isSo_82 : decode cL_isSo 82 = .ok (.invokevirtual 56, 3) := by decide +kernel
theorem dL_isSo_85 : decode cL_isSo 85 = .ok (.ifCond .lt 72, 3) := by decide +kernel
theorem dL_isSo_88 : decode cL_isSo 88 = .ok (.aload_n 0, 1) := by decide +kernel
theorem dL_isSo_89 : decode cL_isSo 89 = .ok (.bipush 6, 2) := by decide +kernel
theorem dL_isSo_91 : decode cL_isSo 91 = .ok (.invokevirtual 59, 3) := by decide +kernel
theorem dL_isSo_94 : decode cL_isSo 94 = .ok (.lconst 0, 1) := by decide +kernel
theorem dL_isSo_95 : decode cL_isSo 95 = .ok (.lcmp, 1) := by decide +kernel
theorem dL_isSo_96 : decode cL_isSo 96 = .ok (.ifCond .ge 7, 3) := by decide +kernel
theorem dL_isSo_99 : decode cL_isSo 99 = .ok (.iconst 1, 1) := by decide +kernel
theorem dL_isSo_100 : decode cL_isSo 100 = .ok (.goto 4, 3) := by decide +kernel
theorem dL_isSo_103 : decode cL_isSo 103 = .ok (.iconst 0, 1) := by decide +kernel
theorem dL_isSo_104 : decode cL_isSo 104 = .ok (.aload_n 0, 1) := by decide +kernel
theorem dL_isSo_105 : decode cL_isSo 105 = .ok (.iconst 5, 1) := by decide +kernel
theorem dL_isSo_106 : decode cL_isSo 106 = .ok (.invokevirtual 56, 3) := by decide +kernel
theorem dL_isSo_109 : decode cL_isSo 109 = .ok (.ifCond .ne 7, 3) := by decide +kernel
theorem dL_isSo_112 : decode cL_isSo 112 = .ok (.iconst 1, 1) := by decide +kernel
theorem dL_isSo_113 : decode cL_isSo 113 = .ok (.goto 4, 3) := by decide +kernel
theorem dL_isSo_116 : decode cL_isSo 116 = .ok (.iconst 0, 1) := by decide +kernel
theorem dL_isSo_117 : decode cL_isSo 117 = .ok (.if_icmp .ne 40, 3) := by decide +kernel
theorem dL_isSo_120 : decode cL_isSo 120 = .ok (.aload_n 0, 1) := by decide +kernel
theorem dL_isSo_121 : decode cL_isSo 121 = .ok (.iconst 1, 1) := by decide +kernel
theorem dL_isSo_122 : decode cL_isSo 122 = .ok (.iload_n 1, 1) := by decide +kernel
theorem dL_isSo_123 : decode cL_isSo 123 = .ok (.iconst 5, 1) := by decide +kernel
theorem dL_isSo_124 : decode cL_isSo 124 = .ok (.ishr, 1) := by decide +kernel
theorem dL_isSo_125 : decode cL_isSo 125 = .ok (.sipush 5000, 3) := by decide +kernel
theorem dL_isSo_128 : decode cL_isSo 128 = .ok (.invokestatic 89, 3) := by decide +kernel
theorem dL_isSo_131 : decode cL_isSo 131 = .ok (.iadd, 1) := by decide +kernel
theorem dL_isSo_132 : decode cL_isSo 132 = .ok (.invokevirtual 75, 3) := by decide +kernel
theorem dL_isSo_135 : decode cL_isSo 135 = .ok (.aload_n 0, 1) := by decide +kernel
theorem dL_isSo_136 : decode cL_isSo 136 = .ok (.iconst 1, 1) := by decide +kernel
theorem dL_isSo_137 : decode cL_isSo 137 = .ok (.iload_n 1, 1) := by decide +kernel
theorem dL_isSo_138 : decode cL_isSo 138 = .ok (.iconst 5, 1) := by decide +kernel
theorem dL_isSo_139 : decode cL_isSo 139 = .ok (.ishr, 1) := by decide +kernel
theorem dL_isSo_140 : decode cL_isSo 140 = .ok (.sipush 5000, 3) := by decide +kernel
theorem dL_isSo_143 : decode cL_isSo 143 = .ok (.invokestatic 89, 3) := by decide +kernel
theorem dL_isSo_146 : decode cL_isSo 146 = .ok (.iadd, 1) := by decide +kernel
theorem dL_isSo_147 : decode cL_isSo 147 = .ok (.invokevirtual 78, 3) := by decide +kernel
theorem dL_isSo_150 : decode cL_isSo 150 = .ok (.if_icmp .ne 7, 3) := by decide +kernel
theorem dL_isSo_153 : decode cL_isSo 153 = .ok (.iconst 1, 1) := by decide +kernel
theorem dL_isSo_154 : decode cL_isSo 154 = .ok (.goto 4, 3) := by decide +kernel
theorem dL_isSo_157 : decode cL_isSo 157 = .ok (.iconst 0, 1) := by decide +kernel
theorem dL_isSo_158 : decode cL_isSo 158 = .ok (.istore 6, 2) := by decide +kernel
theorem dL_isSo_160 : decode cL_isSo 160 = .ok (.iload 6, 2) := by decide +kernel
theorem dL_isSo_162 : decode cL_isSo 162 = .ok (.ifCond .eq 113, 3) := by decide +kernel
theorem dL_isSo_165 : decode cL_isSo 165 = .ok (.aload_n 0, 1) := by decide +kernel
theorem dL_isSo_166 : decode cL_isSo 166 = .ok (.invokevirtual 131, 3) := by decide +kernel
theorem dL_isSo_169 : decode cL_isSo 169 = .ok (.iconst 1, 1) := by decide +kernel
theorem dL_isSo_170 : decode cL_isSo 170 = .ok (.iand, 1) := by decide +kernel
theorem dL_isSo_171 : decode cL_isSo 171 = .ok (.aload_n 0, 1) := by decide +kernel
theorem dL_isSo_172 : decode cL_isSo 172 = .ok (.bipush 6, 2) := by decide +kernel
theorem dL_isSo_174 : decode cL_isSo 174 = .ok (.invokevirtual 59, 3) := by decide +kernel
theorem dL_isSo_177 : decode cL_isSo 177 = .ok (.lconst 0, 1) := by decide +kernel
theorem dL_isSo_178 : decode cL_isSo 178 = .ok (.lcmp, 1) := by decide +kernel
theorem dL_isSo_179 : decode cL_isSo 179 = .ok (.ifCond .ge 31, 3) := by decide +kernel
theorem dL_isSo_182 : decode cL_isSo 182 = .ok (.aload_n 0, 1) := by decide +kernel
theorem dL_isSo_183 : decode cL_isSo 183 = .ok (.bipush 7, 2) := by decide +kernel
theorem dL_isSo_185 : decode cL_isSo 185 = .ok (.invokevirtual 59, 3) := by decide +kernel
theorem dL_isSo_188 : decode cL_isSo 188 = .ok (.lconst 0, 1) := by decide +kernel
theorem dL_isSo_189 : decode cL_isSo 189 = .ok (.lcmp, 1) := by decide +kernel
theorem dL_isSo_190 : decode cL_isSo 190 = .ok (.ifCond .ne 20, 3) := by decide +kernel
theorem dL_isSo_193 : decode cL_isSo 193 = .ok (.aload_n 0, 1) := by decide +kernel
theorem dL_isSo_194 : decode cL_isSo 194 = .ok (.iconst 0, 1) := by decide +kernel
theorem dL_isSo_195 : decode cL_isSo 195 = .ok (.invokevirtual 56, 3) := by decide +kernel
theorem dL_isSo_198 : decode cL_isSo 198 = .ok (.aload_n 0, 1) := by decide +kernel
theorem dL_isSo_199 : decode cL_isSo 199 = .ok (.iconst 1, 1) := by decide +kernel
theorem dL_isSo_200 : decode cL_isSo 200 = .ok (.invokevirtual 56, 3) := by decide +kernel
theorem dL_isSo_203 : decode cL_isSo 203 = .ok (.if_icmp .lt 7, 3) := by decide +kernel
theorem dL_isSo_206 : decode cL_isSo 206 = .ok (.iconst 1, 1) := by decide +kernel
theorem dL_isSo_207 : decode cL_isSo 207 = .ok (.goto 4, 3) := by decide +kernel
theorem dL_isSo_210 : decode cL_isSo 210 = .ok (.iconst 0, 1) := by decide +kernel
theorem dL_isSo_211 : decode cL_isSo 211 = .ok (.if_icmp .ne 64, 3) := by decide +kernel
theorem dL_isSo_214 : decode cL_isSo 214 = .ok (.aload_n 0, 1) := by decide +kernel
theorem dL_isSo_215 : decode cL_isSo 215 = .ok (.iconst 3, 1) := by decide +kernel
theorem dL_isSo_216 : decode cL_isSo 216 = .ok (.invokevirtual 59, 3) := by decide +kernel
theorem dL_isSo_219 : decode cL_isSo 219 = .ok (.lconst 1, 1) := by decide +kernel
theorem dL_isSo_220 : decode cL_isSo 220 = .ok (.lcmp, 1) := by decide +kernel
theorem dL_isSo_221 : decode cL_isSo 221 = .ok (.ifCond .eq 11, 3) := by decide +kernel
theorem dL_isSo_224 : decode cL_isSo 224 = .ok (.aload_n 0, 1) := by decide +kernel
theorem dL_isSo_225 : decode cL_isSo 225 = .ok (.iconst 4, 1) := by decide +kernel
theorem dL_isSo_226 : decode cL_isSo 226 = .ok (.invokevirtual 56, 3) := by decide +kernel
theorem dL_isSo_229 : decode cL_isSo 229 = .ok (.ifCond .ne 46, 3) := by decide +kernel
theorem dL_isSo_232 : decode cL_isSo 232 = .ok (.aload_n 0, 1) := by decide +kernel
theorem dL_isSo_233 : decode cL_isSo 233 = .ok (.invokevirtual 116, 3) := by decide +kernel
theorem dL_isSo_236 : decode cL_isSo 236 = .ok (.iconst 2, 1) := by decide +kernel
theorem dL_isSo_237 : decode cL_isSo 237 = .ok (.if_icmp .ne 16, 3) := by decide +kernel
theorem dL_isSo_240 : decode cL_isSo 240 = .ok (.aload_n 0, 1) := by decide +kernel
theorem dL_isSo_241 : decode cL_isSo 241 = .ok (.iconst 3, 1) := by decide +kernel
theorem dL_isSo_242 : decode cL_isSo 242 = .ok (.invokevirtual 59, 3) := by decide +kernel
theorem dL_isSo_245 : decode cL_isSo 245 = .ok (.lconst 1, 1) := by decide +kernel
theorem dL_isSo_246 : decode cL_isSo 246 = .ok (.lcmp, 1) := by decide +kernel
theorem dL_isSo_247 : decode cL_isSo 247 = .ok (.ifCond .ne 28, 3) := by decide +kernel
theorem dL_isSo_250 : decode cL_isSo 250 = .ok (.goto 21, 3) := by decide +kernel
theorem dL_isSo_253 : decode cL_isSo 253 = .ok (.aload_n 0, 1) := by decide +kernel
theorem dL_isSo_254 : decode cL_isSo 254 = .ok (.invokevirtual 116, 3) := by decide +kernel
theorem dL_isSo_257 : decode cL_isSo 257 = .ok (.iconst 2, 1) := by decide +kernel
theorem dL_isSo_258 : decode cL_isSo 258 = .ok (.if_icmp .lt 13, 3) := by decide +kernel
theorem dL_isSo_261 : decode cL_isSo 261 = .ok (.aload_n 0, 1) := by decide +kernel
theorem dL_isSo_262 : decode cL_isSo 262 = .ok (.iconst 3, 1) := by decide +kernel
theorem dL_isSo_263 : decode cL_isSo 263 = .ok (.invokevirtual 59, 3) := by decide +kernel
theorem dL_isSo_266 : decode cL_isSo 266 = .ok (.lconst 0, 1) := by decide +kernel
theorem dL_isSo_267 : decode cL_isSo 267 = .ok (.lcmp, 1) := by decide +kernel
theorem dL_isSo_268 : decode cL_isSo 268 = .ok (.ifCond .ne 7, 3) := by decide +kernel
theorem dL_isSo_271 : decode cL_isSo 271 = .ok (.iconst 1, 1) := by decide +kernel
theorem dL_isSo_272 : decode cL_isSo 272 = .ok (.goto 4, 3) := by decide +kernel
theorem dL_isSo_275 : decode cL_isSo 275 = .ok (.iconst 0, 1) := by decide +kernel
theorem dL_isSo_276 : decode cL_isSo 276 = .ok (.istore 6, 2) := by decide +kernel
theorem dL_isSo_278 : decode cL_isSo 278 = .ok (.aload_n 0, 1) := by decide +kernel
theorem dL_isSo_279 : decode cL_isSo 279 = .ok (.iconst 0, 1) := by decide +kernel
theorem dL_isSo_280 : decode cL_isSo 280 = .ok (.invokevirtual 59, 3) := by decide +kernel
theorem dL_isSo_283 : decode cL_isSo 283 = .ok (.lconst 0, 1) := by decide +kernel
theorem dL_isSo_284 : decode cL_isSo 284 = .ok (.lcmp, 1) := by decide +kernel
theorem dL_isSo_285 : decode cL_isSo 285 = .ok (.ifCond .le 75, 3) := by decide +kernel
theorem dL_isSo_288 : decode cL_isSo 288 = .ok (.aload_n 0, 1) := by decide +kernel
theorem dL_isSo_289 : decode cL_isSo 289 = .ok (.invokevirtual 68, 3) := by decide +kernel
theorem dL_isSo_292 : decode cL_isSo 292 = .ok (.istore 7, 2) := by decide +kernel
theorem dL_isSo_294 : decode cL_isSo 294 = .ok (.aload_n 0, 1) := by decide +kernel
theorem dL_isSo_295 : decode cL_isSo 295 = .ok (.iconst 0, 1) := by decide +kernel
theorem dL_isSo_296 : decode cL_isSo 296 = .ok (.invokevirtual 59, 3) := by decide +kernel
theorem dL_isSo_299 : decode cL_isSo 299 = .ok (.lstore 8, 2) := by decide +kernel
theorem dL_isSo_301 : decode cL_isSo 301 = .ok (.iload 6, 2) := by decide +kernel
theorem dL_isSo_303 : decode cL_isSo 303 = .ok (.ifCond .eq 54, 3) := by decide +kernel
theorem dL_isSo_306 : decode cL_isSo 306 = .ok (.iload 7, 2) := by decide +kernel
theorem dL_isSo_308 : decode cL_isSo 308 = .ok (.i2l, 1) := by decide +kernel
theorem dL_isSo_309 : decode cL_isSo 309 = .ok (.lload 8, 2) := by decide +kernel
theorem dL_isSo_311 : decode cL_isSo 311 = .ok (.lmul, 1) := by decide +kernel
theorem dL_isSo_312 : decode cL_isSo 312 = .ok (.ldc2_w 149, 3) := by decide +kernel
theorem dL_isSo_315 : decode cL_isSo 315 = .ok (.ldiv, 1) := by decide +kernel
theorem dL_isSo_316 : decode cL_isSo 316 = .ok (.aload_n 0, 1) := by decide +kernel
theorem dL_isSo_317 : decode cL_isSo 317 = .ok (.iconst 1, 1) := by decide +kernel
theorem dL_isSo_318 : decode cL_isSo 318 = .ok (.invokevirtual 56, 3) := by decide +kernel
theorem dL_isSo_321 : decode cL_isSo 321 = .ok (.i2l, 1) := by decide +kernel
theorem dL_isSo_322 : decode cL_isSo 322 = .ok (.lcmp, 1) := by decide +kernel
theorem dL_isSo_323 : decode cL_isSo 323 = .ok (.ifCond .lt 34, 3) := by decide +kernel
theorem dL_isSo_326 : decode cL_isSo 326 = .ok (.iload 7, 2) := by decide +kernel
theorem dL_isSo_328 : decode cL_isSo 328 = .ok (.ifCond .eq 25, 3) := by decide +kernel
theorem dL_isSo_331 : decode cL_isSo 331 = .ok (.iload 7, 2) := by decide +kernel
theorem dL_isSo_333 : decode cL_isSo 333 = .ok (.iconst 1, 1) := by decide +kernel
theorem dL_isSo_334 : decode cL_isSo 334 = .ok (.isub, 1) := by decide +kernel
theorem dL_isSo_335 : decode cL_isSo 335 = .ok (.i2l, 1) := by decide +kernel
theorem dL_isSo_336 : decode cL_isSo 336 = .ok (.lload 8, 2) := by decide +kernel
theorem dL_isSo_338 : decode cL_isSo 338 = .ok (.lmul, 1) := by decide +kernel
theorem dL_isSo_339 : decode cL_isSo 339 = .ok (.ldc2_w 149, 3) := by decide +kernel
theorem dL_isSo_342 : decode cL_isSo 342 = .ok (.ldiv, 1) := by decide +kernel
theorem dL_isSo_343 : decode cL_isSo 343 = .ok (.aload_n 0, 1) := by decide +kernel
theorem dL_isSo_344 : decode cL_isSo 344 = .ok (.iconst 1, 1) := by decide +kernel
theorem dL_isSo_345 : decode cL_isSo 345 = .ok (.invokevirtual 56, 3) := by decide +kernel
theorem dL_isSo_348 : decode cL_isSo 348 = .ok (.i2l, 1) := by decide +kernel
theorem dL_isSo_349 : decode cL_isSo 349 = .ok (.lcmp, 1) := by decide +kernel
theorem dL_isSo_350 : decode cL_isSo 350 = .ok (.ifCond .ge 7, 3) := by decide +kernel
theorem dL_isSo_353 : decode cL_isSo 353 = .ok (.iconst 1, 1) := by decide +kernel
theorem dL_isSo_354 : decode cL_isSo 354 = .ok (.goto 4, 3) := by decide +kernel
theorem dL_isSo_357 : decode cL_isSo 357 = .ok (.iconst 0, 1) := by decide +kernel
theorem dL_isSo_358 : decode cL_isSo 358 = .ok (.istore 6, 2) := by decide +kernel
theorem dL_isSo_360 : decode cL_isSo 360 = .ok (.iload 6, 2) := by decide +kernel
theorem dL_isSo_362 : decode cL_isSo 362 = .ok (.ifCond .eq 70, 3) := by decide +kernel
theorem dL_isSo_365 : decode cL_isSo 365 = .ok (.aload_n 0, 1) := by decide +kernel
theorem dL_isSo_366 : decode cL_isSo 366 = .ok (.iconst 4, 1) := by decide +kernel
theorem dL_isSo_367 : decode cL_isSo 367 = .ok (.invokevirtual 59, 3) := by decide +kernel
theorem dL_isSo_370 : decode cL_isSo 370 = .ok (.lload_n 3, 1) := by decide +kernel
theorem dL_isSo_371 : decode cL_isSo 371 = .ok (.lcmp, 1) := by decide +kernel
theorem dL_isSo_372 : decode cL_isSo 372 = .ok (.ifCond .ne 60, 3) := by decide +kernel
theorem dL_isSo_375 : decode cL_isSo 375 = .ok (.lload_n 3, 1) := by decide +kernel
theorem dL_isSo_376 : decode cL_isSo 376 = .ok (.iload_n 2, 1) := by decide +kernel
theorem dL_isSo_377 : decode cL_isSo 377 = .ok (.i2l, 1) := by decide +kernel
theorem dL_isSo_378 : decode cL_isSo 378 = .ok (.ladd, 1) := by decide +kernel
theorem dL_isSo_379 : decode cL_isSo 379 = .ok (.ldc2_w 151, 3) := by decide +kernel
theorem dL_isSo_382 : decode cL_isSo 382 = .ok (.lcmp, 1) := by decide +kernel
theorem dL_isSo_383 : decode cL_isSo 383 = .ok (.ifCond .gt 45, 3) := by decide +kernel
theorem dL_isSo_386 : decode cL_isSo 386 = .ok (.aload_n 0, 1) := by decide +kernel
theorem dL_isSo_387 : decode cL_isSo 387 = .ok (.iload_n 2, 1) := by decide +kernel
theorem dL_isSo_388 : decode cL_isSo 388 = .ok (.invokevirtual 28, 3) := by decide +kernel
theorem dL_isSo_391 : decode cL_isSo 391 = .ok (.iload 5, 2) := by decide +kernel
theorem dL_isSo_393 : decode cL_isSo 393 = .ok (.if_icmp .ne 39, 3) := by decide +kernel
theorem dL_isSo_396 : decode cL_isSo 396 = .ok (.aload_n 0, 1) := by decide +kernel
theorem dL_isSo_397 : decode cL_isSo 397 = .ok (.iconst 4, 1) := by decide +kernel
theorem dL_isSo_398 : decode cL_isSo 398 = .ok (.invokevirtual 59, 3) := by decide +kernel
theorem dL_isSo_401 : decode cL_isSo 401 = .ok (.lload_n 3, 1) := by decide +kernel
theorem dL_isSo_402 : decode cL_isSo 402 = .ok (.iload_n 2, 1) := by decide +kernel
theorem dL_isSo_403 : decode cL_isSo 403 = .ok (.i2l, 1) := by decide +kernel
theorem dL_isSo_404 : decode cL_isSo 404 = .ok (.ladd, 1) := by decide +kernel
theorem dL_isSo_405 : decode cL_isSo 405 = .ok (.lcmp, 1) := by decide +kernel
theorem dL_isSo_406 : decode cL_isSo 406 = .ok (.ifCond .ne 26, 3) := by decide +kernel
theorem dL_isSo_409 : decode cL_isSo 409 = .ok (.aload_n 0, 1) := by decide +kernel
theorem dL_isSo_410 : decode cL_isSo 410 = .ok (.iconst 5, 1) := by decide +kernel
theorem dL_isSo_411 : decode cL_isSo 411 = .ok (.invokevirtual 59, 3) := by decide +kernel
theorem dL_isSo_414 : decode cL_isSo 414 = .ok (.aload_n 0, 1) := by decide +kernel
theorem dL_isSo_415 : decode cL_isSo 415 = .ok (.bipush 7, 2) := by decide +kernel
theorem dL_isSo_417 : decode cL_isSo 417 = .ok (.invokevirtual 59, 3) := by decide +kernel
theorem dL_isSo_420 : decode cL_isSo 420 = .ok (.ladd, 1) := by decide +kernel
theorem dL_isSo_421 : decode cL_isSo 421 = .ok (.iload 5, 2) := by decide +kernel
theorem dL_isSo_423 : decode cL_isSo 423 = .ok (.i2l, 1) := by decide +kernel
theorem dL_isSo_424 : decode cL_isSo 424 = .ok (.lcmp, 1) := by decide +kernel
theorem dL_isSo_425 : decode cL_isSo 425 = .ok (.ifCond .ne 7, 3) := by decide +kernel
theorem dL_isSo_428 : decode cL_isSo 428 = .ok (.iconst 1, 1) := by decide +kernel
theorem dL_isSo_429 : decode cL_isSo 429 = .ok (.goto 4, 3) := by decide +kernel
theorem dL_isSo_432 : decode cL_isSo 432 = .ok (.iconst 0, 1) := by decide +kernel
theorem dL_isSo_433 : decode cL_isSo 433 = .ok (.ireturn, 1) := by decide +kernel
theorem dL_law_0 : decode cL_law 0 = .ok (.new 9, 3) := by decide +kernel
theorem dL_law_3 : decode cL_law 3 = .ok (.dup, 1) := by decide +kernel
theorem dL_law_4 : decode cL_law 4 = .ok (.invokespecial 153, 3) := by decide +kernel
theorem dL_law_7 : decode cL_law 7 = .ok (.astore_n 1, 1) := by decide +kernel
theorem dL_law_8 : decode cL_law 8 = .ok (.new 9, 3) := by decide +kernel
theorem dL_law_11 : decode cL_law 11 = .ok (.dup, 1) := by decide +kernel
theorem dL_law_12 : decode cL_law 12 = .ok (.invokespecial 153, 3) := by decide +kernel
theorem dL_law_15 : decode cL_law 15 = .ok (.astore_n 2, 1) := by decide +kernel
theorem dL_law_16 : decode cL_law 16 = .ok (.aload_n 1, 1) := by decide +kernel
theorem dL_law_17 : decode cL_law 17 = .ok (.iconst 0, 1) := by decide +kernel
theorem dL_law_18 : decode cL_law 18 = .ok (.sipush 5000, 3) := by decide +kernel
theorem dL_law_21 : decode cL_law 21 = .ok (.invokevirtual 48, 3) := by decide +kernel
theorem dL_law_24 : decode cL_law 24 = .ok (.ifCond .eq 18, 3) := by decide +kernel
theorem dL_law_27 : decode cL_law 27 = .ok (.aload_n 2, 1) := by decide +kernel
theorem dL_law_28 : decode cL_law 28 = .ok (.iconst 0, 1) := by decide +kernel
theorem dL_law_29 : decode cL_law 29 = .ok (.sipush 5000, 3) := by decide +kernel
theorem dL_law_32 : decode cL_law 32 = .ok (.invokevirtual 48, 3) := by decide +kernel
theorem dL_law_35 : decode cL_law 35 = .ok (.ifCond .eq 7, 3) := by decide +kernel
theorem dL_law_38 : decode cL_law 38 = .ok (.iconst 1, 1) := by decide +kernel
theorem dL_law_39 : decode cL_law 39 = .ok (.goto 4, 3) := by decide +kernel
theorem dL_law_42 : decode cL_law 42 = .ok (.iconst 0, 1) := by decide +kernel
theorem dL_law_43 : decode cL_law 43 = .ok (.istore_n 3, 1) := by decide +kernel
theorem dL_law_44 : decode cL_law 44 = .ok (.iconst 0, 1) := by decide +kernel
theorem dL_law_45 : decode cL_law 45 = .ok (.istore 4, 2) := by decide +kernel
theorem dL_law_47 : decode cL_law 47 = .ok (.iload 4, 2) := by decide +kernel
theorem dL_law_49 : decode cL_law 49 = .ok (.bipush 100, 2) := by decide +kernel
theorem dL_law_51 : decode cL_law 51 = .ok (.if_icmp .ge 71, 3) := by decide +kernel
theorem dL_law_54 : decode cL_law 54 = .ok (.iload_n 3, 1) := by decide +kernel
theorem dL_law_55 : decode cL_law 55 = .ok (.ifCond .eq 67, 3) := by decide +kernel
theorem dL_law_58 : decode cL_law 58 = .ok (.aload_n 0, 1) := by decide +kernel
theorem dL_law_59 : decode cL_law 59 = .ok (.iload 4, 2) := by decide +kernel
theorem dL_law_61 : decode cL_law 61 = .ok (.invokestatic 154, 3) := by decide +kernel
theorem dL_law_64 : decode cL_law 64 = .ok (.istore 5, 2) := by decide +kernel
theorem dL_law_66 : decode cL_law 66 = .ok (.aload_n 1, 1) := by decide +kernel
theorem dL_law_67 : decode cL_law 67 = .ok (.iload 5, 2) := by decide +kernel
theorem dL_law_69 : decode cL_law 69 = .ok (.invokestatic 158, 3) := by decide +kernel
theorem dL_law_72 : decode cL_law 72 = .ok (.istore 6, 2) := by decide +kernel
theorem dL_law_74 : decode cL_law 74 = .ok (.iload 6, 2) := by decide +kernel
theorem dL_law_76 : decode cL_law 76 = .ok (.ldc 16, 2) := by decide +kernel
theorem dL_law_78 : decode cL_law 78 = .ok (.if_icmp .eq 14, 3) := by decide +kernel
theorem dL_law_81 : decode cL_law 81 = .ok (.aload_n 2, 1) := by decide +kernel
theorem dL_law_82 : decode cL_law 82 = .ok (.iload 5, 2) := by decide +kernel
theorem dL_law_84 : decode cL_law 84 = .ok (.invokestatic 158, 3) := by decide +kernel
theorem dL_law_87 : decode cL_law 87 = .ok (.iload 6, 2) := by decide +kernel
theorem dL_law_89 : decode cL_law 89 = .ok (.if_icmp .ne 25, 3) := by decide +kernel
theorem dL_law_92 : decode cL_law 92 = .ok (.iload 4, 2) := by decide +kernel
theorem dL_law_94 : decode cL_law 94 = .ok (.bipush 33, 2) := by decide +kernel
theorem dL_law_96 : decode cL_law 96 = .ok (.irem, 1) := by decide +kernel
theorem dL_law_97 : decode cL_law 97 = .ok (.bipush 32, 2) := by decide +kernel
theorem dL_law_99 : decode cL_law 99 = .ok (.if_icmp .ne 17, 3) := by decide +kernel
theorem dL_law_102 : decode cL_law 102 = .ok (.aload_n 1, 1) := by decide +kernel
theorem dL_law_103 : decode cL_law 103 = .ok (.aload_n 2, 1) := by decide +kernel
theorem dL_law_104 : decode cL_law 104 = .ok (.iload 5, 2) := by decide +kernel
theorem dL_law_106 : decode cL_law 106 = .ok (.iconst 3, 1) := by decide +kernel
theorem dL_law_107 : decode cL_law 107 = .ok (.ishr, 1) := by decide +kernel
theorem dL_law_108 : decode cL_law 108 = .ok (.invokestatic 161, 3) := by decide +kernel
theorem dL_law_111 : decode cL_law 111 = .ok (.ifCond .ne 5, 3) := by decide +kernel
theorem dL_law_114 : decode cL_law 114 = .ok (.iconst 0, 1) := by decide +kernel
theorem dL_law_115 : decode cL_law 115 = .ok (.ireturn, 1) := by decide +kernel
theorem dL_law_116 : decode cL_law 116 = .ok (.iinc 4 1, 3) := by decide +kernel
theorem dL_law_119 : decode cL_law 119 = .ok (.goto (-72), 3) := by decide +kernel
theorem dL_law_122 : decode cL_law 122 = .ok (.iload_n 3, 1) := by decide +kernel
theorem dL_law_123 : decode cL_law 123 = .ok (.ifCond .eq 20, 3) := by decide +kernel
theorem dL_law_126 : decode cL_law 126 = .ok (.aload_n 1, 1) := by decide +kernel
theorem dL_law_127 : decode cL_law 127 = .ok (.aload_n 0, 1) := by decide +kernel
theorem dL_law_128 : decode cL_law 128 = .ok (.bipush 100, 2) := by decide +kernel
theorem dL_law_130 : decode cL_law 130 = .ok (.invokestatic 154, 3) := by decide +kernel
theorem dL_law_133 : decode cL_law 133 = .ok (.invokestatic 165, 3) := by decide +kernel
theorem dL_law_136 : decode cL_law 136 = .ok (.ifCond .eq 7, 3) := by decide +kernel
theorem dL_law_139 : decode cL_law 139 = .ok (.iconst 1, 1) := by decide +kernel
theorem dL_law_140 : decode cL_law 140 = .ok (.goto 4, 3) := by decide +kernel
theorem dL_law_143 : decode cL_law 143 = .ok (.iconst 0, 1) := by decide +kernel
theorem dL_law_144 : decode cL_law 144 = .ok (.ireturn, 1) := by decide +kernel
