theorem dX0_init_0 : decode cX0_init 0 = .ok (.aload_n 0, 1) := by decide +kernel
theorem dX0_init_1 : decode cX0_init 1 = .ok (.invokespecial 3, 3) := by decide +kernel
theorem dX0_init_4 : decode cX0_init 4 = .ok (.aload_n 0, 1) := by decide +kernel
theorem dX0_init_5 : decode cX0_init 5 = .ok (.bipush 50, 2) := by decide +kernel
theorem dX0_init_7 : decode cX0_init 7 = .ok (.newarray .int, 2) := by decide +kernel
theorem dX0_init_9 : decode cX0_init 9 = .ok (.putfield 9, 3) := by decide +kernel
theorem dX0_init_12 : decode cX0_init 12 = .ok (.aload_n 0, 1) := by decide +kernel
theorem dX0_init_13 : decode cX0_init 13 = .ok (.bipush 50, 2) := by decide +kernel
theorem dX0_init_15 : decode cX0_init 15 = .ok (.newarray .int, 2) := by decide +kernel
theorem dX0_init_17 : decode cX0_init 17 = .ok (.putfield 15, 3) := by decide +kernel
theorem dX0_init_20 : decode cX0_init 20 = .ok (.aload_n 0, 1) := by decide +kernel
theorem dX0_init_21 : decode cX0_init 21 = .ok (.bipush 50, 2) := by decide +kernel
theorem dX0_init_23 : decode cX0_init 23 = .ok (.newarray .int, 2) := by decide +kernel
theorem dX0_init_25 : decode cX0_init 25 = .ok (.putfield 18, 3) := by decide +kernel
theorem dX0_init_28 : decode cX0_init 28 = .ok (.aload_n 0, 1) := by decide +kernel
theorem dX0_init_29 : decode cX0_init 29 = .ok (.bipush 50, 2) := by decide +kernel
theorem dX0_init_31 : decode cX0_init 31 = .ok (.newarray .int, 2) := by decide +kernel
theorem dX0_init_33 : decode cX0_init 33 = .ok (.putfield 21, 3) := by decide +kernel
theorem dX0_init_36 : decode cX0_init 36 = .ok (.aload_n 0, 1) := by decide +kernel
theorem dX0_init_37 : decode cX0_init 37 = .ok (.bipush 50, 2) := by decide +kernel
theorem dX0_init_39 : decode cX0_init 39 = .ok (.newarray .int, 2) := by decide +kernel
theorem dX0_init_41 : decode cX0_init 41 = .ok (.putfield 24, 3) := by decide +kernel
theorem dX0_init_44 : decode cX0_init 44 = .ok (.aload_n 0, 1) := by decide +kernel
theorem dX0_init_45 : decode cX0_init 45 = .ok (.getfield 9, 3) := by decide +kernel
theorem dX0_init_48 : decode cX0_init 48 = .ok (.bipush 100, 2) := by decide +kernel
theorem dX0_init_50 : decode cX0_init 50 = .ok (.invokestatic 27, 3) := by decide +kernel
theorem dX0_init_53 : decode cX0_init 53 = .ok (.aload_n 0, 1) := by decide +kernel
theorem dX0_init_54 : decode cX0_init 54 = .ok (.getfield 15, 3) := by decide +kernel
theorem dX0_init_57 : decode cX0_init 57 = .ok (.sipush 180, 3) := by decide +kernel
theorem dX0_init_60 : decode cX0_init 60 = .ok (.invokestatic 27, 3) := by decide +kernel
theorem dX0_init_63 : decode cX0_init 63 = .ok (.aload_n 0, 1) := by decide +kernel
theorem dX0_init_64 : decode cX0_init 64 = .ok (.getfield 18, 3) := by decide +kernel
theorem dX0_init_67 : decode cX0_init 67 = .ok (.bipush 10, 2) := by decide +kernel
theorem dX0_init_69 : decode cX0_init 69 = .ok (.invokestatic 27, 3) := by decide +kernel
theorem dX0_init_72 : decode cX0_init 72 = .ok (.return_, 1) := by decide +kernel
theorem dX0_tellLayer_0 : decode cX0_tellLayer 0 = .ok (.aload_n 0, 1) := by decide +kernel
theorem dX0_tellLayer_1 : decode cX0_tellLayer 1 = .ok (.getfield 9, 3) := by decide +kernel
theorem dX0_tellLayer_4 : decode cX0_tellLayer 4 = .ok (.iload_n 1, 1) := by decide +kernel
theorem dX0_tellLayer_5 : decode cX0_tellLayer 5 = .ok (.iload_n 2, 1) := by decide +kernel
theorem dX0_tellLayer_6 : decode cX0_tellLayer 6 = .ok (.invokestatic 33, 3) := by decide +kernel
theorem dX0_tellLayer_9 : decode cX0_tellLayer 9 = .ok (.aload_n 0, 1) := by decide +kernel
theorem dX0_tellLayer_10 : decode cX0_tellLayer 10 = .ok (.getfield 15, 3) := by decide +kernel
theorem dX0_tellLayer_13 : decode cX0_tellLayer 13 = .ok (.iload_n 1, 1) := by decide +kernel
theorem dX0_tellLayer_14 : decode cX0_tellLayer 14 = .ok (.iload_n 3, 1) := by decide +kernel
theorem dX0_tellLayer_15 : decode cX0_tellLayer 15 = .ok (.invokestatic 33, 3) := by decide +kernel
theorem dX0_tellLayer_18 : decode cX0_tellLayer 18 = .ok (.aload_n 0, 1) := by decide +kernel
theorem dX0_tellLayer_19 : decode cX0_tellLayer 19 = .ok (.getfield 18, 3) := by decide +kernel
theorem dX0_tellLayer_22 : decode cX0_tellLayer 22 = .ok (.iload_n 1, 1) := by decide +kernel
theorem dX0_tellLayer_23 : decode cX0_tellLayer 23 = .ok (.iload 4, 2) := by decide +kernel
theorem dX0_tellLayer_25 : decode cX0_tellLayer 25 = .ok (.invokestatic 33, 3) := by decide +kernel
theorem dX0_tellLayer_28 : decode cX0_tellLayer 28 = .ok (.aload_n 0, 1) := by decide +kernel
theorem dX0_tellLayer_29 : decode cX0_tellLayer 29 = .ok (.getfield 21, 3) := by decide +kernel
theorem dX0_tellLayer_32 : decode cX0_tellLayer 32 = .ok (.iload_n 1, 1) := by decide +kernel
theorem dX0_tellLayer_33 : decode cX0_tellLayer 33 = .ok (.iload 5, 2) := by decide +kernel
theorem dX0_tellLayer_35 : decode cX0_tellLayer 35 = .ok (.ifCond .eq 7, 3) := by decide +kernel
theorem dX0_tellLayer_38 : decode cX0_tellLayer 38 = .ok (.iconst 1, 1) := by decide +kernel
theorem dX0_tellLayer_39 : decode cX0_tellLayer 39 = .ok (.goto 4, 3) := by decide +kernel
theorem dX0_tellLayer_42 : decode cX0_tellLayer 42 = .ok (.iconst 0, 1) := by decide +kernel
theorem dX0_tellLayer_43 : decode cX0_tellLayer 43 = .ok (.invokestatic 33, 3) := by decide +kernel
theorem dX0_tellLayer_46 : decode cX0_tellLayer 46 = .ok (.return_, 1) := by decide +kernel
theorem dX0_layerOf_0 : decode cX0_layerOf 0 = .ok (.iload_n 0, 1) := by decide +kernel
theorem dX0_layerOf_1 : decode cX0_layerOf 1 = .ok (.ifCond .gt 7, 3) := by decide +kernel
theorem dX0_layerOf_4 : decode cX0_layerOf 4 = .ok (.iconst 0, 1) := by decide +kernel
theorem dX0_layerOf_5 : decode cX0_layerOf 5 = .ok (.goto 9, 3) := by decide +kernel
theorem dX0_layerOf_8 : decode cX0_layerOf 8 = .ok (.iload_n 0, 1) := by decide +kernel
theorem dX0_layerOf_9 : decode cX0_layerOf 9 = .ok (.iconst 1, 1) := by decide +kernel
theorem dX0_layerOf_10 : decode cX0_layerOf 10 = .ok (.isub, 1) := by decide +kernel
theorem dX0_layerOf_11 : decode cX0_layerOf 11 = .ok (.bipush 100, 2) := by decide +kernel
theorem dX0_layerOf_13 : decode cX0_layerOf 13 = .ok (.idiv, 1) := by decide +kernel
theorem dX0_layerOf_14 : decode cX0_layerOf 14 = .ok (.ireturn, 1) := by decide +kernel
theorem dX0_poreAt_0 : decode cX0_poreAt 0 = .ok (.aload_n 0, 1) := by decide +kernel
theorem dX0_poreAt_1 : decode cX0_poreAt 1 = .ok (.getfield 9, 3) := by decide +kernel
theorem dX0_poreAt_4 : decode cX0_poreAt 4 = .ok (.iload_n 1, 1) := by decide +kernel
theorem dX0_poreAt_5 : decode cX0_poreAt 5 = .ok (.invokestatic 37, 3) := by decide +kernel
theorem dX0_poreAt_8 : decode cX0_poreAt 8 = .ok (.invokestatic 41, 3) := by decide +kernel
theorem dX0_poreAt_11 : decode cX0_poreAt 11 = .ok (.iload_n 1, 1) := by decide +kernel
theorem dX0_poreAt_12 : decode cX0_poreAt 12 = .ok (.imul, 1) := by decide +kernel
theorem dX0_poreAt_13 : decode cX0_poreAt 13 = .ok (.bipush 10, 2) := by decide +kernel
theorem dX0_poreAt_15 : decode cX0_poreAt 15 = .ok (.idiv, 1) := by decide +kernel
theorem dX0_poreAt_16 : decode cX0_poreAt 16 = .ok (.ireturn, 1) := by decide +kernel
theorem dX0_breakAt_0 : decode cX0_breakAt 0 = .ok (.aload_n 0, 1) := by decide +kernel
theorem dX0_breakAt_1 : decode cX0_breakAt 1 = .ok (.getfield 15, 3) := by decide +kernel
theorem dX0_breakAt_4 : decode cX0_breakAt 4 = .ok (.iload_n 1, 1) := by decide +kernel
theorem dX0_breakAt_5 : decode cX0_breakAt 5 = .ok (.invokestatic 37, 3) := by decide +kernel
theorem dX0_breakAt_8 : decode cX0_breakAt 8 = .ok (.invokestatic 41, 3) := by decide +kernel
theorem dX0_breakAt_11 : decode cX0_breakAt 11 = .ok (.iload_n 1, 1) := by decide +kernel
theorem dX0_breakAt_12 : decode cX0_breakAt 12 = .ok (.imul, 1) := by decide +kernel
theorem dX0_breakAt_13 : decode cX0_breakAt 13 = .ok (.bipush 10, 2) := by decide +kernel
theorem dX0_breakAt_15 : decode cX0_breakAt 15 = .ok (.idiv, 1) := by decide +kernel
theorem dX0_breakAt_16 : decode cX0_breakAt 16 = .ok (.ireturn, 1) := by decide +kernel
theorem dX0_rateAt_0 : decode cX0_rateAt 0 = .ok (.aload_n 0, 1) := by decide +kernel
theorem dX0_rateAt_1 : decode cX0_rateAt 1 = .ok (.getfield 18, 3) := by decide +kernel
theorem dX0_rateAt_4 : decode cX0_rateAt 4 = .ok (.iload_n 1, 1) := by decide +kernel
theorem dX0_rateAt_5 : decode cX0_rateAt 5 = .ok (.invokestatic 37, 3) := by decide +kernel
theorem dX0_rateAt_8 : decode cX0_rateAt 8 = .ok (.invokestatic 41, 3) := by decide +kernel
theorem dX0_rateAt_11 : decode cX0_rateAt 11 = .ok (.ireturn, 1) := by decide +kernel
theorem dX0_bearsGasAt_0 : decode cX0_bearsGasAt 0 = .ok (.aload_n 0, 1) := by decide +kernel
theorem dX0_bearsGasAt_1 : decode cX0_bearsGasAt 1 = .ok (.getfield 21, 3) := by decide +kernel
theorem dX0_bearsGasAt_4 : decode cX0_bearsGasAt 4 = .ok (.iload_n 1, 1) := by decide +kernel
theorem dX0_bearsGasAt_5 : decode cX0_bearsGasAt 5 = .ok (.invokestatic 37, 3) := by decide +kernel
theorem dX0_bearsGasAt_8 : decode cX0_bearsGasAt 8 = .ok (.invokestatic 41, 3) := by decide +kernel
theorem dX0_bearsGasAt_11 : decode cX0_bearsGasAt 11 = .ok (.iconst 1, 1) := by decide +kernel
theorem dX0_bearsGasAt_12 : decode cX0_bearsGasAt 12 = .ok (.if_icmp .ne 7, 3) := by decide +kernel
theorem dX0_bearsGasAt_15 : decode cX0_bearsGasAt 15 = .ok (.iconst 1, 1) := by decide +kernel
theorem dX0_bearsGasAt_16 : decode cX0_bearsGasAt 16 = .ok (.goto 4, 3) := by decide +kernel
theorem dX0_bearsGasAt_19 : decode cX0_bearsGasAt 19 = .ok (.iconst 0, 1) := by decide +kernel
theorem dX0_bearsGasAt_20 : decode cX0_bearsGasAt 20 = .ok (.ireturn, 1) := by decide +kernel
theorem dX0_greatestPore_0 : decode cX0_greatestPore 0 = .ok (.aload_n 0, 1) := by decide +kernel
theorem dX0_greatestPore_1 : decode cX0_greatestPore 1 = .ok (.getfield 9, 3) := by decide +kernel
theorem dX0_greatestPore_4 : decode cX0_greatestPore 4 = .ok (.iload_n 1, 1) := by decide +kernel
theorem dX0_greatestPore_5 : decode cX0_greatestPore 5 = .ok (.invokestatic 41, 3) := by decide +kernel
theorem dX0_greatestPore_8 : decode cX0_greatestPore 8 = .ok (.istore_n 3, 1) := by decide +kernel
theorem dX0_greatestPore_9 : decode cX0_greatestPore 9 = .ok (.iload_n 1, 1) := by decide +kernel
theorem dX0_greatestPore_10 : decode cX0_greatestPore 10 = .ok (.iconst 1, 1) := by decide +kernel
theorem dX0_greatestPore_11 : decode cX0_greatestPore 11 = .ok (.iadd, 1) := by decide +kernel
theorem dX0_greatestPore_12 : decode cX0_greatestPore 12 = .ok (.istore 4, 2) := by decide +kernel
theorem dX0_greatestPore_14 : decode cX0_greatestPore 14 = .ok (.iload 4, 2) := by decide +kernel
theorem dX0_greatestPore_16 : decode cX0_greatestPore 16 = .ok (.iload_n 2, 1) := by decide +kernel
theorem dX0_greatestPore_17 : decode cX0_greatestPore 17 = .ok (.if_icmp .gt 23, 3) := by decide +kernel
theorem dX0_greatestPore_20 : decode cX0_greatestPore 20 = .ok (.iload_n 3, 1) := by decide +kernel
theorem dX0_greatestPore_21 : decode cX0_greatestPore 21 = .ok (.aload_n 0, 1) := by decide +kernel
theorem dX0_greatestPore_22 : decode cX0_greatestPore 22 = .ok (.getfield 9, 3) := by decide +kernel
theorem dX0_greatestPore_25 : decode cX0_greatestPore 25 = .ok (.iload 4, 2) := by decide +kernel
theorem dX0_greatestPore_27 : decode cX0_greatestPore 27 = .ok (.invokestatic 41, 3) := by decide +kernel
theorem dX0_greatestPore_30 : decode cX0_greatestPore 30 = .ok (.invokestatic 45, 3) := by decide +kernel
theorem dX0_greatestPore_33 : decode cX0_greatestPore 33 = .ok (.istore_n 3, 1) := by decide +kernel
theorem dX0_greatestPore_34 : decode cX0_greatestPore 34 = .ok (.iinc 4 1, 3) := by decide +kernel
theorem dX0_greatestPore_37 : decode cX0_greatestPore 37 = .ok (.goto (-23), 3) := by decide +kernel
theorem dX0_greatestPore_40 : decode cX0_greatestPore 40 = .ok (.iload_n 3, 1) := by decide +kernel
theorem dX0_greatestPore_41 : decode cX0_greatestPore 41 = .ok (.ireturn, 1) := by decide +kernel
theorem dX0_leastBreak_0 : decode cX0_leastBreak 0 = .ok (.aload_n 0, 1) := by decide +kernel
theorem dX0_leastBreak_1 : decode cX0_leastBreak 1 = .ok (.getfield 15, 3) := by decide +kernel
theorem dX0_leastBreak_4 : decode cX0_leastBreak 4 = .ok (.iload_n 1, 1) := by decide +kernel
theorem dX0_leastBreak_5 : decode cX0_leastBreak 5 = .ok (.invokestatic 41, 3) := by decide +kernel
theorem dX0_leastBreak_8 : decode cX0_leastBreak 8 = .ok (.istore_n 3, 1) := by decide +kernel
theorem dX0_leastBreak_9 : decode cX0_leastBreak 9 = .ok (.iload_n 1, 1) := by decide +kernel
theorem dX0_leastBreak_10 : decode cX0_leastBreak 10 = .ok (.iconst 1, 1) := by decide +kernel
theorem dX0_leastBreak_11 : decode cX0_leastBreak 11 = .ok (.iadd, 1) := by decide +kernel
theorem dX0_leastBreak_12 : decode cX0_leastBreak 12 = .ok (.istore 4, 2) := by decide +kernel
theorem dX0_leastBreak_14 : decode cX0_leastBreak 14 = .ok (.iload 4, 2) := by decide +kernel
theorem dX0_leastBreak_16 : decode cX0_leastBreak 16 = .ok (.iload_n 2, 1) := by decide +kernel
theorem dX0_leastBreak_17 : decode cX0_leastBreak 17 = .ok (.if_icmp .gt 23, 3) := by decide +kernel
theorem dX0_leastBreak_20 : decode cX0_leastBreak 20 = .ok (.iload_n 3, 1) := by decide +kernel
theorem dX0_leastBreak_21 : decode cX0_leastBreak 21 = .ok (.aload_n 0, 1) := by decide +kernel
theorem dX0_leastBreak_22 : decode cX0_leastBreak 22 = .ok (.getfield 15, 3) := by decide +kernel
theorem dX0_leastBreak_25 : decode cX0_leastBreak 25 = .ok (.iload 4, 2) := by decide +kernel
theorem dX0_leastBreak_27 : decode cX0_leastBreak 27 = .ok (.invokestatic 41, 3) := by decide +kernel
theorem dX0_leastBreak_30 : decode cX0_leastBreak 30 = .ok (.invokestatic 51, 3) := by decide +kernel
theorem dX0_leastBreak_33 : decode cX0_leastBreak 33 = .ok (.istore_n 3, 1) := by decide +kernel
theorem dX0_leastBreak_34 : decode cX0_leastBreak 34 = .ok (.iinc 4 1, 3) := by decide +kernel
theorem dX0_leastBreak_37 : decode cX0_leastBreak 37 = .ok (.goto (-23), 3) := by decide +kernel
theorem dX0_leastBreak_40 : decode cX0_leastBreak 40 = .ok (.iload_n 3, 1) := by decide +kernel
theorem dX0_leastBreak_41 : decode cX0_leastBreak 41 = .ok (.ireturn, 1) := by decide +kernel
theorem dX0_piecesFromAbove_0 : decode cX0_piecesFromAbove 0 = .ok (.iconst 1, 1) := by decide +kernel
theorem dX0_piecesFromAbove_1 : decode cX0_piecesFromAbove 1 = .ok (.istore_n 2, 1) := by decide +kernel
theorem dX0_piecesFromAbove_2 : decode cX0_piecesFromAbove 2 = .ok (.iconst 0, 1) := by decide +kernel
theorem dX0_piecesFromAbove_3 : decode cX0_piecesFromAbove 3 = .ok (.istore_n 3, 1) := by decide +kernel
theorem dX0_piecesFromAbove_4 : decode cX0_piecesFromAbove 4 = .ok (.sipush 300, 3) := by decide +kernel
theorem dX0_piecesFromAbove_7 : decode cX0_piecesFromAbove 7 = .ok (.istore 4, 2) := by decide +kernel
theorem dX0_piecesFromAbove_9 : decode cX0_piecesFromAbove 9 = .ok (.iconst 0, 1) := by decide +kernel
theorem dX0_piecesFromAbove_10 : decode cX0_piecesFromAbove 10 = .ok (.istore 5, 2) := by decide +kernel
theorem dX0_piecesFromAbove_12 : decode cX0_piecesFromAbove 12 = .ok (.iload 5, 2) := by decide +kernel
theorem dX0_piecesFromAbove_14 : decode cX0_piecesFromAbove 14 = .ok (.iload_n 1, 1) := by decide +kernel
theorem dX0_piecesFromAbove_15 : decode cX0_piecesFromAbove 15 = .ok (.if_icmp .gt 72, 3) := by decide +kernel
theorem dX0_piecesFromAbove_18 : decode cX0_piecesFromAbove 18 = .ok (.aload_n 0, 1) := by decide +kernel
theorem dX0_piecesFromAbove_19 : decode cX0_piecesFromAbove 19 = .ok (.getfield 9, 3) := by decide +kernel
theorem dX0_piecesFromAbove_22 : decode cX0_piecesFromAbove 22 = .ok (.iload 5, 2) := by decide +kernel
theorem dX0_piecesFromAbove_24 : decode cX0_piecesFromAbove 24 = .ok (.invokestatic 41, 3) := by decide +kernel
theorem dX0_piecesFromAbove_27 : decode cX0_piecesFromAbove 27 = .ok (.istore 6, 2) := by decide +kernel
theorem dX0_piecesFromAbove_29 : decode cX0_piecesFromAbove 29 = .ok (.aload_n 0, 1) := by decide +kernel
theorem dX0_piecesFromAbove_30 : decode cX0_piecesFromAbove 30 = .ok (.getfield 15, 3) := by decide +kernel
theorem dX0_piecesFromAbove_33 : decode cX0_piecesFromAbove 33 = .ok (.iload 5, 2) := by decide +kernel
theorem dX0_piecesFromAbove_35 : decode cX0_piecesFromAbove 35 = .ok (.invokestatic 41, 3) := by decide +kernel
theorem dX0_piecesFromAbove_38 : decode cX0_piecesFromAbove 38 = .ok (.istore 7, 2) := by decide +kernel
theorem dX0_piecesFromAbove_40 : decode cX0_piecesFromAbove 40 = .ok (.iload 6, 2) := by decide +kernel
theorem dX0_piecesFromAbove_42 : decode cX0_piecesFromAbove 42 = .ok (.iload 7, 2) := by decide +kernel
theorem dX0_piecesFromAbove_44 : decode cX0_piecesFromAbove 44 = .ok (.if_icmp .le 5, 3) := by decide +kernel
theorem dX0_piecesFromAbove_47 : decode cX0_piecesFromAbove 47 = .ok (.iconst (-1), 1) := by decide +kernel
theorem dX0_piecesFromAbove_48 : decode cX0_piecesFromAbove 48 = .ok (.ireturn, 1) := by decide +kernel
theorem dX0_piecesFromAbove_49 : decode cX0_piecesFromAbove 49 = .ok (.iload_n 3, 1) := by decide +kernel
theorem dX0_piecesFromAbove_50 : decode cX0_piecesFromAbove 50 = .ok (.iload 6, 2) := by decide +kernel
theorem dX0_piecesFromAbove_52 : decode cX0_piecesFromAbove 52 = .ok (.invokestatic 45, 3) := by decide +kernel
theorem dX0_piecesFromAbove_55 : decode cX0_piecesFromAbove 55 = .ok (.istore_n 3, 1) := by decide +kernel
theorem dX0_piecesFromAbove_56 : decode cX0_piecesFromAbove 56 = .ok (.iload 4, 2) := by decide +kernel
theorem dX0_piecesFromAbove_58 : decode cX0_piecesFromAbove 58 = .ok (.iload 7, 2) := by decide +kernel
theorem dX0_piecesFromAbove_60 : decode cX0_piecesFromAbove 60 = .ok (.invokestatic 51, 3) := by decide +kernel
theorem dX0_piecesFromAbove_63 : decode cX0_piecesFromAbove 63 = .ok (.istore 4, 2) := by decide +kernel
theorem dX0_piecesFromAbove_65 : decode cX0_piecesFromAbove 65 = .ok (.iload_n 3, 1) := by decide +kernel
theorem dX0_piecesFromAbove_66 : decode cX0_piecesFromAbove 66 = .ok (.iload 4, 2) := by decide +kernel
theorem dX0_piecesFromAbove_68 : decode cX0_piecesFromAbove 68 = .ok (.if_icmp .le 13, 3) := by decide +kernel
theorem dX0_piecesFromAbove_71 : decode cX0_piecesFromAbove 71 = .ok (.iinc 2 1, 3) := by decide +kernel
theorem dX0_piecesFromAbove_74 : decode cX0_piecesFromAbove 74 = .ok (.iload 6, 2) := by decide +kernel
theorem dX0_piecesFromAbove_76 : decode cX0_piecesFromAbove 76 = .ok (.istore_n 3, 1) := by decide +kernel
theorem dX0_piecesFromAbove_77 : decode cX0_piecesFromAbove 77 = .ok (.iload 7, 2) := by decide +kernel
theorem dX0_piecesFromAbove_79 : decode cX0_piecesFromAbove 79 = .ok (.istore 4, 2) := by decide +kernel
theorem dX0_piecesFromAbove_81 : decode cX0_piecesFromAbove 81 = .ok (.iinc 5 1, 3) := by decide +kernel
theorem dX0_piecesFromAbove_84 : decode cX0_piecesFromAbove 84 = .ok (.goto (-72), 3) := by decide +kernel
theorem dX0_piecesFromAbove_87 : decode cX0_piecesFromAbove 87 = .ok (.iload_n 2, 1) := by decide +kernel
theorem dX0_piecesFromAbove_88 : decode cX0_piecesFromAbove 88 = .ok (.ireturn, 1) := by decide +kernel
theorem dX0_piecesFromAll_0 : decode cX0_piecesFromAll 0 = .ok (.iconst 0, 1) := by decide +kernel
theorem dX0_piecesFromAll_1 : decode cX0_piecesFromAll 1 = .ok (.istore_n 2, 1) := by decide +kernel
theorem dX0_piecesFromAll_2 : decode cX0_piecesFromAll 2 = .ok (.iload_n 2, 1) := by decide +kernel
theorem dX0_piecesFromAll_3 : decode cX0_piecesFromAll 3 = .ok (.iload_n 1, 1) := by decide +kernel
theorem dX0_piecesFromAll_4 : decode cX0_piecesFromAll 4 = .ok (.if_icmp .gt 22, 3) := by decide +kernel
theorem dX0_piecesFromAll_7 : decode cX0_piecesFromAll 7 = .ok (.aload_n 0, 1) := by decide +kernel
theorem dX0_piecesFromAll_8 : decode cX0_piecesFromAll 8 = .ok (.getfield 24, 3) := by decide +kernel
theorem dX0_piecesFromAll_11 : decode cX0_piecesFromAll 11 = .ok (.iload_n 2, 1) := by decide +kernel
theorem dX0_piecesFromAll_12 : decode cX0_piecesFromAll 12 = .ok (.aload_n 0, 1) := by decide +kernel
theorem dX0_piecesFromAll_13 : decode cX0_piecesFromAll 13 = .ok (.iload_n 2, 1) := by decide +kernel
theorem dX0_piecesFromAll_14 : decode cX0_piecesFromAll 14 = .ok (.invokevirtual 54, 3) := by decide +kernel
theorem dX0_piecesFromAll_17 : decode cX0_piecesFromAll 17 = .ok (.invokestatic 33, 3) := by decide +kernel
theorem dX0_piecesFromAll_20 : decode cX0_piecesFromAll 20 = .ok (.iinc 2 1, 3) := by decide +kernel
theorem dX0_piecesFromAll_23 : decode cX0_piecesFromAll 23 = .ok (.goto (-21), 3) := by decide +kernel
theorem dX0_piecesFromAll_26 : decode cX0_piecesFromAll 26 = .ok (.aload_n 0, 1) := by decide +kernel
theorem dX0_piecesFromAll_27 : decode cX0_piecesFromAll 27 = .ok (.getfield 24, 3) := by decide +kernel
theorem dX0_piecesFromAll_30 : decode cX0_piecesFromAll 30 = .ok (.iload_n 1, 1) := by decide +kernel
theorem dX0_piecesFromAll_31 : decode cX0_piecesFromAll 31 = .ok (.invokestatic 41, 3) := by decide +kernel
theorem dX0_piecesFromAll_34 : decode cX0_piecesFromAll 34 = .ok (.ireturn, 1) := by decide +kernel
theorem dX0_leastPiecesTo_0 : decode cX0_leastPiecesTo 0 = .ok (.iconst (-1), 1) := by decide +kernel
theorem dX0_leastPiecesTo_1 : decode cX0_leastPiecesTo 1 = .ok (.istore_n 2, 1) := by decide +kernel
theorem dX0_leastPiecesTo_2 : decode cX0_leastPiecesTo 2 = .ok (.iconst 0, 1) := by decide +kernel
theorem dX0_leastPiecesTo_3 : decode cX0_leastPiecesTo 3 = .ok (.istore_n 3, 1) := by decide +kernel
theorem dX0_leastPiecesTo_4 : decode cX0_leastPiecesTo 4 = .ok (.sipush 300, 3) := by decide +kernel
theorem dX0_leastPiecesTo_7 : decode cX0_leastPiecesTo 7 = .ok (.istore 4, 2) := by decide +kernel
theorem dX0_leastPiecesTo_9 : decode cX0_leastPiecesTo 9 = .ok (.iload_n 1, 1) := by decide +kernel
theorem dX0_leastPiecesTo_10 : decode cX0_leastPiecesTo 10 = .ok (.istore 5, 2) := by decide +kernel
theorem dX0_leastPiecesTo_12 : decode cX0_leastPiecesTo 12 = .ok (.iload 5, 2) := by decide +kernel
theorem dX0_leastPiecesTo_14 : decode cX0_leastPiecesTo 14 = .ok (.ifCond .lt 103, 3) := by decide +kernel
theorem dX0_leastPiecesTo_17 : decode cX0_leastPiecesTo 17 = .ok (.iload_n 3, 1) := by decide +kernel
theorem dX0_leastPiecesTo_18 : decode cX0_leastPiecesTo 18 = .ok (.aload_n 0, 1) := by decide +kernel
theorem dX0_leastPiecesTo_19 : decode cX0_leastPiecesTo 19 = .ok (.getfield 9, 3) := by decide +kernel
theorem dX0_leastPiecesTo_22 : decode cX0_leastPiecesTo 22 = .ok (.iload 5, 2) := by decide +kernel
theorem dX0_leastPiecesTo_24 : decode cX0_leastPiecesTo 24 = .ok (.invokestatic 41, 3) := by decide +kernel
theorem dX0_leastPiecesTo_27 : decode cX0_leastPiecesTo 27 = .ok (.invokestatic 45, 3) := by decide +kernel
theorem dX0_leastPiecesTo_30 : decode cX0_leastPiecesTo 30 = .ok (.istore_n 3, 1) := by decide +kernel
theorem dX0_leastPiecesTo_31 : decode cX0_leastPiecesTo 31 = .ok (.iload 4, 2) := by decide +kernel
theorem dX0_leastPiecesTo_33 : decode cX0_leastPiecesTo 33 = .ok (.aload_n 0, 1) := by decide +kernel
theorem dX0_leastPiecesTo_34 : decode cX0_leastPiecesTo 34 = .ok (.getfield 15, 3) := by decide +kernel
theorem dX0_leastPiecesTo_37 : decode cX0_leastPiecesTo 37 = .ok (.iload 5, 2) := by decide +kernel
theorem dX0_leastPiecesTo_39 : decode cX0_leastPiecesTo 39 = .ok (.invokestatic 41, 3) := by decide +kernel
theorem dX0_leastPiecesTo_42 : decode cX0_leastPiecesTo 42 = .ok (.invokestatic 51, 3) := by decide +kernel
theorem dX0_leastPiecesTo_45 : decode cX0_leastPiecesTo 45 = .ok (.istore 4, 2) := by decide +kernel
theorem dX0_leastPiecesTo_47 : decode cX0_leastPiecesTo 47 = .ok (.iload 5, 2) := by decide +kernel
theorem dX0_leastPiecesTo_49 : decode cX0_leastPiecesTo 49 = .ok (.ifCond .ne 7, 3) := by decide +kernel
theorem dX0_leastPiecesTo_52 : decode cX0_leastPiecesTo 52 = .ok (.iconst 0, 1) := by decide +kernel
theorem dX0_leastPiecesTo_53 : decode cX0_leastPiecesTo 53 = .ok (.goto 14, 3) := by decide +kernel
theorem dX0_leastPiecesTo_56 : decode cX0_leastPiecesTo 56 = .ok (.aload_n 0, 1) := by decide +kernel
theorem dX0_leastPiecesTo_57 : decode cX0_leastPiecesTo 57 = .ok (.getfield 24, 3) := by decide +kernel
theorem dX0_leastPiecesTo_60 : decode cX0_leastPiecesTo 60 = .ok (.iload 5, 2) := by decide +kernel
theorem dX0_leastPiecesTo_62 : decode cX0_leastPiecesTo 62 = .ok (.iconst 1, 1) := by decide +kernel
theorem dX0_leastPiecesTo_63 : decode cX0_leastPiecesTo 63 = .ok (.isub, 1) := by decide +kernel
theorem dX0_leastPiecesTo_64 : decode cX0_leastPiecesTo 64 = .ok (.invokestatic 41, 3) := by decide +kernel
theorem dX0_leastPiecesTo_67 : decode cX0_leastPiecesTo 67 = .ok (.istore 6, 2) := by decide +kernel
theorem dX0_leastPiecesTo_69 : decode cX0_leastPiecesTo 69 = .ok (.iload_n 3, 1) := by decide +kernel
theorem dX0_leastPiecesTo_70 : decode cX0_leastPiecesTo 70 = .ok (.iload 4, 2) := by decide +kernel
theorem dX0_leastPiecesTo_72 : decode cX0_leastPiecesTo 72 = .ok (.if_icmp .gt 13, 3) := by decide +kernel
theorem dX0_leastPiecesTo_75 : decode cX0_leastPiecesTo 75 = .ok (.iload 6, 2) := by decide +kernel
theorem dX0_leastPiecesTo_77 : decode cX0_leastPiecesTo 77 = .ok (.iconst (-1), 1) := by decide +kernel
theorem dX0_leastPiecesTo_78 : decode cX0_leastPiecesTo 78 = .ok (.if_icmp .eq 7, 3) := by decide +kernel
theorem dX0_leastPiecesTo_81 : decode cX0_leastPiecesTo 81 = .ok (.iconst 1, 1) := by decide +kernel
theorem dX0_leastPiecesTo_82 : decode cX0_leastPiecesTo 82 = .ok (.goto 4, 3) := by decide +kernel
theorem dX0_leastPiecesTo_85 : decode cX0_leastPiecesTo 85 = .ok (.iconst 0, 1) := by decide +kernel
theorem dX0_leastPiecesTo_86 : decode cX0_leastPiecesTo 86 = .ok (.istore 7, 2) := by decide +kernel
theorem dX0_leastPiecesTo_88 : decode cX0_leastPiecesTo 88 = .ok (.iload 7, 2) := by decide +kernel
theorem dX0_leastPiecesTo_90 : decode cX0_leastPiecesTo 90 = .ok (.ifCond .eq 21, 3) := by decide +kernel
theorem dX0_leastPiecesTo_93 : decode cX0_leastPiecesTo 93 = .ok (.iload_n 2, 1) := by decide +kernel
theorem dX0_leastPiecesTo_94 : decode cX0_leastPiecesTo 94 = .ok (.iconst (-1), 1) := by decide +kernel
theorem dX0_leastPiecesTo_95 : decode cX0_leastPiecesTo 95 = .ok (.if_icmp .eq 11, 3) := by decide +kernel
theorem dX0_leastPiecesTo_98 : decode cX0_leastPiecesTo 98 = .ok (.iload 6, 2) := by decide +kernel
theorem dX0_leastPiecesTo_100 : decode cX0_leastPiecesTo 100 = .ok (.iconst 1, 1) := by decide +kernel
theorem dX0_leastPiecesTo_101 : decode cX0_leastPiecesTo 101 = .ok (.iadd, 1) := by decide +kernel
theorem dX0_leastPiecesTo_102 : decode cX0_leastPiecesTo 102 = .ok (.iload_n 2, 1) := by decide +kernel
theorem dX0_leastPiecesTo_103 : decode cX0_leastPiecesTo 103 = .ok (.if_icmp .ge 8, 3) := by decide +kernel
theorem dX0_leastPiecesTo_106 : decode cX0_leastPiecesTo 106 = .ok (.iload 6, 2) := by decide +kernel
theorem dX0_leastPiecesTo_108 : decode cX0_leastPiecesTo 108 = .ok (.iconst 1, 1) := by decide +kernel
theorem dX0_leastPiecesTo_109 : decode cX0_leastPiecesTo 109 = .ok (.iadd, 1) := by decide +kernel
theorem dX0_leastPiecesTo_110 : decode cX0_leastPiecesTo 110 = .ok (.istore_n 2, 1) := by decide +kernel
theorem dX0_leastPiecesTo_111 : decode cX0_leastPiecesTo 111 = .ok (.iinc 5 (-1), 3) := by decide +kernel
theorem dX0_leastPiecesTo_114 : decode cX0_leastPiecesTo 114 = .ok (.goto (-102), 3) := by decide +kernel
theorem dX0_leastPiecesTo_117 : decode cX0_leastPiecesTo 117 = .ok (.iload_n 2, 1) := by decide +kernel
theorem dX0_leastPiecesTo_118 : decode cX0_leastPiecesTo 118 = .ok (.ireturn, 1) := by decide +kernel
theorem dX1_init_0 : decode cX1_init 0 = .ok (.aload_n 0, 1) := by decide +kernel
theorem dX1_init_1 : decode cX1_init 1 = .ok (.invokespecial 3, 3) := by decide +kernel
theorem dX1_init_4 : decode cX1_init 4 = .ok (.aload_n 0, 1) := by decide +kernel
theorem dX1_init_5 : decode cX1_init 5 = .ok (.bipush 60, 2) := by decide +kernel
theorem dX1_init_7 : decode cX1_init 7 = .ok (.newarray .int, 2) := by decide +kernel
theorem dX1_init_9 : decode cX1_init 9 = .ok (.putfield 9, 3) := by decide +kernel
theorem dX1_init_12 : decode cX1_init 12 = .ok (.aload_n 0, 1) := by decide +kernel
theorem dX1_init_13 : decode cX1_init 13 = .ok (.bipush 60, 2) := by decide +kernel
theorem dX1_init_15 : decode cX1_init 15 = .ok (.newarray .int, 2) := by decide +kernel
theorem dX1_init_17 : decode cX1_init 17 = .ok (.putfield 15, 3) := by decide +kernel
theorem dX1_init_20 : decode cX1_init 20 = .ok (.aload_n 0, 1) := by decide +kernel
theorem dX1_init_21 : decode cX1_init 21 = .ok (.bipush 60, 2) := by decide +kernel
theorem dX1_init_23 : decode cX1_init 23 = .ok (.newarray .int, 2) := by decide +kernel
theorem dX1_init_25 : decode cX1_init 25 = .ok (.putfield 18, 3) := by decide +kernel
theorem dX1_init_28 : decode cX1_init 28 = .ok (.aload_n 0, 1) := by decide +kernel
theorem dX1_init_29 : decode cX1_init 29 = .ok (.bipush 60, 2) := by decide +kernel
theorem dX1_init_31 : decode cX1_init 31 = .ok (.newarray .int, 2) := by decide +kernel
theorem dX1_init_33 : decode cX1_init 33 = .ok (.putfield 21, 3) := by decide +kernel
theorem dX1_init_36 : decode cX1_init 36 = .ok (.aload_n 0, 1) := by decide +kernel
theorem dX1_init_37 : decode cX1_init 37 = .ok (.iconst (-1), 1) := by decide +kernel
theorem dX1_init_38 : decode cX1_init 38 = .ok (.putfield 24, 3) := by decide +kernel
theorem dX1_init_41 : decode cX1_init 41 = .ok (.aload_n 0, 1) := by decide +kernel
theorem dX1_init_42 : decode cX1_init 42 = .ok (.iconst (-1), 1) := by decide +kernel
theorem dX1_init_43 : decode cX1_init 43 = .ok (.putfield 28, 3) := by decide +kernel
theorem dX1_init_46 : decode cX1_init 46 = .ok (.return_, 1) := by decide +kernel
theorem dX1_keep_0 : decode cX1_keep 0 = .ok (.aload_n 0, 1) := by decide +kernel
theorem dX1_keep_1 : decode cX1_keep 1 = .ok (.getfield 9, 3) := by decide +kernel
theorem dX1_keep_4 : decode cX1_keep 4 = .ok (.aload_n 0, 1) := by decide +kernel
theorem dX1_keep_5 : decode cX1_keep 5 = .ok (.getfield 31, 3) := by decide +kernel
theorem dX1_keep_8 : decode cX1_keep 8 = .ok (.iload_n 1, 1) := by decide +kernel
theorem dX1_keep_9 : decode cX1_keep 9 = .ok (.invokestatic 34, 3) := by decide +kernel
theorem dX1_keep_12 : decode cX1_keep 12 = .ok (.aload_n 0, 1) := by decide +kernel
theorem dX1_keep_13 : decode cX1_keep 13 = .ok (.getfield 15, 3) := by decide +kernel
theorem dX1_keep_16 : decode cX1_keep 16 = .ok (.aload_n 0, 1) := by decide +kernel
theorem dX1_keep_17 : decode cX1_keep 17 = .ok (.getfield 31, 3) := by decide +kernel
theorem dX1_keep_20 : decode cX1_keep 20 = .ok (.iload_n 2, 1) := by decide +kernel
theorem dX1_keep_21 : decode cX1_keep 21 = .ok (.invokestatic 34, 3) := by decide +kernel
theorem dX1_keep_24 : decode cX1_keep 24 = .ok (.aload_n 0, 1) := by decide +kernel
theorem dX1_keep_25 : decode cX1_keep 25 = .ok (.getfield 18, 3) := by decide +kernel
theorem dX1_keep_28 : decode cX1_keep 28 = .ok (.aload_n 0, 1) := by decide +kernel
theorem dX1_keep_29 : decode cX1_keep 29 = .ok (.getfield 31, 3) := by decide +kernel
theorem dX1_keep_32 : decode cX1_keep 32 = .ok (.iload_n 3, 1) := by decide +kernel
theorem dX1_keep_33 : decode cX1_keep 33 = .ok (.ifCond .eq 7, 3) := by decide +kernel
theorem dX1_keep_36 : decode cX1_keep 36 = .ok (.iconst 1, 1) := by decide +kernel
theorem dX1_keep_37 : decode cX1_keep 37 = .ok (.goto 4, 3) := by decide +kernel
theorem dX1_keep_40 : decode cX1_keep 40 = .ok (.iconst 0, 1) := by decide +kernel
theorem dX1_keep_41 : decode cX1_keep 41 = .ok (.invokestatic 34, 3) := by decide +kernel
theorem dX1_keep_44 : decode cX1_keep 44 = .ok (.aload_n 0, 1) := by decide +kernel
theorem dX1_keep_45 : decode cX1_keep 45 = .ok (.getfield 21, 3) := by decide +kernel
theorem dX1_keep_48 : decode cX1_keep 48 = .ok (.aload_n 0, 1) := by decide +kernel
theorem dX1_keep_49 : decode cX1_keep 49 = .ok (.getfield 31, 3) := by decide +kernel
theorem dX1_keep_52 : decode cX1_keep 52 = .ok (.iload 4, 2) := by decide +kernel
theorem dX1_keep_54 : decode cX1_keep 54 = .ok (.invokestatic 34, 3) := by decide +kernel
theorem dX1_keep_57 : decode cX1_keep 57 = .ok (.iload_n 1, 1) := by decide +kernel
theorem dX1_keep_58 : decode cX1_keep 58 = .ok (.ifCond .ne 14, 3) := by decide +kernel
theorem dX1_keep_61 : decode cX1_keep 61 = .ok (.aload_n 0, 1) := by decide +kernel
theorem dX1_keep_62 : decode cX1_keep 62 = .ok (.aload_n 0, 1) := by decide +kernel
theorem dX1_keep_63 : decode cX1_keep 63 = .ok (.getfield 31, 3) := by decide +kernel
theorem dX1_keep_66 : decode cX1_keep 66 = .ok (.putfield 24, 3) := by decide +kernel
theorem dX1_keep_69 : decode cX1_keep 69 = .ok (.goto 11, 3) := by decide +kernel
theorem dX1_keep_72 : decode cX1_keep 72 = .ok (.aload_n 0, 1) := by decide +kernel
theorem dX1_keep_73 : decode cX1_keep 73 = .ok (.aload_n 0, 1) := by decide +kernel
theorem dX1_keep_74 : decode cX1_keep 74 = .ok (.getfield 31, 3) := by decide +kernel
theorem dX1_keep_77 : decode cX1_keep 77 = .ok (.putfield 28, 3) := by decide +kernel
theorem dX1_keep_80 : decode cX1_keep 80 = .ok (.aload_n 0, 1) := by decide +kernel
theorem dX1_keep_81 : decode cX1_keep 81 = .ok (.dup, 1) := by decide +kernel
theorem dX1_keep_82 : decode cX1_keep 82 = .ok (.getfield 31, 3) := by decide +kernel
theorem dX1_keep_85 : decode cX1_keep 85 = .ok (.iconst 1, 1) := by decide +kernel
theorem dX1_keep_86 : decode cX1_keep 86 = .ok (.iadd, 1) := by decide +kernel
theorem dX1_keep_87 : decode cX1_keep 87 = .ok (.putfield 31, 3) := by decide +kernel
theorem dX1_keep_90 : decode cX1_keep 90 = .ok (.return_, 1) := by decide +kernel
theorem dX1_isPassed_0 : decode cX1_isPassed 0 = .ok (.iload_n 1, 1) := by decide +kernel
theorem dX1_isPassed_1 : decode cX1_isPassed 1 = .ok (.iconst (-1), 1) := by decide +kernel
theorem dX1_isPassed_2 : decode cX1_isPassed 2 = .ok (.if_icmp .eq 19, 3) := by decide +kernel
theorem dX1_isPassed_5 : decode cX1_isPassed 5 = .ok (.aload_n 0, 1) := by decide +kernel
theorem dX1_isPassed_6 : decode cX1_isPassed 6 = .ok (.getfield 18, 3) := by decide +kernel
theorem dX1_isPassed_9 : decode cX1_isPassed 9 = .ok (.iload_n 1, 1) := by decide +kernel
theorem dX1_isPassed_10 : decode cX1_isPassed 10 = .ok (.invokestatic 38, 3) := by decide +kernel
theorem dX1_isPassed_13 : decode cX1_isPassed 13 = .ok (.iconst 1, 1) := by decide +kernel
theorem dX1_isPassed_14 : decode cX1_isPassed 14 = .ok (.if_icmp .ne 7, 3) := by decide +kernel
theorem dX1_isPassed_17 : decode cX1_isPassed 17 = .ok (.iconst 1, 1) := by decide +kernel
theorem dX1_isPassed_18 : decode cX1_isPassed 18 = .ok (.goto 4, 3) := by decide +kernel
theorem dX1_isPassed_21 : decode cX1_isPassed 21 = .ok (.iconst 0, 1) := by decide +kernel
theorem dX1_isPassed_22 : decode cX1_isPassed 22 = .ok (.ireturn, 1) := by decide +kernel
theorem dX2_init_0 : decode cX2_init 0 = .ok (.aload_n 0, 1) := by decide +kernel
theorem dX2_init_1 : decode cX2_init 1 = .ok (.invokespecial 1, 3) := by decide +kernel
theorem dX2_init_4 : decode cX2_init 4 = .ok (.aload_n 0, 1) := by decide +kernel
theorem dX2_init_5 : decode cX2_init 5 = .ok (.aload_n 1, 1) := by decide +kernel
theorem dX2_init_6 : decode cX2_init 6 = .ok (.putfield 7, 3) := by decide +kernel
theorem dX2_init_9 : decode cX2_init 9 = .ok (.aload_n 0, 1) := by decide +kernel
theorem dX2_init_10 : decode cX2_init 10 = .ok (.bipush 110, 2) := by decide +kernel
theorem dX2_init_12 : decode cX2_init 12 = .ok (.putfield 13, 3) := by decide +kernel
theorem dX2_init_15 : decode cX2_init 15 = .ok (.aload_n 0, 1) := by decide +kernel
theorem dX2_init_16 : decode cX2_init 16 = .ok (.sipush 10000, 3) := by decide +kernel
theorem dX2_init_19 : decode cX2_init 19 = .ok (.putfield 17, 3) := by decide +kernel
theorem dX2_init_22 : decode cX2_init 22 = .ok (.return_, 1) := by decide +kernel
theorem dX2_become_0 : decode cX2_become 0 = .ok (.aload_n 0, 1) := by decide +kernel
theorem dX2_become_1 : decode cX2_become 1 = .ok (.aload_n 1, 1) := by decide +kernel
theorem dX2_become_2 : decode cX2_become 2 = .ok (.getfield 20, 3) := by decide +kernel
theorem dX2_become_5 : decode cX2_become 5 = .ok (.putfield 20, 3) := by decide +kernel
theorem dX2_become_8 : decode cX2_become 8 = .ok (.aload_n 0, 1) := by decide +kernel
theorem dX2_become_9 : decode cX2_become 9 = .ok (.aload_n 1, 1) := by decide +kernel
theorem dX2_become_10 : decode cX2_become 10 = .ok (.getfield 23, 3) := by decide +kernel
theorem dX2_become_13 : decode cX2_become 13 = .ok (.putfield 23, 3) := by decide +kernel
theorem dX2_become_16 : decode cX2_become 16 = .ok (.aload_n 0, 1) := by decide +kernel
theorem dX2_become_17 : decode cX2_become 17 = .ok (.aload_n 1, 1) := by decide +kernel
theorem dX2_become_18 : decode cX2_become 18 = .ok (.getfield 13, 3) := by decide +kernel
theorem dX2_become_21 : decode cX2_become 21 = .ok (.putfield 13, 3) := by decide +kernel
theorem dX2_become_24 : decode cX2_become 24 = .ok (.aload_n 0, 1) := by decide +kernel
theorem dX2_become_25 : decode cX2_become 25 = .ok (.aload_n 1, 1) := by decide +kernel
theorem dX2_become_26 : decode cX2_become 26 = .ok (.getfield 26, 3) := by decide +kernel
theorem dX2_become_29 : decode cX2_become 29 = .ok (.putfield 26, 3) := by decide +kernel
theorem dX2_become_32 : decode cX2_become 32 = .ok (.aload_n 0, 1) := by decide +kernel
theorem dX2_become_33 : decode cX2_become 33 = .ok (.aload_n 1, 1) := by decide +kernel
theorem dX2_become_34 : decode cX2_become 34 = .ok (.getfield 30, 3) := by decide +kernel
theorem dX2_become_37 : decode cX2_become 37 = .ok (.putfield 30, 3) := by decide +kernel
theorem dX2_become_40 : decode cX2_become 40 = .ok (.aload_n 0, 1) := by decide +kernel
theorem dX2_become_41 : decode cX2_become 41 = .ok (.aload_n 1, 1) := by decide +kernel
theorem dX2_become_42 : decode cX2_become 42 = .ok (.getfield 17, 3) := by decide +kernel
theorem dX2_become_45 : decode cX2_become 45 = .ok (.putfield 17, 3) := by decide +kernel
theorem dX2_become_48 : decode cX2_become 48 = .ok (.aload_n 0, 1) := by decide +kernel
theorem dX2_become_49 : decode cX2_become 49 = .ok (.aload_n 1, 1) := by decide +kernel
theorem dX2_become_50 : decode cX2_become 50 = .ok (.getfield 33, 3) := by decide +kernel
theorem dX2_become_53 : decode cX2_become 53 = .ok (.putfield 33, 3) := by decide +kernel
theorem dX2_become_56 : decode cX2_become 56 = .ok (.aload_n 0, 1) := by decide +kernel
theorem dX2_become_57 : decode cX2_become 57 = .ok (.aload_n 1, 1) := by decide +kernel
theorem dX2_become_58 : decode cX2_become 58 = .ok (.getfield 36, 3) := by decide +kernel
theorem dX2_become_61 : decode cX2_become 61 = .ok (.putfield 36, 3) := by decide +kernel
theorem dX2_become_64 : decode cX2_become 64 = .ok (.aload_n 0, 1) := by decide +kernel
theorem dX2_become_65 : decode cX2_become 65 = .ok (.aload_n 1, 1) := by decide +kernel
theorem dX2_become_66 : decode cX2_become 66 = .ok (.getfield 40, 3) := by decide +kernel
theorem dX2_become_69 : decode cX2_become 69 = .ok (.putfield 40, 3) := by decide +kernel
theorem dX2_become_72 : decode cX2_become 72 = .ok (.aload_n 0, 1) := by decide +kernel
theorem dX2_become_73 : decode cX2_become 73 = .ok (.aload_n 1, 1) := by decide +kernel
theorem dX2_become_74 : decode cX2_become 74 = .ok (.getfield 43, 3) := by decide +kernel
theorem dX2_become_77 : decode cX2_become 77 = .ok (.putfield 43, 3) := by decide +kernel
theorem dX2_become_80 : decode cX2_become 80 = .ok (.aload_n 0, 1) := by decide +kernel
theorem dX2_become_81 : decode cX2_become 81 = .ok (.aload_n 1, 1) := by decide +kernel
theorem dX2_become_82 : decode cX2_become 82 = .ok (.getfield 46, 3) := by decide +kernel
theorem dX2_become_85 : decode cX2_become 85 = .ok (.putfield 46, 3) := by decide +kernel
theorem dX2_become_88 : decode cX2_become 88 = .ok (.aload_n 0, 1) := by decide +kernel
theorem dX2_become_89 : decode cX2_become 89 = .ok (.aload_n 1, 1) := by decide +kernel
theorem dX2_become_90 : decode cX2_become 90 = .ok (.getfield 49, 3) := by decide +kernel
theorem dX2_become_93 : decode cX2_become 93 = .ok (.putfield 49, 3) := by decide +kernel
theorem dX2_become_96 : decode cX2_become 96 = .ok (.aload_n 0, 1) := by decide +kernel
theorem dX2_become_97 : decode cX2_become 97 = .ok (.aload_n 1, 1) := by decide +kernel
theorem dX2_become_98 : decode cX2_become 98 = .ok (.getfield 52, 3) := by decide +kernel
theorem dX2_become_101 : decode cX2_become 101 = .ok (.putfield 52, 3) := by decide +kernel
theorem dX2_become_104 : decode cX2_become 104 = .ok (.aload_n 0, 1) := by decide +kernel
theorem dX2_become_105 : decode cX2_become 105 = .ok (.aload_n 1, 1) := by decide +kernel
theorem dX2_become_106 : decode cX2_become 106 = .ok (.getfield 55, 3) := by decide +kernel
theorem dX2_become_109 : decode cX2_become 109 = .ok (.putfield 55, 3) := by decide +kernel
theorem dX2_become_112 : decode cX2_become 112 = .ok (.return_, 1) := by decide +kernel
theorem dX2_hasGas_0 : decode cX2_hasGas 0 = .ok (.aload_n 0, 1) := by decide +kernel
theorem dX2_hasGas_1 : decode cX2_hasGas 1 = .ok (.getfield 36, 3) := by decide +kernel
theorem dX2_hasGas_4 : decode cX2_hasGas 4 = .ok (.lconst 0, 1) := by decide +kernel
theorem dX2_hasGas_5 : decode cX2_hasGas 5 = .ok (.lcmp, 1) := by decide +kernel
theorem dX2_hasGas_6 : decode cX2_hasGas 6 = .ok (.ifCond .le 7, 3) := by decide +kernel
theorem dX2_hasGas_9 : decode cX2_hasGas 9 = .ok (.iconst 1, 1) := by decide +kernel
theorem dX2_hasGas_10 : decode cX2_hasGas 10 = .ok (.goto 4, 3) := by decide +kernel
theorem dX2_hasGas_13 : decode cX2_hasGas 13 = .ok (.iconst 0, 1) := by decide +kernel
theorem dX2_hasGas_14 : decode cX2_hasGas 14 = .ok (.ireturn, 1) := by decide +kernel
theorem dX2_hasInflow_0 : decode cX2_hasInflow 0 = .ok (.aload_n 0, 1) := by decide +kernel
theorem dX2_hasInflow_1 : decode cX2_hasInflow 1 = .ok (.invokevirtual 58, 3) := by decide +kernel
theorem dX2_hasInflow_4 : decode cX2_hasInflow 4 = .ok (.ifCond .ne 10, 3) := by decide +kernel
theorem dX2_hasInflow_7 : decode cX2_hasInflow 7 = .ok (.aload_n 0, 1) := by decide +kernel
theorem dX2_hasInflow_8 : decode cX2_hasInflow 8 = .ok (.getfield 46, 3) := by decide +kernel
theorem dX2_hasInflow_11 : decode cX2_hasInflow 11 = .ok (.ifCond .le 7, 3) := by decide +kernel
theorem dX2_hasInflow_14 : decode cX2_hasInflow 14 = .ok (.iconst 1, 1) := by decide +kernel
theorem dX2_hasInflow_15 : decode cX2_hasInflow 15 = .ok (.goto 4, 3) := by decide +kernel
theorem dX2_hasInflow_18 : decode cX2_hasInflow 18 = .ok (.iconst 0, 1) := by decide +kernel
theorem dX2_hasInflow_19 : decode cX2_hasInflow 19 = .ok (.ireturn, 1) := by decide +kernel
theorem dX2_column_0 : decode cX2_column 0 = .ok (.aload_n 0, 1) := by decide +kernel
theorem dX2_column_1 : decode cX2_column 1 = .ok (.getfield 13, 3) := by decide +kernel
theorem dX2_column_4 : decode cX2_column 4 = .ok (.iconst 0, 1) := by decide +kernel
theorem dX2_column_5 : decode cX2_column 5 = .ok (.aload_n 0, 1) := by decide +kernel
theorem dX2_column_6 : decode cX2_column 6 = .ok (.getfield 20, 3) := by decide +kernel
theorem dX2_column_9 : decode cX2_column 9 = .ok (.aload_n 0, 1) := by decide +kernel
theorem dX2_column_10 : decode cX2_column 10 = .ok (.getfield 43, 3) := by decide +kernel
theorem dX2_column_13 : decode cX2_column 13 = .ok (.isub, 1) := by decide +kernel
theorem dX2_column_14 : decode cX2_column 14 = .ok (.aload_n 0, 1) := by decide +kernel
theorem dX2_column_15 : decode cX2_column 15 = .ok (.getfield 46, 3) := by decide +kernel
theorem dX2_column_18 : decode cX2_column 18 = .ok (.isub, 1) := by decide +kernel
theorem dX2_column_19 : decode cX2_column 19 = .ok (.invokestatic 62, 3) := by decide +kernel
theorem dX2_column_22 : decode cX2_column 22 = .ok (.imul, 1) := by decide +kernel
theorem dX2_column_23 : decode cX2_column 23 = .ok (.bipush 100, 2) := by decide +kernel
theorem dX2_column_25 : decode cX2_column 25 = .ok (.aload_n 0, 1) := by decide +kernel
theorem dX2_column_26 : decode cX2_column 26 = .ok (.getfield 46, 3) := by decide +kernel
theorem dX2_column_29 : decode cX2_column 29 = .ok (.imul, 1) := by decide +kernel
theorem dX2_column_30 : decode cX2_column 30 = .ok (.iadd, 1) := by decide +kernel
theorem dX2_column_31 : decode cX2_column 31 = .ok (.bipush 10, 2) := by decide +kernel
theorem dX2_column_33 : decode cX2_column 33 = .ok (.idiv, 1) := by decide +kernel
theorem dX2_column_34 : decode cX2_column 34 = .ok (.ireturn, 1) := by decide +kernel
theorem dX2_bottom_0 : decode cX2_bottom 0 = .ok (.aload_n 0, 1) := by decide +kernel
theorem dX2_bottom_1 : decode cX2_bottom 1 = .ok (.invokevirtual 68, 3) := by decide +kernel
theorem dX2_bottom_4 : decode cX2_bottom 4 = .ok (.aload_n 0, 1) := by decide +kernel
theorem dX2_bottom_5 : decode cX2_bottom 5 = .ok (.getfield 30, 3) := by decide +kernel
theorem dX2_bottom_8 : decode cX2_bottom 8 = .ok (.iadd, 1) := by decide +kernel
theorem dX2_bottom_9 : decode cX2_bottom 9 = .ok (.ireturn, 1) := by decide +kernel
theorem dX2_gasPressure_0 : decode cX2_gasPressure 0 = .ok (.iconst 1, 1) := by decide +kernel
theorem dX2_gasPressure_1 : decode cX2_gasPressure 1 = .ok (.aload_n 0, 1) := by decide +kernel
theorem dX2_gasPressure_2 : decode cX2_gasPressure 2 = .ok (.getfield 13, 3) := by decide +kernel
theorem dX2_gasPressure_5 : decode cX2_gasPressure 5 = .ok (.aload_n 0, 1) := by decide +kernel
theorem dX2_gasPressure_6 : decode cX2_gasPressure 6 = .ok (.getfield 40, 3) := by decide +kernel
theorem dX2_gasPressure_9 : decode cX2_gasPressure 9 = .ok (.imul, 1) := by decide +kernel
theorem dX2_gasPressure_10 : decode cX2_gasPressure 10 = .ok (.bipush 10, 2) := by decide +kernel
theorem dX2_gasPressure_12 : decode cX2_gasPressure 12 = .ok (.idiv, 1) := by decide +kernel
theorem dX2_gasPressure_13 : decode cX2_gasPressure 13 = .ok (.aload_n 0, 1) := by decide +kernel
theorem dX2_gasPressure_14 : decode cX2_gasPressure 14 = .ok (.getfield 30, 3) := by decide +kernel
theorem dX2_gasPressure_17 : decode cX2_gasPressure 17 = .ok (.iadd, 1) := by decide +kernel
theorem dX2_gasPressure_18 : decode cX2_gasPressure 18 = .ok (.invokestatic 62, 3) := by decide +kernel
theorem dX2_gasPressure_21 : decode cX2_gasPressure 21 = .ok (.ireturn, 1) := by decide +kernel
theorem dX2_foot_0 : decode cX2_foot 0 = .ok (.aload_n 0, 1) := by decide +kernel
theorem dX2_foot_1 : decode cX2_foot 1 = .ok (.invokevirtual 58, 3) := by decide +kernel
theorem dX2_foot_4 : decode cX2_foot 4 = .ok (.ifCond .eq 18, 3) := by decide +kernel
theorem dX2_foot_7 : decode cX2_foot 7 = .ok (.aload_n 0, 1) := by decide +kernel
theorem dX2_foot_8 : decode cX2_foot 8 = .ok (.getfield 40, 3) := by decide +kernel
theorem dX2_foot_11 : decode cX2_foot 11 = .ok (.aload_n 0, 1) := by decide +kernel
theorem dX2_foot_12 : decode cX2_foot 12 = .ok (.getfield 23, 3) := by decide +kernel
theorem dX2_foot_15 : decode cX2_foot 15 = .ok (.if_icmp .ge 7, 3) := by decide +kernel
theorem dX2_foot_18 : decode cX2_foot 18 = .ok (.iconst 1, 1) := by decide +kernel
theorem dX2_foot_19 : decode cX2_foot 19 = .ok (.goto 4, 3) := by decide +kernel
theorem dX2_foot_22 : decode cX2_foot 22 = .ok (.iconst 0, 1) := by decide +kernel
theorem dX2_foot_23 : decode cX2_foot 23 = .ok (.istore_n 1, 1) := by decide +kernel
theorem dX2_foot_24 : decode cX2_foot 24 = .ok (.iload_n 1, 1) := by decide +kernel
theorem dX2_foot_25 : decode cX2_foot 25 = .ok (.ifCond .eq 19, 3) := by decide +kernel
theorem dX2_foot_28 : decode cX2_foot 28 = .ok (.iconst 0, 1) := by decide +kernel
theorem dX2_foot_29 : decode cX2_foot 29 = .ok (.aload_n 0, 1) := by decide +kernel
theorem dX2_foot_30 : decode cX2_foot 30 = .ok (.getfield 23, 3) := by decide +kernel
theorem dX2_foot_33 : decode cX2_foot 33 = .ok (.aload_n 0, 1) := by decide +kernel
theorem dX2_foot_34 : decode cX2_foot 34 = .ok (.getfield 43, 3) := by decide +kernel
theorem dX2_foot_37 : decode cX2_foot 37 = .ok (.isub, 1) := by decide +kernel
theorem dX2_foot_38 : decode cX2_foot 38 = .ok (.invokestatic 62, 3) := by decide +kernel
theorem dX2_foot_41 : decode cX2_foot 41 = .ok (.goto 7, 3) := by decide +kernel
theorem dX2_foot_44 : decode cX2_foot 44 = .ok (.aload_n 0, 1) := by decide +kernel
theorem dX2_foot_45 : decode cX2_foot 45 = .ok (.getfield 23, 3) := by decide +kernel
theorem dX2_foot_48 : decode cX2_foot 48 = .ok (.istore_n 2, 1) := by decide +kernel
theorem dX2_foot_49 : decode cX2_foot 49 = .ok (.aload_n 0, 1) := by decide +kernel
theorem dX2_foot_50 : decode cX2_foot 50 = .ok (.getfield 30, 3) := by decide +kernel
theorem dX2_foot_53 : decode cX2_foot 53 = .ok (.aload_n 0, 1) := by decide +kernel
theorem dX2_foot_54 : decode cX2_foot 54 = .ok (.getfield 13, 3) := by decide +kernel
theorem dX2_foot_57 : decode cX2_foot 57 = .ok (.iload_n 2, 1) := by decide +kernel
theorem dX2_foot_58 : decode cX2_foot 58 = .ok (.imul, 1) := by decide +kernel
theorem dX2_foot_59 : decode cX2_foot 59 = .ok (.bipush 10, 2) := by decide +kernel
theorem dX2_foot_61 : decode cX2_foot 61 = .ok (.idiv, 1) := by decide +kernel
theorem dX2_foot_62 : decode cX2_foot 62 = .ok (.iadd, 1) := by decide +kernel
theorem dX2_foot_63 : decode cX2_foot 63 = .ok (.ireturn, 1) := by decide +kernel
theorem dX2_letMinutesGo_0 : decode cX2_letMinutesGo 0 = .ok (.iconst 0, 1) := by decide +kernel
theorem dX2_letMinutesGo_1 : decode cX2_letMinutesGo 1 = .ok (.istore_n 2, 1) := by decide +kernel
theorem dX2_letMinutesGo_2 : decode cX2_letMinutesGo 2 = .ok (.iload_n 2, 1) := by decide +kernel
theorem dX2_letMinutesGo_3 : decode cX2_letMinutesGo 3 = .ok (.iload_n 1, 1) := by decide +kernel
theorem dX2_letMinutesGo_4 : decode cX2_letMinutesGo 4 = .ok (.if_icmp .ge 15, 3) := by decide +kernel
theorem dX2_letMinutesGo_7 : decode cX2_letMinutesGo 7 = .ok (.aload_n 0, 1) := by decide +kernel
theorem dX2_letMinutesGo_8 : decode cX2_letMinutesGo 8 = .ok (.iconst 0, 1) := by decide +kernel
theorem dX2_letMinutesGo_9 : decode cX2_letMinutesGo 9 = .ok (.invokevirtual 72, 3) := by decide +kernel
theorem dX2_letMinutesGo_12 : decode cX2_letMinutesGo 12 = .ok (.pop, 1) := by decide +kernel
theorem dX2_letMinutesGo_13 : decode cX2_letMinutesGo 13 = .ok (.iinc 2 1, 3) := by decide +kernel
theorem dX2_letMinutesGo_16 : decode cX2_letMinutesGo 16 = .ok (.goto (-14), 3) := by decide +kernel
theorem dX2_letMinutesGo_19 : decode cX2_letMinutesGo 19 = .ok (.aload_n 0, 1) := by decide +kernel
theorem dX2_letMinutesGo_20 : decode cX2_letMinutesGo 20 = .ok (.getfield 43, 3) := by decide +kernel
theorem dX2_letMinutesGo_23 : decode cX2_letMinutesGo 23 = .ok (.aload_n 0, 1) := by decide +kernel
theorem dX2_letMinutesGo_24 : decode cX2_letMinutesGo 24 = .ok (.getfield 46, 3) := by decide +kernel
theorem dX2_letMinutesGo_27 : decode cX2_letMinutesGo 27 = .ok (.iadd, 1) := by decide +kernel
theorem dX2_letMinutesGo_28 : decode cX2_letMinutesGo 28 = .ok (.ireturn, 1) := by decide +kernel
theorem dX2_letMinuteGo_0 : decode cX2_letMinuteGo 0 = .ok (.aload_n 0, 1) := by decide +kernel
theorem dX2_letMinuteGo_1 : decode cX2_letMinuteGo 1 = .ok (.dup, 1) := by decide +kernel
theorem dX2_letMinuteGo_2 : decode cX2_letMinuteGo 2 = .ok (.getfield 55, 3) := by decide +kernel
theorem dX2_letMinuteGo_5 : decode cX2_letMinuteGo 5 = .ok (.iconst 1, 1) := by decide +kernel
theorem dX2_letMinuteGo_6 : decode cX2_letMinuteGo 6 = .ok (.iadd, 1) := by decide +kernel
theorem dX2_letMinuteGo_7 : decode cX2_letMinuteGo 7 = .ok (.putfield 55, 3) := by decide +kernel
theorem dX2_letMinuteGo_10 : decode cX2_letMinuteGo 10 = .ok (.aload_n 0, 1) := by decide +kernel
theorem dX2_letMinuteGo_11 : decode cX2_letMinuteGo 11 = .ok (.iload_n 1, 1) := by decide +kernel
theorem dX2_letMinuteGo_12 : decode cX2_letMinuteGo 12 = .ok (.invokevirtual 76, 3) := by decide +kernel
theorem dX2_letMinuteGo_15 : decode cX2_letMinuteGo 15 = .ok (.aload_n 0, 1) := by decide +kernel
theorem dX2_letMinuteGo_16 : decode cX2_letMinuteGo 16 = .ok (.iload_n 1, 1) := by decide +kernel
theorem dX2_letMinuteGo_17 : decode cX2_letMinuteGo 17 = .ok (.invokevirtual 80, 3) := by decide +kernel
theorem dX2_letMinuteGo_20 : decode cX2_letMinuteGo 20 = .ok (.aload_n 0, 1) := by decide +kernel
theorem dX2_letMinuteGo_21 : decode cX2_letMinuteGo 21 = .ok (.invokevirtual 83, 3) := by decide +kernel
theorem dX2_letMinuteGo_24 : decode cX2_letMinuteGo 24 = .ok (.aload_n 0, 1) := by decide +kernel
theorem dX2_letMinuteGo_25 : decode cX2_letMinuteGo 25 = .ok (.invokevirtual 86, 3) := by decide +kernel
theorem dX2_letMinuteGo_28 : decode cX2_letMinuteGo 28 = .ok (.aload_n 0, 1) := by decide +kernel
theorem dX2_letMinuteGo_29 : decode cX2_letMinuteGo 29 = .ok (.invokevirtual 89, 3) := by decide +kernel
theorem dX2_letMinuteGo_32 : decode cX2_letMinuteGo 32 = .ok (.istore_n 2, 1) := by decide +kernel
theorem dX2_letMinuteGo_33 : decode cX2_letMinuteGo 33 = .ok (.aload_n 0, 1) := by decide +kernel
theorem dX2_letMinuteGo_34 : decode cX2_letMinuteGo 34 = .ok (.invokevirtual 92, 3) := by decide +kernel
theorem dX2_letMinuteGo_37 : decode cX2_letMinuteGo 37 = .ok (.iload_n 2, 1) := by decide +kernel
theorem dX2_letMinuteGo_38 : decode cX2_letMinuteGo 38 = .ok (.ireturn, 1) := by decide +kernel
theorem dX2_raiseGas_0 : decode cX2_raiseGas 0 = .ok (.aload_n 0, 1) := by decide +kernel
theorem dX2_raiseGas_1 : decode cX2_raiseGas 1 = .ok (.invokevirtual 58, 3) := by decide +kernel
theorem dX2_raiseGas_4 : decode cX2_raiseGas 4 = .ok (.ifCond .eq 40, 3) := by decide +kernel
theorem dX2_raiseGas_7 : decode cX2_raiseGas 7 = .ok (.iload_n 1, 1) := by decide +kernel
theorem dX2_raiseGas_8 : decode cX2_raiseGas 8 = .ok (.ifCond .eq 8, 3) := by decide +kernel
theorem dX2_raiseGas_11 : decode cX2_raiseGas 11 = .ok (.bipush 20, 2) := by decide +kernel
theorem dX2_raiseGas_13 : decode cX2_raiseGas 13 = .ok (.goto 16, 3) := by decide +kernel
theorem dX2_raiseGas_16 : decode cX2_raiseGas 16 = .ok (.aload_n 0, 1) := by decide +kernel
theorem dX2_raiseGas_17 : decode cX2_raiseGas 17 = .ok (.getfield 26, 3) := by decide +kernel
theorem dX2_raiseGas_20 : decode cX2_raiseGas 20 = .ok (.ifCond .eq 7, 3) := by decide +kernel
theorem dX2_raiseGas_23 : decode cX2_raiseGas 23 = .ok (.iconst 2, 1) := by decide +kernel
theorem dX2_raiseGas_24 : decode cX2_raiseGas 24 = .ok (.goto 5, 3) := by decide +kernel
theorem dX2_raiseGas_27 : decode cX2_raiseGas 27 = .ok (.bipush 8, 2) := by decide +kernel
theorem dX2_raiseGas_29 : decode cX2_raiseGas 29 = .ok (.istore_n 2, 1) := by decide +kernel
theorem dX2_raiseGas_30 : decode cX2_raiseGas 30 = .ok (.aload_n 0, 1) := by decide +kernel
theorem dX2_raiseGas_31 : decode cX2_raiseGas 31 = .ok (.iconst 0, 1) := by decide +kernel
theorem dX2_raiseGas_32 : decode cX2_raiseGas 32 = .ok (.aload_n 0, 1) := by decide +kernel
theorem dX2_raiseGas_33 : decode cX2_raiseGas 33 = .ok (.getfield 40, 3) := by decide +kernel
theorem dX2_raiseGas_36 : decode cX2_raiseGas 36 = .ok (.iload_n 2, 1) := by decide +kernel
theorem dX2_raiseGas_37 : decode cX2_raiseGas 37 = .ok (.isub, 1) := by decide +kernel
theorem dX2_raiseGas_38 : decode cX2_raiseGas 38 = .ok (.invokestatic 62, 3) := by decide +kernel
theorem dX2_raiseGas_41 : decode cX2_raiseGas 41 = .ok (.putfield 40, 3) := by decide +kernel
theorem dX2_raiseGas_44 : decode cX2_raiseGas 44 = .ok (.return_, 1) := by decide +kernel
theorem dX2_ventGas_0 : decode cX2_ventGas 0 = .ok (.aload_n 0, 1) := by decide +kernel
theorem dX2_ventGas_1 : decode cX2_ventGas 1 = .ok (.invokevirtual 58, 3) := by decide +kernel
theorem dX2_ventGas_4 : decode cX2_ventGas 4 = .ok (.ifCond .eq 45, 3) := by decide +kernel
theorem dX2_ventGas_7 : decode cX2_ventGas 7 = .ok (.aload_n 0, 1) := by decide +kernel
theorem dX2_ventGas_8 : decode cX2_ventGas 8 = .ok (.getfield 40, 3) := by decide +kernel
theorem dX2_ventGas_11 : decode cX2_ventGas 11 = .ok (.ifCond .ne 38, 3) := by decide +kernel
theorem dX2_ventGas_14 : decode cX2_ventGas 14 = .ok (.iload_n 1, 1) := by decide +kernel
theorem dX2_ventGas_15 : decode cX2_ventGas 15 = .ok (.ifCond .ne 10, 3) := by decide +kernel
theorem dX2_ventGas_18 : decode cX2_ventGas 18 = .ok (.aload_n 0, 1) := by decide +kernel
theorem dX2_ventGas_19 : decode cX2_ventGas 19 = .ok (.getfield 26, 3) := by decide +kernel
theorem dX2_ventGas_22 : decode cX2_ventGas 22 = .ok (.ifCond .ne 27, 3) := by decide +kernel
theorem dX2_ventGas_25 : decode cX2_ventGas 25 = .ok (.aload_n 0, 1) := by decide +kernel
theorem dX2_ventGas_26 : decode cX2_ventGas 26 = .ok (.dup, 1) := by decide +kernel
theorem dX2_ventGas_27 : decode cX2_ventGas 27 = .ok (.getfield 49, 3) := by decide +kernel
theorem dX2_ventGas_30 : decode cX2_ventGas 30 = .ok (.aload_n 0, 1) := by decide +kernel
theorem dX2_ventGas_31 : decode cX2_ventGas 31 = .ok (.getfield 43, 3) := by decide +kernel
theorem dX2_ventGas_34 : decode cX2_ventGas 34 = .ok (.i2l, 1) := by decide +kernel
theorem dX2_ventGas_35 : decode cX2_ventGas 35 = .ok (.ladd, 1) := by decide +kernel
theorem dX2_ventGas_36 : decode cX2_ventGas 36 = .ok (.putfield 49, 3) := by decide +kernel
theorem dX2_ventGas_39 : decode cX2_ventGas 39 = .ok (.aload_n 0, 1) := by decide +kernel
theorem dX2_ventGas_40 : decode cX2_ventGas 40 = .ok (.lconst 0, 1) := by decide +kernel
theorem dX2_ventGas_41 : decode cX2_ventGas 41 = .ok (.putfield 36, 3) := by decide +kernel
theorem dX2_ventGas_44 : decode cX2_ventGas 44 = .ok (.aload_n 0, 1) := by decide +kernel
theorem dX2_ventGas_45 : decode cX2_ventGas 45 = .ok (.iconst 0, 1) := by decide +kernel
theorem dX2_ventGas_46 : decode cX2_ventGas 46 = .ok (.putfield 43, 3) := by decide +kernel
theorem dX2_ventGas_49 : decode cX2_ventGas 49 = .ok (.return_, 1) := by decide +kernel
theorem dX2_measureGas_0 : decode cX2_measureGas 0 = .ok (.aload_n 0, 1) := by decide +kernel
theorem dX2_measureGas_1 : decode cX2_measureGas 1 = .ok (.invokevirtual 95, 3) := by decide +kernel
theorem dX2_measureGas_4 : decode cX2_measureGas 4 = .ok (.istore_n 1, 1) := by decide +kernel
theorem dX2_measureGas_5 : decode cX2_measureGas 5 = .ok (.aload_n 0, 1) := by decide +kernel
theorem dX2_measureGas_6 : decode cX2_measureGas 6 = .ok (.invokevirtual 58, 3) := by decide +kernel
theorem dX2_measureGas_9 : decode cX2_measureGas 9 = .ok (.ifCond .eq 32, 3) := by decide +kernel
theorem dX2_measureGas_12 : decode cX2_measureGas 12 = .ok (.iload_n 1, 1) := by decide +kernel
theorem dX2_measureGas_13 : decode cX2_measureGas 13 = .ok (.ifCond .le 28, 3) := by decide +kernel
theorem dX2_measureGas_16 : decode cX2_measureGas 16 = .ok (.aload_n 0, 1) := by decide +kernel
theorem dX2_measureGas_17 : decode cX2_measureGas 17 = .ok (.aload_n 0, 1) := by decide +kernel
theorem dX2_measureGas_18 : decode cX2_measureGas 18 = .ok (.getfield 36, 3) := by decide +kernel
theorem dX2_measureGas_21 : decode cX2_measureGas 21 = .ok (.iload_n 1, 1) := by decide +kernel
theorem dX2_measureGas_22 : decode cX2_measureGas 22 = .ok (.i2l, 1) := by decide +kernel
theorem dX2_measureGas_23 : decode cX2_measureGas 23 = .ok (.ldiv, 1) := by decide +kernel
theorem dX2_measureGas_24 : decode cX2_measureGas 24 = .ok (.aload_n 0, 1) := by decide +kernel
theorem dX2_measureGas_25 : decode cX2_measureGas 25 = .ok (.getfield 20, 3) := by decide +kernel
theorem dX2_measureGas_28 : decode cX2_measureGas 28 = .ok (.aload_n 0, 1) := by decide +kernel
theorem dX2_measureGas_29 : decode cX2_measureGas 29 = .ok (.getfield 46, 3) := by decide +kernel
theorem dX2_measureGas_32 : decode cX2_measureGas 32 = .ok (.isub, 1) := by decide +kernel
theorem dX2_measureGas_33 : decode cX2_measureGas 33 = .ok (.i2l, 1) := by decide +kernel
theorem dX2_measureGas_34 : decode cX2_measureGas 34 = .ok (.invokestatic 98, 3) := by decide +kernel
theorem dX2_measureGas_37 : decode cX2_measureGas 37 = .ok (.l2i, 1) := by decide +kernel
theorem dX2_measureGas_38 : decode cX2_measureGas 38 = .ok (.putfield 43, 3) := by decide +kernel
theorem dX2_measureGas_41 : decode cX2_measureGas 41 = .ok (.return_, 1) := by decide +kernel
theorem dX2_setChoke_0 : decode cX2_setChoke 0 = .ok (.aload_n 0, 1) := by decide +kernel
theorem dX2_setChoke_1 : decode cX2_setChoke 1 = .ok (.getfield 26, 3) := by decide +kernel
theorem dX2_setChoke_4 : decode cX2_setChoke 4 = .ok (.ifCond .ne 4, 3) := by decide +kernel
theorem dX2_setChoke_7 : decode cX2_setChoke 7 = .ok (.return_, 1) := by decide +kernel
theorem dX2_setChoke_8 : decode cX2_setChoke 8 = .ok (.aload_n 0, 1) := by decide +kernel
theorem dX2_setChoke_9 : decode cX2_setChoke 9 = .ok (.iconst 0, 1) := by decide +kernel
theorem dX2_setChoke_10 : decode cX2_setChoke 10 = .ok (.aload_n 0, 1) := by decide +kernel
theorem dX2_setChoke_11 : decode cX2_setChoke 11 = .ok (.getfield 7, 3) := by decide +kernel
theorem dX2_setChoke_14 : decode cX2_setChoke 14 = .ok (.aload_n 0, 1) := by decide +kernel
theorem dX2_setChoke_15 : decode cX2_setChoke 15 = .ok (.getfield 20, 3) := by decide +kernel
theorem dX2_setChoke_18 : decode cX2_setChoke 18 = .ok (.invokevirtual 102, 3) := by decide +kernel
theorem dX2_setChoke_21 : decode cX2_setChoke 21 = .ok (.aload_n 0, 1) := by decide +kernel
theorem dX2_setChoke_22 : decode cX2_setChoke 22 = .ok (.invokevirtual 68, 3) := by decide +kernel
theorem dX2_setChoke_25 : decode cX2_setChoke 25 = .ok (.isub, 1) := by decide +kernel
theorem dX2_setChoke_26 : decode cX2_setChoke 26 = .ok (.invokestatic 62, 3) := by decide +kernel
theorem dX2_setChoke_29 : decode cX2_setChoke 29 = .ok (.putfield 30, 3) := by decide +kernel
theorem dX2_setChoke_32 : decode cX2_setChoke 32 = .ok (.aload_n 0, 1) := by decide +kernel
theorem dX2_setChoke_33 : decode cX2_setChoke 33 = .ok (.getfield 30, 3) := by decide +kernel
theorem dX2_setChoke_36 : decode cX2_setChoke 36 = .ok (.aload_n 0, 1) := by decide +kernel
theorem dX2_setChoke_37 : decode cX2_setChoke 37 = .ok (.getfield 17, 3) := by decide +kernel
theorem dX2_setChoke_40 : decode cX2_setChoke 40 = .ok (.if_icmp .le 18, 3) := by decide +kernel
theorem dX2_setChoke_43 : decode cX2_setChoke 43 = .ok (.aload_n 0, 1) := by decide +kernel
theorem dX2_setChoke_44 : decode cX2_setChoke 44 = .ok (.iconst 0, 1) := by decide +kernel
theorem dX2_setChoke_45 : decode cX2_setChoke 45 = .ok (.putfield 26, 3) := by decide +kernel
theorem dX2_setChoke_48 : decode cX2_setChoke 48 = .ok (.aload_n 0, 1) := by decide +kernel
theorem dX2_setChoke_49 : decode cX2_setChoke 49 = .ok (.iconst 0, 1) := by decide +kernel
theorem dX2_setChoke_50 : decode cX2_setChoke 50 = .ok (.putfield 30, 3) := by decide +kernel
theorem dX2_setChoke_53 : decode cX2_setChoke 53 = .ok (.aload_n 0, 1) := by decide +kernel
theorem dX2_setChoke_54 : decode cX2_setChoke 54 = .ok (.iconst 1, 1) := by decide +kernel
theorem dX2_setChoke_55 : decode cX2_setChoke 55 = .ok (.putfield 33, 3) := by decide +kernel
theorem dX2_setChoke_58 : decode cX2_setChoke 58 = .ok (.return_, 1) := by decide +kernel
theorem dX2_flowIn_0 : decode cX2_flowIn 0 = .ok (.aload_n 0, 1) := by decide +kernel
theorem dX2_flowIn_1 : decode cX2_flowIn 1 = .ok (.getfield 7, 3) := by decide +kernel
theorem dX2_flowIn_4 : decode cX2_flowIn 4 = .ok (.aload_n 0, 1) := by decide +kernel
theorem dX2_flowIn_5 : decode cX2_flowIn 5 = .ok (.getfield 20, 3) := by decide +kernel
theorem dX2_flowIn_8 : decode cX2_flowIn 8 = .ok (.invokevirtual 102, 3) := by decide +kernel
theorem dX2_flowIn_11 : decode cX2_flowIn 11 = .ok (.aload_n 0, 1) := by decide +kernel
theorem dX2_flowIn_12 : decode cX2_flowIn 12 = .ok (.invokevirtual 108, 3) := by decide +kernel
theorem dX2_flowIn_15 : decode cX2_flowIn 15 = .ok (.isub, 1) := by decide +kernel
theorem dX2_flowIn_16 : decode cX2_flowIn 16 = .ok (.istore_n 1, 1) := by decide +kernel
theorem dX2_flowIn_17 : decode cX2_flowIn 17 = .ok (.aload_n 0, 1) := by decide +kernel
theorem dX2_flowIn_18 : decode cX2_flowIn 18 = .ok (.getfield 26, 3) := by decide +kernel
theorem dX2_flowIn_21 : decode cX2_flowIn 21 = .ok (.ifCond .ne 7, 3) := by decide +kernel
theorem dX2_flowIn_24 : decode cX2_flowIn 24 = .ok (.iload_n 1, 1) := by decide +kernel
theorem dX2_flowIn_25 : decode cX2_flowIn 25 = .ok (.ifCond .gt 5, 3) := by decide +kernel
theorem dX2_flowIn_28 : decode cX2_flowIn 28 = .ok (.iconst 0, 1) := by decide +kernel
theorem dX2_flowIn_29 : decode cX2_flowIn 29 = .ok (.ireturn, 1) := by decide +kernel
theorem dX2_flowIn_30 : decode cX2_flowIn 30 = .ok (.bipush 40, 2) := by decide +kernel
theorem dX2_flowIn_32 : decode cX2_flowIn 32 = .ok (.iconst 1, 1) := by decide +kernel
theorem dX2_flowIn_33 : decode cX2_flowIn 33 = .ok (.iload_n 1, 1) := by decide +kernel
theorem dX2_flowIn_34 : decode cX2_flowIn 34 = .ok (.aload_n 0, 1) := by decide +kernel
theorem dX2_flowIn_35 : decode cX2_flowIn 35 = .ok (.getfield 7, 3) := by decide +kernel
theorem dX2_flowIn_38 : decode cX2_flowIn 38 = .ok (.aload_n 0, 1) := by decide +kernel
theorem dX2_flowIn_39 : decode cX2_flowIn 39 = .ok (.getfield 20, 3) := by decide +kernel
theorem dX2_flowIn_42 : decode cX2_flowIn 42 = .ok (.invokevirtual 111, 3) := by decide +kernel
theorem dX2_flowIn_45 : decode cX2_flowIn 45 = .ok (.imul, 1) := by decide +kernel
theorem dX2_flowIn_46 : decode cX2_flowIn 46 = .ok (.sipush 10000, 3) := by decide +kernel
theorem dX2_flowIn_49 : decode cX2_flowIn 49 = .ok (.idiv, 1) := by decide +kernel
theorem dX2_flowIn_50 : decode cX2_flowIn 50 = .ok (.iadd, 1) := by decide +kernel
theorem dX2_flowIn_51 : decode cX2_flowIn 51 = .ok (.invokestatic 114, 3) := by decide +kernel
theorem dX2_flowIn_54 : decode cX2_flowIn 54 = .ok (.istore_n 2, 1) := by decide +kernel
theorem dX2_flowIn_55 : decode cX2_flowIn 55 = .ok (.aload_n 0, 1) := by decide +kernel
theorem dX2_flowIn_56 : decode cX2_flowIn 56 = .ok (.getfield 7, 3) := by decide +kernel
theorem dX2_flowIn_59 : decode cX2_flowIn 59 = .ok (.aload_n 0, 1) := by decide +kernel
theorem dX2_flowIn_60 : decode cX2_flowIn 60 = .ok (.getfield 20, 3) := by decide +kernel
theorem dX2_flowIn_63 : decode cX2_flowIn 63 = .ok (.invokevirtual 116, 3) := by decide +kernel
theorem dX2_flowIn_66 : decode cX2_flowIn 66 = .ok (.ifCond .ne 32, 3) := by decide +kernel
theorem dX2_flowIn_69 : decode cX2_flowIn 69 = .ok (.aload_n 0, 1) := by decide +kernel
theorem dX2_flowIn_70 : decode cX2_flowIn 70 = .ok (.dup, 1) := by decide +kernel
theorem dX2_flowIn_71 : decode cX2_flowIn 71 = .ok (.getfield 46, 3) := by decide +kernel
theorem dX2_flowIn_74 : decode cX2_flowIn 74 = .ok (.iload_n 2, 1) := by decide +kernel
theorem dX2_flowIn_75 : decode cX2_flowIn 75 = .ok (.aload_n 0, 1) := by decide +kernel
theorem dX2_flowIn_76 : decode cX2_flowIn 76 = .ok (.getfield 20, 3) := by decide +kernel
theorem dX2_flowIn_79 : decode cX2_flowIn 79 = .ok (.aload_n 0, 1) := by decide +kernel
theorem dX2_flowIn_80 : decode cX2_flowIn 80 = .ok (.getfield 43, 3) := by decide +kernel
theorem dX2_flowIn_83 : decode cX2_flowIn 83 = .ok (.isub, 1) := by decide +kernel
theorem dX2_flowIn_84 : decode cX2_flowIn 84 = .ok (.aload_n 0, 1) := by decide +kernel
theorem dX2_flowIn_85 : decode cX2_flowIn 85 = .ok (.getfield 46, 3) := by decide +kernel
theorem dX2_flowIn_88 : decode cX2_flowIn 88 = .ok (.isub, 1) := by decide +kernel
theorem dX2_flowIn_89 : decode cX2_flowIn 89 = .ok (.invokestatic 114, 3) := by decide +kernel
theorem dX2_flowIn_92 : decode cX2_flowIn 92 = .ok (.iadd, 1) := by decide +kernel
theorem dX2_flowIn_93 : decode cX2_flowIn 93 = .ok (.putfield 46, 3) := by decide +kernel
theorem dX2_flowIn_96 : decode cX2_flowIn 96 = .ok (.iconst 1, 1) := by decide +kernel
theorem dX2_flowIn_97 : decode cX2_flowIn 97 = .ok (.ireturn, 1) := by decide +kernel
theorem dX2_flowIn_98 : decode cX2_flowIn 98 = .ok (.aload_n 0, 1) := by decide +kernel
theorem dX2_flowIn_99 : decode cX2_flowIn 99 = .ok (.invokevirtual 58, 3) := by decide +kernel
theorem dX2_flowIn_102 : decode cX2_flowIn 102 = .ok (.ifCond .ne 11, 3) := by decide +kernel
theorem dX2_flowIn_105 : decode cX2_flowIn 105 = .ok (.aload_n 0, 1) := by decide +kernel
theorem dX2_flowIn_106 : decode cX2_flowIn 106 = .ok (.aload_n 0, 1) := by decide +kernel
theorem dX2_flowIn_107 : decode cX2_flowIn 107 = .ok (.getfield 20, 3) := by decide +kernel
theorem dX2_flowIn_110 : decode cX2_flowIn 110 = .ok (.putfield 40, 3) := by decide +kernel
theorem dX2_flowIn_113 : decode cX2_flowIn 113 = .ok (.aload_n 0, 1) := by decide +kernel
theorem dX2_flowIn_114 : decode cX2_flowIn 114 = .ok (.dup, 1) := by decide +kernel
theorem dX2_flowIn_115 : decode cX2_flowIn 115 = .ok (.getfield 36, 3) := by decide +kernel
theorem dX2_flowIn_118 : decode cX2_flowIn 118 = .ok (.iload_n 2, 1) := by decide +kernel
theorem dX2_flowIn_119 : decode cX2_flowIn 119 = .ok (.i2l, 1) := by decide +kernel
theorem dX2_flowIn_120 : decode cX2_flowIn 120 = .ok (.iconst 1, 1) := by decide +kernel
theorem dX2_flowIn_121 : decode cX2_flowIn 121 = .ok (.aload_n 0, 1) := by decide +kernel
theorem dX2_flowIn_122 : decode cX2_flowIn 122 = .ok (.invokevirtual 108, 3) := by decide +kernel
theorem dX2_flowIn_125 : decode cX2_flowIn 125 = .ok (.invokestatic 62, 3) := by decide +kernel
theorem dX2_flowIn_128 : decode cX2_flowIn 128 = .ok (.i2l, 1) := by decide +kernel
theorem dX2_flowIn_129 : decode cX2_flowIn 129 = .ok (.lmul, 1) := by decide +kernel
theorem dX2_flowIn_130 : decode cX2_flowIn 130 = .ok (.ladd, 1) := by decide +kernel
theorem dX2_flowIn_131 : decode cX2_flowIn 131 = .ok (.putfield 36, 3) := by decide +kernel
theorem dX2_flowIn_134 : decode cX2_flowIn 134 = .ok (.aload_n 0, 1) := by decide +kernel
theorem dX2_flowIn_135 : decode cX2_flowIn 135 = .ok (.invokevirtual 83, 3) := by decide +kernel
theorem dX2_flowIn_138 : decode cX2_flowIn 138 = .ok (.iconst 1, 1) := by decide +kernel
theorem dX2_flowIn_139 : decode cX2_flowIn 139 = .ok (.ireturn, 1) := by decide +kernel
theorem dX2_loseAtShoe_0 : decode cX2_loseAtShoe 0 = .ok (.aload_n 0, 1) := by decide +kernel
theorem dX2_loseAtShoe_1 : decode cX2_loseAtShoe 1 = .ok (.getfield 23, 3) := by decide +kernel
theorem dX2_loseAtShoe_4 : decode cX2_loseAtShoe 4 = .ok (.ifCond .le 31, 3) := by decide +kernel
theorem dX2_loseAtShoe_7 : decode cX2_loseAtShoe 7 = .ok (.aload_n 0, 1) := by decide +kernel
theorem dX2_loseAtShoe_8 : decode cX2_loseAtShoe 8 = .ok (.invokevirtual 120, 3) := by decide +kernel
theorem dX2_loseAtShoe_11 : decode cX2_loseAtShoe 11 = .ok (.aload_n 0, 1) := by decide +kernel
theorem dX2_loseAtShoe_12 : decode cX2_loseAtShoe 12 = .ok (.getfield 7, 3) := by decide +kernel
theorem dX2_loseAtShoe_15 : decode cX2_loseAtShoe 15 = .ok (.aload_n 0, 1) := by decide +kernel
theorem dX2_loseAtShoe_16 : decode cX2_loseAtShoe 16 = .ok (.getfield 23, 3) := by decide +kernel
theorem dX2_loseAtShoe_19 : decode cX2_loseAtShoe 19 = .ok (.invokevirtual 123, 3) := by decide +kernel
theorem dX2_loseAtShoe_22 : decode cX2_loseAtShoe 22 = .ok (.if_icmp .le 13, 3) := by decide +kernel
theorem dX2_loseAtShoe_25 : decode cX2_loseAtShoe 25 = .ok (.aload_n 0, 1) := by decide +kernel
theorem dX2_loseAtShoe_26 : decode cX2_loseAtShoe 26 = .ok (.dup, 1) := by decide +kernel
theorem dX2_loseAtShoe_27 : decode cX2_loseAtShoe 27 = .ok (.getfield 52, 3) := by decide +kernel
theorem dX2_loseAtShoe_30 : decode cX2_loseAtShoe 30 = .ok (.iconst 5, 1) := by decide +kernel
theorem dX2_loseAtShoe_31 : decode cX2_loseAtShoe 31 = .ok (.iadd, 1) := by decide +kernel
theorem dX2_loseAtShoe_32 : decode cX2_loseAtShoe 32 = .ok (.putfield 52, 3) := by decide +kernel
theorem dX2_loseAtShoe_35 : decode cX2_loseAtShoe 35 = .ok (.return_, 1) := by decide +kernel
theorem dX3_init_0 : decode cX3_init 0 = .ok (.aload_n 0, 1) := by decide +kernel
theorem dX3_init_1 : decode cX3_init 1 = .ok (.invokespecial 1, 3) := by decide +kernel
theorem dX3_init_4 : decode cX3_init 4 = .ok (.aload_n 0, 1) := by decide +kernel
theorem dX3_init_5 : decode cX3_init 5 = .ok (.new 7, 3) := by decide +kernel
theorem dX3_init_8 : decode cX3_init 8 = .ok (.dup, 1) := by decide +kernel
theorem dX3_init_9 : decode cX3_init 9 = .ok (.invokespecial 9, 3) := by decide +kernel
theorem dX3_init_12 : decode cX3_init 12 = .ok (.putfield 10, 3) := by decide +kernel
theorem dX3_init_15 : decode cX3_init 15 = .ok (.aload_n 0, 1) := by decide +kernel
theorem dX3_init_16 : decode cX3_init 16 = .ok (.new 16, 3) := by decide +kernel
theorem dX3_init_19 : decode cX3_init 19 = .ok (.dup, 1) := by decide +kernel
theorem dX3_init_20 : decode cX3_init 20 = .ok (.aload_n 0, 1) := by decide +kernel
theorem dX3_init_21 : decode cX3_init 21 = .ok (.getfield 10, 3) := by decide +kernel
theorem dX3_init_24 : decode cX3_init 24 = .ok (.invokespecial 18, 3) := by decide +kernel
theorem dX3_init_27 : decode cX3_init 27 = .ok (.putfield 21, 3) := by decide +kernel
theorem dX3_init_30 : decode cX3_init 30 = .ok (.aload_n 0, 1) := by decide +kernel
theorem dX3_init_31 : decode cX3_init 31 = .ok (.new 16, 3) := by decide +kernel
theorem dX3_init_34 : decode cX3_init 34 = .ok (.dup, 1) := by decide +kernel
theorem dX3_init_35 : decode cX3_init 35 = .ok (.aload_n 0, 1) := by decide +kernel
theorem dX3_init_36 : decode cX3_init 36 = .ok (.getfield 10, 3) := by decide +kernel
theorem dX3_init_39 : decode cX3_init 39 = .ok (.invokespecial 18, 3) := by decide +kernel
theorem dX3_init_42 : decode cX3_init 42 = .ok (.putfield 25, 3) := by decide +kernel
theorem dX3_init_45 : decode cX3_init 45 = .ok (.aload_n 0, 1) := by decide +kernel
theorem dX3_init_46 : decode cX3_init 46 = .ok (.new 28, 3) := by decide +kernel
theorem dX3_init_49 : decode cX3_init 49 = .ok (.dup, 1) := by decide +kernel
theorem dX3_init_50 : decode cX3_init 50 = .ok (.invokespecial 30, 3) := by decide +kernel
theorem dX3_init_53 : decode cX3_init 53 = .ok (.putfield 31, 3) := by decide +kernel
theorem dX3_init_56 : decode cX3_init 56 = .ok (.aload_n 0, 1) := by decide +kernel
theorem dX3_init_57 : decode cX3_init 57 = .ok (.iconst (-1), 1) := by decide +kernel
theorem dX3_init_58 : decode cX3_init 58 = .ok (.putfield 35, 3) := by decide +kernel
theorem dX3_init_61 : decode cX3_init 61 = .ok (.return_, 1) := by decide +kernel
theorem dX3_layer_0 : decode cX3_layer 0 = .ok (.iload_n 1, 1) := by decide +kernel
theorem dX3_layer_1 : decode cX3_layer 1 = .ok (.iconst 0, 1) := by decide +kernel
theorem dX3_layer_2 : decode cX3_layer 2 = .ok (.bipush 49, 2) := by decide +kernel
theorem dX3_layer_4 : decode cX3_layer 4 = .ok (.invokestatic 39, 3) := by decide +kernel
theorem dX3_layer_7 : decode cX3_layer 7 = .ok (.ifCond .ne 13, 3) := by decide +kernel
theorem dX3_layer_10 : decode cX3_layer 10 = .ok (.new 43, 3) := by decide +kernel
theorem dX3_layer_13 : decode cX3_layer 13 = .ok (.dup, 1) := by decide +kernel
theorem dX3_layer_14 : decode cX3_layer 14 = .ok (.ldc 45, 2) := by decide +kernel
theorem dX3_layer_16 : decode cX3_layer 16 = .ok (.invokespecial 47, 3) := by decide +kernel
theorem dX3_layer_19 : decode cX3_layer 19 = .ok (.athrow, 1) := by decide +kernel
theorem dX3_layer_20 : decode cX3_layer 20 = .ok (.iload_n 2, 1) := by decide +kernel
theorem dX3_layer_21 : decode cX3_layer 21 = .ok (.iconst 0, 1) := by decide +kernel
theorem dX3_layer_22 : decode cX3_layer 22 = .ok (.sipush 300, 3) := by decide +kernel
theorem dX3_layer_25 : decode cX3_layer 25 = .ok (.invokestatic 39, 3) := by decide +kernel
theorem dX3_layer_28 : decode cX3_layer 28 = .ok (.ifCond .eq 26, 3) := by decide +kernel
theorem dX3_layer_31 : decode cX3_layer 31 = .ok (.iload_n 3, 1) := by decide +kernel
theorem dX3_layer_32 : decode cX3_layer 32 = .ok (.iconst 0, 1) := by decide +kernel
theorem dX3_layer_33 : decode cX3_layer 33 = .ok (.sipush 300, 3) := by decide +kernel
theorem dX3_layer_36 : decode cX3_layer 36 = .ok (.invokestatic 39, 3) := by decide +kernel
theorem dX3_layer_39 : decode cX3_layer 39 = .ok (.ifCond .eq 15, 3) := by decide +kernel
theorem dX3_layer_42 : decode cX3_layer 42 = .ok (.iload 4, 2) := by decide +kernel
theorem dX3_layer_44 : decode cX3_layer 44 = .ok (.iconst 0, 1) := by decide +kernel
theorem dX3_layer_45 : decode cX3_layer 45 = .ok (.sipush 1000, 3) := by decide +kernel
theorem dX3_layer_48 : decode cX3_layer 48 = .ok (.invokestatic 39, 3) := by decide +kernel
theorem dX3_layer_51 : decode cX3_layer 51 = .ok (.ifCond .ne 13, 3) := by decide +kernel
theorem dX3_layer_54 : decode cX3_layer 54 = .ok (.new 50, 3) := by decide +kernel
theorem dX3_layer_57 : decode cX3_layer 57 = .ok (.dup, 1) := by decide +kernel
theorem dX3_layer_58 : decode cX3_layer 58 = .ok (.ldc 52, 2) := by decide +kernel
theorem dX3_layer_60 : decode cX3_layer 60 = .ok (.invokespecial 54, 3) := by decide +kernel
theorem dX3_layer_63 : decode cX3_layer 63 = .ok (.athrow, 1) := by decide +kernel
theorem dX3_layer_64 : decode cX3_layer 64 = .ok (.aload_n 0, 1) := by decide +kernel
theorem dX3_layer_65 : decode cX3_layer 65 = .ok (.getfield 21, 3) := by decide +kernel
theorem dX3_layer_68 : decode cX3_layer 68 = .ok (.getfield 55, 3) := by decide +kernel
theorem dX3_layer_71 : decode cX3_layer 71 = .ok (.iload_n 1, 1) := by decide +kernel
theorem dX3_layer_72 : decode cX3_layer 72 = .ok (.bipush 100, 2) := by decide +kernel
theorem dX3_layer_74 : decode cX3_layer 74 = .ok (.imul, 1) := by decide +kernel
theorem dX3_layer_75 : decode cX3_layer 75 = .ok (.if_icmp .le 13, 3) := by decide +kernel
theorem dX3_layer_78 : decode cX3_layer 78 = .ok (.new 58, 3) := by decide +kernel
theorem dX3_layer_81 : decode cX3_layer 81 = .ok (.dup, 1) := by decide +kernel
theorem dX3_layer_82 : decode cX3_layer 82 = .ok (.ldc 60, 2) := by decide +kernel
theorem dX3_layer_84 : decode cX3_layer 84 = .ok (.invokespecial 62, 3) := by decide +kernel
theorem dX3_layer_87 : decode cX3_layer 87 = .ok (.athrow, 1) := by decide +kernel
theorem dX3_layer_88 : decode cX3_layer 88 = .ok (.aload_n 0, 1) := by decide +kernel
theorem dX3_layer_89 : decode cX3_layer 89 = .ok (.getfield 10, 3) := by decide +kernel
theorem dX3_layer_92 : decode cX3_layer 92 = .ok (.iload_n 1, 1) := by decide +kernel
theorem dX3_layer_93 : decode cX3_layer 93 = .ok (.iload_n 2, 1) := by decide +kernel
theorem dX3_layer_94 : decode cX3_layer 94 = .ok (.iload_n 3, 1) := by decide +kernel
theorem dX3_layer_95 : decode cX3_layer 95 = .ok (.iload 4, 2) := by decide +kernel
theorem dX3_layer_97 : decode cX3_layer 97 = .ok (.iload 5, 2) := by decide +kernel
theorem dX3_layer_99 : decode cX3_layer 99 = .ok (.invokevirtual 63, 3) := by decide +kernel
theorem dX3_layer_102 : decode cX3_layer 102 = .ok (.return_, 1) := by decide +kernel
theorem dX3_mud_0 : decode cX3_mud 0 = .ok (.iload_n 1, 1) := by decide +kernel
theorem dX3_mud_1 : decode cX3_mud 1 = .ok (.iconst 0, 1) := by decide +kernel
theorem dX3_mud_2 : decode cX3_mud 2 = .ok (.sipush 300, 3) := by decide +kernel
theorem dX3_mud_5 : decode cX3_mud 5 = .ok (.invokestatic 39, 3) := by decide +kernel
theorem dX3_mud_8 : decode cX3_mud 8 = .ok (.ifCond .ne 13, 3) := by decide +kernel
theorem dX3_mud_11 : decode cX3_mud 11 = .ok (.new 50, 3) := by decide +kernel
theorem dX3_mud_14 : decode cX3_mud 14 = .ok (.dup, 1) := by decide +kernel
theorem dX3_mud_15 : decode cX3_mud 15 = .ok (.ldc 67, 2) := by decide +kernel
theorem dX3_mud_17 : decode cX3_mud 17 = .ok (.invokespecial 54, 3) := by decide +kernel
theorem dX3_mud_20 : decode cX3_mud 20 = .ok (.athrow, 1) := by decide +kernel
theorem dX3_mud_21 : decode cX3_mud 21 = .ok (.aload_n 0, 1) := by decide +kernel
theorem dX3_mud_22 : decode cX3_mud 22 = .ok (.getfield 21, 3) := by decide +kernel
theorem dX3_mud_25 : decode cX3_mud 25 = .ok (.getfield 69, 3) := by decide +kernel
theorem dX3_mud_28 : decode cX3_mud 28 = .ok (.ifCond .eq 13, 3) := by decide +kernel
theorem dX3_mud_31 : decode cX3_mud 31 = .ok (.new 58, 3) := by decide +kernel
theorem dX3_mud_34 : decode cX3_mud 34 = .ok (.dup, 1) := by decide +kernel
theorem dX3_mud_35 : decode cX3_mud 35 = .ok (.ldc 73, 2) := by decide +kernel
theorem dX3_mud_37 : decode cX3_mud 37 = .ok (.invokespecial 62, 3) := by decide +kernel
theorem dX3_mud_40 : decode cX3_mud 40 = .ok (.athrow, 1) := by decide +kernel
theorem dX3_mud_41 : decode cX3_mud 41 = .ok (.aload_n 0, 1) := by decide +kernel
theorem dX3_mud_42 : decode cX3_mud 42 = .ok (.getfield 21, 3) := by decide +kernel
theorem dX3_mud_45 : decode cX3_mud 45 = .ok (.getfield 75, 3) := by decide +kernel
theorem dX3_mud_48 : decode cX3_mud 48 = .ok (.istore_n 2, 1) := by decide +kernel
theorem dX3_mud_49 : decode cX3_mud 49 = .ok (.aload_n 0, 1) := by decide +kernel
theorem dX3_mud_50 : decode cX3_mud 50 = .ok (.getfield 21, 3) := by decide +kernel
theorem dX3_mud_53 : decode cX3_mud 53 = .ok (.iload_n 1, 1) := by decide +kernel
theorem dX3_mud_54 : decode cX3_mud 54 = .ok (.putfield 75, 3) := by decide +kernel
theorem dX3_mud_57 : decode cX3_mud 57 = .ok (.aload_n 0, 1) := by decide +kernel
theorem dX3_mud_58 : decode cX3_mud 58 = .ok (.iconst 0, 1) := by decide +kernel
theorem dX3_mud_59 : decode cX3_mud 59 = .ok (.putfield 78, 3) := by decide +kernel
theorem dX3_mud_62 : decode cX3_mud 62 = .ok (.iload_n 2, 1) := by decide +kernel
theorem dX3_mud_63 : decode cX3_mud 63 = .ok (.ireturn, 1) := by decide +kernel
theorem dX3_drill_0 : decode cX3_drill 0 = .ok (.iload_n 1, 1) := by decide +kernel
theorem dX3_drill_1 : decode cX3_drill 1 = .ok (.iconst 1, 1) := by decide +kernel
theorem dX3_drill_2 : decode cX3_drill 2 = .ok (.sipush 500, 3) := by decide +kernel
theorem dX3_drill_5 : decode cX3_drill 5 = .ok (.invokestatic 39, 3) := by decide +kernel
theorem dX3_drill_8 : decode cX3_drill 8 = .ok (.ifCond .ne 13, 3) := by decide +kernel
theorem dX3_drill_11 : decode cX3_drill 11 = .ok (.new 50, 3) := by decide +kernel
theorem dX3_drill_14 : decode cX3_drill 14 = .ok (.dup, 1) := by decide +kernel
theorem dX3_drill_15 : decode cX3_drill 15 = .ok (.ldc 81, 2) := by decide +kernel
theorem dX3_drill_17 : decode cX3_drill 17 = .ok (.invokespecial 54, 3) := by decide +kernel
theorem dX3_drill_20 : decode cX3_drill 20 = .ok (.athrow, 1) := by decide +kernel
theorem dX3_drill_21 : decode cX3_drill 21 = .ok (.aload_n 0, 1) := by decide +kernel
theorem dX3_drill_22 : decode cX3_drill 22 = .ok (.invokevirtual 83, 3) := by decide +kernel
theorem dX3_drill_25 : decode cX3_drill 25 = .ok (.ifCond .ne 26, 3) := by decide +kernel
theorem dX3_drill_28 : decode cX3_drill 28 = .ok (.aload_n 0, 1) := by decide +kernel
theorem dX3_drill_29 : decode cX3_drill 29 = .ok (.getfield 21, 3) := by decide +kernel
theorem dX3_drill_32 : decode cX3_drill 32 = .ok (.getfield 55, 3) := by decide +kernel
theorem dX3_drill_35 : decode cX3_drill 35 = .ok (.iload_n 1, 1) := by decide +kernel
theorem dX3_drill_36 : decode cX3_drill 36 = .ok (.iadd, 1) := by decide +kernel
theorem dX3_drill_37 : decode cX3_drill 37 = .ok (.sipush 5000, 3) := by decide +kernel
theorem dX3_drill_40 : decode cX3_drill 40 = .ok (.if_icmp .gt 11, 3) := by decide +kernel
theorem dX3_drill_43 : decode cX3_drill 43 = .ok (.aload_n 0, 1) := by decide +kernel
theorem dX3_drill_44 : decode cX3_drill 44 = .ok (.iload_n 1, 1) := by decide +kernel
theorem dX3_drill_45 : decode cX3_drill 45 = .ok (.invokevirtual 87, 3) := by decide +kernel
theorem dX3_drill_48 : decode cX3_drill 48 = .ok (.ifCond .ne 13, 3) := by decide +kernel
theorem dX3_drill_51 : decode cX3_drill 51 = .ok (.new 58, 3) := by decide +kernel
theorem dX3_drill_54 : decode cX3_drill 54 = .ok (.dup, 1) := by decide +kernel
theorem dX3_drill_55 : decode cX3_drill 55 = .ok (.ldc 91, 2) := by decide +kernel
theorem dX3_drill_57 : decode cX3_drill 57 = .ok (.invokespecial 62, 3) := by decide +kernel
theorem dX3_drill_60 : decode cX3_drill 60 = .ok (.athrow, 1) := by decide +kernel
theorem dX3_drill_61 : decode cX3_drill 61 = .ok (.iconst 1, 1) := by decide +kernel
theorem dX3_drill_62 : decode cX3_drill 62 = .ok (.istore_n 2, 1) := by decide +kernel
theorem dX3_drill_63 : decode cX3_drill 63 = .ok (.iload_n 2, 1) := by decide +kernel
theorem dX3_drill_64 : decode cX3_drill 64 = .ok (.iload_n 1, 1) := by decide +kernel
theorem dX3_drill_65 : decode cX3_drill 65 = .ok (.if_icmp .gt 35, 3) := by decide +kernel
theorem dX3_drill_68 : decode cX3_drill 68 = .ok (.aload_n 0, 1) := by decide +kernel
theorem dX3_drill_69 : decode cX3_drill 69 = .ok (.getfield 21, 3) := by decide +kernel
theorem dX3_drill_72 : decode cX3_drill 72 = .ok (.dup, 1) := by decide +kernel
theorem dX3_drill_73 : decode cX3_drill 73 = .ok (.getfield 55, 3) := by decide +kernel
theorem dX3_drill_76 : decode cX3_drill 76 = .ok (.iconst 1, 1) := by decide +kernel
theorem dX3_drill_77 : decode cX3_drill 77 = .ok (.iadd, 1) := by decide +kernel
theorem dX3_drill_78 : decode cX3_drill 78 = .ok (.putfield 55, 3) := by decide +kernel
theorem dX3_drill_81 : decode cX3_drill 81 = .ok (.aload_n 0, 1) := by decide +kernel
theorem dX3_drill_82 : decode cX3_drill 82 = .ok (.getfield 21, 3) := by decide +kernel
theorem dX3_drill_85 : decode cX3_drill 85 = .ok (.iconst 0, 1) := by decide +kernel
theorem dX3_drill_86 : decode cX3_drill 86 = .ok (.invokevirtual 93, 3) := by decide +kernel
theorem dX3_drill_89 : decode cX3_drill 89 = .ok (.ifCond .eq 5, 3) := by decide +kernel
theorem dX3_drill_92 : decode cX3_drill 92 = .ok (.iload_n 2, 1) := by decide +kernel
theorem dX3_drill_93 : decode cX3_drill 93 = .ok (.ireturn, 1) := by decide +kernel
theorem dX3_drill_94 : decode cX3_drill 94 = .ok (.iinc 2 1, 3) := by decide +kernel
theorem dX3_drill_97 : decode cX3_drill 97 = .ok (.goto (-34), 3) := by decide +kernel
theorem dX3_drill_100 : decode cX3_drill 100 = .ok (.iload_n 1, 1) := by decide +kernel
theorem dX3_drill_101 : decode cX3_drill 101 = .ok (.ireturn, 1) := by decide +kernel
theorem dX3_pass_0 : decode cX3_pass 0 = .ok (.iload_n 1, 1) := by decide +kernel
theorem dX3_pass_1 : decode cX3_pass 1 = .ok (.iconst 1, 1) := by decide +kernel
theorem dX3_pass_2 : decode cX3_pass 2 = .ok (.sipush 2000, 3) := by decide +kernel
theorem dX3_pass_5 : decode cX3_pass 5 = .ok (.invokestatic 39, 3) := by decide +kernel
theorem dX3_pass_8 : decode cX3_pass 8 = .ok (.ifCond .ne 13, 3) := by decide +kernel
theorem dX3_pass_11 : decode cX3_pass 11 = .ok (.new 50, 3) := by decide +kernel
theorem dX3_pass_14 : decode cX3_pass 14 = .ok (.dup, 1) := by decide +kernel
theorem dX3_pass_15 : decode cX3_pass 15 = .ok (.ldc 97, 2) := by decide +kernel
theorem dX3_pass_17 : decode cX3_pass 17 = .ok (.invokespecial 54, 3) := by decide +kernel
theorem dX3_pass_20 : decode cX3_pass 20 = .ok (.athrow, 1) := by decide +kernel
theorem dX3_pass_21 : decode cX3_pass 21 = .ok (.aload_n 0, 1) := by decide +kernel
theorem dX3_pass_22 : decode cX3_pass 22 = .ok (.iload_n 1, 1) := by decide +kernel
theorem dX3_pass_23 : decode cX3_pass 23 = .ok (.invokevirtual 87, 3) := by decide +kernel
theorem dX3_pass_26 : decode cX3_pass 26 = .ok (.ifCond .ne 13, 3) := by decide +kernel
theorem dX3_pass_29 : decode cX3_pass 29 = .ok (.new 58, 3) := by decide +kernel
theorem dX3_pass_32 : decode cX3_pass 32 = .ok (.dup, 1) := by decide +kernel
theorem dX3_pass_33 : decode cX3_pass 33 = .ok (.ldc 99, 2) := by decide +kernel
theorem dX3_pass_35 : decode cX3_pass 35 = .ok (.invokespecial 62, 3) := by decide +kernel
theorem dX3_pass_38 : decode cX3_pass 38 = .ok (.athrow, 1) := by decide +kernel
theorem dX3_pass_39 : decode cX3_pass 39 = .ok (.aload_n 0, 1) := by decide +kernel
theorem dX3_pass_40 : decode cX3_pass 40 = .ok (.getfield 21, 3) := by decide +kernel
theorem dX3_pass_43 : decode cX3_pass 43 = .ok (.iload_n 1, 1) := by decide +kernel
theorem dX3_pass_44 : decode cX3_pass 44 = .ok (.invokevirtual 101, 3) := by decide +kernel
theorem dX3_pass_47 : decode cX3_pass 47 = .ok (.ireturn, 1) := by decide +kernel
theorem dX3_close_0 : decode cX3_close 0 = .ok (.aload_n 0, 1) := by decide +kernel
theorem dX3_close_1 : decode cX3_close 1 = .ok (.getfield 21, 3) := by decide +kernel
theorem dX3_close_4 : decode cX3_close 4 = .ok (.getfield 69, 3) := by decide +kernel
theorem dX3_close_7 : decode cX3_close 7 = .ok (.ifCond .eq 13, 3) := by decide +kernel
theorem dX3_close_10 : decode cX3_close 10 = .ok (.new 58, 3) := by decide +kernel
theorem dX3_close_13 : decode cX3_close 13 = .ok (.dup, 1) := by decide +kernel
theorem dX3_close_14 : decode cX3_close 14 = .ok (.ldc 73, 2) := by decide +kernel
theorem dX3_close_16 : decode cX3_close 16 = .ok (.invokespecial 62, 3) := by decide +kernel
theorem dX3_close_19 : decode cX3_close 19 = .ok (.athrow, 1) := by decide +kernel
theorem dX3_close_20 : decode cX3_close 20 = .ok (.aload_n 0, 1) := by decide +kernel
theorem dX3_close_21 : decode cX3_close 21 = .ok (.getfield 21, 3) := by decide +kernel
theorem dX3_close_24 : decode cX3_close 24 = .ok (.iconst 1, 1) := by decide +kernel
theorem dX3_close_25 : decode cX3_close 25 = .ok (.putfield 69, 3) := by decide +kernel
theorem dX3_close_28 : decode cX3_close 28 = .ok (.return_, 1) := by decide +kernel
theorem dX3_open_0 : decode cX3_open 0 = .ok (.aload_n 0, 1) := by decide +kernel
theorem dX3_open_1 : decode cX3_open 1 = .ok (.getfield 21, 3) := by decide +kernel
theorem dX3_open_4 : decode cX3_open 4 = .ok (.getfield 69, 3) := by decide +kernel
theorem dX3_open_7 : decode cX3_open 7 = .ok (.ifCond .ne 13, 3) := by decide +kernel
theorem dX3_open_10 : decode cX3_open 10 = .ok (.new 58, 3) := by decide +kernel
theorem dX3_open_13 : decode cX3_open 13 = .ok (.dup, 1) := by decide +kernel
theorem dX3_open_14 : decode cX3_open 14 = .ok (.ldc 105, 2) := by decide +kernel
theorem dX3_open_16 : decode cX3_open 16 = .ok (.invokespecial 62, 3) := by decide +kernel
theorem dX3_open_19 : decode cX3_open 19 = .ok (.athrow, 1) := by decide +kernel
theorem dX3_open_20 : decode cX3_open 20 = .ok (.aload_n 0, 1) := by decide +kernel
theorem dX3_open_21 : decode cX3_open 21 = .ok (.getfield 21, 3) := by decide +kernel
theorem dX3_open_24 : decode cX3_open 24 = .ok (.getfield 107, 3) := by decide +kernel
theorem dX3_open_27 : decode cX3_open 27 = .ok (.istore_n 1, 1) := by decide +kernel
theorem dX3_open_28 : decode cX3_open 28 = .ok (.aload_n 0, 1) := by decide +kernel
theorem dX3_open_29 : decode cX3_open 29 = .ok (.getfield 21, 3) := by decide +kernel
theorem dX3_open_32 : decode cX3_open 32 = .ok (.iconst 0, 1) := by decide +kernel
theorem dX3_open_33 : decode cX3_open 33 = .ok (.putfield 69, 3) := by decide +kernel
theorem dX3_open_36 : decode cX3_open 36 = .ok (.aload_n 0, 1) := by decide +kernel
theorem dX3_open_37 : decode cX3_open 37 = .ok (.getfield 21, 3) := by decide +kernel
theorem dX3_open_40 : decode cX3_open 40 = .ok (.iconst 0, 1) := by decide +kernel
theorem dX3_open_41 : decode cX3_open 41 = .ok (.putfield 107, 3) := by decide +kernel
theorem dX3_open_44 : decode cX3_open 44 = .ok (.iload_n 1, 1) := by decide +kernel
theorem dX3_open_45 : decode cX3_open 45 = .ok (.ireturn, 1) := by decide +kernel
theorem dX3_pump_0 : decode cX3_pump 0 = .ok (.iload_n 1, 1) := by decide +kernel
theorem dX3_pump_1 : decode cX3_pump 1 = .ok (.iconst 1, 1) := by decide +kernel
theorem dX3_pump_2 : decode cX3_pump 2 = .ok (.sipush 500, 3) := by decide +kernel
theorem dX3_pump_5 : decode cX3_pump 5 = .ok (.invokestatic 39, 3) := by decide +kernel
theorem dX3_pump_8 : decode cX3_pump 8 = .ok (.ifCond .eq 14, 3) := by decide +kernel
theorem dX3_pump_11 : decode cX3_pump 11 = .ok (.iload_n 2, 1) := by decide +kernel
theorem dX3_pump_12 : decode cX3_pump 12 = .ok (.iconst 0, 1) := by decide +kernel
theorem dX3_pump_13 : decode cX3_pump 13 = .ok (.sipush 300, 3) := by decide +kernel
theorem dX3_pump_16 : decode cX3_pump 16 = .ok (.invokestatic 39, 3) := by decide +kernel
theorem dX3_pump_19 : decode cX3_pump 19 = .ok (.ifCond .ne 13, 3) := by decide +kernel
theorem dX3_pump_22 : decode cX3_pump 22 = .ok (.new 50, 3) := by decide +kernel
theorem dX3_pump_25 : decode cX3_pump 25 = .ok (.dup, 1) := by decide +kernel
theorem dX3_pump_26 : decode cX3_pump 26 = .ok (.ldc 110, 2) := by decide +kernel
theorem dX3_pump_28 : decode cX3_pump 28 = .ok (.invokespecial 54, 3) := by decide +kernel
theorem dX3_pump_31 : decode cX3_pump 31 = .ok (.athrow, 1) := by decide +kernel
theorem dX3_pump_32 : decode cX3_pump 32 = .ok (.aload_n 0, 1) := by decide +kernel
theorem dX3_pump_33 : decode cX3_pump 33 = .ok (.getfield 21, 3) := by decide +kernel
theorem dX3_pump_36 : decode cX3_pump 36 = .ok (.getfield 69, 3) := by decide +kernel
theorem dX3_pump_39 : decode cX3_pump 39 = .ok (.ifCond .eq 21, 3) := by decide +kernel
theorem dX3_pump_42 : decode cX3_pump 42 = .ok (.aload_n 0, 1) := by decide +kernel
theorem dX3_pump_43 : decode cX3_pump 43 = .ok (.getfield 21, 3) := by decide +kernel
theorem dX3_pump_46 : decode cX3_pump 46 = .ok (.getfield 55, 3) := by decide +kernel
theorem dX3_pump_49 : decode cX3_pump 49 = .ok (.ifCond .eq 11, 3) := by decide +kernel
theorem dX3_pump_52 : decode cX3_pump 52 = .ok (.aload_n 0, 1) := by decide +kernel
theorem dX3_pump_53 : decode cX3_pump 53 = .ok (.iload_n 1, 1) := by decide +kernel
theorem dX3_pump_54 : decode cX3_pump 54 = .ok (.invokevirtual 87, 3) := by decide +kernel
theorem dX3_pump_57 : decode cX3_pump 57 = .ok (.ifCond .ne 13, 3) := by decide +kernel
theorem dX3_pump_60 : decode cX3_pump 60 = .ok (.new 58, 3) := by decide +kernel
theorem dX3_pump_63 : decode cX3_pump 63 = .ok (.dup, 1) := by decide +kernel
theorem dX3_pump_64 : decode cX3_pump 64 = .ok (.ldc 112, 2) := by decide +kernel
theorem dX3_pump_66 : decode cX3_pump 66 = .ok (.invokespecial 62, 3) := by decide +kernel
theorem dX3_pump_69 : decode cX3_pump 69 = .ok (.athrow, 1) := by decide +kernel
theorem dX3_pump_70 : decode cX3_pump 70 = .ok (.iload_n 2, 1) := by decide +kernel
theorem dX3_pump_71 : decode cX3_pump 71 = .ok (.aload_n 0, 1) := by decide +kernel
theorem dX3_pump_72 : decode cX3_pump 72 = .ok (.getfield 35, 3) := by decide +kernel
theorem dX3_pump_75 : decode cX3_pump 75 = .ok (.if_icmp .eq 8, 3) := by decide +kernel
theorem dX3_pump_78 : decode cX3_pump 78 = .ok (.aload_n 0, 1) := by decide +kernel
theorem dX3_pump_79 : decode cX3_pump 79 = .ok (.iconst 0, 1) := by decide +kernel
theorem dX3_pump_80 : decode cX3_pump 80 = .ok (.putfield 78, 3) := by decide +kernel
theorem dX3_pump_83 : decode cX3_pump 83 = .ok (.aload_n 0, 1) := by decide +kernel
theorem dX3_pump_84 : decode cX3_pump 84 = .ok (.iload_n 2, 1) := by decide +kernel
theorem dX3_pump_85 : decode cX3_pump 85 = .ok (.putfield 35, 3) := by decide +kernel
theorem dX3_pump_88 : decode cX3_pump 88 = .ok (.iconst 1, 1) := by decide +kernel
theorem dX3_pump_89 : decode cX3_pump 89 = .ok (.istore_n 3, 1) := by decide +kernel
theorem dX3_pump_90 : decode cX3_pump 90 = .ok (.iload_n 3, 1) := by decide +kernel
theorem dX3_pump_91 : decode cX3_pump 91 = .ok (.iload_n 1, 1) := by decide +kernel
theorem dX3_pump_92 : decode cX3_pump 92 = .ok (.if_icmp .gt 35, 3) := by decide +kernel
theorem dX3_pump_95 : decode cX3_pump 95 = .ok (.aload_n 0, 1) := by decide +kernel
theorem dX3_pump_96 : decode cX3_pump 96 = .ok (.getfield 21, 3) := by decide +kernel
theorem dX3_pump_99 : decode cX3_pump 99 = .ok (.iconst 1, 1) := by decide +kernel
theorem dX3_pump_100 : decode cX3_pump 100 = .ok (.invokevirtual 93, 3) := by decide +kernel
theorem dX3_pump_103 : decode cX3_pump 103 = .ok (.pop, 1) := by decide +kernel
theorem dX3_pump_104 : decode cX3_pump 104 = .ok (.aload_n 0, 1) := by decide +kernel
theorem dX3_pump_105 : decode cX3_pump 105 = .ok (.getfield 21, 3) := by decide +kernel
theorem dX3_pump_108 : decode cX3_pump 108 = .ok (.getfield 69, 3) := by decide +kernel
theorem dX3_pump_111 : decode cX3_pump 111 = .ok (.ifCond .ne 5, 3) := by decide +kernel
theorem dX3_pump_114 : decode cX3_pump 114 = .ok (.iload_n 3, 1) := by decide +kernel
theorem dX3_pump_115 : decode cX3_pump 115 = .ok (.ireturn, 1) := by decide +kernel
theorem dX3_pump_116 : decode cX3_pump 116 = .ok (.aload_n 0, 1) := by decide +kernel
theorem dX3_pump_117 : decode cX3_pump 117 = .ok (.iload_n 2, 1) := by decide +kernel
theorem dX3_pump_118 : decode cX3_pump 118 = .ok (.invokevirtual 114, 3) := by decide +kernel
theorem dX3_pump_121 : decode cX3_pump 121 = .ok (.iinc 3 1, 3) := by decide +kernel
theorem dX3_pump_124 : decode cX3_pump 124 = .ok (.goto (-34), 3) := by decide +kernel
theorem dX3_pump_127 : decode cX3_pump 127 = .ok (.iload_n 1, 1) := by decide +kernel
theorem dX3_pump_128 : decode cX3_pump 128 = .ok (.ireturn, 1) := by decide +kernel
theorem dX3_pumpOn_0 : decode cX3_pumpOn 0 = .ok (.aload_n 0, 1) := by decide +kernel
theorem dX3_pumpOn_1 : decode cX3_pumpOn 1 = .ok (.dup, 1) := by decide +kernel
theorem dX3_pumpOn_2 : decode cX3_pumpOn 2 = .ok (.getfield 78, 3) := by decide +kernel
theorem dX3_pumpOn_5 : decode cX3_pumpOn 5 = .ok (.bipush 20, 2) := by decide +kernel
theorem dX3_pumpOn_7 : decode cX3_pumpOn 7 = .ok (.iadd, 1) := by decide +kernel
theorem dX3_pumpOn_8 : decode cX3_pumpOn 8 = .ok (.putfield 78, 3) := by decide +kernel
theorem dX3_pumpOn_11 : decode cX3_pumpOn 11 = .ok (.aload_n 0, 1) := by decide +kernel
theorem dX3_pumpOn_12 : decode cX3_pumpOn 12 = .ok (.getfield 78, 3) := by decide +kernel
theorem dX3_pumpOn_15 : decode cX3_pumpOn 15 = .ok (.aload_n 0, 1) := by decide +kernel
theorem dX3_pumpOn_16 : decode cX3_pumpOn 16 = .ok (.getfield 21, 3) := by decide +kernel
theorem dX3_pumpOn_19 : decode cX3_pumpOn 19 = .ok (.getfield 55, 3) := by decide +kernel
theorem dX3_pumpOn_22 : decode cX3_pumpOn 22 = .ok (.if_icmp .lt 24, 3) := by decide +kernel
theorem dX3_pumpOn_25 : decode cX3_pumpOn 25 = .ok (.aload_n 0, 1) := by decide +kernel
theorem dX3_pumpOn_26 : decode cX3_pumpOn 26 = .ok (.getfield 21, 3) := by decide +kernel
theorem dX3_pumpOn_29 : decode cX3_pumpOn 29 = .ok (.iload_n 1, 1) := by decide +kernel
theorem dX3_pumpOn_30 : decode cX3_pumpOn 30 = .ok (.putfield 75, 3) := by decide +kernel
theorem dX3_pumpOn_33 : decode cX3_pumpOn 33 = .ok (.aload_n 0, 1) := by decide +kernel
theorem dX3_pumpOn_34 : decode cX3_pumpOn 34 = .ok (.getfield 21, 3) := by decide +kernel
theorem dX3_pumpOn_37 : decode cX3_pumpOn 37 = .ok (.iconst 0, 1) := by decide +kernel
theorem dX3_pumpOn_38 : decode cX3_pumpOn 38 = .ok (.putfield 118, 3) := by decide +kernel
theorem dX3_pumpOn_41 : decode cX3_pumpOn 41 = .ok (.aload_n 0, 1) := by decide +kernel
theorem dX3_pumpOn_42 : decode cX3_pumpOn 42 = .ok (.iconst 0, 1) := by decide +kernel
theorem dX3_pumpOn_43 : decode cX3_pumpOn 43 = .ok (.putfield 78, 3) := by decide +kernel
theorem dX3_pumpOn_46 : decode cX3_pumpOn 46 = .ok (.return_, 1) := by decide +kernel
theorem dX3_casing_0 : decode cX3_casing 0 = .ok (.iload_n 1, 1) := by decide +kernel
theorem dX3_casing_1 : decode cX3_casing 1 = .ok (.iconst 0, 1) := by decide +kernel
theorem dX3_casing_2 : decode cX3_casing 2 = .ok (.sipush 1000, 3) := by decide +kernel
theorem dX3_casing_5 : decode cX3_casing 5 = .ok (.invokestatic 39, 3) := by decide +kernel
theorem dX3_casing_8 : decode cX3_casing 8 = .ok (.ifCond .ne 13, 3) := by decide +kernel
theorem dX3_casing_11 : decode cX3_casing 11 = .ok (.new 50, 3) := by decide +kernel
theorem dX3_casing_14 : decode cX3_casing 14 = .ok (.dup, 1) := by decide +kernel
theorem dX3_casing_15 : decode cX3_casing 15 = .ok (.ldc 121, 2) := by decide +kernel
theorem dX3_casing_17 : decode cX3_casing 17 = .ok (.invokespecial 54, 3) := by decide +kernel
theorem dX3_casing_20 : decode cX3_casing 20 = .ok (.athrow, 1) := by decide +kernel
theorem dX3_casing_21 : decode cX3_casing 21 = .ok (.aload_n 0, 1) := by decide +kernel
theorem dX3_casing_22 : decode cX3_casing 22 = .ok (.getfield 21, 3) := by decide +kernel
theorem dX3_casing_25 : decode cX3_casing 25 = .ok (.getfield 55, 3) := by decide +kernel
theorem dX3_casing_28 : decode cX3_casing 28 = .ok (.aload_n 0, 1) := by decide +kernel
theorem dX3_casing_29 : decode cX3_casing 29 = .ok (.getfield 21, 3) := by decide +kernel
theorem dX3_casing_32 : decode cX3_casing 32 = .ok (.getfield 123, 3) := by decide +kernel
theorem dX3_casing_35 : decode cX3_casing 35 = .ok (.isub, 1) := by decide +kernel
theorem dX3_casing_36 : decode cX3_casing 36 = .ok (.istore_n 2, 1) := by decide +kernel
theorem dX3_casing_37 : decode cX3_casing 37 = .ok (.iload_n 2, 1) := by decide +kernel
theorem dX3_casing_38 : decode cX3_casing 38 = .ok (.ifCond .le 13, 3) := by decide +kernel
theorem dX3_casing_41 : decode cX3_casing 41 = .ok (.aload_n 0, 1) := by decide +kernel
theorem dX3_casing_42 : decode cX3_casing 42 = .ok (.getfield 21, 3) := by decide +kernel
theorem dX3_casing_45 : decode cX3_casing 45 = .ok (.invokevirtual 126, 3) := by decide +kernel
theorem dX3_casing_48 : decode cX3_casing 48 = .ok (.ifCond .eq 13, 3) := by decide +kernel
theorem dX3_casing_51 : decode cX3_casing 51 = .ok (.new 58, 3) := by decide +kernel
theorem dX3_casing_54 : decode cX3_casing 54 = .ok (.dup, 1) := by decide +kernel
theorem dX3_casing_55 : decode cX3_casing 55 = .ok (.ldc 130, 2) := by decide +kernel
theorem dX3_casing_57 : decode cX3_casing 57 = .ok (.invokespecial 62, 3) := by decide +kernel
theorem dX3_casing_60 : decode cX3_casing 60 = .ok (.athrow, 1) := by decide +kernel
theorem dX3_casing_61 : decode cX3_casing 61 = .ok (.aload_n 0, 1) := by decide +kernel
theorem dX3_casing_62 : decode cX3_casing 62 = .ok (.sipush 1000, 3) := by decide +kernel
theorem dX3_casing_65 : decode cX3_casing 65 = .ok (.iload_n 1, 1) := by decide +kernel
theorem dX3_casing_66 : decode cX3_casing 66 = .ok (.imul, 1) := by decide +kernel
theorem dX3_casing_67 : decode cX3_casing 67 = .ok (.iload_n 2, 1) := by decide +kernel
theorem dX3_casing_68 : decode cX3_casing 68 = .ok (.idiv, 1) := by decide +kernel
theorem dX3_casing_69 : decode cX3_casing 69 = .ok (.putfield 132, 3) := by decide +kernel
theorem dX3_casing_72 : decode cX3_casing 72 = .ok (.aload_n 0, 1) := by decide +kernel
theorem dX3_casing_73 : decode cX3_casing 73 = .ok (.getfield 21, 3) := by decide +kernel
theorem dX3_casing_76 : decode cX3_casing 76 = .ok (.aload_n 0, 1) := by decide +kernel
theorem dX3_casing_77 : decode cX3_casing 77 = .ok (.getfield 21, 3) := by decide +kernel
theorem dX3_casing_80 : decode cX3_casing 80 = .ok (.getfield 55, 3) := by decide +kernel
theorem dX3_casing_83 : decode cX3_casing 83 = .ok (.putfield 123, 3) := by decide +kernel
theorem dX3_casing_86 : decode cX3_casing 86 = .ok (.aload_n 0, 1) := by decide +kernel
theorem dX3_casing_87 : decode cX3_casing 87 = .ok (.getfield 31, 3) := by decide +kernel
theorem dX3_casing_90 : decode cX3_casing 90 = .ok (.iconst (-1), 1) := by decide +kernel
theorem dX3_casing_91 : decode cX3_casing 91 = .ok (.putfield 135, 3) := by decide +kernel
theorem dX3_casing_94 : decode cX3_casing 94 = .ok (.aload_n 0, 1) := by decide +kernel
theorem dX3_casing_95 : decode cX3_casing 95 = .ok (.getfield 132, 3) := by decide +kernel
theorem dX3_casing_98 : decode cX3_casing 98 = .ok (.ireturn, 1) := by decide +kernel
theorem dX3_strength_0 : decode cX3_strength 0 = .ok (.iload_n 1, 1) := by decide +kernel
theorem dX3_strength_1 : decode cX3_strength 1 = .ok (.iconst 0, 1) := by decide +kernel
theorem dX3_strength_2 : decode cX3_strength 2 = .ok (.ldc 138, 2) := by decide +kernel
theorem dX3_strength_4 : decode cX3_strength 4 = .ok (.invokestatic 39, 3) := by decide +kernel
theorem dX3_strength_7 : decode cX3_strength 7 = .ok (.ifCond .ne 13, 3) := by decide +kernel
theorem dX3_strength_10 : decode cX3_strength 10 = .ok (.new 50, 3) := by decide +kernel
theorem dX3_strength_13 : decode cX3_strength 13 = .ok (.dup, 1) := by decide +kernel
theorem dX3_strength_14 : decode cX3_strength 14 = .ok (.ldc 139, 2) := by decide +kernel
theorem dX3_strength_16 : decode cX3_strength 16 = .ok (.invokespecial 54, 3) := by decide +kernel
theorem dX3_strength_19 : decode cX3_strength 19 = .ok (.athrow, 1) := by decide +kernel
theorem dX3_strength_20 : decode cX3_strength 20 = .ok (.aload_n 0, 1) := by decide +kernel
theorem dX3_strength_21 : decode cX3_strength 21 = .ok (.getfield 21, 3) := by decide +kernel
theorem dX3_strength_24 : decode cX3_strength 24 = .ok (.getfield 141, 3) := by decide +kernel
theorem dX3_strength_27 : decode cX3_strength 27 = .ok (.istore_n 2, 1) := by decide +kernel
theorem dX3_strength_28 : decode cX3_strength 28 = .ok (.aload_n 0, 1) := by decide +kernel
theorem dX3_strength_29 : decode cX3_strength 29 = .ok (.getfield 21, 3) := by decide +kernel
theorem dX3_strength_32 : decode cX3_strength 32 = .ok (.iload_n 1, 1) := by decide +kernel
theorem dX3_strength_33 : decode cX3_strength 33 = .ok (.putfield 141, 3) := by decide +kernel
theorem dX3_strength_36 : decode cX3_strength 36 = .ok (.iload_n 2, 1) := by decide +kernel
theorem dX3_strength_37 : decode cX3_strength 37 = .ok (.ireturn, 1) := by decide +kernel
theorem dX3_test_0 : decode cX3_test 0 = .ok (.iload_n 1, 1) := by decide +kernel
theorem dX3_test_1 : decode cX3_test 1 = .ok (.iconst 0, 1) := by decide +kernel
theorem dX3_test_2 : decode cX3_test 2 = .ok (.iconst 1, 1) := by decide +kernel
theorem dX3_test_3 : decode cX3_test 3 = .ok (.invokestatic 39, 3) := by decide +kernel
theorem dX3_test_6 : decode cX3_test 6 = .ok (.ifCond .eq 15, 3) := by decide +kernel
theorem dX3_test_9 : decode cX3_test 9 = .ok (.iload_n 2, 1) := by decide +kernel
theorem dX3_test_10 : decode cX3_test 10 = .ok (.sipush 1000, 3) := by decide +kernel
theorem dX3_test_13 : decode cX3_test 13 = .ok (.ldc 138, 2) := by decide +kernel
theorem dX3_test_15 : decode cX3_test 15 = .ok (.invokestatic 39, 3) := by decide +kernel
theorem dX3_test_18 : decode cX3_test 18 = .ok (.ifCond .ne 13, 3) := by decide +kernel
theorem dX3_test_21 : decode cX3_test 21 = .ok (.new 50, 3) := by decide +kernel
theorem dX3_test_24 : decode cX3_test 24 = .ok (.dup, 1) := by decide +kernel
theorem dX3_test_25 : decode cX3_test 25 = .ok (.ldc 144, 2) := by decide +kernel
theorem dX3_test_27 : decode cX3_test 27 = .ok (.invokespecial 54, 3) := by decide +kernel
theorem dX3_test_30 : decode cX3_test 30 = .ok (.athrow, 1) := by decide +kernel
theorem dX3_test_31 : decode cX3_test 31 = .ok (.aload_n 0, 1) := by decide +kernel
theorem dX3_test_32 : decode cX3_test 32 = .ok (.getfield 21, 3) := by decide +kernel
theorem dX3_test_35 : decode cX3_test 35 = .ok (.getfield 69, 3) := by decide +kernel
theorem dX3_test_38 : decode cX3_test 38 = .ok (.ifCond .ne 30, 3) := by decide +kernel
theorem dX3_test_41 : decode cX3_test 41 = .ok (.aload_n 0, 1) := by decide +kernel
theorem dX3_test_42 : decode cX3_test 42 = .ok (.getfield 31, 3) := by decide +kernel
theorem dX3_test_45 : decode cX3_test 45 = .ok (.getfield 146, 3) := by decide +kernel
theorem dX3_test_48 : decode cX3_test 48 = .ok (.bipush 60, 2) := by decide +kernel
theorem dX3_test_50 : decode cX3_test 50 = .ok (.if_icmp .ge 18, 3) := by decide +kernel
theorem dX3_test_53 : decode cX3_test 53 = .ok (.iload_n 1, 1) := by decide +kernel
theorem dX3_test_54 : decode cX3_test 54 = .ok (.iconst 1, 1) := by decide +kernel
theorem dX3_test_55 : decode cX3_test 55 = .ok (.if_icmp .ne 23, 3) := by decide +kernel
theorem dX3_test_58 : decode cX3_test 58 = .ok (.aload_n 0, 1) := by decide +kernel
theorem dX3_test_59 : decode cX3_test 59 = .ok (.getfield 21, 3) := by decide +kernel
theorem dX3_test_62 : decode cX3_test 62 = .ok (.getfield 123, 3) := by decide +kernel
theorem dX3_test_65 : decode cX3_test 65 = .ok (.ifCond .ne 13, 3) := by decide +kernel
theorem dX3_test_68 : decode cX3_test 68 = .ok (.new 58, 3) := by decide +kernel
theorem dX3_test_71 : decode cX3_test 71 = .ok (.dup, 1) := by decide +kernel
theorem dX3_test_72 : decode cX3_test 72 = .ok (.ldc 149, 2) := by decide +kernel
theorem dX3_test_74 : decode cX3_test 74 = .ok (.invokespecial 62, 3) := by decide +kernel
theorem dX3_test_77 : decode cX3_test 77 = .ok (.athrow, 1) := by decide +kernel
theorem dX3_test_78 : decode cX3_test 78 = .ok (.iload_n 2, 1) := by decide +kernel
theorem dX3_test_79 : decode cX3_test 79 = .ok (.iload_n 1, 1) := by decide +kernel
theorem dX3_test_80 : decode cX3_test 80 = .ok (.ifCond .ne 13, 3) := by decide +kernel
theorem dX3_test_83 : decode cX3_test 83 = .ok (.aload_n 0, 1) := by decide +kernel
theorem dX3_test_84 : decode cX3_test 84 = .ok (.getfield 21, 3) := by decide +kernel
theorem dX3_test_87 : decode cX3_test 87 = .ok (.getfield 141, 3) := by decide +kernel
theorem dX3_test_90 : decode cX3_test 90 = .ok (.goto 7, 3) := by decide +kernel
theorem dX3_test_93 : decode cX3_test 93 = .ok (.aload_n 0, 1) := by decide +kernel
theorem dX3_test_94 : decode cX3_test 94 = .ok (.getfield 132, 3) := by decide +kernel
theorem dX3_test_97 : decode cX3_test 97 = .ok (.if_icmp .gt 7, 3) := by decide +kernel
theorem dX3_test_100 : decode cX3_test 100 = .ok (.iconst 1, 1) := by decide +kernel
theorem dX3_test_101 : decode cX3_test 101 = .ok (.goto 4, 3) := by decide +kernel
theorem dX3_test_104 : decode cX3_test 104 = .ok (.iconst 0, 1) := by decide +kernel
theorem dX3_test_105 : decode cX3_test 105 = .ok (.istore_n 3, 1) := by decide +kernel
theorem dX3_test_106 : decode cX3_test 106 = .ok (.aload_n 0, 1) := by decide +kernel
theorem dX3_test_107 : decode cX3_test 107 = .ok (.getfield 31, 3) := by decide +kernel
theorem dX3_test_110 : decode cX3_test 110 = .ok (.iload_n 1, 1) := by decide +kernel
theorem dX3_test_111 : decode cX3_test 111 = .ok (.iload_n 2, 1) := by decide +kernel
theorem dX3_test_112 : decode cX3_test 112 = .ok (.iload_n 3, 1) := by decide +kernel
theorem dX3_test_113 : decode cX3_test 113 = .ok (.aload_n 0, 1) := by decide +kernel
theorem dX3_test_114 : decode cX3_test 114 = .ok (.getfield 21, 3) := by decide +kernel
theorem dX3_test_117 : decode cX3_test 117 = .ok (.getfield 151, 3) := by decide +kernel
theorem dX3_test_120 : decode cX3_test 120 = .ok (.invokevirtual 154, 3) := by decide +kernel
theorem dX3_test_123 : decode cX3_test 123 = .ok (.iload_n 1, 1) := by decide +kernel
theorem dX3_test_124 : decode cX3_test 124 = .ok (.ifCond .ne 11, 3) := by decide +kernel
theorem dX3_test_127 : decode cX3_test 127 = .ok (.aload_n 0, 1) := by decide +kernel
theorem dX3_test_128 : decode cX3_test 128 = .ok (.getfield 21, 3) := by decide +kernel
theorem dX3_test_131 : decode cX3_test 131 = .ok (.iconst 0, 1) := by decide +kernel
theorem dX3_test_132 : decode cX3_test 132 = .ok (.putfield 158, 3) := by decide +kernel
theorem dX3_test_135 : decode cX3_test 135 = .ok (.iload_n 3, 1) := by decide +kernel
theorem dX3_test_136 : decode cX3_test 136 = .ok (.ireturn, 1) := by decide +kernel
theorem dX3_stop_0 : decode cX3_stop 0 = .ok (.iload_n 1, 1) := by decide +kernel
theorem dX3_stop_1 : decode cX3_stop 1 = .ok (.iconst 0, 1) := by decide +kernel
theorem dX3_stop_2 : decode cX3_stop 2 = .ok (.iconst 5, 1) := by decide +kernel
theorem dX3_stop_3 : decode cX3_stop 3 = .ok (.invokestatic 39, 3) := by decide +kernel
theorem dX3_stop_6 : decode cX3_stop 6 = .ok (.ifCond .ne 13, 3) := by decide +kernel
theorem dX3_stop_9 : decode cX3_stop 9 = .ok (.new 43, 3) := by decide +kernel
theorem dX3_stop_12 : decode cX3_stop 12 = .ok (.dup, 1) := by decide +kernel
theorem dX3_stop_13 : decode cX3_stop 13 = .ok (.ldc 161, 2) := by decide +kernel
theorem dX3_stop_15 : decode cX3_stop 15 = .ok (.invokespecial 47, 3) := by decide +kernel
theorem dX3_stop_18 : decode cX3_stop 18 = .ok (.athrow, 1) := by decide +kernel
theorem dX3_stop_19 : decode cX3_stop 19 = .ok (.iconst 1, 1) := by decide +kernel
theorem dX3_stop_20 : decode cX3_stop 20 = .ok (.iload_n 1, 1) := by decide +kernel
theorem dX3_stop_21 : decode cX3_stop 21 = .ok (.ishl, 1) := by decide +kernel
theorem dX3_stop_22 : decode cX3_stop 22 = .ok (.istore_n 3, 1) := by decide +kernel
theorem dX3_stop_23 : decode cX3_stop 23 = .ok (.aload_n 0, 1) := by decide +kernel
theorem dX3_stop_24 : decode cX3_stop 24 = .ok (.iload_n 2, 1) := by decide +kernel
theorem dX3_stop_25 : decode cX3_stop 25 = .ok (.ifCond .eq 12, 3) := by decide +kernel
theorem dX3_stop_28 : decode cX3_stop 28 = .ok (.aload_n 0, 1) := by decide +kernel
theorem dX3_stop_29 : decode cX3_stop 29 = .ok (.getfield 163, 3) := by decide +kernel
theorem dX3_stop_32 : decode cX3_stop 32 = .ok (.iload_n 3, 1) := by decide +kernel
theorem dX3_stop_33 : decode cX3_stop 33 = .ok (.ior, 1) := by decide +kernel
theorem dX3_stop_34 : decode cX3_stop 34 = .ok (.goto 11, 3) := by decide +kernel
theorem dX3_stop_37 : decode cX3_stop 37 = .ok (.aload_n 0, 1) := by decide +kernel
theorem dX3_stop_38 : decode cX3_stop 38 = .ok (.getfield 163, 3) := by decide +kernel
theorem dX3_stop_41 : decode cX3_stop 41 = .ok (.iload_n 3, 1) := by decide +kernel
theorem dX3_stop_42 : decode cX3_stop 42 = .ok (.iconst (-1), 1) := by decide +kernel
theorem dX3_stop_43 : decode cX3_stop 43 = .ok (.ixor, 1) := by decide +kernel
theorem dX3_stop_44 : decode cX3_stop 44 = .ok (.iand, 1) := by decide +kernel
theorem dX3_stop_45 : decode cX3_stop 45 = .ok (.putfield 163, 3) := by decide +kernel
theorem dX3_stop_48 : decode cX3_stop 48 = .ok (.aload_n 0, 1) := by decide +kernel
theorem dX3_stop_49 : decode cX3_stop 49 = .ok (.getfield 163, 3) := by decide +kernel
theorem dX3_stop_52 : decode cX3_stop 52 = .ok (.invokestatic 166, 3) := by decide +kernel
theorem dX3_stop_55 : decode cX3_stop 55 = .ok (.ireturn, 1) := by decide +kernel
theorem dX3_pressure_0 : decode cX3_pressure 0 = .ok (.iload_n 1, 1) := by decide +kernel
theorem dX3_pressure_1 : decode cX3_pressure 1 = .ok (.tableswitch 115 0 5 #[39, 47, 62, 70, 85, 93], 39) := by decide +kernel
theorem dX3_pressure_40 : decode cX3_pressure 40 = .ok (.aload_n 0, 1) := by decide +kernel
theorem dX3_pressure_41 : decode cX3_pressure 41 = .ok (.getfield 21, 3) := by decide +kernel
theorem dX3_pressure_44 : decode cX3_pressure 44 = .ok (.invokevirtual 171, 3) := by decide +kernel
theorem dX3_pressure_47 : decode cX3_pressure 47 = .ok (.ireturn, 1) := by decide +kernel
theorem dX3_pressure_48 : decode cX3_pressure 48 = .ok (.aload_n 0, 1) := by decide +kernel
theorem dX3_pressure_49 : decode cX3_pressure 49 = .ok (.getfield 10, 3) := by decide +kernel
theorem dX3_pressure_52 : decode cX3_pressure 52 = .ok (.aload_n 0, 1) := by decide +kernel
theorem dX3_pressure_53 : decode cX3_pressure 53 = .ok (.getfield 21, 3) := by decide +kernel
theorem dX3_pressure_56 : decode cX3_pressure 56 = .ok (.getfield 55, 3) := by decide +kernel
theorem dX3_pressure_59 : decode cX3_pressure 59 = .ok (.invokevirtual 174, 3) := by decide +kernel
theorem dX3_pressure_62 : decode cX3_pressure 62 = .ok (.ireturn, 1) := by decide +kernel
theorem dX3_pressure_63 : decode cX3_pressure 63 = .ok (.aload_n 0, 1) := by decide +kernel
theorem dX3_pressure_64 : decode cX3_pressure 64 = .ok (.getfield 21, 3) := by decide +kernel
theorem dX3_pressure_67 : decode cX3_pressure 67 = .ok (.invokevirtual 177, 3) := by decide +kernel
theorem dX3_pressure_70 : decode cX3_pressure 70 = .ok (.ireturn, 1) := by decide +kernel
theorem dX3_pressure_71 : decode cX3_pressure 71 = .ok (.aload_n 0, 1) := by decide +kernel
theorem dX3_pressure_72 : decode cX3_pressure 72 = .ok (.getfield 10, 3) := by decide +kernel
theorem dX3_pressure_75 : decode cX3_pressure 75 = .ok (.aload_n 0, 1) := by decide +kernel
theorem dX3_pressure_76 : decode cX3_pressure 76 = .ok (.getfield 21, 3) := by decide +kernel
theorem dX3_pressure_79 : decode cX3_pressure 79 = .ok (.getfield 123, 3) := by decide +kernel
theorem dX3_pressure_82 : decode cX3_pressure 82 = .ok (.invokevirtual 180, 3) := by decide +kernel
theorem dX3_pressure_85 : decode cX3_pressure 85 = .ok (.ireturn, 1) := by decide +kernel
theorem dX3_pressure_86 : decode cX3_pressure 86 = .ok (.aload_n 0, 1) := by decide +kernel
theorem dX3_pressure_87 : decode cX3_pressure 87 = .ok (.getfield 21, 3) := by decide +kernel
theorem dX3_pressure_90 : decode cX3_pressure 90 = .ok (.getfield 107, 3) := by decide +kernel
theorem dX3_pressure_93 : decode cX3_pressure 93 = .ok (.ireturn, 1) := by decide +kernel
theorem dX3_pressure_94 : decode cX3_pressure 94 = .ok (.aload_n 0, 1) := by decide +kernel
theorem dX3_pressure_95 : decode cX3_pressure 95 = .ok (.getfield 21, 3) := by decide +kernel
theorem dX3_pressure_98 : decode cX3_pressure 98 = .ok (.invokevirtual 183, 3) := by decide +kernel
theorem dX3_pressure_101 : decode cX3_pressure 101 = .ok (.ifCond .eq 13, 3) := by decide +kernel
theorem dX3_pressure_104 : decode cX3_pressure 104 = .ok (.aload_n 0, 1) := by decide +kernel
theorem dX3_pressure_105 : decode cX3_pressure 105 = .ok (.getfield 21, 3) := by decide +kernel
theorem dX3_pressure_108 : decode cX3_pressure 108 = .ok (.invokevirtual 186, 3) := by decide +kernel
theorem dX3_pressure_111 : decode cX3_pressure 111 = .ok (.goto 4, 3) := by decide +kernel
theorem dX3_pressure_114 : decode cX3_pressure 114 = .ok (.iconst 0, 1) := by decide +kernel
theorem dX3_pressure_115 : decode cX3_pressure 115 = .ok (.ireturn, 1) := by decide +kernel
theorem dX3_pressure_116 : decode cX3_pressure 116 = .ok (.new 50, 3) := by decide +kernel
theorem dX3_pressure_119 : decode cX3_pressure 119 = .ok (.dup, 1) := by decide +kernel
theorem dX3_pressure_120 : decode cX3_pressure 120 = .ok (.ldc 189, 2) := by decide +kernel
theorem dX3_pressure_122 : decode cX3_pressure 122 = .ok (.invokespecial 54, 3) := by decide +kernel
theorem dX3_pressure_125 : decode cX3_pressure 125 = .ok (.athrow, 1) := by decide +kernel
theorem dX3_of_0 : decode cX3_of 0 = .ok (.iload_n 1, 1) := by decide +kernel
theorem dX3_of_1 : decode cX3_of 1 = .ok (.tableswitch 187 0 11 #[63, 72, 81, 90, 106, 115, 124, 149, 158, 166, 175, 181], 63) := by decide +kernel
theorem dX3_of_64 : decode cX3_of 64 = .ok (.aload_n 0, 1) := by decide +kernel
theorem dX3_of_65 : decode cX3_of 65 = .ok (.getfield 21, 3) := by decide +kernel
theorem dX3_of_68 : decode cX3_of 68 = .ok (.getfield 55, 3) := by decide +kernel
theorem dX3_of_71 : decode cX3_of 71 = .ok (.i2l, 1) := by decide +kernel
theorem dX3_of_72 : decode cX3_of 72 = .ok (.lreturn, 1) := by decide +kernel
theorem dX3_of_73 : decode cX3_of 73 = .ok (.aload_n 0, 1) := by decide +kernel
theorem dX3_of_74 : decode cX3_of 74 = .ok (.getfield 21, 3) := by decide +kernel
theorem dX3_of_77 : decode cX3_of 77 = .ok (.getfield 123, 3) := by decide +kernel
theorem dX3_of_80 : decode cX3_of 80 = .ok (.i2l, 1) := by decide +kernel
theorem dX3_of_81 : decode cX3_of 81 = .ok (.lreturn, 1) := by decide +kernel
theorem dX3_of_82 : decode cX3_of 82 = .ok (.aload_n 0, 1) := by decide +kernel
theorem dX3_of_83 : decode cX3_of 83 = .ok (.getfield 21, 3) := by decide +kernel
theorem dX3_of_86 : decode cX3_of 86 = .ok (.getfield 75, 3) := by decide +kernel
theorem dX3_of_89 : decode cX3_of 89 = .ok (.i2l, 1) := by decide +kernel
theorem dX3_of_90 : decode cX3_of 90 = .ok (.lreturn, 1) := by decide +kernel
theorem dX3_of_91 : decode cX3_of 91 = .ok (.aload_n 0, 1) := by decide +kernel
theorem dX3_of_92 : decode cX3_of 92 = .ok (.getfield 21, 3) := by decide +kernel
theorem dX3_of_95 : decode cX3_of 95 = .ok (.getfield 69, 3) := by decide +kernel
theorem dX3_of_98 : decode cX3_of 98 = .ok (.ifCond .eq 7, 3) := by decide +kernel
theorem dX3_of_101 : decode cX3_of 101 = .ok (.lconst 1, 1) := by decide +kernel
theorem dX3_of_102 : decode cX3_of 102 = .ok (.goto 4, 3) := by decide +kernel
theorem dX3_of_105 : decode cX3_of 105 = .ok (.lconst 0, 1) := by decide +kernel
theorem dX3_of_106 : decode cX3_of 106 = .ok (.lreturn, 1) := by decide +kernel
theorem dX3_of_107 : decode cX3_of 107 = .ok (.aload_n 0, 1) := by decide +kernel
theorem dX3_of_108 : decode cX3_of 108 = .ok (.getfield 21, 3) := by decide +kernel
theorem dX3_of_111 : decode cX3_of 111 = .ok (.getfield 151, 3) := by decide +kernel
theorem dX3_of_114 : decode cX3_of 114 = .ok (.i2l, 1) := by decide +kernel
theorem dX3_of_115 : decode cX3_of 115 = .ok (.lreturn, 1) := by decide +kernel
theorem dX3_of_116 : decode cX3_of 116 = .ok (.aload_n 0, 1) := by decide +kernel
theorem dX3_of_117 : decode cX3_of 117 = .ok (.getfield 21, 3) := by decide +kernel
theorem dX3_of_120 : decode cX3_of 120 = .ok (.getfield 191, 3) := by decide +kernel
theorem dX3_of_123 : decode cX3_of 123 = .ok (.i2l, 1) := by decide +kernel
theorem dX3_of_124 : decode cX3_of 124 = .ok (.lreturn, 1) := by decide +kernel
theorem dX3_of_125 : decode cX3_of 125 = .ok (.aload_n 0, 1) := by decide +kernel
theorem dX3_of_126 : decode cX3_of 126 = .ok (.getfield 21, 3) := by decide +kernel
theorem dX3_of_129 : decode cX3_of 129 = .ok (.invokevirtual 183, 3) := by decide +kernel
theorem dX3_of_132 : decode cX3_of 132 = .ok (.ifCond .eq 14, 3) := by decide +kernel
theorem dX3_of_135 : decode cX3_of 135 = .ok (.aload_n 0, 1) := by decide +kernel
theorem dX3_of_136 : decode cX3_of 136 = .ok (.getfield 21, 3) := by decide +kernel
theorem dX3_of_139 : decode cX3_of 139 = .ok (.getfield 194, 3) := by decide +kernel
theorem dX3_of_142 : decode cX3_of 142 = .ok (.i2l, 1) := by decide +kernel
theorem dX3_of_143 : decode cX3_of 143 = .ok (.goto 6, 3) := by decide +kernel
theorem dX3_of_146 : decode cX3_of 146 = .ok (.ldc2_w 197, 3) := by decide +kernel
theorem dX3_of_149 : decode cX3_of 149 = .ok (.lreturn, 1) := by decide +kernel
theorem dX3_of_150 : decode cX3_of 150 = .ok (.aload_n 0, 1) := by decide +kernel
theorem dX3_of_151 : decode cX3_of 151 = .ok (.getfield 21, 3) := by decide +kernel
theorem dX3_of_154 : decode cX3_of 154 = .ok (.getfield 118, 3) := by decide +kernel
theorem dX3_of_157 : decode cX3_of 157 = .ok (.i2l, 1) := by decide +kernel
theorem dX3_of_158 : decode cX3_of 158 = .ok (.lreturn, 1) := by decide +kernel
theorem dX3_of_159 : decode cX3_of 159 = .ok (.aload_n 0, 1) := by decide +kernel
theorem dX3_of_160 : decode cX3_of 160 = .ok (.getfield 21, 3) := by decide +kernel
theorem dX3_of_163 : decode cX3_of 163 = .ok (.getfield 199, 3) := by decide +kernel
theorem dX3_of_166 : decode cX3_of 166 = .ok (.lreturn, 1) := by decide +kernel
theorem dX3_of_167 : decode cX3_of 167 = .ok (.aload_n 0, 1) := by decide +kernel
theorem dX3_of_168 : decode cX3_of 168 = .ok (.getfield 21, 3) := by decide +kernel
theorem dX3_of_171 : decode cX3_of 171 = .ok (.getfield 203, 3) := by decide +kernel
theorem dX3_of_174 : decode cX3_of 174 = .ok (.i2l, 1) := by decide +kernel
theorem dX3_of_175 : decode cX3_of 175 = .ok (.lreturn, 1) := by decide +kernel
theorem dX3_of_176 : decode cX3_of 176 = .ok (.aload_n 0, 1) := by decide +kernel
theorem dX3_of_177 : decode cX3_of 177 = .ok (.getfield 78, 3) := by decide +kernel
theorem dX3_of_180 : decode cX3_of 180 = .ok (.i2l, 1) := by decide +kernel
theorem dX3_of_181 : decode cX3_of 181 = .ok (.lreturn, 1) := by decide +kernel
theorem dX3_of_182 : decode cX3_of 182 = .ok (.aload_n 0, 1) := by decide +kernel
theorem dX3_of_183 : decode cX3_of 183 = .ok (.getfield 132, 3) := by decide +kernel
theorem dX3_of_186 : decode cX3_of 186 = .ok (.i2l, 1) := by decide +kernel
theorem dX3_of_187 : decode cX3_of 187 = .ok (.lreturn, 1) := by decide +kernel
theorem dX3_of_188 : decode cX3_of 188 = .ok (.new 50, 3) := by decide +kernel
theorem dX3_of_191 : decode cX3_of 191 = .ok (.dup, 1) := by decide +kernel
theorem dX3_of_192 : decode cX3_of 192 = .ok (.ldc 189, 2) := by decide +kernel
theorem dX3_of_194 : decode cX3_of 194 = .ok (.invokespecial 54, 3) := by decide +kernel
theorem dX3_of_197 : decode cX3_of 197 = .ok (.athrow, 1) := by decide +kernel
theorem dX3_barriers_0 : decode cX3_barriers 0 = .ok (.aload_n 0, 1) := by decide +kernel
theorem dX3_barriers_1 : decode cX3_barriers 1 = .ok (.invokevirtual 206, 3) := by decide +kernel
theorem dX3_barriers_4 : decode cX3_barriers 4 = .ok (.ifCond .eq 7, 3) := by decide +kernel
theorem dX3_barriers_7 : decode cX3_barriers 7 = .ok (.iconst 1, 1) := by decide +kernel
theorem dX3_barriers_8 : decode cX3_barriers 8 = .ok (.goto 4, 3) := by decide +kernel
theorem dX3_barriers_11 : decode cX3_barriers 11 = .ok (.iconst 0, 1) := by decide +kernel
theorem dX3_barriers_12 : decode cX3_barriers 12 = .ok (.aload_n 0, 1) := by decide +kernel
theorem dX3_barriers_13 : decode cX3_barriers 13 = .ok (.invokevirtual 209, 3) := by decide +kernel
theorem dX3_barriers_16 : decode cX3_barriers 16 = .ok (.ifCond .eq 7, 3) := by decide +kernel
theorem dX3_barriers_19 : decode cX3_barriers 19 = .ok (.iconst 2, 1) := by decide +kernel
theorem dX3_barriers_20 : decode cX3_barriers 20 = .ok (.goto 4, 3) := by decide +kernel
theorem dX3_barriers_23 : decode cX3_barriers 23 = .ok (.iconst 0, 1) := by decide +kernel
theorem dX3_barriers_24 : decode cX3_barriers 24 = .ok (.iadd, 1) := by decide +kernel
theorem dX3_barriers_25 : decode cX3_barriers 25 = .ok (.aload_n 0, 1) := by decide +kernel
theorem dX3_barriers_26 : decode cX3_barriers 26 = .ok (.invokevirtual 212, 3) := by decide +kernel
theorem dX3_barriers_29 : decode cX3_barriers 29 = .ok (.ifCond .eq 7, 3) := by decide +kernel
theorem dX3_barriers_32 : decode cX3_barriers 32 = .ok (.iconst 4, 1) := by decide +kernel
theorem dX3_barriers_33 : decode cX3_barriers 33 = .ok (.goto 4, 3) := by decide +kernel
theorem dX3_barriers_36 : decode cX3_barriers 36 = .ok (.iconst 0, 1) := by decide +kernel
theorem dX3_barriers_37 : decode cX3_barriers 37 = .ok (.iadd, 1) := by decide +kernel
theorem dX3_barriers_38 : decode cX3_barriers 38 = .ok (.ireturn, 1) := by decide +kernel
theorem dX3_bars_0 : decode cX3_bars 0 = .ok (.aload_n 0, 1) := by decide +kernel
theorem dX3_bars_1 : decode cX3_bars 1 = .ok (.getfield 163, 3) := by decide +kernel
theorem dX3_bars_4 : decode cX3_bars 4 = .ok (.ifCond .eq 5, 3) := by decide +kernel
theorem dX3_bars_7 : decode cX3_bars 7 = .ok (.iconst 1, 1) := by decide +kernel
theorem dX3_bars_8 : decode cX3_bars 8 = .ok (.ireturn, 1) := by decide +kernel
theorem dX3_bars_9 : decode cX3_bars 9 = .ok (.aload_n 0, 1) := by decide +kernel
theorem dX3_bars_10 : decode cX3_bars 10 = .ok (.getfield 21, 3) := by decide +kernel
theorem dX3_bars_13 : decode cX3_bars 13 = .ok (.getfield 69, 3) := by decide +kernel
theorem dX3_bars_16 : decode cX3_bars 16 = .ok (.ifCond .eq 5, 3) := by decide +kernel
theorem dX3_bars_19 : decode cX3_bars 19 = .ok (.iconst 2, 1) := by decide +kernel
theorem dX3_bars_20 : decode cX3_bars 20 = .ok (.ireturn, 1) := by decide +kernel
theorem dX3_bars_21 : decode cX3_bars 21 = .ok (.aload_n 0, 1) := by decide +kernel
theorem dX3_bars_22 : decode cX3_bars 22 = .ok (.getfield 21, 3) := by decide +kernel
theorem dX3_bars_25 : decode cX3_bars 25 = .ok (.invokevirtual 126, 3) := by decide +kernel
theorem dX3_bars_28 : decode cX3_bars 28 = .ok (.ifCond .eq 5, 3) := by decide +kernel
theorem dX3_bars_31 : decode cX3_bars 31 = .ok (.iconst 3, 1) := by decide +kernel
theorem dX3_bars_32 : decode cX3_bars 32 = .ok (.ireturn, 1) := by decide +kernel
theorem dX3_bars_33 : decode cX3_bars 33 = .ok (.aload_n 0, 1) := by decide +kernel
theorem dX3_bars_34 : decode cX3_bars 34 = .ok (.invokevirtual 215, 3) := by decide +kernel
theorem dX3_bars_37 : decode cX3_bars 37 = .ok (.invokestatic 166, 3) := by decide +kernel
theorem dX3_bars_40 : decode cX3_bars 40 = .ok (.iconst 2, 1) := by decide +kernel
theorem dX3_bars_41 : decode cX3_bars 41 = .ok (.if_icmp .ge 5, 3) := by decide +kernel
theorem dX3_bars_44 : decode cX3_bars 44 = .ok (.iconst 4, 1) := by decide +kernel
theorem dX3_bars_45 : decode cX3_bars 45 = .ok (.ireturn, 1) := by decide +kernel
theorem dX3_bars_46 : decode cX3_bars 46 = .ok (.aload_n 0, 1) := by decide +kernel
theorem dX3_bars_47 : decode cX3_bars 47 = .ok (.getfield 21, 3) := by decide +kernel
theorem dX3_bars_50 : decode cX3_bars 50 = .ok (.getfield 55, 3) := by decide +kernel
theorem dX3_bars_53 : decode cX3_bars 53 = .ok (.sipush 5000, 3) := by decide +kernel
theorem dX3_bars_56 : decode cX3_bars 56 = .ok (.if_icmp .lt 7, 3) := by decide +kernel
theorem dX3_bars_59 : decode cX3_bars 59 = .ok (.iconst 5, 1) := by decide +kernel
theorem dX3_bars_60 : decode cX3_bars 60 = .ok (.goto 4, 3) := by decide +kernel
theorem dX3_bars_63 : decode cX3_bars 63 = .ok (.iconst 0, 1) := by decide +kernel
theorem dX3_bars_64 : decode cX3_bars 64 = .ok (.ireturn, 1) := by decide +kernel
theorem dX3_ofTest_0 : decode cX3_ofTest 0 = .ok (.iload_n 1, 1) := by decide +kernel
theorem dX3_ofTest_1 : decode cX3_ofTest 1 = .ok (.iconst 0, 1) := by decide +kernel
theorem dX3_ofTest_2 : decode cX3_ofTest 2 = .ok (.aload_n 0, 1) := by decide +kernel
theorem dX3_ofTest_3 : decode cX3_ofTest 3 = .ok (.getfield 31, 3) := by decide +kernel
theorem dX3_ofTest_6 : decode cX3_ofTest 6 = .ok (.getfield 146, 3) := by decide +kernel
theorem dX3_ofTest_9 : decode cX3_ofTest 9 = .ok (.iconst 1, 1) := by decide +kernel
theorem dX3_ofTest_10 : decode cX3_ofTest 10 = .ok (.isub, 1) := by decide +kernel
theorem dX3_ofTest_11 : decode cX3_ofTest 11 = .ok (.invokestatic 39, 3) := by decide +kernel
theorem dX3_ofTest_14 : decode cX3_ofTest 14 = .ok (.ifCond .ne 13, 3) := by decide +kernel
theorem dX3_ofTest_17 : decode cX3_ofTest 17 = .ok (.new 43, 3) := by decide +kernel
theorem dX3_ofTest_20 : decode cX3_ofTest 20 = .ok (.dup, 1) := by decide +kernel
theorem dX3_ofTest_21 : decode cX3_ofTest 21 = .ok (.ldc 218, 2) := by decide +kernel
theorem dX3_ofTest_23 : decode cX3_ofTest 23 = .ok (.invokespecial 47, 3) := by decide +kernel
theorem dX3_ofTest_26 : decode cX3_ofTest 26 = .ok (.athrow, 1) := by decide +kernel
theorem dX3_ofTest_27 : decode cX3_ofTest 27 = .ok (.iload_n 2, 1) := by decide +kernel
theorem dX3_ofTest_28 : decode cX3_ofTest 28 = .ok (.tableswitch 80 0 3 #[32, 44, 56, 68], 32) := by decide +kernel
theorem dX3_ofTest_60 : decode cX3_ofTest 60 = .ok (.aload_n 0, 1) := by decide +kernel
theorem dX3_ofTest_61 : decode cX3_ofTest 61 = .ok (.getfield 31, 3) := by decide +kernel
theorem dX3_ofTest_64 : decode cX3_ofTest 64 = .ok (.getfield 220, 3) := by decide +kernel
theorem dX3_ofTest_67 : decode cX3_ofTest 67 = .ok (.iload_n 1, 1) := by decide +kernel
theorem dX3_ofTest_68 : decode cX3_ofTest 68 = .ok (.invokestatic 224, 3) := by decide +kernel
theorem dX3_ofTest_71 : decode cX3_ofTest 71 = .ok (.ireturn, 1) := by decide +kernel
theorem dX3_ofTest_72 : decode cX3_ofTest 72 = .ok (.aload_n 0, 1) := by decide +kernel
theorem dX3_ofTest_73 : decode cX3_ofTest 73 = .ok (.getfield 31, 3) := by decide +kernel
theorem dX3_ofTest_76 : decode cX3_ofTest 76 = .ok (.getfield 228, 3) := by decide +kernel
theorem dX3_ofTest_79 : decode cX3_ofTest 79 = .ok (.iload_n 1, 1) := by decide +kernel
theorem dX3_ofTest_80 : decode cX3_ofTest 80 = .ok (.invokestatic 224, 3) := by decide +kernel
theorem dX3_ofTest_83 : decode cX3_ofTest 83 = .ok (.ireturn, 1) := by decide +kernel
theorem dX3_ofTest_84 : decode cX3_ofTest 84 = .ok (.aload_n 0, 1) := by decide +kernel
theorem dX3_ofTest_85 : decode cX3_ofTest 85 = .ok (.getfield 31, 3) := by decide +kernel
theorem dX3_ofTest_88 : decode cX3_ofTest 88 = .ok (.getfield 231, 3) := by decide +kernel
theorem dX3_ofTest_91 : decode cX3_ofTest 91 = .ok (.iload_n 1, 1) := by decide +kernel
theorem dX3_ofTest_92 : decode cX3_ofTest 92 = .ok (.invokestatic 224, 3) := by decide +kernel
theorem dX3_ofTest_95 : decode cX3_ofTest 95 = .ok (.ireturn, 1) := by decide +kernel
theorem dX3_ofTest_96 : decode cX3_ofTest 96 = .ok (.aload_n 0, 1) := by decide +kernel
theorem dX3_ofTest_97 : decode cX3_ofTest 97 = .ok (.getfield 31, 3) := by decide +kernel
theorem dX3_ofTest_100 : decode cX3_ofTest 100 = .ok (.getfield 234, 3) := by decide +kernel
theorem dX3_ofTest_103 : decode cX3_ofTest 103 = .ok (.iload_n 1, 1) := by decide +kernel
theorem dX3_ofTest_104 : decode cX3_ofTest 104 = .ok (.invokestatic 224, 3) := by decide +kernel
theorem dX3_ofTest_107 : decode cX3_ofTest 107 = .ok (.ireturn, 1) := by decide +kernel
theorem dX3_ofTest_108 : decode cX3_ofTest 108 = .ok (.new 50, 3) := by decide +kernel
theorem dX3_ofTest_111 : decode cX3_ofTest 111 = .ok (.dup, 1) := by decide +kernel
theorem dX3_ofTest_112 : decode cX3_ofTest 112 = .ok (.ldc 189, 2) := by decide +kernel
theorem dX3_ofTest_114 : decode cX3_ofTest 114 = .ok (.invokespecial 54, 3) := by decide +kernel
theorem dX3_ofTest_117 : decode cX3_ofTest 117 = .ok (.athrow, 1) := by decide +kernel
theorem dX3_killWeight_0 : decode cX3_killWeight 0 = .ok (.aload_n 0, 1) := by decide +kernel
theorem dX3_killWeight_1 : decode cX3_killWeight 1 = .ok (.getfield 21, 3) := by decide +kernel
theorem dX3_killWeight_4 : decode cX3_killWeight 4 = .ok (.getfield 55, 3) := by decide +kernel
theorem dX3_killWeight_7 : decode cX3_killWeight 7 = .ok (.istore_n 1, 1) := by decide +kernel
theorem dX3_killWeight_8 : decode cX3_killWeight 8 = .ok (.iload_n 1, 1) := by decide +kernel
theorem dX3_killWeight_9 : decode cX3_killWeight 9 = .ok (.ifCond .gt 13, 3) := by decide +kernel
theorem dX3_killWeight_12 : decode cX3_killWeight 12 = .ok (.new 58, 3) := by decide +kernel
theorem dX3_killWeight_15 : decode cX3_killWeight 15 = .ok (.dup, 1) := by decide +kernel
theorem dX3_killWeight_16 : decode cX3_killWeight 16 = .ok (.ldc 236, 2) := by decide +kernel
theorem dX3_killWeight_18 : decode cX3_killWeight 18 = .ok (.invokespecial 62, 3) := by decide +kernel
theorem dX3_killWeight_21 : decode cX3_killWeight 21 = .ok (.athrow, 1) := by decide +kernel
theorem dX3_killWeight_22 : decode cX3_killWeight 22 = .ok (.bipush 10, 2) := by decide +kernel
theorem dX3_killWeight_24 : decode cX3_killWeight 24 = .ok (.aload_n 0, 1) := by decide +kernel
theorem dX3_killWeight_25 : decode cX3_killWeight 25 = .ok (.getfield 10, 3) := by decide +kernel
theorem dX3_killWeight_28 : decode cX3_killWeight 28 = .ok (.iload_n 1, 1) := by decide +kernel
theorem dX3_killWeight_29 : decode cX3_killWeight 29 = .ok (.invokevirtual 174, 3) := by decide +kernel
theorem dX3_killWeight_32 : decode cX3_killWeight 32 = .ok (.imul, 1) := by decide +kernel
theorem dX3_killWeight_33 : decode cX3_killWeight 33 = .ok (.iload_n 1, 1) := by decide +kernel
theorem dX3_killWeight_34 : decode cX3_killWeight 34 = .ok (.iadd, 1) := by decide +kernel
theorem dX3_killWeight_35 : decode cX3_killWeight 35 = .ok (.iconst 1, 1) := by decide +kernel
theorem dX3_killWeight_36 : decode cX3_killWeight 36 = .ok (.isub, 1) := by decide +kernel
theorem dX3_killWeight_37 : decode cX3_killWeight 37 = .ok (.iload_n 1, 1) := by decide +kernel
theorem dX3_killWeight_38 : decode cX3_killWeight 38 = .ok (.idiv, 1) := by decide +kernel
theorem dX3_killWeight_39 : decode cX3_killWeight 39 = .ok (.ireturn, 1) := by decide +kernel
theorem dX3_window_0 : decode cX3_window 0 = .ok (.iload_n 1, 1) := by decide +kernel
theorem dX3_window_1 : decode cX3_window 1 = .ok (.iconst 0, 1) := by decide +kernel
theorem dX3_window_2 : decode cX3_window 2 = .ok (.sipush 4999, 3) := by decide +kernel
theorem dX3_window_5 : decode cX3_window 5 = .ok (.invokestatic 39, 3) := by decide +kernel
theorem dX3_window_8 : decode cX3_window 8 = .ok (.ifCond .eq 16, 3) := by decide +kernel
theorem dX3_window_11 : decode cX3_window 11 = .ok (.iload_n 2, 1) := by decide +kernel
theorem dX3_window_12 : decode cX3_window 12 = .ok (.iload_n 1, 1) := by decide +kernel
theorem dX3_window_13 : decode cX3_window 13 = .ok (.iconst 1, 1) := by decide +kernel
theorem dX3_window_14 : decode cX3_window 14 = .ok (.iadd, 1) := by decide +kernel
theorem dX3_window_15 : decode cX3_window 15 = .ok (.sipush 5000, 3) := by decide +kernel
theorem dX3_window_18 : decode cX3_window 18 = .ok (.invokestatic 39, 3) := by decide +kernel
theorem dX3_window_21 : decode cX3_window 21 = .ok (.ifCond .ne 13, 3) := by decide +kernel
theorem dX3_window_24 : decode cX3_window 24 = .ok (.new 50, 3) := by decide +kernel
theorem dX3_window_27 : decode cX3_window 27 = .ok (.dup, 1) := by decide +kernel
theorem dX3_window_28 : decode cX3_window 28 = .ok (.ldc 238, 2) := by decide +kernel
theorem dX3_window_30 : decode cX3_window 30 = .ok (.invokespecial 54, 3) := by decide +kernel
theorem dX3_window_33 : decode cX3_window 33 = .ok (.athrow, 1) := by decide +kernel
theorem dX3_window_34 : decode cX3_window 34 = .ok (.iload_n 1, 1) := by decide +kernel
theorem dX3_window_35 : decode cX3_window 35 = .ok (.iconst 1, 1) := by decide +kernel
theorem dX3_window_36 : decode cX3_window 36 = .ok (.iadd, 1) := by decide +kernel
theorem dX3_window_37 : decode cX3_window 37 = .ok (.invokestatic 240, 3) := by decide +kernel
theorem dX3_window_40 : decode cX3_window 40 = .ok (.istore 4, 2) := by decide +kernel
theorem dX3_window_42 : decode cX3_window 42 = .ok (.iload_n 2, 1) := by decide +kernel
theorem dX3_window_43 : decode cX3_window 43 = .ok (.invokestatic 240, 3) := by decide +kernel
theorem dX3_window_46 : decode cX3_window 46 = .ok (.istore 5, 2) := by decide +kernel
theorem dX3_window_48 : decode cX3_window 48 = .ok (.iload_n 3, 1) := by decide +kernel
theorem dX3_window_49 : decode cX3_window 49 = .ok (.ifCond .eq 17, 3) := by decide +kernel
theorem dX3_window_52 : decode cX3_window 52 = .ok (.aload_n 0, 1) := by decide +kernel
theorem dX3_window_53 : decode cX3_window 53 = .ok (.getfield 10, 3) := by decide +kernel
theorem dX3_window_56 : decode cX3_window 56 = .ok (.iload 4, 2) := by decide +kernel
theorem dX3_window_58 : decode cX3_window 58 = .ok (.iload 5, 2) := by decide +kernel
theorem dX3_window_60 : decode cX3_window 60 = .ok (.invokevirtual 243, 3) := by decide +kernel
theorem dX3_window_63 : decode cX3_window 63 = .ok (.goto 14, 3) := by decide +kernel
theorem dX3_window_66 : decode cX3_window 66 = .ok (.aload_n 0, 1) := by decide +kernel
theorem dX3_window_67 : decode cX3_window 67 = .ok (.getfield 10, 3) := by decide +kernel
theorem dX3_window_70 : decode cX3_window 70 = .ok (.iload 4, 2) := by decide +kernel
theorem dX3_window_72 : decode cX3_window 72 = .ok (.iload 5, 2) := by decide +kernel
theorem dX3_window_74 : decode cX3_window 74 = .ok (.invokevirtual 247, 3) := by decide +kernel
theorem dX3_window_77 : decode cX3_window 77 = .ok (.ireturn, 1) := by decide +kernel
theorem dX3_casings_0 : decode cX3_casings 0 = .ok (.iload_n 1, 1) := by decide +kernel
theorem dX3_casings_1 : decode cX3_casings 1 = .ok (.iconst 1, 1) := by decide +kernel
theorem dX3_casings_2 : decode cX3_casings 2 = .ok (.sipush 5000, 3) := by decide +kernel
theorem dX3_casings_5 : decode cX3_casings 5 = .ok (.invokestatic 39, 3) := by decide +kernel
theorem dX3_casings_8 : decode cX3_casings 8 = .ok (.ifCond .ne 13, 3) := by decide +kernel
theorem dX3_casings_11 : decode cX3_casings 11 = .ok (.new 50, 3) := by decide +kernel
theorem dX3_casings_14 : decode cX3_casings 14 = .ok (.dup, 1) := by decide +kernel
theorem dX3_casings_15 : decode cX3_casings 15 = .ok (.ldc 250, 2) := by decide +kernel
theorem dX3_casings_17 : decode cX3_casings 17 = .ok (.invokespecial 54, 3) := by decide +kernel
theorem dX3_casings_20 : decode cX3_casings 20 = .ok (.athrow, 1) := by decide +kernel
theorem dX3_casings_21 : decode cX3_casings 21 = .ok (.aload_n 0, 1) := by decide +kernel
theorem dX3_casings_22 : decode cX3_casings 22 = .ok (.getfield 10, 3) := by decide +kernel
theorem dX3_casings_25 : decode cX3_casings 25 = .ok (.iload_n 1, 1) := by decide +kernel
theorem dX3_casings_26 : decode cX3_casings 26 = .ok (.invokestatic 240, 3) := by decide +kernel
theorem dX3_casings_29 : decode cX3_casings 29 = .ok (.invokevirtual 252, 3) := by decide +kernel
theorem dX3_casings_32 : decode cX3_casings 32 = .ok (.ireturn, 1) := by decide +kernel
theorem dX3_casingsAnew_0 : decode cX3_casingsAnew 0 = .ok (.iload_n 1, 1) := by decide +kernel
theorem dX3_casingsAnew_1 : decode cX3_casingsAnew 1 = .ok (.iconst 1, 1) := by decide +kernel
theorem dX3_casingsAnew_2 : decode cX3_casingsAnew 2 = .ok (.sipush 5000, 3) := by decide +kernel
theorem dX3_casingsAnew_5 : decode cX3_casingsAnew 5 = .ok (.invokestatic 39, 3) := by decide +kernel
theorem dX3_casingsAnew_8 : decode cX3_casingsAnew 8 = .ok (.ifCond .ne 13, 3) := by decide +kernel
theorem dX3_casingsAnew_11 : decode cX3_casingsAnew 11 = .ok (.new 50, 3) := by decide +kernel
theorem dX3_casingsAnew_14 : decode cX3_casingsAnew 14 = .ok (.dup, 1) := by decide +kernel
theorem dX3_casingsAnew_15 : decode cX3_casingsAnew 15 = .ok (.ldc 250, 2) := by decide +kernel
theorem dX3_casingsAnew_17 : decode cX3_casingsAnew 17 = .ok (.invokespecial 54, 3) := by decide +kernel
theorem dX3_casingsAnew_20 : decode cX3_casingsAnew 20 = .ok (.athrow, 1) := by decide +kernel
theorem dX3_casingsAnew_21 : decode cX3_casingsAnew 21 = .ok (.aload_n 0, 1) := by decide +kernel
theorem dX3_casingsAnew_22 : decode cX3_casingsAnew 22 = .ok (.getfield 10, 3) := by decide +kernel
theorem dX3_casingsAnew_25 : decode cX3_casingsAnew 25 = .ok (.iload_n 1, 1) := by decide +kernel
theorem dX3_casingsAnew_26 : decode cX3_casingsAnew 26 = .ok (.invokestatic 240, 3) := by decide +kernel
theorem dX3_casingsAnew_29 : decode cX3_casingsAnew 29 = .ok (.invokevirtual 255, 3) := by decide +kernel
theorem dX3_casingsAnew_32 : decode cX3_casingsAnew 32 = .ok (.ireturn, 1) := by decide +kernel
theorem dX3_equivalent_0 : decode cX3_equivalent 0 = .ok (.aload_n 0, 1) := by decide +kernel
theorem dX3_equivalent_1 : decode cX3_equivalent 1 = .ok (.getfield 21, 3) := by decide +kernel
theorem dX3_equivalent_4 : decode cX3_equivalent 4 = .ok (.getfield 123, 3) := by decide +kernel
theorem dX3_equivalent_7 : decode cX3_equivalent 7 = .ok (.istore_n 1, 1) := by decide +kernel
theorem dX3_equivalent_8 : decode cX3_equivalent 8 = .ok (.iload_n 1, 1) := by decide +kernel
theorem dX3_equivalent_9 : decode cX3_equivalent 9 = .ok (.ifCond .gt 14, 3) := by decide +kernel
theorem dX3_equivalent_12 : decode cX3_equivalent 12 = .ok (.new 58, 3) := by decide +kernel
theorem dX3_equivalent_15 : decode cX3_equivalent 15 = .ok (.dup, 1) := by decide +kernel
theorem dX3_equivalent_16 : decode cX3_equivalent 16 = .ok (.ldc_w 258, 3) := by decide +kernel
theorem dX3_equivalent_19 : decode cX3_equivalent 19 = .ok (.invokespecial 62, 3) := by decide +kernel
theorem dX3_equivalent_22 : decode cX3_equivalent 22 = .ok (.athrow, 1) := by decide +kernel
theorem dX3_equivalent_23 : decode cX3_equivalent 23 = .ok (.bipush 10, 2) := by decide +kernel
theorem dX3_equivalent_25 : decode cX3_equivalent 25 = .ok (.aload_n 0, 1) := by decide +kernel
theorem dX3_equivalent_26 : decode cX3_equivalent 26 = .ok (.getfield 21, 3) := by decide +kernel
theorem dX3_equivalent_29 : decode cX3_equivalent 29 = .ok (.invokevirtual 177, 3) := by decide +kernel
theorem dX3_equivalent_32 : decode cX3_equivalent 32 = .ok (.imul, 1) := by decide +kernel
theorem dX3_equivalent_33 : decode cX3_equivalent 33 = .ok (.i2f, 1) := by decide +kernel
theorem dX3_equivalent_34 : decode cX3_equivalent 34 = .ok (.iload_n 1, 1) := by decide +kernel
theorem dX3_equivalent_35 : decode cX3_equivalent 35 = .ok (.i2f, 1) := by decide +kernel
theorem dX3_equivalent_36 : decode cX3_equivalent 36 = .ok (.fdiv, 1) := by decide +kernel
theorem dX3_equivalent_37 : decode cX3_equivalent 37 = .ok (.freturn, 1) := by decide +kernel
theorem dX3_ahead_0 : decode cX3_ahead 0 = .ok (.iload_n 1, 1) := by decide +kernel
theorem dX3_ahead_1 : decode cX3_ahead 1 = .ok (.iconst 1, 1) := by decide +kernel
theorem dX3_ahead_2 : decode cX3_ahead 2 = .ok (.sipush 2000, 3) := by decide +kernel
theorem dX3_ahead_5 : decode cX3_ahead 5 = .ok (.invokestatic 39, 3) := by decide +kernel
theorem dX3_ahead_8 : decode cX3_ahead 8 = .ok (.ifCond .ne 13, 3) := by decide +kernel
theorem dX3_ahead_11 : decode cX3_ahead 11 = .ok (.new 50, 3) := by decide +kernel
theorem dX3_ahead_14 : decode cX3_ahead 14 = .ok (.dup, 1) := by decide +kernel
theorem dX3_ahead_15 : decode cX3_ahead 15 = .ok (.ldc 97, 2) := by decide +kernel
theorem dX3_ahead_17 : decode cX3_ahead 17 = .ok (.invokespecial 54, 3) := by decide +kernel
theorem dX3_ahead_20 : decode cX3_ahead 20 = .ok (.athrow, 1) := by decide +kernel
theorem dX3_ahead_21 : decode cX3_ahead 21 = .ok (.aload_n 0, 1) := by decide +kernel
theorem dX3_ahead_22 : decode cX3_ahead 22 = .ok (.getfield 25, 3) := by decide +kernel
theorem dX3_ahead_25 : decode cX3_ahead 25 = .ok (.aload_n 0, 1) := by decide +kernel
theorem dX3_ahead_26 : decode cX3_ahead 26 = .ok (.getfield 21, 3) := by decide +kernel
theorem dX3_ahead_29 : decode cX3_ahead 29 = .ok (.invokevirtual 260, 3) := by decide +kernel
theorem dX3_ahead_32 : decode cX3_ahead 32 = .ok (.aload_n 0, 1) := by decide +kernel
theorem dX3_ahead_33 : decode cX3_ahead 33 = .ok (.getfield 25, 3) := by decide +kernel
theorem dX3_ahead_36 : decode cX3_ahead 36 = .ok (.iload_n 1, 1) := by decide +kernel
theorem dX3_ahead_37 : decode cX3_ahead 37 = .ok (.invokevirtual 101, 3) := by decide +kernel
theorem dX3_ahead_40 : decode cX3_ahead 40 = .ok (.ireturn, 1) := by decide +kernel
theorem dX3_hasMinutes_0 : decode cX3_hasMinutes 0 = .ok (.aload_n 0, 1) := by decide +kernel
theorem dX3_hasMinutes_1 : decode cX3_hasMinutes 1 = .ok (.getfield 21, 3) := by decide +kernel
theorem dX3_hasMinutes_4 : decode cX3_hasMinutes 4 = .ok (.getfield 151, 3) := by decide +kernel
theorem dX3_hasMinutes_7 : decode cX3_hasMinutes 7 = .ok (.iload_n 1, 1) := by decide +kernel
theorem dX3_hasMinutes_8 : decode cX3_hasMinutes 8 = .ok (.iadd, 1) := by decide +kernel
theorem dX3_hasMinutes_9 : decode cX3_hasMinutes 9 = .ok (.ldc 138, 2) := by decide +kernel
theorem dX3_hasMinutes_11 : decode cX3_hasMinutes 11 = .ok (.if_icmp .gt 7, 3) := by decide +kernel
theorem dX3_hasMinutes_14 : decode cX3_hasMinutes 14 = .ok (.iconst 1, 1) := by decide +kernel
theorem dX3_hasMinutes_15 : decode cX3_hasMinutes 15 = .ok (.goto 4, 3) := by decide +kernel
theorem dX3_hasMinutes_18 : decode cX3_hasMinutes 18 = .ok (.iconst 0, 1) := by decide +kernel
theorem dX3_hasMinutes_19 : decode cX3_hasMinutes 19 = .ok (.ireturn, 1) := by decide +kernel
theorem dX3_isMudBarrier_0 : decode cX3_isMudBarrier 0 = .ok (.aload_n 0, 1) := by decide +kernel
theorem dX3_isMudBarrier_1 : decode cX3_isMudBarrier 1 = .ok (.getfield 21, 3) := by decide +kernel
theorem dX3_isMudBarrier_4 : decode cX3_isMudBarrier 4 = .ok (.invokevirtual 126, 3) := by decide +kernel
theorem dX3_isMudBarrier_7 : decode cX3_isMudBarrier 7 = .ok (.ifCond .ne 31, 3) := by decide +kernel
theorem dX3_isMudBarrier_10 : decode cX3_isMudBarrier 10 = .ok (.aload_n 0, 1) := by decide +kernel
theorem dX3_isMudBarrier_11 : decode cX3_isMudBarrier 11 = .ok (.getfield 21, 3) := by decide +kernel
theorem dX3_isMudBarrier_14 : decode cX3_isMudBarrier 14 = .ok (.invokevirtual 171, 3) := by decide +kernel
theorem dX3_isMudBarrier_17 : decode cX3_isMudBarrier 17 = .ok (.aload_n 0, 1) := by decide +kernel
theorem dX3_isMudBarrier_18 : decode cX3_isMudBarrier 18 = .ok (.getfield 10, 3) := by decide +kernel
theorem dX3_isMudBarrier_21 : decode cX3_isMudBarrier 21 = .ok (.aload_n 0, 1) := by decide +kernel
theorem dX3_isMudBarrier_22 : decode cX3_isMudBarrier 22 = .ok (.getfield 21, 3) := by decide +kernel
theorem dX3_isMudBarrier_25 : decode cX3_isMudBarrier 25 = .ok (.getfield 55, 3) := by decide +kernel
theorem dX3_isMudBarrier_28 : decode cX3_isMudBarrier 28 = .ok (.invokevirtual 174, 3) := by decide +kernel
theorem dX3_isMudBarrier_31 : decode cX3_isMudBarrier 31 = .ok (.if_icmp .lt 7, 3) := by decide +kernel
theorem dX3_isMudBarrier_34 : decode cX3_isMudBarrier 34 = .ok (.iconst 1, 1) := by decide +kernel
theorem dX3_isMudBarrier_35 : decode cX3_isMudBarrier 35 = .ok (.goto 4, 3) := by decide +kernel
theorem dX3_isMudBarrier_38 : decode cX3_isMudBarrier 38 = .ok (.iconst 0, 1) := by decide +kernel
theorem dX3_isMudBarrier_39 : decode cX3_isMudBarrier 39 = .ok (.ireturn, 1) := by decide +kernel
theorem dX3_isValveBarrier_0 : decode cX3_isValveBarrier 0 = .ok (.aload_n 0, 1) := by decide +kernel
theorem dX3_isValveBarrier_1 : decode cX3_isValveBarrier 1 = .ok (.getfield 31, 3) := by decide +kernel
theorem dX3_isValveBarrier_4 : decode cX3_isValveBarrier 4 = .ok (.getfield 264, 3) := by decide +kernel
theorem dX3_isValveBarrier_7 : decode cX3_isValveBarrier 7 = .ok (.istore_n 1, 1) := by decide +kernel
theorem dX3_isValveBarrier_8 : decode cX3_isValveBarrier 8 = .ok (.aload_n 0, 1) := by decide +kernel
theorem dX3_isValveBarrier_9 : decode cX3_isValveBarrier 9 = .ok (.getfield 31, 3) := by decide +kernel
theorem dX3_isValveBarrier_12 : decode cX3_isValveBarrier 12 = .ok (.iload_n 1, 1) := by decide +kernel
theorem dX3_isValveBarrier_13 : decode cX3_isValveBarrier 13 = .ok (.invokevirtual 267, 3) := by decide +kernel
theorem dX3_isValveBarrier_16 : decode cX3_isValveBarrier 16 = .ok (.ifCond .eq 42, 3) := by decide +kernel
theorem dX3_isValveBarrier_19 : decode cX3_isValveBarrier 19 = .ok (.aload_n 0, 1) := by decide +kernel
theorem dX3_isValveBarrier_20 : decode cX3_isValveBarrier 20 = .ok (.getfield 21, 3) := by decide +kernel
theorem dX3_isValveBarrier_23 : decode cX3_isValveBarrier 23 = .ok (.getfield 151, 3) := by decide +kernel
theorem dX3_isValveBarrier_26 : decode cX3_isValveBarrier 26 = .ok (.aload_n 0, 1) := by decide +kernel
theorem dX3_isValveBarrier_27 : decode cX3_isValveBarrier 27 = .ok (.getfield 31, 3) := by decide +kernel
theorem dX3_isValveBarrier_30 : decode cX3_isValveBarrier 30 = .ok (.getfield 234, 3) := by decide +kernel
theorem dX3_isValveBarrier_33 : decode cX3_isValveBarrier 33 = .ok (.iload_n 1, 1) := by decide +kernel
theorem dX3_isValveBarrier_34 : decode cX3_isValveBarrier 34 = .ok (.invokestatic 224, 3) := by decide +kernel
theorem dX3_isValveBarrier_37 : decode cX3_isValveBarrier 37 = .ok (.isub, 1) := by decide +kernel
theorem dX3_isValveBarrier_38 : decode cX3_isValveBarrier 38 = .ok (.sipush 20160, 3) := by decide +kernel
theorem dX3_isValveBarrier_41 : decode cX3_isValveBarrier 41 = .ok (.if_icmp .gt 17, 3) := by decide +kernel
theorem dX3_isValveBarrier_44 : decode cX3_isValveBarrier 44 = .ok (.aload_n 0, 1) := by decide +kernel
theorem dX3_isValveBarrier_45 : decode cX3_isValveBarrier 45 = .ok (.getfield 21, 3) := by decide +kernel
theorem dX3_isValveBarrier_48 : decode cX3_isValveBarrier 48 = .ok (.getfield 158, 3) := by decide +kernel
theorem dX3_isValveBarrier_51 : decode cX3_isValveBarrier 51 = .ok (.ifCond .ne 7, 3) := by decide +kernel
theorem dX3_isValveBarrier_54 : decode cX3_isValveBarrier 54 = .ok (.iconst 1, 1) := by decide +kernel
theorem dX3_isValveBarrier_55 : decode cX3_isValveBarrier 55 = .ok (.goto 4, 3) := by decide +kernel
theorem dX3_isValveBarrier_58 : decode cX3_isValveBarrier 58 = .ok (.iconst 0, 1) := by decide +kernel
theorem dX3_isValveBarrier_59 : decode cX3_isValveBarrier 59 = .ok (.ireturn, 1) := by decide +kernel
theorem dX3_isCementBarrier_0 : decode cX3_isCementBarrier 0 = .ok (.aload_n 0, 1) := by decide +kernel
theorem dX3_isCementBarrier_1 : decode cX3_isCementBarrier 1 = .ok (.getfield 21, 3) := by decide +kernel
theorem dX3_isCementBarrier_4 : decode cX3_isCementBarrier 4 = .ok (.getfield 123, 3) := by decide +kernel
theorem dX3_isCementBarrier_7 : decode cX3_isCementBarrier 7 = .ok (.ifCond .le 24, 3) := by decide +kernel
theorem dX3_isCementBarrier_10 : decode cX3_isCementBarrier 10 = .ok (.aload_n 0, 1) := by decide +kernel
theorem dX3_isCementBarrier_11 : decode cX3_isCementBarrier 11 = .ok (.getfield 31, 3) := by decide +kernel
theorem dX3_isCementBarrier_14 : decode cX3_isCementBarrier 14 = .ok (.aload_n 0, 1) := by decide +kernel
theorem dX3_isCementBarrier_15 : decode cX3_isCementBarrier 15 = .ok (.getfield 31, 3) := by decide +kernel
theorem dX3_isCementBarrier_18 : decode cX3_isCementBarrier 18 = .ok (.getfield 135, 3) := by decide +kernel
theorem dX3_isCementBarrier_21 : decode cX3_isCementBarrier 21 = .ok (.invokevirtual 267, 3) := by decide +kernel
theorem dX3_isCementBarrier_24 : decode cX3_isCementBarrier 24 = .ok (.ifCond .eq 7, 3) := by decide +kernel
theorem dX3_isCementBarrier_27 : decode cX3_isCementBarrier 27 = .ok (.iconst 1, 1) := by decide +kernel
theorem dX3_isCementBarrier_28 : decode cX3_isCementBarrier 28 = .ok (.goto 4, 3) := by decide +kernel
theorem dX3_isCementBarrier_31 : decode cX3_isCementBarrier 31 = .ok (.iconst 0, 1) := by decide +kernel
theorem dX3_isCementBarrier_32 : decode cX3_isCementBarrier 32 = .ok (.ireturn, 1) := by decide +kernel
theorem dX3_isWithin_0 : decode cX3_isWithin 0 = .ok (.iload_n 0, 1) := by decide +kernel
theorem dX3_isWithin_1 : decode cX3_isWithin 1 = .ok (.iload_n 1, 1) := by decide +kernel
theorem dX3_isWithin_2 : decode cX3_isWithin 2 = .ok (.if_icmp .lt 12, 3) := by decide +kernel
theorem dX3_isWithin_5 : decode cX3_isWithin 5 = .ok (.iload_n 0, 1) := by decide +kernel
theorem dX3_isWithin_6 : decode cX3_isWithin 6 = .ok (.iload_n 2, 1) := by decide +kernel
theorem dX3_isWithin_7 : decode cX3_isWithin 7 = .ok (.if_icmp .gt 7, 3) := by decide +kernel
theorem dX3_isWithin_10 : decode cX3_isWithin 10 = .ok (.iconst 1, 1) := by decide +kernel
theorem dX3_isWithin_11 : decode cX3_isWithin 11 = .ok (.goto 4, 3) := by decide +kernel
theorem dX3_isWithin_14 : decode cX3_isWithin 14 = .ok (.iconst 0, 1) := by decide +kernel
theorem dX3_isWithin_15 : decode cX3_isWithin 15 = .ok (.ireturn, 1) := by decide +kernel
theorem dX3_read_0 : decode cX3_read 0 = .ok (.iload_n 1, 1) := by decide +kernel
theorem dX3_read_1 : decode cX3_read 1 = .ok (.ifCond .lt 15, 3) := by decide +kernel
theorem dX3_read_4 : decode cX3_read 4 = .ok (.iload_n 1, 1) := by decide +kernel
theorem dX3_read_5 : decode cX3_read 5 = .ok (.aload_n 0, 1) := by decide +kernel
theorem dX3_read_6 : decode cX3_read 6 = .ok (.arraylength, 1) := by decide +kernel
theorem dX3_read_7 : decode cX3_read 7 = .ok (.if_icmp .ge 9, 3) := by decide +kernel
theorem dX3_read_10 : decode cX3_read 10 = .ok (.aload_n 0, 1) := by decide +kernel
theorem dX3_read_11 : decode cX3_read 11 = .ok (.iload_n 1, 1) := by decide +kernel
theorem dX3_read_12 : decode cX3_read 12 = .ok (.iaload, 1) := by decide +kernel
theorem dX3_read_13 : decode cX3_read 13 = .ok (.goto 4, 3) := by decide +kernel
theorem dX3_read_16 : decode cX3_read 16 = .ok (.iconst 0, 1) := by decide +kernel
theorem dX3_read_17 : decode cX3_read 17 = .ok (.ireturn, 1) := by decide +kernel
theorem dX3_write_0 : decode cX3_write 0 = .ok (.iload_n 1, 1) := by decide +kernel
theorem dX3_write_1 : decode cX3_write 1 = .ok (.ifCond .lt 13, 3) := by decide +kernel
theorem dX3_write_4 : decode cX3_write 4 = .ok (.iload_n 1, 1) := by decide +kernel
theorem dX3_write_5 : decode cX3_write 5 = .ok (.aload_n 0, 1) := by decide +kernel
theorem dX3_write_6 : decode cX3_write 6 = .ok (.arraylength, 1) := by decide +kernel
theorem dX3_write_7 : decode cX3_write 7 = .ok (.if_icmp .ge 7, 3) := by decide +kernel
theorem dX3_write_10 : decode cX3_write 10 = .ok (.aload_n 0, 1) := by decide +kernel
theorem dX3_write_11 : decode cX3_write 11 = .ok (.iload_n 1, 1) := by decide +kernel
theorem dX3_write_12 : decode cX3_write 12 = .ok (.iload_n 2, 1) := by decide +kernel
theorem dX3_write_13 : decode cX3_write 13 = .ok (.iastore, 1) := by decide +kernel
theorem dX3_write_14 : decode cX3_write 14 = .ok (.return_, 1) := by decide +kernel
theorem dX4_thrown_0 : decode cX4_thrown 0 = .ok (.aload_n 0, 1) := by decide +kernel
theorem dX4_thrown_1 : decode cX4_thrown 1 = .ok (.getfield 52, 3) := by decide +kernel
theorem dX4_thrown_4 : decode cX4_thrown 4 = .ok (.ireturn, 1) := by decide +kernel
theorem dX4_goesWell_0 : decode cX4_goesWell 0 = .ok (.aload_n 0, 1) := by decide +kernel
theorem dX4_goesWell_1 : decode cX4_goesWell 1 = .ok (.iload_n 1, 1) := by decide +kernel
theorem dX4_goesWell_2 : decode cX4_goesWell 2 = .ok (.putfield 52, 3) := by decide +kernel
theorem dX4_goesWell_5 : decode cX4_goesWell 5 = .ok (.iload_n 1, 1) := by decide +kernel
theorem dX4_goesWell_6 : decode cX4_goesWell 6 = .ok (.ifCond .ne 7, 3) := by decide +kernel
theorem dX4_goesWell_9 : decode cX4_goesWell 9 = .ok (.iconst 1, 1) := by decide +kernel
theorem dX4_goesWell_10 : decode cX4_goesWell 10 = .ok (.goto 4, 3) := by decide +kernel
theorem dX4_goesWell_13 : decode cX4_goesWell 13 = .ok (.iconst 0, 1) := by decide +kernel
theorem dX4_goesWell_14 : decode cX4_goesWell 14 = .ok (.ireturn, 1) := by decide +kernel
theorem dX4_in_0 : decode cX4_in 0 = .ok (.iload_n 0, 1) := by decide +kernel
theorem dX4_in_1 : decode cX4_in 1 = .ok (.iload_n 1, 1) := by decide +kernel
theorem dX4_in_2 : decode cX4_in 2 = .ok (.if_icmp .lt 12, 3) := by decide +kernel
theorem dX4_in_5 : decode cX4_in 5 = .ok (.iload_n 0, 1) := by decide +kernel
theorem dX4_in_6 : decode cX4_in 6 = .ok (.iload_n 2, 1) := by decide +kernel
theorem dX4_in_7 : decode cX4_in 7 = .ok (.if_icmp .gt 7, 3) := by decide +kernel
theorem dX4_in_10 : decode cX4_in 10 = .ok (.iconst 1, 1) := by decide +kernel
theorem dX4_in_11 : decode cX4_in 11 = .ok (.goto 4, 3) := by decide +kernel
theorem dX4_in_14 : decode cX4_in 14 = .ok (.iconst 0, 1) := by decide +kernel
theorem dX4_in_15 : decode cX4_in 15 = .ok (.ireturn, 1) := by decide +kernel
theorem dX4_layerAt_0 : decode cX4_layerAt 0 = .ok (.iload_n 0, 1) := by decide +kernel
theorem dX4_layerAt_1 : decode cX4_layerAt 1 = .ok (.ifCond .ne 7, 3) := by decide +kernel
theorem dX4_layerAt_4 : decode cX4_layerAt 4 = .ok (.iconst 0, 1) := by decide +kernel
theorem dX4_layerAt_5 : decode cX4_layerAt 5 = .ok (.goto 9, 3) := by decide +kernel
theorem dX4_layerAt_8 : decode cX4_layerAt 8 = .ok (.iload_n 0, 1) := by decide +kernel
theorem dX4_layerAt_9 : decode cX4_layerAt 9 = .ok (.iconst 1, 1) := by decide +kernel
theorem dX4_layerAt_10 : decode cX4_layerAt 10 = .ok (.isub, 1) := by decide +kernel
theorem dX4_layerAt_11 : decode cX4_layerAt 11 = .ok (.bipush 100, 2) := by decide +kernel
theorem dX4_layerAt_13 : decode cX4_layerAt 13 = .ok (.idiv, 1) := by decide +kernel
theorem dX4_layerAt_14 : decode cX4_layerAt 14 = .ok (.ireturn, 1) := by decide +kernel
theorem dX4_poreAt_0 : decode cX4_poreAt 0 = .ok (.aload_n 0, 1) := by decide +kernel
theorem dX4_poreAt_1 : decode cX4_poreAt 1 = .ok (.getfield 7, 3) := by decide +kernel
theorem dX4_poreAt_4 : decode cX4_poreAt 4 = .ok (.iload_n 1, 1) := by decide +kernel
theorem dX4_poreAt_5 : decode cX4_poreAt 5 = .ok (.invokestatic 55, 3) := by decide +kernel
theorem dX4_poreAt_8 : decode cX4_poreAt 8 = .ok (.iaload, 1) := by decide +kernel
theorem dX4_poreAt_9 : decode cX4_poreAt 9 = .ok (.iload_n 1, 1) := by decide +kernel
theorem dX4_poreAt_10 : decode cX4_poreAt 10 = .ok (.imul, 1) := by decide +kernel
theorem dX4_poreAt_11 : decode cX4_poreAt 11 = .ok (.bipush 10, 2) := by decide +kernel
theorem dX4_poreAt_13 : decode cX4_poreAt 13 = .ok (.idiv, 1) := by decide +kernel
theorem dX4_poreAt_14 : decode cX4_poreAt 14 = .ok (.ireturn, 1) := by decide +kernel
theorem dX4_breakAt_0 : decode cX4_breakAt 0 = .ok (.aload_n 0, 1) := by decide +kernel
theorem dX4_breakAt_1 : decode cX4_breakAt 1 = .ok (.getfield 13, 3) := by decide +kernel
theorem dX4_breakAt_4 : decode cX4_breakAt 4 = .ok (.iload_n 1, 1) := by decide +kernel
theorem dX4_breakAt_5 : decode cX4_breakAt 5 = .ok (.invokestatic 55, 3) := by decide +kernel
theorem dX4_breakAt_8 : decode cX4_breakAt 8 = .ok (.iaload, 1) := by decide +kernel
theorem dX4_breakAt_9 : decode cX4_breakAt 9 = .ok (.iload_n 1, 1) := by decide +kernel
theorem dX4_breakAt_10 : decode cX4_breakAt 10 = .ok (.imul, 1) := by decide +kernel
theorem dX4_breakAt_11 : decode cX4_breakAt 11 = .ok (.bipush 10, 2) := by decide +kernel
theorem dX4_breakAt_13 : decode cX4_breakAt 13 = .ok (.idiv, 1) := by decide +kernel
theorem dX4_breakAt_14 : decode cX4_breakAt 14 = .ok (.ireturn, 1) := by decide +kernel
theorem dX4_layer_0 : decode cX4_layer 0 = .ok (.iload_n 1, 1) := by decide +kernel
theorem dX4_layer_1 : decode cX4_layer 1 = .ok (.iconst 0, 1) := by decide +kernel
theorem dX4_layer_2 : decode cX4_layer 2 = .ok (.bipush 49, 2) := by decide +kernel
theorem dX4_layer_4 : decode cX4_layer 4 = .ok (.invokestatic 59, 3) := by decide +kernel
theorem dX4_layer_7 : decode cX4_layer 7 = .ok (.istore 6, 2) := by decide +kernel
theorem dX4_layer_9 : decode cX4_layer 9 = .ok (.iload_n 2, 1) := by decide +kernel
theorem dX4_layer_10 : decode cX4_layer 10 = .ok (.iconst 0, 1) := by decide +kernel
theorem dX4_layer_11 : decode cX4_layer 11 = .ok (.sipush 300, 3) := by decide +kernel
theorem dX4_layer_14 : decode cX4_layer 14 = .ok (.invokestatic 59, 3) := by decide +kernel
theorem dX4_layer_17 : decode cX4_layer 17 = .ok (.ifCond .eq 30, 3) := by decide +kernel
theorem dX4_layer_20 : decode cX4_layer 20 = .ok (.iload_n 3, 1) := by decide +kernel
theorem dX4_layer_21 : decode cX4_layer 21 = .ok (.iconst 0, 1) := by decide +kernel
theorem dX4_layer_22 : decode cX4_layer 22 = .ok (.sipush 300, 3) := by decide +kernel
theorem dX4_layer_25 : decode cX4_layer 25 = .ok (.invokestatic 59, 3) := by decide +kernel
theorem dX4_layer_28 : decode cX4_layer 28 = .ok (.ifCond .eq 19, 3) := by decide +kernel
theorem dX4_layer_31 : decode cX4_layer 31 = .ok (.iload 4, 2) := by decide +kernel
theorem dX4_layer_33 : decode cX4_layer 33 = .ok (.iconst 0, 1) := by decide +kernel
theorem dX4_layer_34 : decode cX4_layer 34 = .ok (.sipush 1000, 3) := by decide +kernel
theorem dX4_layer_37 : decode cX4_layer 37 = .ok (.invokestatic 59, 3) := by decide +kernel
theorem dX4_layer_40 : decode cX4_layer 40 = .ok (.ifCond .eq 7, 3) := by decide +kernel
theorem dX4_layer_43 : decode cX4_layer 43 = .ok (.iconst 1, 1) := by decide +kernel
theorem dX4_layer_44 : decode cX4_layer 44 = .ok (.goto 4, 3) := by decide +kernel
theorem dX4_layer_47 : decode cX4_layer 47 = .ok (.iconst 0, 1) := by decide +kernel
theorem dX4_layer_48 : decode cX4_layer 48 = .ok (.istore 7, 2) := by decide +kernel
theorem dX4_layer_50 : decode cX4_layer 50 = .ok (.aload_n 0, 1) := by decide +kernel
theorem dX4_layer_51 : decode cX4_layer 51 = .ok (.iload 6, 2) := by decide +kernel
theorem dX4_layer_53 : decode cX4_layer 53 = .ok (.ifCond .ne 7, 3) := by decide +kernel
theorem dX4_layer_56 : decode cX4_layer 56 = .ok (.iconst 1, 1) := by decide +kernel
theorem dX4_layer_57 : decode cX4_layer 57 = .ok (.goto 28, 3) := by decide +kernel
theorem dX4_layer_60 : decode cX4_layer 60 = .ok (.iload 7, 2) := by decide +kernel
theorem dX4_layer_62 : decode cX4_layer 62 = .ok (.ifCond .ne 7, 3) := by decide +kernel
theorem dX4_layer_65 : decode cX4_layer 65 = .ok (.iconst 2, 1) := by decide +kernel
theorem dX4_layer_66 : decode cX4_layer 66 = .ok (.goto 19, 3) := by decide +kernel
theorem dX4_layer_69 : decode cX4_layer 69 = .ok (.aload_n 0, 1) := by decide +kernel
theorem dX4_layer_70 : decode cX4_layer 70 = .ok (.getfield 63, 3) := by decide +kernel
theorem dX4_layer_73 : decode cX4_layer 73 = .ok (.bipush 100, 2) := by decide +kernel
theorem dX4_layer_75 : decode cX4_layer 75 = .ok (.iload_n 1, 1) := by decide +kernel
theorem dX4_layer_76 : decode cX4_layer 76 = .ok (.imul, 1) := by decide +kernel
theorem dX4_layer_77 : decode cX4_layer 77 = .ok (.if_icmp .le 7, 3) := by decide +kernel
theorem dX4_layer_80 : decode cX4_layer 80 = .ok (.iconst 3, 1) := by decide +kernel
theorem dX4_layer_81 : decode cX4_layer 81 = .ok (.goto 4, 3) := by decide +kernel
theorem dX4_layer_84 : decode cX4_layer 84 = .ok (.iconst 0, 1) := by decide +kernel
theorem dX4_layer_85 : decode cX4_layer 85 = .ok (.invokevirtual 66, 3) := by decide +kernel
theorem dX4_layer_88 : decode cX4_layer 88 = .ok (.ifCond .eq 33, 3) := by decide +kernel
theorem dX4_layer_91 : decode cX4_layer 91 = .ok (.aload_n 0, 1) := by decide +kernel
theorem dX4_layer_92 : decode cX4_layer 92 = .ok (.getfield 7, 3) := by decide +kernel
theorem dX4_layer_95 : decode cX4_layer 95 = .ok (.iload_n 1, 1) := by decide +kernel
theorem dX4_layer_96 : decode cX4_layer 96 = .ok (.iload_n 2, 1) := by decide +kernel
theorem dX4_layer_97 : decode cX4_layer 97 = .ok (.iastore, 1) := by decide +kernel
theorem dX4_layer_98 : decode cX4_layer 98 = .ok (.aload_n 0, 1) := by decide +kernel
theorem dX4_layer_99 : decode cX4_layer 99 = .ok (.getfield 13, 3) := by decide +kernel
theorem dX4_layer_102 : decode cX4_layer 102 = .ok (.iload_n 1, 1) := by decide +kernel
theorem dX4_layer_103 : decode cX4_layer 103 = .ok (.iload_n 3, 1) := by decide +kernel
theorem dX4_layer_104 : decode cX4_layer 104 = .ok (.iastore, 1) := by decide +kernel
theorem dX4_layer_105 : decode cX4_layer 105 = .ok (.aload_n 0, 1) := by decide +kernel
theorem dX4_layer_106 : decode cX4_layer 106 = .ok (.getfield 16, 3) := by decide +kernel
theorem dX4_layer_109 : decode cX4_layer 109 = .ok (.iload_n 1, 1) := by decide +kernel
theorem dX4_layer_110 : decode cX4_layer 110 = .ok (.iload 4, 2) := by decide +kernel
theorem dX4_layer_112 : decode cX4_layer 112 = .ok (.iastore, 1) := by decide +kernel
theorem dX4_layer_113 : decode cX4_layer 113 = .ok (.aload_n 0, 1) := by decide +kernel
theorem dX4_layer_114 : decode cX4_layer 114 = .ok (.getfield 19, 3) := by decide +kernel
theorem dX4_layer_117 : decode cX4_layer 117 = .ok (.iload_n 1, 1) := by decide +kernel
theorem dX4_layer_118 : decode cX4_layer 118 = .ok (.iload 5, 2) := by decide +kernel
theorem dX4_layer_120 : decode cX4_layer 120 = .ok (.bastore, 1) := by decide +kernel
theorem dX4_layer_121 : decode cX4_layer 121 = .ok (.return_, 1) := by decide +kernel
theorem dX4_mud_0 : decode cX4_mud 0 = .ok (.iload_n 1, 1) := by decide +kernel
theorem dX4_mud_1 : decode cX4_mud 1 = .ok (.iconst 0, 1) := by decide +kernel
theorem dX4_mud_2 : decode cX4_mud 2 = .ok (.sipush 300, 3) := by decide +kernel
theorem dX4_mud_5 : decode cX4_mud 5 = .ok (.invokestatic 59, 3) := by decide +kernel
theorem dX4_mud_8 : decode cX4_mud 8 = .ok (.istore_n 2, 1) := by decide +kernel
theorem dX4_mud_9 : decode cX4_mud 9 = .ok (.aload_n 0, 1) := by decide +kernel
theorem dX4_mud_10 : decode cX4_mud 10 = .ok (.iload_n 2, 1) := by decide +kernel
theorem dX4_mud_11 : decode cX4_mud 11 = .ok (.ifCond .ne 7, 3) := by decide +kernel
theorem dX4_mud_14 : decode cX4_mud 14 = .ok (.iconst 1, 1) := by decide +kernel
theorem dX4_mud_15 : decode cX4_mud 15 = .ok (.goto 15, 3) := by decide +kernel
theorem dX4_mud_18 : decode cX4_mud 18 = .ok (.aload_n 0, 1) := by decide +kernel
theorem dX4_mud_19 : decode cX4_mud 19 = .ok (.getfield 70, 3) := by decide +kernel
theorem dX4_mud_22 : decode cX4_mud 22 = .ok (.ifCond .eq 7, 3) := by decide +kernel
theorem dX4_mud_25 : decode cX4_mud 25 = .ok (.iconst 2, 1) := by decide +kernel
theorem dX4_mud_26 : decode cX4_mud 26 = .ok (.goto 4, 3) := by decide +kernel
theorem dX4_mud_29 : decode cX4_mud 29 = .ok (.iconst 0, 1) := by decide +kernel
theorem dX4_mud_30 : decode cX4_mud 30 = .ok (.invokevirtual 66, 3) := by decide +kernel
theorem dX4_mud_33 : decode cX4_mud 33 = .ok (.ifCond .ne 5, 3) := by decide +kernel
theorem dX4_mud_36 : decode cX4_mud 36 = .ok (.iconst 0, 1) := by decide +kernel
theorem dX4_mud_37 : decode cX4_mud 37 = .ok (.ireturn, 1) := by decide +kernel
theorem dX4_mud_38 : decode cX4_mud 38 = .ok (.aload_n 0, 1) := by decide +kernel
theorem dX4_mud_39 : decode cX4_mud 39 = .ok (.getfield 23, 3) := by decide +kernel
theorem dX4_mud_42 : decode cX4_mud 42 = .ok (.istore_n 3, 1) := by decide +kernel
theorem dX4_mud_43 : decode cX4_mud 43 = .ok (.aload_n 0, 1) := by decide +kernel
theorem dX4_mud_44 : decode cX4_mud 44 = .ok (.iload_n 1, 1) := by decide +kernel
theorem dX4_mud_45 : decode cX4_mud 45 = .ok (.putfield 23, 3) := by decide +kernel
theorem dX4_mud_48 : decode cX4_mud 48 = .ok (.aload_n 0, 1) := by decide +kernel
theorem dX4_mud_49 : decode cX4_mud 49 = .ok (.iconst 0, 1) := by decide +kernel
theorem dX4_mud_50 : decode cX4_mud 50 = .ok (.putfield 74, 3) := by decide +kernel
theorem dX4_mud_53 : decode cX4_mud 53 = .ok (.iload_n 3, 1) := by decide +kernel
theorem dX4_mud_54 : decode cX4_mud 54 = .ok (.ireturn, 1) := by decide +kernel
theorem dX4_column_0 : decode cX4_column 0 = .ok (.aload_n 0, 1) := by decide +kernel
theorem dX4_column_1 : decode cX4_column 1 = .ok (.getfield 23, 3) := by decide +kernel
theorem dX4_column_4 : decode cX4_column 4 = .ok (.aload_n 0, 1) := by decide +kernel
theorem dX4_column_5 : decode cX4_column 5 = .ok (.getfield 63, 3) := by decide +kernel
theorem dX4_column_8 : decode cX4_column 8 = .ok (.aload_n 0, 1) := by decide +kernel
theorem dX4_column_9 : decode cX4_column 9 = .ok (.getfield 77, 3) := by decide +kernel
theorem dX4_column_12 : decode cX4_column 12 = .ok (.isub, 1) := by decide +kernel
theorem dX4_column_13 : decode cX4_column 13 = .ok (.aload_n 0, 1) := by decide +kernel
theorem dX4_column_14 : decode cX4_column 14 = .ok (.getfield 80, 3) := by decide +kernel
theorem dX4_column_17 : decode cX4_column 17 = .ok (.isub, 1) := by decide +kernel
theorem dX4_column_18 : decode cX4_column 18 = .ok (.imul, 1) := by decide +kernel
theorem dX4_column_19 : decode cX4_column 19 = .ok (.bipush 100, 2) := by decide +kernel
theorem dX4_column_21 : decode cX4_column 21 = .ok (.aload_n 0, 1) := by decide +kernel
theorem dX4_column_22 : decode cX4_column 22 = .ok (.getfield 80, 3) := by decide +kernel
theorem dX4_column_25 : decode cX4_column 25 = .ok (.imul, 1) := by decide +kernel
theorem dX4_column_26 : decode cX4_column 26 = .ok (.iadd, 1) := by decide +kernel
theorem dX4_column_27 : decode cX4_column 27 = .ok (.bipush 10, 2) := by decide +kernel
theorem dX4_column_29 : decode cX4_column 29 = .ok (.idiv, 1) := by decide +kernel
theorem dX4_column_30 : decode cX4_column 30 = .ok (.ireturn, 1) := by decide +kernel
theorem dX4_bottom_0 : decode cX4_bottom 0 = .ok (.aload_n 0, 1) := by decide +kernel
theorem dX4_bottom_1 : decode cX4_bottom 1 = .ok (.invokevirtual 83, 3) := by decide +kernel
theorem dX4_bottom_4 : decode cX4_bottom 4 = .ok (.aload_n 0, 1) := by decide +kernel
theorem dX4_bottom_5 : decode cX4_bottom 5 = .ok (.getfield 87, 3) := by decide +kernel
theorem dX4_bottom_8 : decode cX4_bottom 8 = .ok (.iadd, 1) := by decide +kernel
theorem dX4_bottom_9 : decode cX4_bottom 9 = .ok (.ireturn, 1) := by decide +kernel
theorem dX4_gasPressure_0 : decode cX4_gasPressure 0 = .ok (.aload_n 0, 1) := by decide +kernel
theorem dX4_gasPressure_1 : decode cX4_gasPressure 1 = .ok (.getfield 23, 3) := by decide +kernel
theorem dX4_gasPressure_4 : decode cX4_gasPressure 4 = .ok (.aload_n 0, 1) := by decide +kernel
theorem dX4_gasPressure_5 : decode cX4_gasPressure 5 = .ok (.getfield 90, 3) := by decide +kernel
theorem dX4_gasPressure_8 : decode cX4_gasPressure 8 = .ok (.imul, 1) := by decide +kernel
theorem dX4_gasPressure_9 : decode cX4_gasPressure 9 = .ok (.bipush 10, 2) := by decide +kernel
theorem dX4_gasPressure_11 : decode cX4_gasPressure 11 = .ok (.idiv, 1) := by decide +kernel
theorem dX4_gasPressure_12 : decode cX4_gasPressure 12 = .ok (.aload_n 0, 1) := by decide +kernel
theorem dX4_gasPressure_13 : decode cX4_gasPressure 13 = .ok (.getfield 87, 3) := by decide +kernel
theorem dX4_gasPressure_16 : decode cX4_gasPressure 16 = .ok (.iadd, 1) := by decide +kernel
theorem dX4_gasPressure_17 : decode cX4_gasPressure 17 = .ok (.istore_n 1, 1) := by decide +kernel
theorem dX4_gasPressure_18 : decode cX4_gasPressure 18 = .ok (.iload_n 1, 1) := by decide +kernel
theorem dX4_gasPressure_19 : decode cX4_gasPressure 19 = .ok (.iconst 1, 1) := by decide +kernel
theorem dX4_gasPressure_20 : decode cX4_gasPressure 20 = .ok (.if_icmp .ge 7, 3) := by decide +kernel
theorem dX4_gasPressure_23 : decode cX4_gasPressure 23 = .ok (.iconst 1, 1) := by decide +kernel
theorem dX4_gasPressure_24 : decode cX4_gasPressure 24 = .ok (.goto 4, 3) := by decide +kernel
theorem dX4_gasPressure_27 : decode cX4_gasPressure 27 = .ok (.iload_n 1, 1) := by decide +kernel
theorem dX4_gasPressure_28 : decode cX4_gasPressure 28 = .ok (.ireturn, 1) := by decide +kernel
theorem dX4_foot_0 : decode cX4_foot 0 = .ok (.aload_n 0, 1) := by decide +kernel
theorem dX4_foot_1 : decode cX4_foot 1 = .ok (.getfield 93, 3) := by decide +kernel
theorem dX4_foot_4 : decode cX4_foot 4 = .ok (.aload_n 0, 1) := by decide +kernel
theorem dX4_foot_5 : decode cX4_foot 5 = .ok (.getfield 77, 3) := by decide +kernel
theorem dX4_foot_8 : decode cX4_foot 8 = .ok (.if_icmp .le 15, 3) := by decide +kernel
theorem dX4_foot_11 : decode cX4_foot 11 = .ok (.aload_n 0, 1) := by decide +kernel
theorem dX4_foot_12 : decode cX4_foot 12 = .ok (.getfield 93, 3) := by decide +kernel
theorem dX4_foot_15 : decode cX4_foot 15 = .ok (.aload_n 0, 1) := by decide +kernel
theorem dX4_foot_16 : decode cX4_foot 16 = .ok (.getfield 77, 3) := by decide +kernel
theorem dX4_foot_19 : decode cX4_foot 19 = .ok (.isub, 1) := by decide +kernel
theorem dX4_foot_20 : decode cX4_foot 20 = .ok (.goto 4, 3) := by decide +kernel
theorem dX4_foot_23 : decode cX4_foot 23 = .ok (.iconst 0, 1) := by decide +kernel
theorem dX4_foot_24 : decode cX4_foot 24 = .ok (.istore_n 1, 1) := by decide +kernel
theorem dX4_foot_25 : decode cX4_foot 25 = .ok (.aload_n 0, 1) := by decide +kernel
theorem dX4_foot_26 : decode cX4_foot 26 = .ok (.getfield 87, 3) := by decide +kernel
theorem dX4_foot_29 : decode cX4_foot 29 = .ok (.aload_n 0, 1) := by decide +kernel
theorem dX4_foot_30 : decode cX4_foot 30 = .ok (.getfield 23, 3) := by decide +kernel
theorem dX4_foot_33 : decode cX4_foot 33 = .ok (.aload_n 0, 1) := by decide +kernel
theorem dX4_foot_34 : decode cX4_foot 34 = .ok (.getfield 96, 3) := by decide +kernel
theorem dX4_foot_37 : decode cX4_foot 37 = .ok (.lconst 0, 1) := by decide +kernel
theorem dX4_foot_38 : decode cX4_foot 38 = .ok (.lcmp, 1) := by decide +kernel
theorem dX4_foot_39 : decode cX4_foot 39 = .ok (.ifCond .le 18, 3) := by decide +kernel
theorem dX4_foot_42 : decode cX4_foot 42 = .ok (.aload_n 0, 1) := by decide +kernel
theorem dX4_foot_43 : decode cX4_foot 43 = .ok (.getfield 90, 3) := by decide +kernel
theorem dX4_foot_46 : decode cX4_foot 46 = .ok (.aload_n 0, 1) := by decide +kernel
theorem dX4_foot_47 : decode cX4_foot 47 = .ok (.getfield 93, 3) := by decide +kernel
theorem dX4_foot_50 : decode cX4_foot 50 = .ok (.if_icmp .ge 7, 3) := by decide +kernel
theorem dX4_foot_53 : decode cX4_foot 53 = .ok (.iload_n 1, 1) := by decide +kernel
theorem dX4_foot_54 : decode cX4_foot 54 = .ok (.goto 7, 3) := by decide +kernel
theorem dX4_foot_57 : decode cX4_foot 57 = .ok (.aload_n 0, 1) := by decide +kernel
theorem dX4_foot_58 : decode cX4_foot 58 = .ok (.getfield 93, 3) := by decide +kernel
theorem dX4_foot_61 : decode cX4_foot 61 = .ok (.imul, 1) := by decide +kernel
theorem dX4_foot_62 : decode cX4_foot 62 = .ok (.bipush 10, 2) := by decide +kernel
theorem dX4_foot_64 : decode cX4_foot 64 = .ok (.idiv, 1) := by decide +kernel
theorem dX4_foot_65 : decode cX4_foot 65 = .ok (.iadd, 1) := by decide +kernel
theorem dX4_foot_66 : decode cX4_foot 66 = .ok (.ireturn, 1) := by decide +kernel
theorem dX4_measure_0 : decode cX4_measure 0 = .ok (.aload_n 0, 1) := by decide +kernel
theorem dX4_measure_1 : decode cX4_measure 1 = .ok (.getfield 96, 3) := by decide +kernel
theorem dX4_measure_4 : decode cX4_measure 4 = .ok (.aload_n 0, 1) := by decide +kernel
theorem dX4_measure_5 : decode cX4_measure 5 = .ok (.invokevirtual 100, 3) := by decide +kernel
theorem dX4_measure_8 : decode cX4_measure 8 = .ok (.i2l, 1) := by decide +kernel
theorem dX4_measure_9 : decode cX4_measure 9 = .ok (.ldiv, 1) := by decide +kernel
theorem dX4_measure_10 : decode cX4_measure 10 = .ok (.lstore_n 1, 1) := by decide +kernel
theorem dX4_measure_11 : decode cX4_measure 11 = .ok (.aload_n 0, 1) := by decide +kernel
theorem dX4_measure_12 : decode cX4_measure 12 = .ok (.getfield 63, 3) := by decide +kernel
theorem dX4_measure_15 : decode cX4_measure 15 = .ok (.aload_n 0, 1) := by decide +kernel
theorem dX4_measure_16 : decode cX4_measure 16 = .ok (.getfield 80, 3) := by decide +kernel
theorem dX4_measure_19 : decode cX4_measure 19 = .ok (.isub, 1) := by decide +kernel
theorem dX4_measure_20 : decode cX4_measure 20 = .ok (.i2l, 1) := by decide +kernel
theorem dX4_measure_21 : decode cX4_measure 21 = .ok (.lstore_n 3, 1) := by decide +kernel
theorem dX4_measure_22 : decode cX4_measure 22 = .ok (.aload_n 0, 1) := by decide +kernel
theorem dX4_measure_23 : decode cX4_measure 23 = .ok (.lload_n 1, 1) := by decide +kernel
theorem dX4_measure_24 : decode cX4_measure 24 = .ok (.lload_n 3, 1) := by decide +kernel
theorem dX4_measure_25 : decode cX4_measure 25 = .ok (.lcmp, 1) := by decide +kernel
theorem dX4_measure_26 : decode cX4_measure 26 = .ok (.ifCond .ge 7, 3) := by decide +kernel
theorem dX4_measure_29 : decode cX4_measure 29 = .ok (.lload_n 1, 1) := by decide +kernel
theorem dX4_measure_30 : decode cX4_measure 30 = .ok (.goto 4, 3) := by decide +kernel
theorem dX4_measure_33 : decode cX4_measure 33 = .ok (.lload_n 3, 1) := by decide +kernel
theorem dX4_measure_34 : decode cX4_measure 34 = .ok (.l2i, 1) := by decide +kernel
theorem dX4_measure_35 : decode cX4_measure 35 = .ok (.putfield 77, 3) := by decide +kernel
theorem dX4_measure_38 : decode cX4_measure 38 = .ok (.return_, 1) := by decide +kernel
theorem dX4_rise_0 : decode cX4_rise 0 = .ok (.aload_n 0, 1) := by decide +kernel
theorem dX4_rise_1 : decode cX4_rise 1 = .ok (.dup, 1) := by decide +kernel
theorem dX4_rise_2 : decode cX4_rise 2 = .ok (.getfield 90, 3) := by decide +kernel
theorem dX4_rise_5 : decode cX4_rise 5 = .ok (.iload_n 1, 1) := by decide +kernel
theorem dX4_rise_6 : decode cX4_rise 6 = .ok (.ifCond .eq 8, 3) := by decide +kernel
theorem dX4_rise_9 : decode cX4_rise 9 = .ok (.bipush 20, 2) := by decide +kernel
theorem dX4_rise_11 : decode cX4_rise 11 = .ok (.goto 16, 3) := by decide +kernel
theorem dX4_rise_14 : decode cX4_rise 14 = .ok (.aload_n 0, 1) := by decide +kernel
theorem dX4_rise_15 : decode cX4_rise 15 = .ok (.getfield 70, 3) := by decide +kernel
theorem dX4_rise_18 : decode cX4_rise 18 = .ok (.ifCond .eq 7, 3) := by decide +kernel
theorem dX4_rise_21 : decode cX4_rise 21 = .ok (.iconst 2, 1) := by decide +kernel
theorem dX4_rise_22 : decode cX4_rise 22 = .ok (.goto 5, 3) := by decide +kernel
theorem dX4_rise_25 : decode cX4_rise 25 = .ok (.bipush 8, 2) := by decide +kernel
theorem dX4_rise_27 : decode cX4_rise 27 = .ok (.isub, 1) := by decide +kernel
theorem dX4_rise_28 : decode cX4_rise 28 = .ok (.putfield 90, 3) := by decide +kernel
theorem dX4_rise_31 : decode cX4_rise 31 = .ok (.aload_n 0, 1) := by decide +kernel
theorem dX4_rise_32 : decode cX4_rise 32 = .ok (.aload_n 0, 1) := by decide +kernel
theorem dX4_rise_33 : decode cX4_rise 33 = .ok (.getfield 90, 3) := by decide +kernel
theorem dX4_rise_36 : decode cX4_rise 36 = .ok (.ifCond .ge 7, 3) := by decide +kernel
theorem dX4_rise_39 : decode cX4_rise 39 = .ok (.iconst 0, 1) := by decide +kernel
theorem dX4_rise_40 : decode cX4_rise 40 = .ok (.goto 7, 3) := by decide +kernel
theorem dX4_rise_43 : decode cX4_rise 43 = .ok (.aload_n 0, 1) := by decide +kernel
theorem dX4_rise_44 : decode cX4_rise 44 = .ok (.getfield 90, 3) := by decide +kernel
theorem dX4_rise_47 : decode cX4_rise 47 = .ok (.putfield 90, 3) := by decide +kernel
theorem dX4_rise_50 : decode cX4_rise 50 = .ok (.aload_n 0, 1) := by decide +kernel
theorem dX4_rise_51 : decode cX4_rise 51 = .ok (.getfield 90, 3) := by decide +kernel
theorem dX4_rise_54 : decode cX4_rise 54 = .ok (.ifCond .ne 41, 3) := by decide +kernel
theorem dX4_rise_57 : decode cX4_rise 57 = .ok (.iload_n 1, 1) := by decide +kernel
theorem dX4_rise_58 : decode cX4_rise 58 = .ok (.ifCond .ne 10, 3) := by decide +kernel
theorem dX4_rise_61 : decode cX4_rise 61 = .ok (.aload_n 0, 1) := by decide +kernel
theorem dX4_rise_62 : decode cX4_rise 62 = .ok (.getfield 70, 3) := by decide +kernel
theorem dX4_rise_65 : decode cX4_rise 65 = .ok (.ifCond .ne 30, 3) := by decide +kernel
theorem dX4_rise_68 : decode cX4_rise 68 = .ok (.aload_n 0, 1) := by decide +kernel
theorem dX4_rise_69 : decode cX4_rise 69 = .ok (.dup, 1) := by decide +kernel
theorem dX4_rise_70 : decode cX4_rise 70 = .ok (.getfield 103, 3) := by decide +kernel
theorem dX4_rise_73 : decode cX4_rise 73 = .ok (.aload_n 0, 1) := by decide +kernel
theorem dX4_rise_74 : decode cX4_rise 74 = .ok (.getfield 77, 3) := by decide +kernel
theorem dX4_rise_77 : decode cX4_rise 77 = .ok (.i2l, 1) := by decide +kernel
theorem dX4_rise_78 : decode cX4_rise 78 = .ok (.ladd, 1) := by decide +kernel
theorem dX4_rise_79 : decode cX4_rise 79 = .ok (.putfield 103, 3) := by decide +kernel
theorem dX4_rise_82 : decode cX4_rise 82 = .ok (.aload_n 0, 1) := by decide +kernel
theorem dX4_rise_83 : decode cX4_rise 83 = .ok (.lconst 0, 1) := by decide +kernel
theorem dX4_rise_84 : decode cX4_rise 84 = .ok (.putfield 96, 3) := by decide +kernel
theorem dX4_rise_87 : decode cX4_rise 87 = .ok (.aload_n 0, 1) := by decide +kernel
theorem dX4_rise_88 : decode cX4_rise 88 = .ok (.iconst 0, 1) := by decide +kernel
theorem dX4_rise_89 : decode cX4_rise 89 = .ok (.putfield 77, 3) := by decide +kernel
theorem dX4_rise_92 : decode cX4_rise 92 = .ok (.goto 7, 3) := by decide +kernel
theorem dX4_rise_95 : decode cX4_rise 95 = .ok (.aload_n 0, 1) := by decide +kernel
theorem dX4_rise_96 : decode cX4_rise 96 = .ok (.invokevirtual 106, 3) := by decide +kernel
theorem dX4_rise_99 : decode cX4_rise 99 = .ok (.return_, 1) := by decide +kernel
theorem dX4_shut_0 : decode cX4_shut 0 = .ok (.aload_n 0, 1) := by decide +kernel
theorem dX4_shut_1 : decode cX4_shut 1 = .ok (.aload_n 0, 1) := by decide +kernel
theorem dX4_shut_2 : decode cX4_shut 2 = .ok (.getfield 63, 3) := by decide +kernel
theorem dX4_shut_5 : decode cX4_shut 5 = .ok (.invokevirtual 109, 3) := by decide +kernel
theorem dX4_shut_8 : decode cX4_shut 8 = .ok (.aload_n 0, 1) := by decide +kernel
theorem dX4_shut_9 : decode cX4_shut 9 = .ok (.invokevirtual 83, 3) := by decide +kernel
theorem dX4_shut_12 : decode cX4_shut 12 = .ok (.isub, 1) := by decide +kernel
theorem dX4_shut_13 : decode cX4_shut 13 = .ok (.istore_n 1, 1) := by decide +kernel
theorem dX4_shut_14 : decode cX4_shut 14 = .ok (.aload_n 0, 1) := by decide +kernel
theorem dX4_shut_15 : decode cX4_shut 15 = .ok (.iload_n 1, 1) := by decide +kernel
theorem dX4_shut_16 : decode cX4_shut 16 = .ok (.ifCond .le 7, 3) := by decide +kernel
theorem dX4_shut_19 : decode cX4_shut 19 = .ok (.iload_n 1, 1) := by decide +kernel
theorem dX4_shut_20 : decode cX4_shut 20 = .ok (.goto 4, 3) := by decide +kernel
theorem dX4_shut_23 : decode cX4_shut 23 = .ok (.iconst 0, 1) := by decide +kernel
theorem dX4_shut_24 : decode cX4_shut 24 = .ok (.putfield 87, 3) := by decide +kernel
theorem dX4_shut_27 : decode cX4_shut 27 = .ok (.aload_n 0, 1) := by decide +kernel
theorem dX4_shut_28 : decode cX4_shut 28 = .ok (.getfield 87, 3) := by decide +kernel
theorem dX4_shut_31 : decode cX4_shut 31 = .ok (.aload_n 0, 1) := by decide +kernel
theorem dX4_shut_32 : decode cX4_shut 32 = .ok (.getfield 30, 3) := by decide +kernel
theorem dX4_shut_35 : decode cX4_shut 35 = .ok (.if_icmp .le 21, 3) := by decide +kernel
theorem dX4_shut_38 : decode cX4_shut 38 = .ok (.aload_n 0, 1) := by decide +kernel
theorem dX4_shut_39 : decode cX4_shut 39 = .ok (.iconst 0, 1) := by decide +kernel
theorem dX4_shut_40 : decode cX4_shut 40 = .ok (.putfield 70, 3) := by decide +kernel
theorem dX4_shut_43 : decode cX4_shut 43 = .ok (.aload_n 0, 1) := by decide +kernel
theorem dX4_shut_44 : decode cX4_shut 44 = .ok (.iconst 0, 1) := by decide +kernel
theorem dX4_shut_45 : decode cX4_shut 45 = .ok (.putfield 87, 3) := by decide +kernel
theorem dX4_shut_48 : decode cX4_shut 48 = .ok (.aload_n 0, 1) := by decide +kernel
theorem dX4_shut_49 : decode cX4_shut 49 = .ok (.aload_n 0, 1) := by decide +kernel
theorem dX4_shut_50 : decode cX4_shut 50 = .ok (.getfield 112, 3) := by decide +kernel
theorem dX4_shut_53 : decode cX4_shut 53 = .ok (.putfield 115, 3) := by decide +kernel
theorem dX4_shut_56 : decode cX4_shut 56 = .ok (.return_, 1) := by decide +kernel
theorem dX4_flow_0 : decode cX4_flow 0 = .ok (.aload_n 0, 1) := by decide +kernel
theorem dX4_flow_1 : decode cX4_flow 1 = .ok (.aload_n 0, 1) := by decide +kernel
theorem dX4_flow_2 : decode cX4_flow 2 = .ok (.getfield 63, 3) := by decide +kernel
theorem dX4_flow_5 : decode cX4_flow 5 = .ok (.invokevirtual 109, 3) := by decide +kernel
theorem dX4_flow_8 : decode cX4_flow 8 = .ok (.aload_n 0, 1) := by decide +kernel
theorem dX4_flow_9 : decode cX4_flow 9 = .ok (.invokevirtual 118, 3) := by decide +kernel
theorem dX4_flow_12 : decode cX4_flow 12 = .ok (.isub, 1) := by decide +kernel
theorem dX4_flow_13 : decode cX4_flow 13 = .ok (.istore_n 1, 1) := by decide +kernel
theorem dX4_flow_14 : decode cX4_flow 14 = .ok (.aload_n 0, 1) := by decide +kernel
theorem dX4_flow_15 : decode cX4_flow 15 = .ok (.getfield 63, 3) := by decide +kernel
theorem dX4_flow_18 : decode cX4_flow 18 = .ok (.invokestatic 55, 3) := by decide +kernel
theorem dX4_flow_21 : decode cX4_flow 21 = .ok (.istore_n 2, 1) := by decide +kernel
theorem dX4_flow_22 : decode cX4_flow 22 = .ok (.lconst 1, 1) := by decide +kernel
theorem dX4_flow_23 : decode cX4_flow 23 = .ok (.iload_n 1, 1) := by decide +kernel
theorem dX4_flow_24 : decode cX4_flow 24 = .ok (.i2l, 1) := by decide +kernel
theorem dX4_flow_25 : decode cX4_flow 25 = .ok (.aload_n 0, 1) := by decide +kernel
theorem dX4_flow_26 : decode cX4_flow 26 = .ok (.getfield 16, 3) := by decide +kernel
theorem dX4_flow_29 : decode cX4_flow 29 = .ok (.iload_n 2, 1) := by decide +kernel
theorem dX4_flow_30 : decode cX4_flow 30 = .ok (.iaload, 1) := by decide +kernel
theorem dX4_flow_31 : decode cX4_flow 31 = .ok (.i2l, 1) := by decide +kernel
theorem dX4_flow_32 : decode cX4_flow 32 = .ok (.lmul, 1) := by decide +kernel
theorem dX4_flow_33 : decode cX4_flow 33 = .ok (.ldc2_w 121, 3) := by decide +kernel
theorem dX4_flow_36 : decode cX4_flow 36 = .ok (.ldiv, 1) := by decide +kernel
theorem dX4_flow_37 : decode cX4_flow 37 = .ok (.ladd, 1) := by decide +kernel
theorem dX4_flow_38 : decode cX4_flow 38 = .ok (.lstore_n 3, 1) := by decide +kernel
theorem dX4_flow_39 : decode cX4_flow 39 = .ok (.lload_n 3, 1) := by decide +kernel
theorem dX4_flow_40 : decode cX4_flow 40 = .ok (.ldc2_w 123, 3) := by decide +kernel
theorem dX4_flow_43 : decode cX4_flow 43 = .ok (.lcmp, 1) := by decide +kernel
theorem dX4_flow_44 : decode cX4_flow 44 = .ok (.ifCond .le 9, 3) := by decide +kernel
theorem dX4_flow_47 : decode cX4_flow 47 = .ok (.ldc2_w 123, 3) := by decide +kernel
theorem dX4_flow_50 : decode cX4_flow 50 = .ok (.goto 4, 3) := by decide +kernel
theorem dX4_flow_53 : decode cX4_flow 53 = .ok (.lload_n 3, 1) := by decide +kernel
theorem dX4_flow_54 : decode cX4_flow 54 = .ok (.lstore_n 3, 1) := by decide +kernel
theorem dX4_flow_55 : decode cX4_flow 55 = .ok (.aload_n 0, 1) := by decide +kernel
theorem dX4_flow_56 : decode cX4_flow 56 = .ok (.iconst 1, 1) := by decide +kernel
theorem dX4_flow_57 : decode cX4_flow 57 = .ok (.putfield 125, 3) := by decide +kernel
theorem dX4_flow_60 : decode cX4_flow 60 = .ok (.aload_n 0, 1) := by decide +kernel
theorem dX4_flow_61 : decode cX4_flow 61 = .ok (.getfield 19, 3) := by decide +kernel
theorem dX4_flow_64 : decode cX4_flow 64 = .ok (.iload_n 2, 1) := by decide +kernel
theorem dX4_flow_65 : decode cX4_flow 65 = .ok (.baload, 1) := by decide +kernel
theorem dX4_flow_66 : decode cX4_flow 66 = .ok (.ifCond .ne 47, 3) := by decide +kernel
theorem dX4_flow_69 : decode cX4_flow 69 = .ok (.aload_n 0, 1) := by decide +kernel
theorem dX4_flow_70 : decode cX4_flow 70 = .ok (.getfield 63, 3) := by decide +kernel
theorem dX4_flow_73 : decode cX4_flow 73 = .ok (.aload_n 0, 1) := by decide +kernel
theorem dX4_flow_74 : decode cX4_flow 74 = .ok (.getfield 77, 3) := by decide +kernel
theorem dX4_flow_77 : decode cX4_flow 77 = .ok (.isub, 1) := by decide +kernel
theorem dX4_flow_78 : decode cX4_flow 78 = .ok (.istore 5, 2) := by decide +kernel
theorem dX4_flow_80 : decode cX4_flow 80 = .ok (.aload_n 0, 1) := by decide +kernel
theorem dX4_flow_81 : decode cX4_flow 81 = .ok (.aload_n 0, 1) := by decide +kernel
theorem dX4_flow_82 : decode cX4_flow 82 = .ok (.getfield 80, 3) := by decide +kernel
theorem dX4_flow_85 : decode cX4_flow 85 = .ok (.i2l, 1) := by decide +kernel
theorem dX4_flow_86 : decode cX4_flow 86 = .ok (.lload_n 3, 1) := by decide +kernel
theorem dX4_flow_87 : decode cX4_flow 87 = .ok (.ladd, 1) := by decide +kernel
theorem dX4_flow_88 : decode cX4_flow 88 = .ok (.iload 5, 2) := by decide +kernel
theorem dX4_flow_90 : decode cX4_flow 90 = .ok (.i2l, 1) := by decide +kernel
theorem dX4_flow_91 : decode cX4_flow 91 = .ok (.lcmp, 1) := by decide +kernel
theorem dX4_flow_92 : decode cX4_flow 92 = .ok (.ifCond .le 8, 3) := by decide +kernel
theorem dX4_flow_95 : decode cX4_flow 95 = .ok (.iload 5, 2) := by decide +kernel
theorem dX4_flow_97 : decode cX4_flow 97 = .ok (.goto 10, 3) := by decide +kernel
theorem dX4_flow_100 : decode cX4_flow 100 = .ok (.aload_n 0, 1) := by decide +kernel
theorem dX4_flow_101 : decode cX4_flow 101 = .ok (.getfield 80, 3) := by decide +kernel
theorem dX4_flow_104 : decode cX4_flow 104 = .ok (.lload_n 3, 1) := by decide +kernel
theorem dX4_flow_105 : decode cX4_flow 105 = .ok (.l2i, 1) := by decide +kernel
theorem dX4_flow_106 : decode cX4_flow 106 = .ok (.iadd, 1) := by decide +kernel
theorem dX4_flow_107 : decode cX4_flow 107 = .ok (.putfield 80, 3) := by decide +kernel
theorem dX4_flow_110 : decode cX4_flow 110 = .ok (.goto 58, 3) := by decide +kernel
theorem dX4_flow_113 : decode cX4_flow 113 = .ok (.aload_n 0, 1) := by decide +kernel
theorem dX4_flow_114 : decode cX4_flow 114 = .ok (.aload_n 0, 1) := by decide +kernel
theorem dX4_flow_115 : decode cX4_flow 115 = .ok (.getfield 96, 3) := by decide +kernel
theorem dX4_flow_118 : decode cX4_flow 118 = .ok (.lconst 0, 1) := by decide +kernel
theorem dX4_flow_119 : decode cX4_flow 119 = .ok (.lcmp, 1) := by decide +kernel
theorem dX4_flow_120 : decode cX4_flow 120 = .ok (.ifCond .le 10, 3) := by decide +kernel
theorem dX4_flow_123 : decode cX4_flow 123 = .ok (.aload_n 0, 1) := by decide +kernel
theorem dX4_flow_124 : decode cX4_flow 124 = .ok (.getfield 90, 3) := by decide +kernel
theorem dX4_flow_127 : decode cX4_flow 127 = .ok (.goto 7, 3) := by decide +kernel
theorem dX4_flow_130 : decode cX4_flow 130 = .ok (.aload_n 0, 1) := by decide +kernel
theorem dX4_flow_131 : decode cX4_flow 131 = .ok (.getfield 63, 3) := by decide +kernel
theorem dX4_flow_134 : decode cX4_flow 134 = .ok (.putfield 90, 3) := by decide +kernel
theorem dX4_flow_137 : decode cX4_flow 137 = .ok (.aload_n 0, 1) := by decide +kernel
theorem dX4_flow_138 : decode cX4_flow 138 = .ok (.dup, 1) := by decide +kernel
theorem dX4_flow_139 : decode cX4_flow 139 = .ok (.getfield 96, 3) := by decide +kernel
theorem dX4_flow_142 : decode cX4_flow 142 = .ok (.lload_n 3, 1) := by decide +kernel
theorem dX4_flow_143 : decode cX4_flow 143 = .ok (.aload_n 0, 1) := by decide +kernel
theorem dX4_flow_144 : decode cX4_flow 144 = .ok (.invokevirtual 118, 3) := by decide +kernel
theorem dX4_flow_147 : decode cX4_flow 147 = .ok (.ifCond .le 10, 3) := by decide +kernel
theorem dX4_flow_150 : decode cX4_flow 150 = .ok (.aload_n 0, 1) := by decide +kernel
theorem dX4_flow_151 : decode cX4_flow 151 = .ok (.invokevirtual 118, 3) := by decide +kernel
theorem dX4_flow_154 : decode cX4_flow 154 = .ok (.goto 4, 3) := by decide +kernel
theorem dX4_flow_157 : decode cX4_flow 157 = .ok (.iconst 1, 1) := by decide +kernel
theorem dX4_flow_158 : decode cX4_flow 158 = .ok (.i2l, 1) := by decide +kernel
theorem dX4_flow_159 : decode cX4_flow 159 = .ok (.lmul, 1) := by decide +kernel
theorem dX4_flow_160 : decode cX4_flow 160 = .ok (.ladd, 1) := by decide +kernel
theorem dX4_flow_161 : decode cX4_flow 161 = .ok (.putfield 96, 3) := by decide +kernel
theorem dX4_flow_164 : decode cX4_flow 164 = .ok (.aload_n 0, 1) := by decide +kernel
theorem dX4_flow_165 : decode cX4_flow 165 = .ok (.invokevirtual 106, 3) := by decide +kernel
theorem dX4_flow_168 : decode cX4_flow 168 = .ok (.return_, 1) := by decide +kernel
theorem dX4_passOne_0 : decode cX4_passOne 0 = .ok (.aload_n 0, 1) := by decide +kernel
theorem dX4_passOne_1 : decode cX4_passOne 1 = .ok (.dup, 1) := by decide +kernel
theorem dX4_passOne_2 : decode cX4_passOne 2 = .ok (.getfield 128, 3) := by decide +kernel
theorem dX4_passOne_5 : decode cX4_passOne 5 = .ok (.iconst 1, 1) := by decide +kernel
theorem dX4_passOne_6 : decode cX4_passOne 6 = .ok (.iadd, 1) := by decide +kernel
theorem dX4_passOne_7 : decode cX4_passOne 7 = .ok (.putfield 128, 3) := by decide +kernel
theorem dX4_passOne_10 : decode cX4_passOne 10 = .ok (.aload_n 0, 1) := by decide +kernel
theorem dX4_passOne_11 : decode cX4_passOne 11 = .ok (.iconst 0, 1) := by decide +kernel
theorem dX4_passOne_12 : decode cX4_passOne 12 = .ok (.putfield 125, 3) := by decide +kernel
theorem dX4_passOne_15 : decode cX4_passOne 15 = .ok (.aload_n 0, 1) := by decide +kernel
theorem dX4_passOne_16 : decode cX4_passOne 16 = .ok (.getfield 96, 3) := by decide +kernel
theorem dX4_passOne_19 : decode cX4_passOne 19 = .ok (.lconst 0, 1) := by decide +kernel
theorem dX4_passOne_20 : decode cX4_passOne 20 = .ok (.lcmp, 1) := by decide +kernel
theorem dX4_passOne_21 : decode cX4_passOne 21 = .ok (.ifCond .le 8, 3) := by decide +kernel
theorem dX4_passOne_24 : decode cX4_passOne 24 = .ok (.aload_n 0, 1) := by decide +kernel
theorem dX4_passOne_25 : decode cX4_passOne 25 = .ok (.iload_n 1, 1) := by decide +kernel
theorem dX4_passOne_26 : decode cX4_passOne 26 = .ok (.invokevirtual 131, 3) := by decide +kernel
theorem dX4_passOne_29 : decode cX4_passOne 29 = .ok (.aload_n 0, 1) := by decide +kernel
theorem dX4_passOne_30 : decode cX4_passOne 30 = .ok (.getfield 70, 3) := by decide +kernel
theorem dX4_passOne_33 : decode cX4_passOne 33 = .ok (.ifCond .eq 7, 3) := by decide +kernel
theorem dX4_passOne_36 : decode cX4_passOne 36 = .ok (.aload_n 0, 1) := by decide +kernel
theorem dX4_passOne_37 : decode cX4_passOne 37 = .ok (.invokevirtual 135, 3) := by decide +kernel
theorem dX4_passOne_40 : decode cX4_passOne 40 = .ok (.aload_n 0, 1) := by decide +kernel
theorem dX4_passOne_41 : decode cX4_passOne 41 = .ok (.getfield 70, 3) := by decide +kernel
theorem dX4_passOne_44 : decode cX4_passOne 44 = .ok (.ifCond .ne 22, 3) := by decide +kernel
theorem dX4_passOne_47 : decode cX4_passOne 47 = .ok (.aload_n 0, 1) := by decide +kernel
theorem dX4_passOne_48 : decode cX4_passOne 48 = .ok (.aload_n 0, 1) := by decide +kernel
theorem dX4_passOne_49 : decode cX4_passOne 49 = .ok (.getfield 63, 3) := by decide +kernel
theorem dX4_passOne_52 : decode cX4_passOne 52 = .ok (.invokevirtual 109, 3) := by decide +kernel
theorem dX4_passOne_55 : decode cX4_passOne 55 = .ok (.aload_n 0, 1) := by decide +kernel
theorem dX4_passOne_56 : decode cX4_passOne 56 = .ok (.invokevirtual 118, 3) := by decide +kernel
theorem dX4_passOne_59 : decode cX4_passOne 59 = .ok (.if_icmp .le 7, 3) := by decide +kernel
theorem dX4_passOne_62 : decode cX4_passOne 62 = .ok (.aload_n 0, 1) := by decide +kernel
theorem dX4_passOne_63 : decode cX4_passOne 63 = .ok (.invokevirtual 138, 3) := by decide +kernel
theorem dX4_passOne_66 : decode cX4_passOne 66 = .ok (.aload_n 0, 1) := by decide +kernel
theorem dX4_passOne_67 : decode cX4_passOne 67 = .ok (.dup, 1) := by decide +kernel
theorem dX4_passOne_68 : decode cX4_passOne 68 = .ok (.getfield 141, 3) := by decide +kernel
theorem dX4_passOne_71 : decode cX4_passOne 71 = .ok (.aload_n 0, 1) := by decide +kernel
theorem dX4_passOne_72 : decode cX4_passOne 72 = .ok (.getfield 93, 3) := by decide +kernel
theorem dX4_passOne_75 : decode cX4_passOne 75 = .ok (.ifCond .le 24, 3) := by decide +kernel
theorem dX4_passOne_78 : decode cX4_passOne 78 = .ok (.aload_n 0, 1) := by decide +kernel
theorem dX4_passOne_79 : decode cX4_passOne 79 = .ok (.invokevirtual 144, 3) := by decide +kernel
theorem dX4_passOne_82 : decode cX4_passOne 82 = .ok (.aload_n 0, 1) := by decide +kernel
theorem dX4_passOne_83 : decode cX4_passOne 83 = .ok (.aload_n 0, 1) := by decide +kernel
theorem dX4_passOne_84 : decode cX4_passOne 84 = .ok (.getfield 93, 3) := by decide +kernel
theorem dX4_passOne_87 : decode cX4_passOne 87 = .ok (.invokevirtual 147, 3) := by decide +kernel
theorem dX4_passOne_90 : decode cX4_passOne 90 = .ok (.if_icmp .le 9, 3) := by decide +kernel
theorem dX4_passOne_93 : decode cX4_passOne 93 = .ok (.ldc2_w 150, 3) := by decide +kernel
theorem dX4_passOne_96 : decode cX4_passOne 96 = .ok (.goto 4, 3) := by decide +kernel
theorem dX4_passOne_99 : decode cX4_passOne 99 = .ok (.lconst 0, 1) := by decide +kernel
theorem dX4_passOne_100 : decode cX4_passOne 100 = .ok (.ladd, 1) := by decide +kernel
theorem dX4_passOne_101 : decode cX4_passOne 101 = .ok (.putfield 141, 3) := by decide +kernel
theorem dX4_passOne_104 : decode cX4_passOne 104 = .ok (.return_, 1) := by decide +kernel
theorem dX4_drill_0 : decode cX4_drill 0 = .ok (.iload_n 1, 1) := by decide +kernel
theorem dX4_drill_1 : decode cX4_drill 1 = .ok (.iconst 1, 1) := by decide +kernel
theorem dX4_drill_2 : decode cX4_drill 2 = .ok (.sipush 500, 3) := by decide +kernel
theorem dX4_drill_5 : decode cX4_drill 5 = .ok (.invokestatic 59, 3) := by decide +kernel
theorem dX4_drill_8 : decode cX4_drill 8 = .ok (.istore_n 2, 1) := by decide +kernel
theorem dX4_drill_9 : decode cX4_drill 9 = .ok (.aload_n 0, 1) := by decide +kernel
theorem dX4_drill_10 : decode cX4_drill 10 = .ok (.invokevirtual 152, 3) := by decide +kernel
theorem dX4_drill_13 : decode cX4_drill 13 = .ok (.ifCond .ne 34, 3) := by decide +kernel
theorem dX4_drill_16 : decode cX4_drill 16 = .ok (.iload_n 2, 1) := by decide +kernel
theorem dX4_drill_17 : decode cX4_drill 17 = .ok (.ifCond .eq 30, 3) := by decide +kernel
theorem dX4_drill_20 : decode cX4_drill 20 = .ok (.aload_n 0, 1) := by decide +kernel
theorem dX4_drill_21 : decode cX4_drill 21 = .ok (.getfield 63, 3) := by decide +kernel
theorem dX4_drill_24 : decode cX4_drill 24 = .ok (.iload_n 1, 1) := by decide +kernel
theorem dX4_drill_25 : decode cX4_drill 25 = .ok (.iadd, 1) := by decide +kernel
theorem dX4_drill_26 : decode cX4_drill 26 = .ok (.sipush 5000, 3) := by decide +kernel
theorem dX4_drill_29 : decode cX4_drill 29 = .ok (.if_icmp .gt 18, 3) := by decide +kernel
theorem dX4_drill_32 : decode cX4_drill 32 = .ok (.aload_n 0, 1) := by decide +kernel
theorem dX4_drill_33 : decode cX4_drill 33 = .ok (.getfield 128, 3) := by decide +kernel
theorem dX4_drill_36 : decode cX4_drill 36 = .ok (.iload_n 1, 1) := by decide +kernel
theorem dX4_drill_37 : decode cX4_drill 37 = .ok (.iadd, 1) := by decide +kernel
theorem dX4_drill_38 : decode cX4_drill 38 = .ok (.ldc 155, 2) := by decide +kernel
theorem dX4_drill_40 : decode cX4_drill 40 = .ok (.if_icmp .gt 7, 3) := by decide +kernel
theorem dX4_drill_43 : decode cX4_drill 43 = .ok (.iconst 1, 1) := by decide +kernel
theorem dX4_drill_44 : decode cX4_drill 44 = .ok (.goto 4, 3) := by decide +kernel
theorem dX4_drill_47 : decode cX4_drill 47 = .ok (.iconst 0, 1) := by decide +kernel
theorem dX4_drill_48 : decode cX4_drill 48 = .ok (.istore_n 3, 1) := by decide +kernel
theorem dX4_drill_49 : decode cX4_drill 49 = .ok (.aload_n 0, 1) := by decide +kernel
theorem dX4_drill_50 : decode cX4_drill 50 = .ok (.iload_n 2, 1) := by decide +kernel
theorem dX4_drill_51 : decode cX4_drill 51 = .ok (.ifCond .ne 7, 3) := by decide +kernel
theorem dX4_drill_54 : decode cX4_drill 54 = .ok (.iconst 1, 1) := by decide +kernel
theorem dX4_drill_55 : decode cX4_drill 55 = .ok (.goto 12, 3) := by decide +kernel
theorem dX4_drill_58 : decode cX4_drill 58 = .ok (.iload_n 3, 1) := by decide +kernel
theorem dX4_drill_59 : decode cX4_drill 59 = .ok (.ifCond .eq 7, 3) := by decide +kernel
theorem dX4_drill_62 : decode cX4_drill 62 = .ok (.iconst 0, 1) := by decide +kernel
theorem dX4_drill_63 : decode cX4_drill 63 = .ok (.goto 4, 3) := by decide +kernel
theorem dX4_drill_66 : decode cX4_drill 66 = .ok (.iconst 2, 1) := by decide +kernel
theorem dX4_drill_67 : decode cX4_drill 67 = .ok (.invokevirtual 66, 3) := by decide +kernel
theorem dX4_drill_70 : decode cX4_drill 70 = .ok (.ifCond .ne 5, 3) := by decide +kernel
theorem dX4_drill_73 : decode cX4_drill 73 = .ok (.iconst 0, 1) := by decide +kernel
theorem dX4_drill_74 : decode cX4_drill 74 = .ok (.ireturn, 1) := by decide +kernel
theorem dX4_drill_75 : decode cX4_drill 75 = .ok (.iconst 1, 1) := by decide +kernel
theorem dX4_drill_76 : decode cX4_drill 76 = .ok (.istore 4, 2) := by decide +kernel
theorem dX4_drill_78 : decode cX4_drill 78 = .ok (.iload 4, 2) := by decide +kernel
theorem dX4_drill_80 : decode cX4_drill 80 = .ok (.iload_n 1, 1) := by decide +kernel
theorem dX4_drill_81 : decode cX4_drill 81 = .ok (.if_icmp .gt 34, 3) := by decide +kernel
theorem dX4_drill_84 : decode cX4_drill 84 = .ok (.aload_n 0, 1) := by decide +kernel
theorem dX4_drill_85 : decode cX4_drill 85 = .ok (.dup, 1) := by decide +kernel
theorem dX4_drill_86 : decode cX4_drill 86 = .ok (.getfield 63, 3) := by decide +kernel
theorem dX4_drill_89 : decode cX4_drill 89 = .ok (.iconst 1, 1) := by decide +kernel
theorem dX4_drill_90 : decode cX4_drill 90 = .ok (.iadd, 1) := by decide +kernel
theorem dX4_drill_91 : decode cX4_drill 91 = .ok (.putfield 63, 3) := by decide +kernel
theorem dX4_drill_94 : decode cX4_drill 94 = .ok (.aload_n 0, 1) := by decide +kernel
theorem dX4_drill_95 : decode cX4_drill 95 = .ok (.iconst 0, 1) := by decide +kernel
theorem dX4_drill_96 : decode cX4_drill 96 = .ok (.invokevirtual 156, 3) := by decide +kernel
theorem dX4_drill_99 : decode cX4_drill 99 = .ok (.aload_n 0, 1) := by decide +kernel
theorem dX4_drill_100 : decode cX4_drill 100 = .ok (.getfield 125, 3) := by decide +kernel
theorem dX4_drill_103 : decode cX4_drill 103 = .ok (.ifCond .eq 6, 3) := by decide +kernel
theorem dX4_drill_106 : decode cX4_drill 106 = .ok (.iload 4, 2) := by decide +kernel
theorem dX4_drill_108 : decode cX4_drill 108 = .ok (.ireturn, 1) := by decide +kernel
theorem dX4_drill_109 : decode cX4_drill 109 = .ok (.iinc 4 1, 3) := by decide +kernel
theorem dX4_drill_112 : decode cX4_drill 112 = .ok (.goto (-34), 3) := by decide +kernel
theorem dX4_drill_115 : decode cX4_drill 115 = .ok (.iload_n 1, 1) := by decide +kernel
theorem dX4_drill_116 : decode cX4_drill 116 = .ok (.ireturn, 1) := by decide +kernel
theorem dX4_pass_0 : decode cX4_pass 0 = .ok (.iload_n 1, 1) := by decide +kernel
theorem dX4_pass_1 : decode cX4_pass 1 = .ok (.iconst 1, 1) := by decide +kernel
theorem dX4_pass_2 : decode cX4_pass 2 = .ok (.sipush 2000, 3) := by decide +kernel
theorem dX4_pass_5 : decode cX4_pass 5 = .ok (.invokestatic 59, 3) := by decide +kernel
theorem dX4_pass_8 : decode cX4_pass 8 = .ok (.istore_n 2, 1) := by decide +kernel
theorem dX4_pass_9 : decode cX4_pass 9 = .ok (.aload_n 0, 1) := by decide +kernel
theorem dX4_pass_10 : decode cX4_pass 10 = .ok (.iload_n 2, 1) := by decide +kernel
theorem dX4_pass_11 : decode cX4_pass 11 = .ok (.ifCond .ne 7, 3) := by decide +kernel
theorem dX4_pass_14 : decode cX4_pass 14 = .ok (.iconst 1, 1) := by decide +kernel
theorem dX4_pass_15 : decode cX4_pass 15 = .ok (.goto 19, 3) := by decide +kernel
theorem dX4_pass_18 : decode cX4_pass 18 = .ok (.aload_n 0, 1) := by decide +kernel
theorem dX4_pass_19 : decode cX4_pass 19 = .ok (.getfield 128, 3) := by decide +kernel
theorem dX4_pass_22 : decode cX4_pass 22 = .ok (.iload_n 1, 1) := by decide +kernel
theorem dX4_pass_23 : decode cX4_pass 23 = .ok (.iadd, 1) := by decide +kernel
theorem dX4_pass_24 : decode cX4_pass 24 = .ok (.ldc 155, 2) := by decide +kernel
theorem dX4_pass_26 : decode cX4_pass 26 = .ok (.if_icmp .le 7, 3) := by decide +kernel
theorem dX4_pass_29 : decode cX4_pass 29 = .ok (.iconst 2, 1) := by decide +kernel
theorem dX4_pass_30 : decode cX4_pass 30 = .ok (.goto 4, 3) := by decide +kernel
theorem dX4_pass_33 : decode cX4_pass 33 = .ok (.iconst 0, 1) := by decide +kernel
theorem dX4_pass_34 : decode cX4_pass 34 = .ok (.invokevirtual 66, 3) := by decide +kernel
theorem dX4_pass_37 : decode cX4_pass 37 = .ok (.ifCond .ne 5, 3) := by decide +kernel
theorem dX4_pass_40 : decode cX4_pass 40 = .ok (.iconst 0, 1) := by decide +kernel
theorem dX4_pass_41 : decode cX4_pass 41 = .ok (.ireturn, 1) := by decide +kernel
theorem dX4_pass_42 : decode cX4_pass 42 = .ok (.iconst 0, 1) := by decide +kernel
theorem dX4_pass_43 : decode cX4_pass 43 = .ok (.istore_n 3, 1) := by decide +kernel
theorem dX4_pass_44 : decode cX4_pass 44 = .ok (.iload_n 3, 1) := by decide +kernel
theorem dX4_pass_45 : decode cX4_pass 45 = .ok (.iload_n 1, 1) := by decide +kernel
theorem dX4_pass_46 : decode cX4_pass 46 = .ok (.if_icmp .ge 14, 3) := by decide +kernel
theorem dX4_pass_49 : decode cX4_pass 49 = .ok (.aload_n 0, 1) := by decide +kernel
theorem dX4_pass_50 : decode cX4_pass 50 = .ok (.iconst 0, 1) := by decide +kernel
theorem dX4_pass_51 : decode cX4_pass 51 = .ok (.invokevirtual 156, 3) := by decide +kernel
theorem dX4_pass_54 : decode cX4_pass 54 = .ok (.iinc 3 1, 3) := by decide +kernel
theorem dX4_pass_57 : decode cX4_pass 57 = .ok (.goto (-13), 3) := by decide +kernel
theorem dX4_pass_60 : decode cX4_pass 60 = .ok (.aload_n 0, 1) := by decide +kernel
theorem dX4_pass_61 : decode cX4_pass 61 = .ok (.getfield 77, 3) := by decide +kernel
theorem dX4_pass_64 : decode cX4_pass 64 = .ok (.aload_n 0, 1) := by decide +kernel
theorem dX4_pass_65 : decode cX4_pass 65 = .ok (.getfield 80, 3) := by decide +kernel
theorem dX4_pass_68 : decode cX4_pass 68 = .ok (.iadd, 1) := by decide +kernel
theorem dX4_pass_69 : decode cX4_pass 69 = .ok (.ireturn, 1) := by decide +kernel
theorem dX4_close_0 : decode cX4_close 0 = .ok (.aload_n 0, 1) := by decide +kernel
theorem dX4_close_1 : decode cX4_close 1 = .ok (.aload_n 0, 1) := by decide +kernel
theorem dX4_close_2 : decode cX4_close 2 = .ok (.getfield 70, 3) := by decide +kernel
theorem dX4_close_5 : decode cX4_close 5 = .ok (.ifCond .eq 7, 3) := by decide +kernel
theorem dX4_close_8 : decode cX4_close 8 = .ok (.iconst 1, 1) := by decide +kernel
theorem dX4_close_9 : decode cX4_close 9 = .ok (.goto 4, 3) := by decide +kernel
theorem dX4_close_12 : decode cX4_close 12 = .ok (.iconst 0, 1) := by decide +kernel
theorem dX4_close_13 : decode cX4_close 13 = .ok (.invokevirtual 66, 3) := by decide +kernel
theorem dX4_close_16 : decode cX4_close 16 = .ok (.ifCond .eq 13, 3) := by decide +kernel
theorem dX4_close_19 : decode cX4_close 19 = .ok (.aload_n 0, 1) := by decide +kernel
theorem dX4_close_20 : decode cX4_close 20 = .ok (.iconst 1, 1) := by decide +kernel
theorem dX4_close_21 : decode cX4_close 21 = .ok (.putfield 70, 3) := by decide +kernel
theorem dX4_close_24 : decode cX4_close 24 = .ok (.aload_n 0, 1) := by decide +kernel
theorem dX4_close_25 : decode cX4_close 25 = .ok (.iconst 0, 1) := by decide +kernel
theorem dX4_close_26 : decode cX4_close 26 = .ok (.putfield 87, 3) := by decide +kernel
theorem dX4_close_29 : decode cX4_close 29 = .ok (.return_, 1) := by decide +kernel
theorem dX4_open_0 : decode cX4_open 0 = .ok (.aload_n 0, 1) := by decide +kernel
theorem dX4_open_1 : decode cX4_open 1 = .ok (.aload_n 0, 1) := by decide +kernel
theorem dX4_open_2 : decode cX4_open 2 = .ok (.getfield 70, 3) := by decide +kernel
theorem dX4_open_5 : decode cX4_open 5 = .ok (.ifCond .eq 7, 3) := by decide +kernel
theorem dX4_open_8 : decode cX4_open 8 = .ok (.iconst 0, 1) := by decide +kernel
theorem dX4_open_9 : decode cX4_open 9 = .ok (.goto 4, 3) := by decide +kernel
theorem dX4_open_12 : decode cX4_open 12 = .ok (.iconst 1, 1) := by decide +kernel
theorem dX4_open_13 : decode cX4_open 13 = .ok (.invokevirtual 66, 3) := by decide +kernel
theorem dX4_open_16 : decode cX4_open 16 = .ok (.ifCond .ne 5, 3) := by decide +kernel
theorem dX4_open_19 : decode cX4_open 19 = .ok (.iconst 0, 1) := by decide +kernel
theorem dX4_open_20 : decode cX4_open 20 = .ok (.ireturn, 1) := by decide +kernel
theorem dX4_open_21 : decode cX4_open 21 = .ok (.aload_n 0, 1) := by decide +kernel
theorem dX4_open_22 : decode cX4_open 22 = .ok (.getfield 87, 3) := by decide +kernel
theorem dX4_open_25 : decode cX4_open 25 = .ok (.istore_n 1, 1) := by decide +kernel
theorem dX4_open_26 : decode cX4_open 26 = .ok (.aload_n 0, 1) := by decide +kernel
theorem dX4_open_27 : decode cX4_open 27 = .ok (.iconst 0, 1) := by decide +kernel
theorem dX4_open_28 : decode cX4_open 28 = .ok (.putfield 70, 3) := by decide +kernel
theorem dX4_open_31 : decode cX4_open 31 = .ok (.aload_n 0, 1) := by decide +kernel
theorem dX4_open_32 : decode cX4_open 32 = .ok (.iconst 0, 1) := by decide +kernel
theorem dX4_open_33 : decode cX4_open 33 = .ok (.putfield 87, 3) := by decide +kernel
theorem dX4_open_36 : decode cX4_open 36 = .ok (.iload_n 1, 1) := by decide +kernel
theorem dX4_open_37 : decode cX4_open 37 = .ok (.ireturn, 1) := by decide +kernel
theorem dX4_pump_0 : decode cX4_pump 0 = .ok (.iload_n 1, 1) := by decide +kernel
theorem dX4_pump_1 : decode cX4_pump 1 = .ok (.iconst 1, 1) := by decide +kernel
theorem dX4_pump_2 : decode cX4_pump 2 = .ok (.sipush 500, 3) := by decide +kernel
theorem dX4_pump_5 : decode cX4_pump 5 = .ok (.invokestatic 59, 3) := by decide +kernel
theorem dX4_pump_8 : decode cX4_pump 8 = .ok (.ifCond .eq 18, 3) := by decide +kernel
theorem dX4_pump_11 : decode cX4_pump 11 = .ok (.iload_n 2, 1) := by decide +kernel
theorem dX4_pump_12 : decode cX4_pump 12 = .ok (.iconst 0, 1) := by decide +kernel
theorem dX4_pump_13 : decode cX4_pump 13 = .ok (.sipush 300, 3) := by decide +kernel
theorem dX4_pump_16 : decode cX4_pump 16 = .ok (.invokestatic 59, 3) := by decide +kernel
theorem dX4_pump_19 : decode cX4_pump 19 = .ok (.ifCond .eq 7, 3) := by decide +kernel
theorem dX4_pump_22 : decode cX4_pump 22 = .ok (.iconst 1, 1) := by decide +kernel
theorem dX4_pump_23 : decode cX4_pump 23 = .ok (.goto 4, 3) := by decide +kernel
theorem dX4_pump_26 : decode cX4_pump 26 = .ok (.iconst 0, 1) := by decide +kernel
theorem dX4_pump_27 : decode cX4_pump 27 = .ok (.istore_n 3, 1) := by decide +kernel
theorem dX4_pump_28 : decode cX4_pump 28 = .ok (.aload_n 0, 1) := by decide +kernel
theorem dX4_pump_29 : decode cX4_pump 29 = .ok (.getfield 70, 3) := by decide +kernel
theorem dX4_pump_32 : decode cX4_pump 32 = .ok (.ifCond .eq 25, 3) := by decide +kernel
theorem dX4_pump_35 : decode cX4_pump 35 = .ok (.aload_n 0, 1) := by decide +kernel
theorem dX4_pump_36 : decode cX4_pump 36 = .ok (.getfield 63, 3) := by decide +kernel
theorem dX4_pump_39 : decode cX4_pump 39 = .ok (.ifCond .le 18, 3) := by decide +kernel
theorem dX4_pump_42 : decode cX4_pump 42 = .ok (.aload_n 0, 1) := by decide +kernel
theorem dX4_pump_43 : decode cX4_pump 43 = .ok (.getfield 128, 3) := by decide +kernel
theorem dX4_pump_46 : decode cX4_pump 46 = .ok (.iload_n 1, 1) := by decide +kernel
theorem dX4_pump_47 : decode cX4_pump 47 = .ok (.iadd, 1) := by decide +kernel
theorem dX4_pump_48 : decode cX4_pump 48 = .ok (.ldc 155, 2) := by decide +kernel
theorem dX4_pump_50 : decode cX4_pump 50 = .ok (.if_icmp .gt 7, 3) := by decide +kernel
theorem dX4_pump_53 : decode cX4_pump 53 = .ok (.iconst 1, 1) := by decide +kernel
theorem dX4_pump_54 : decode cX4_pump 54 = .ok (.goto 4, 3) := by decide +kernel
theorem dX4_pump_57 : decode cX4_pump 57 = .ok (.iconst 0, 1) := by decide +kernel
theorem dX4_pump_58 : decode cX4_pump 58 = .ok (.istore 4, 2) := by decide +kernel
theorem dX4_pump_60 : decode cX4_pump 60 = .ok (.aload_n 0, 1) := by decide +kernel
theorem dX4_pump_61 : decode cX4_pump 61 = .ok (.iload_n 3, 1) := by decide +kernel
theorem dX4_pump_62 : decode cX4_pump 62 = .ok (.ifCond .ne 7, 3) := by decide +kernel
theorem dX4_pump_65 : decode cX4_pump 65 = .ok (.iconst 1, 1) := by decide +kernel
theorem dX4_pump_66 : decode cX4_pump 66 = .ok (.goto 13, 3) := by decide +kernel
theorem dX4_pump_69 : decode cX4_pump 69 = .ok (.iload 4, 2) := by decide +kernel
theorem dX4_pump_71 : decode cX4_pump 71 = .ok (.ifCond .eq 7, 3) := by decide +kernel
theorem dX4_pump_74 : decode cX4_pump 74 = .ok (.iconst 0, 1) := by decide +kernel
theorem dX4_pump_75 : decode cX4_pump 75 = .ok (.goto 4, 3) := by decide +kernel
theorem dX4_pump_78 : decode cX4_pump 78 = .ok (.iconst 2, 1) := by decide +kernel
theorem dX4_pump_79 : decode cX4_pump 79 = .ok (.invokevirtual 66, 3) := by decide +kernel
theorem dX4_pump_82 : decode cX4_pump 82 = .ok (.ifCond .ne 5, 3) := by decide +kernel
theorem dX4_pump_85 : decode cX4_pump 85 = .ok (.iconst 0, 1) := by decide +kernel
theorem dX4_pump_86 : decode cX4_pump 86 = .ok (.ireturn, 1) := by decide +kernel
theorem dX4_pump_87 : decode cX4_pump 87 = .ok (.aload_n 0, 1) := by decide +kernel
theorem dX4_pump_88 : decode cX4_pump 88 = .ok (.iload_n 2, 1) := by decide +kernel
theorem dX4_pump_89 : decode cX4_pump 89 = .ok (.aload_n 0, 1) := by decide +kernel
theorem dX4_pump_90 : decode cX4_pump 90 = .ok (.getfield 27, 3) := by decide +kernel
theorem dX4_pump_93 : decode cX4_pump 93 = .ok (.if_icmp .ne 10, 3) := by decide +kernel
theorem dX4_pump_96 : decode cX4_pump 96 = .ok (.aload_n 0, 1) := by decide +kernel
theorem dX4_pump_97 : decode cX4_pump 97 = .ok (.getfield 74, 3) := by decide +kernel
theorem dX4_pump_100 : decode cX4_pump 100 = .ok (.goto 4, 3) := by decide +kernel
theorem dX4_pump_103 : decode cX4_pump 103 = .ok (.iconst 0, 1) := by decide +kernel
theorem dX4_pump_104 : decode cX4_pump 104 = .ok (.putfield 74, 3) := by decide +kernel
theorem dX4_pump_107 : decode cX4_pump 107 = .ok (.aload_n 0, 1) := by decide +kernel
theorem dX4_pump_108 : decode cX4_pump 108 = .ok (.iload_n 2, 1) := by decide +kernel
theorem dX4_pump_109 : decode cX4_pump 109 = .ok (.putfield 27, 3) := by decide +kernel
theorem dX4_pump_112 : decode cX4_pump 112 = .ok (.iconst 1, 1) := by decide +kernel
theorem dX4_pump_113 : decode cX4_pump 113 = .ok (.istore 5, 2) := by decide +kernel
theorem dX4_pump_115 : decode cX4_pump 115 = .ok (.iload 5, 2) := by decide +kernel
theorem dX4_pump_117 : decode cX4_pump 117 = .ok (.iload_n 1, 1) := by decide +kernel
theorem dX4_pump_118 : decode cX4_pump 118 = .ok (.if_icmp .gt 61, 3) := by decide +kernel
theorem dX4_pump_121 : decode cX4_pump 121 = .ok (.aload_n 0, 1) := by decide +kernel
theorem dX4_pump_122 : decode cX4_pump 122 = .ok (.iconst 1, 1) := by decide +kernel
theorem dX4_pump_123 : decode cX4_pump 123 = .ok (.invokevirtual 156, 3) := by decide +kernel
theorem dX4_pump_126 : decode cX4_pump 126 = .ok (.aload_n 0, 1) := by decide +kernel
theorem dX4_pump_127 : decode cX4_pump 127 = .ok (.getfield 70, 3) := by decide +kernel
theorem dX4_pump_130 : decode cX4_pump 130 = .ok (.ifCond .ne 6, 3) := by decide +kernel
theorem dX4_pump_133 : decode cX4_pump 133 = .ok (.iload 5, 2) := by decide +kernel
theorem dX4_pump_135 : decode cX4_pump 135 = .ok (.ireturn, 1) := by decide +kernel
theorem dX4_pump_136 : decode cX4_pump 136 = .ok (.aload_n 0, 1) := by decide +kernel
theorem dX4_pump_137 : decode cX4_pump 137 = .ok (.dup, 1) := by decide +kernel
theorem dX4_pump_138 : decode cX4_pump 138 = .ok (.getfield 74, 3) := by decide +kernel
theorem dX4_pump_141 : decode cX4_pump 141 = .ok (.bipush 20, 2) := by decide +kernel
theorem dX4_pump_143 : decode cX4_pump 143 = .ok (.iadd, 1) := by decide +kernel
theorem dX4_pump_144 : decode cX4_pump 144 = .ok (.putfield 74, 3) := by decide +kernel
theorem dX4_pump_147 : decode cX4_pump 147 = .ok (.aload_n 0, 1) := by decide +kernel
theorem dX4_pump_148 : decode cX4_pump 148 = .ok (.getfield 74, 3) := by decide +kernel
theorem dX4_pump_151 : decode cX4_pump 151 = .ok (.aload_n 0, 1) := by decide +kernel
theorem dX4_pump_152 : decode cX4_pump 152 = .ok (.getfield 63, 3) := by decide +kernel
theorem dX4_pump_155 : decode cX4_pump 155 = .ok (.if_icmp .lt 18, 3) := by decide +kernel
theorem dX4_pump_158 : decode cX4_pump 158 = .ok (.aload_n 0, 1) := by decide +kernel
theorem dX4_pump_159 : decode cX4_pump 159 = .ok (.iload_n 2, 1) := by decide +kernel
theorem dX4_pump_160 : decode cX4_pump 160 = .ok (.putfield 23, 3) := by decide +kernel
theorem dX4_pump_163 : decode cX4_pump 163 = .ok (.aload_n 0, 1) := by decide +kernel
theorem dX4_pump_164 : decode cX4_pump 164 = .ok (.iconst 0, 1) := by decide +kernel
theorem dX4_pump_165 : decode cX4_pump 165 = .ok (.putfield 80, 3) := by decide +kernel
theorem dX4_pump_168 : decode cX4_pump 168 = .ok (.aload_n 0, 1) := by decide +kernel
theorem dX4_pump_169 : decode cX4_pump 169 = .ok (.iconst 0, 1) := by decide +kernel
theorem dX4_pump_170 : decode cX4_pump 170 = .ok (.putfield 74, 3) := by decide +kernel
theorem dX4_pump_173 : decode cX4_pump 173 = .ok (.iinc 5 1, 3) := by decide +kernel
theorem dX4_pump_176 : decode cX4_pump 176 = .ok (.goto (-61), 3) := by decide +kernel
theorem dX4_pump_179 : decode cX4_pump 179 = .ok (.iload_n 1, 1) := by decide +kernel
theorem dX4_pump_180 : decode cX4_pump 180 = .ok (.ireturn, 1) := by decide +kernel
theorem dX4_casing_0 : decode cX4_casing 0 = .ok (.iload_n 1, 1) := by decide +kernel
theorem dX4_casing_1 : decode cX4_casing 1 = .ok (.iconst 0, 1) := by decide +kernel
theorem dX4_casing_2 : decode cX4_casing 2 = .ok (.sipush 1000, 3) := by decide +kernel
theorem dX4_casing_5 : decode cX4_casing 5 = .ok (.invokestatic 59, 3) := by decide +kernel
theorem dX4_casing_8 : decode cX4_casing 8 = .ok (.istore_n 2, 1) := by decide +kernel
theorem dX4_casing_9 : decode cX4_casing 9 = .ok (.aload_n 0, 1) := by decide +kernel
theorem dX4_casing_10 : decode cX4_casing 10 = .ok (.getfield 63, 3) := by decide +kernel
theorem dX4_casing_13 : decode cX4_casing 13 = .ok (.aload_n 0, 1) := by decide +kernel
theorem dX4_casing_14 : decode cX4_casing 14 = .ok (.getfield 93, 3) := by decide +kernel
theorem dX4_casing_17 : decode cX4_casing 17 = .ok (.if_icmp .eq 23, 3) := by decide +kernel
theorem dX4_casing_20 : decode cX4_casing 20 = .ok (.aload_n 0, 1) := by decide +kernel
theorem dX4_casing_21 : decode cX4_casing 21 = .ok (.getfield 96, 3) := by decide +kernel
theorem dX4_casing_24 : decode cX4_casing 24 = .ok (.lconst 0, 1) := by decide +kernel
theorem dX4_casing_25 : decode cX4_casing 25 = .ok (.lcmp, 1) := by decide +kernel
theorem dX4_casing_26 : decode cX4_casing 26 = .ok (.ifCond .ne 14, 3) := by decide +kernel
theorem dX4_casing_29 : decode cX4_casing 29 = .ok (.aload_n 0, 1) := by decide +kernel
theorem dX4_casing_30 : decode cX4_casing 30 = .ok (.getfield 80, 3) := by decide +kernel
theorem dX4_casing_33 : decode cX4_casing 33 = .ok (.ifCond .ne 7, 3) := by decide +kernel
theorem dX4_casing_36 : decode cX4_casing 36 = .ok (.iconst 1, 1) := by decide +kernel
theorem dX4_casing_37 : decode cX4_casing 37 = .ok (.goto 4, 3) := by decide +kernel
theorem dX4_casing_40 : decode cX4_casing 40 = .ok (.iconst 0, 1) := by decide +kernel
theorem dX4_casing_41 : decode cX4_casing 41 = .ok (.istore_n 3, 1) := by decide +kernel
theorem dX4_casing_42 : decode cX4_casing 42 = .ok (.aload_n 0, 1) := by decide +kernel
theorem dX4_casing_43 : decode cX4_casing 43 = .ok (.iload_n 2, 1) := by decide +kernel
theorem dX4_casing_44 : decode cX4_casing 44 = .ok (.ifCond .ne 7, 3) := by decide +kernel
theorem dX4_casing_47 : decode cX4_casing 47 = .ok (.iconst 1, 1) := by decide +kernel
theorem dX4_casing_48 : decode cX4_casing 48 = .ok (.goto 12, 3) := by decide +kernel
theorem dX4_casing_51 : decode cX4_casing 51 = .ok (.iload_n 3, 1) := by decide +kernel
theorem dX4_casing_52 : decode cX4_casing 52 = .ok (.ifCond .eq 7, 3) := by decide +kernel
theorem dX4_casing_55 : decode cX4_casing 55 = .ok (.iconst 0, 1) := by decide +kernel
theorem dX4_casing_56 : decode cX4_casing 56 = .ok (.goto 4, 3) := by decide +kernel
theorem dX4_casing_59 : decode cX4_casing 59 = .ok (.iconst 2, 1) := by decide +kernel
theorem dX4_casing_60 : decode cX4_casing 60 = .ok (.invokevirtual 66, 3) := by decide +kernel
theorem dX4_casing_63 : decode cX4_casing 63 = .ok (.ifCond .ne 5, 3) := by decide +kernel
theorem dX4_casing_66 : decode cX4_casing 66 = .ok (.iconst 0, 1) := by decide +kernel
theorem dX4_casing_67 : decode cX4_casing 67 = .ok (.ireturn, 1) := by decide +kernel
theorem dX4_casing_68 : decode cX4_casing 68 = .ok (.aload_n 0, 1) := by decide +kernel
theorem dX4_casing_69 : decode cX4_casing 69 = .ok (.sipush 1000, 3) := by decide +kernel
theorem dX4_casing_72 : decode cX4_casing 72 = .ok (.iload_n 1, 1) := by decide +kernel
theorem dX4_casing_73 : decode cX4_casing 73 = .ok (.imul, 1) := by decide +kernel
theorem dX4_casing_74 : decode cX4_casing 74 = .ok (.aload_n 0, 1) := by decide +kernel
theorem dX4_casing_75 : decode cX4_casing 75 = .ok (.getfield 63, 3) := by decide +kernel
theorem dX4_casing_78 : decode cX4_casing 78 = .ok (.aload_n 0, 1) := by decide +kernel
theorem dX4_casing_79 : decode cX4_casing 79 = .ok (.getfield 93, 3) := by decide +kernel
theorem dX4_casing_82 : decode cX4_casing 82 = .ok (.isub, 1) := by decide +kernel
theorem dX4_casing_83 : decode cX4_casing 83 = .ok (.idiv, 1) := by decide +kernel
theorem dX4_casing_84 : decode cX4_casing 84 = .ok (.putfield 159, 3) := by decide +kernel
theorem dX4_casing_87 : decode cX4_casing 87 = .ok (.aload_n 0, 1) := by decide +kernel
theorem dX4_casing_88 : decode cX4_casing 88 = .ok (.aload_n 0, 1) := by decide +kernel
theorem dX4_casing_89 : decode cX4_casing 89 = .ok (.getfield 63, 3) := by decide +kernel
theorem dX4_casing_92 : decode cX4_casing 92 = .ok (.putfield 93, 3) := by decide +kernel
theorem dX4_casing_95 : decode cX4_casing 95 = .ok (.aload_n 0, 1) := by decide +kernel
theorem dX4_casing_96 : decode cX4_casing 96 = .ok (.aload_n 0, 1) := by decide +kernel
theorem dX4_casing_97 : decode cX4_casing 97 = .ok (.getfield 112, 3) := by decide +kernel
theorem dX4_casing_100 : decode cX4_casing 100 = .ok (.putfield 162, 3) := by decide +kernel
theorem dX4_casing_103 : decode cX4_casing 103 = .ok (.aload_n 0, 1) := by decide +kernel
theorem dX4_casing_104 : decode cX4_casing 104 = .ok (.getfield 159, 3) := by decide +kernel
theorem dX4_casing_107 : decode cX4_casing 107 = .ok (.ireturn, 1) := by decide +kernel
theorem dX4_strength_0 : decode cX4_strength 0 = .ok (.aload_n 0, 1) := by decide +kernel
theorem dX4_strength_1 : decode cX4_strength 1 = .ok (.iload_n 1, 1) := by decide +kernel
theorem dX4_strength_2 : decode cX4_strength 2 = .ok (.iconst 0, 1) := by decide +kernel
theorem dX4_strength_3 : decode cX4_strength 3 = .ok (.ldc 155, 2) := by decide +kernel
theorem dX4_strength_5 : decode cX4_strength 5 = .ok (.invokestatic 59, 3) := by decide +kernel
theorem dX4_strength_8 : decode cX4_strength 8 = .ok (.ifCond .eq 7, 3) := by decide +kernel
theorem dX4_strength_11 : decode cX4_strength 11 = .ok (.iconst 0, 1) := by decide +kernel
theorem dX4_strength_12 : decode cX4_strength 12 = .ok (.goto 4, 3) := by decide +kernel
theorem dX4_strength_15 : decode cX4_strength 15 = .ok (.iconst 1, 1) := by decide +kernel
theorem dX4_strength_16 : decode cX4_strength 16 = .ok (.invokevirtual 66, 3) := by decide +kernel
theorem dX4_strength_19 : decode cX4_strength 19 = .ok (.ifCond .ne 5, 3) := by decide +kernel
theorem dX4_strength_22 : decode cX4_strength 22 = .ok (.iconst 0, 1) := by decide +kernel
theorem dX4_strength_23 : decode cX4_strength 23 = .ok (.ireturn, 1) := by decide +kernel
theorem dX4_strength_24 : decode cX4_strength 24 = .ok (.aload_n 0, 1) := by decide +kernel
theorem dX4_strength_25 : decode cX4_strength 25 = .ok (.getfield 30, 3) := by decide +kernel
theorem dX4_strength_28 : decode cX4_strength 28 = .ok (.istore_n 2, 1) := by decide +kernel
theorem dX4_strength_29 : decode cX4_strength 29 = .ok (.aload_n 0, 1) := by decide +kernel
theorem dX4_strength_30 : decode cX4_strength 30 = .ok (.iload_n 1, 1) := by decide +kernel
theorem dX4_strength_31 : decode cX4_strength 31 = .ok (.putfield 30, 3) := by decide +kernel
theorem dX4_strength_34 : decode cX4_strength 34 = .ok (.iload_n 2, 1) := by decide +kernel
theorem dX4_strength_35 : decode cX4_strength 35 = .ok (.ireturn, 1) := by decide +kernel
theorem dX4_test_0 : decode cX4_test 0 = .ok (.iload_n 1, 1) := by decide +kernel
theorem dX4_test_1 : decode cX4_test 1 = .ok (.iconst 0, 1) := by decide +kernel
theorem dX4_test_2 : decode cX4_test 2 = .ok (.iconst 1, 1) := by decide +kernel
theorem dX4_test_3 : decode cX4_test 3 = .ok (.invokestatic 59, 3) := by decide +kernel
theorem dX4_test_6 : decode cX4_test 6 = .ok (.ifCond .eq 19, 3) := by decide +kernel
theorem dX4_test_9 : decode cX4_test 9 = .ok (.iload_n 2, 1) := by decide +kernel
theorem dX4_test_10 : decode cX4_test 10 = .ok (.sipush 1000, 3) := by decide +kernel
theorem dX4_test_13 : decode cX4_test 13 = .ok (.ldc 155, 2) := by decide +kernel
theorem dX4_test_15 : decode cX4_test 15 = .ok (.invokestatic 59, 3) := by decide +kernel
theorem dX4_test_18 : decode cX4_test 18 = .ok (.ifCond .eq 7, 3) := by decide +kernel
theorem dX4_test_21 : decode cX4_test 21 = .ok (.iconst 1, 1) := by decide +kernel
theorem dX4_test_22 : decode cX4_test 22 = .ok (.goto 4, 3) := by decide +kernel
theorem dX4_test_25 : decode cX4_test 25 = .ok (.iconst 0, 1) := by decide +kernel
theorem dX4_test_26 : decode cX4_test 26 = .ok (.istore_n 3, 1) := by decide +kernel
theorem dX4_test_27 : decode cX4_test 27 = .ok (.aload_n 0, 1) := by decide +kernel
theorem dX4_test_28 : decode cX4_test 28 = .ok (.getfield 70, 3) := by decide +kernel
theorem dX4_test_31 : decode cX4_test 31 = .ok (.ifCond .ne 27, 3) := by decide +kernel
theorem dX4_test_34 : decode cX4_test 34 = .ok (.aload_n 0, 1) := by decide +kernel
theorem dX4_test_35 : decode cX4_test 35 = .ok (.getfield 112, 3) := by decide +kernel
theorem dX4_test_38 : decode cX4_test 38 = .ok (.bipush 60, 2) := by decide +kernel
theorem dX4_test_40 : decode cX4_test 40 = .ok (.if_icmp .ge 18, 3) := by decide +kernel
theorem dX4_test_43 : decode cX4_test 43 = .ok (.iload_n 1, 1) := by decide +kernel
theorem dX4_test_44 : decode cX4_test 44 = .ok (.ifCond .eq 10, 3) := by decide +kernel
theorem dX4_test_47 : decode cX4_test 47 = .ok (.aload_n 0, 1) := by decide +kernel
theorem dX4_test_48 : decode cX4_test 48 = .ok (.getfield 93, 3) := by decide +kernel
theorem dX4_test_51 : decode cX4_test 51 = .ok (.ifCond .le 7, 3) := by decide +kernel
theorem dX4_test_54 : decode cX4_test 54 = .ok (.iconst 1, 1) := by decide +kernel
theorem dX4_test_55 : decode cX4_test 55 = .ok (.goto 4, 3) := by decide +kernel
theorem dX4_test_58 : decode cX4_test 58 = .ok (.iconst 0, 1) := by decide +kernel
theorem dX4_test_59 : decode cX4_test 59 = .ok (.istore 4, 2) := by decide +kernel
theorem dX4_test_61 : decode cX4_test 61 = .ok (.aload_n 0, 1) := by decide +kernel
theorem dX4_test_62 : decode cX4_test 62 = .ok (.iload_n 3, 1) := by decide +kernel
theorem dX4_test_63 : decode cX4_test 63 = .ok (.ifCond .ne 7, 3) := by decide +kernel
theorem dX4_test_66 : decode cX4_test 66 = .ok (.iconst 1, 1) := by decide +kernel
theorem dX4_test_67 : decode cX4_test 67 = .ok (.goto 13, 3) := by decide +kernel
theorem dX4_test_70 : decode cX4_test 70 = .ok (.iload 4, 2) := by decide +kernel
theorem dX4_test_72 : decode cX4_test 72 = .ok (.ifCond .eq 7, 3) := by decide +kernel
theorem dX4_test_75 : decode cX4_test 75 = .ok (.iconst 0, 1) := by decide +kernel
theorem dX4_test_76 : decode cX4_test 76 = .ok (.goto 4, 3) := by decide +kernel
theorem dX4_test_79 : decode cX4_test 79 = .ok (.iconst 2, 1) := by decide +kernel
theorem dX4_test_80 : decode cX4_test 80 = .ok (.invokevirtual 66, 3) := by decide +kernel
theorem dX4_test_83 : decode cX4_test 83 = .ok (.ifCond .ne 5, 3) := by decide +kernel
theorem dX4_test_86 : decode cX4_test 86 = .ok (.iconst 0, 1) := by decide +kernel
theorem dX4_test_87 : decode cX4_test 87 = .ok (.ireturn, 1) := by decide +kernel
theorem dX4_test_88 : decode cX4_test 88 = .ok (.aload_n 0, 1) := by decide +kernel
theorem dX4_test_89 : decode cX4_test 89 = .ok (.getfield 37, 3) := by decide +kernel
theorem dX4_test_92 : decode cX4_test 92 = .ok (.aload_n 0, 1) := by decide +kernel
theorem dX4_test_93 : decode cX4_test 93 = .ok (.getfield 112, 3) := by decide +kernel
theorem dX4_test_96 : decode cX4_test 96 = .ok (.iload_n 1, 1) := by decide +kernel
theorem dX4_test_97 : decode cX4_test 97 = .ok (.iastore, 1) := by decide +kernel
theorem dX4_test_98 : decode cX4_test 98 = .ok (.aload_n 0, 1) := by decide +kernel
theorem dX4_test_99 : decode cX4_test 99 = .ok (.getfield 40, 3) := by decide +kernel
theorem dX4_test_102 : decode cX4_test 102 = .ok (.aload_n 0, 1) := by decide +kernel
theorem dX4_test_103 : decode cX4_test 103 = .ok (.getfield 112, 3) := by decide +kernel
theorem dX4_test_106 : decode cX4_test 106 = .ok (.iload_n 2, 1) := by decide +kernel
theorem dX4_test_107 : decode cX4_test 107 = .ok (.iastore, 1) := by decide +kernel
theorem dX4_test_108 : decode cX4_test 108 = .ok (.aload_n 0, 1) := by decide +kernel
theorem dX4_test_109 : decode cX4_test 109 = .ok (.getfield 43, 3) := by decide +kernel
theorem dX4_test_112 : decode cX4_test 112 = .ok (.aload_n 0, 1) := by decide +kernel
theorem dX4_test_113 : decode cX4_test 113 = .ok (.getfield 112, 3) := by decide +kernel
theorem dX4_test_116 : decode cX4_test 116 = .ok (.iload_n 2, 1) := by decide +kernel
theorem dX4_test_117 : decode cX4_test 117 = .ok (.iload_n 1, 1) := by decide +kernel
theorem dX4_test_118 : decode cX4_test 118 = .ok (.ifCond .ne 10, 3) := by decide +kernel
theorem dX4_test_121 : decode cX4_test 121 = .ok (.aload_n 0, 1) := by decide +kernel
theorem dX4_test_122 : decode cX4_test 122 = .ok (.getfield 30, 3) := by decide +kernel
theorem dX4_test_125 : decode cX4_test 125 = .ok (.goto 7, 3) := by decide +kernel
theorem dX4_test_128 : decode cX4_test 128 = .ok (.aload_n 0, 1) := by decide +kernel
theorem dX4_test_129 : decode cX4_test 129 = .ok (.getfield 159, 3) := by decide +kernel
theorem dX4_test_132 : decode cX4_test 132 = .ok (.if_icmp .gt 7, 3) := by decide +kernel
theorem dX4_test_135 : decode cX4_test 135 = .ok (.iconst 1, 1) := by decide +kernel
theorem dX4_test_136 : decode cX4_test 136 = .ok (.goto 4, 3) := by decide +kernel
theorem dX4_test_139 : decode cX4_test 139 = .ok (.iconst 0, 1) := by decide +kernel
theorem dX4_test_140 : decode cX4_test 140 = .ok (.bastore, 1) := by decide +kernel
theorem dX4_test_141 : decode cX4_test 141 = .ok (.aload_n 0, 1) := by decide +kernel
theorem dX4_test_142 : decode cX4_test 142 = .ok (.getfield 46, 3) := by decide +kernel
theorem dX4_test_145 : decode cX4_test 145 = .ok (.aload_n 0, 1) := by decide +kernel
theorem dX4_test_146 : decode cX4_test 146 = .ok (.getfield 112, 3) := by decide +kernel
theorem dX4_test_149 : decode cX4_test 149 = .ok (.aload_n 0, 1) := by decide +kernel
theorem dX4_test_150 : decode cX4_test 150 = .ok (.getfield 128, 3) := by decide +kernel
theorem dX4_test_153 : decode cX4_test 153 = .ok (.iastore, 1) := by decide +kernel
theorem dX4_test_154 : decode cX4_test 154 = .ok (.aload_n 0, 1) := by decide +kernel
theorem dX4_test_155 : decode cX4_test 155 = .ok (.dup, 1) := by decide +kernel
theorem dX4_test_156 : decode cX4_test 156 = .ok (.getfield 112, 3) := by decide +kernel
theorem dX4_test_159 : decode cX4_test 159 = .ok (.iconst 1, 1) := by decide +kernel
theorem dX4_test_160 : decode cX4_test 160 = .ok (.iadd, 1) := by decide +kernel
theorem dX4_test_161 : decode cX4_test 161 = .ok (.putfield 112, 3) := by decide +kernel
theorem dX4_test_164 : decode cX4_test 164 = .ok (.aload_n 0, 1) := by decide +kernel
theorem dX4_test_165 : decode cX4_test 165 = .ok (.getfield 43, 3) := by decide +kernel
theorem dX4_test_168 : decode cX4_test 168 = .ok (.aload_n 0, 1) := by decide +kernel
theorem dX4_test_169 : decode cX4_test 169 = .ok (.getfield 112, 3) := by decide +kernel
theorem dX4_test_172 : decode cX4_test 172 = .ok (.iconst 1, 1) := by decide +kernel
theorem dX4_test_173 : decode cX4_test 173 = .ok (.isub, 1) := by decide +kernel
theorem dX4_test_174 : decode cX4_test 174 = .ok (.baload, 1) := by decide +kernel
theorem dX4_test_175 : decode cX4_test 175 = .ok (.ireturn, 1) := by decide +kernel
theorem dX4_stop_0 : decode cX4_stop 0 = .ok (.aload_n 0, 1) := by decide +kernel
theorem dX4_stop_1 : decode cX4_stop 1 = .ok (.iload_n 1, 1) := by decide +kernel
theorem dX4_stop_2 : decode cX4_stop 2 = .ok (.iconst 0, 1) := by decide +kernel
theorem dX4_stop_3 : decode cX4_stop 3 = .ok (.iconst 5, 1) := by decide +kernel
theorem dX4_stop_4 : decode cX4_stop 4 = .ok (.invokestatic 59, 3) := by decide +kernel
theorem dX4_stop_7 : decode cX4_stop 7 = .ok (.ifCond .eq 7, 3) := by decide +kernel
theorem dX4_stop_10 : decode cX4_stop 10 = .ok (.iconst 0, 1) := by decide +kernel
theorem dX4_stop_11 : decode cX4_stop 11 = .ok (.goto 4, 3) := by decide +kernel
theorem dX4_stop_14 : decode cX4_stop 14 = .ok (.iconst 1, 1) := by decide +kernel
theorem dX4_stop_15 : decode cX4_stop 15 = .ok (.invokevirtual 66, 3) := by decide +kernel
theorem dX4_stop_18 : decode cX4_stop 18 = .ok (.ifCond .ne 5, 3) := by decide +kernel
theorem dX4_stop_21 : decode cX4_stop 21 = .ok (.iconst 0, 1) := by decide +kernel
theorem dX4_stop_22 : decode cX4_stop 22 = .ok (.ireturn, 1) := by decide +kernel
theorem dX4_stop_23 : decode cX4_stop 23 = .ok (.aload_n 0, 1) := by decide +kernel
theorem dX4_stop_24 : decode cX4_stop 24 = .ok (.getfield 49, 3) := by decide +kernel
theorem dX4_stop_27 : decode cX4_stop 27 = .ok (.iload_n 1, 1) := by decide +kernel
theorem dX4_stop_28 : decode cX4_stop 28 = .ok (.iload_n 2, 1) := by decide +kernel
theorem dX4_stop_29 : decode cX4_stop 29 = .ok (.bastore, 1) := by decide +kernel
theorem dX4_stop_30 : decode cX4_stop 30 = .ok (.iconst 0, 1) := by decide +kernel
theorem dX4_stop_31 : decode cX4_stop 31 = .ok (.istore_n 3, 1) := by decide +kernel
theorem dX4_stop_32 : decode cX4_stop 32 = .ok (.iconst 0, 1) := by decide +kernel
theorem dX4_stop_33 : decode cX4_stop 33 = .ok (.istore 4, 2) := by decide +kernel
theorem dX4_stop_35 : decode cX4_stop 35 = .ok (.iload 4, 2) := by decide +kernel
theorem dX4_stop_37 : decode cX4_stop 37 = .ok (.bipush 6, 2) := by decide +kernel
theorem dX4_stop_39 : decode cX4_stop 39 = .ok (.if_icmp .ge 27, 3) := by decide +kernel
theorem dX4_stop_42 : decode cX4_stop 42 = .ok (.iload_n 3, 1) := by decide +kernel
theorem dX4_stop_43 : decode cX4_stop 43 = .ok (.aload_n 0, 1) := by decide +kernel
theorem dX4_stop_44 : decode cX4_stop 44 = .ok (.getfield 49, 3) := by decide +kernel
theorem dX4_stop_47 : decode cX4_stop 47 = .ok (.iload 4, 2) := by decide +kernel
theorem dX4_stop_49 : decode cX4_stop 49 = .ok (.baload, 1) := by decide +kernel
theorem dX4_stop_50 : decode cX4_stop 50 = .ok (.ifCond .eq 7, 3) := by decide +kernel
theorem dX4_stop_53 : decode cX4_stop 53 = .ok (.iconst 1, 1) := by decide +kernel
theorem dX4_stop_54 : decode cX4_stop 54 = .ok (.goto 4, 3) := by decide +kernel
theorem dX4_stop_57 : decode cX4_stop 57 = .ok (.iconst 0, 1) := by decide +kernel
theorem dX4_stop_58 : decode cX4_stop 58 = .ok (.iadd, 1) := by decide +kernel
theorem dX4_stop_59 : decode cX4_stop 59 = .ok (.istore_n 3, 1) := by decide +kernel
theorem dX4_stop_60 : decode cX4_stop 60 = .ok (.iinc 4 1, 3) := by decide +kernel
theorem dX4_stop_63 : decode cX4_stop 63 = .ok (.goto (-28), 3) := by decide +kernel
theorem dX4_stop_66 : decode cX4_stop 66 = .ok (.iload_n 3, 1) := by decide +kernel
theorem dX4_stop_67 : decode cX4_stop 67 = .ok (.ireturn, 1) := by decide +kernel
theorem dX4_latest_0 : decode cX4_latest 0 = .ok (.iconst (-1), 1) := by decide +kernel
theorem dX4_latest_1 : decode cX4_latest 1 = .ok (.istore_n 3, 1) := by decide +kernel
theorem dX4_latest_2 : decode cX4_latest 2 = .ok (.iload_n 2, 1) := by decide +kernel
theorem dX4_latest_3 : decode cX4_latest 3 = .ok (.istore 4, 2) := by decide +kernel
theorem dX4_latest_5 : decode cX4_latest 5 = .ok (.iload 4, 2) := by decide +kernel
theorem dX4_latest_7 : decode cX4_latest 7 = .ok (.aload_n 0, 1) := by decide +kernel
theorem dX4_latest_8 : decode cX4_latest 8 = .ok (.getfield 112, 3) := by decide +kernel
theorem dX4_latest_11 : decode cX4_latest 11 = .ok (.if_icmp .ge 27, 3) := by decide +kernel
theorem dX4_latest_14 : decode cX4_latest 14 = .ok (.aload_n 0, 1) := by decide +kernel
theorem dX4_latest_15 : decode cX4_latest 15 = .ok (.getfield 37, 3) := by decide +kernel
theorem dX4_latest_18 : decode cX4_latest 18 = .ok (.iload 4, 2) := by decide +kernel
theorem dX4_latest_20 : decode cX4_latest 20 = .ok (.iaload, 1) := by decide +kernel
theorem dX4_latest_21 : decode cX4_latest 21 = .ok (.iload_n 1, 1) := by decide +kernel
theorem dX4_latest_22 : decode cX4_latest 22 = .ok (.if_icmp .ne 8, 3) := by decide +kernel
theorem dX4_latest_25 : decode cX4_latest 25 = .ok (.iload 4, 2) := by decide +kernel
theorem dX4_latest_27 : decode cX4_latest 27 = .ok (.goto 4, 3) := by decide +kernel
theorem dX4_latest_30 : decode cX4_latest 30 = .ok (.iload_n 3, 1) := by decide +kernel
theorem dX4_latest_31 : decode cX4_latest 31 = .ok (.istore_n 3, 1) := by decide +kernel
theorem dX4_latest_32 : decode cX4_latest 32 = .ok (.iinc 4 1, 3) := by decide +kernel
theorem dX4_latest_35 : decode cX4_latest 35 = .ok (.goto (-30), 3) := by decide +kernel
theorem dX4_latest_38 : decode cX4_latest 38 = .ok (.iload_n 3, 1) := by decide +kernel
theorem dX4_latest_39 : decode cX4_latest 39 = .ok (.ireturn, 1) := by decide +kernel
theorem dX4_barriersNow_0 : decode cX4_barriersNow 0 = .ok (.aload_n 0, 1) := by decide +kernel
theorem dX4_barriersNow_1 : decode cX4_barriersNow 1 = .ok (.getfield 96, 3) := by decide +kernel
theorem dX4_barriersNow_4 : decode cX4_barriersNow 4 = .ok (.lconst 0, 1) := by decide +kernel
theorem dX4_barriersNow_5 : decode cX4_barriersNow 5 = .ok (.lcmp, 1) := by decide +kernel
theorem dX4_barriersNow_6 : decode cX4_barriersNow 6 = .ok (.ifCond .ne 29, 3) := by decide +kernel
theorem dX4_barriersNow_9 : decode cX4_barriersNow 9 = .ok (.aload_n 0, 1) := by decide +kernel
theorem dX4_barriersNow_10 : decode cX4_barriersNow 10 = .ok (.getfield 80, 3) := by decide +kernel
theorem dX4_barriersNow_13 : decode cX4_barriersNow 13 = .ok (.ifCond .ne 22, 3) := by decide +kernel
theorem dX4_barriersNow_16 : decode cX4_barriersNow 16 = .ok (.aload_n 0, 1) := by decide +kernel
theorem dX4_barriersNow_17 : decode cX4_barriersNow 17 = .ok (.invokevirtual 118, 3) := by decide +kernel
theorem dX4_barriersNow_20 : decode cX4_barriersNow 20 = .ok (.aload_n 0, 1) := by decide +kernel
theorem dX4_barriersNow_21 : decode cX4_barriersNow 21 = .ok (.aload_n 0, 1) := by decide +kernel
theorem dX4_barriersNow_22 : decode cX4_barriersNow 22 = .ok (.getfield 63, 3) := by decide +kernel
theorem dX4_barriersNow_25 : decode cX4_barriersNow 25 = .ok (.invokevirtual 109, 3) := by decide +kernel
theorem dX4_barriersNow_28 : decode cX4_barriersNow 28 = .ok (.if_icmp .lt 7, 3) := by decide +kernel
theorem dX4_barriersNow_31 : decode cX4_barriersNow 31 = .ok (.iconst 1, 1) := by decide +kernel
theorem dX4_barriersNow_32 : decode cX4_barriersNow 32 = .ok (.goto 4, 3) := by decide +kernel
theorem dX4_barriersNow_35 : decode cX4_barriersNow 35 = .ok (.iconst 0, 1) := by decide +kernel
theorem dX4_barriersNow_36 : decode cX4_barriersNow 36 = .ok (.istore_n 1, 1) := by decide +kernel
theorem dX4_barriersNow_37 : decode cX4_barriersNow 37 = .ok (.aload_n 0, 1) := by decide +kernel
theorem dX4_barriersNow_38 : decode cX4_barriersNow 38 = .ok (.iconst 0, 1) := by decide +kernel
theorem dX4_barriersNow_39 : decode cX4_barriersNow 39 = .ok (.aload_n 0, 1) := by decide +kernel
theorem dX4_barriersNow_40 : decode cX4_barriersNow 40 = .ok (.getfield 115, 3) := by decide +kernel
theorem dX4_barriersNow_43 : decode cX4_barriersNow 43 = .ok (.invokevirtual 165, 3) := by decide +kernel
theorem dX4_barriersNow_46 : decode cX4_barriersNow 46 = .ok (.istore_n 2, 1) := by decide +kernel
theorem dX4_barriersNow_47 : decode cX4_barriersNow 47 = .ok (.iload_n 2, 1) := by decide +kernel
theorem dX4_barriersNow_48 : decode cX4_barriersNow 48 = .ok (.iconst (-1), 1) := by decide +kernel
theorem dX4_barriersNow_49 : decode cX4_barriersNow 49 = .ok (.if_icmp .eq 33, 3) := by decide +kernel
theorem dX4_barriersNow_52 : decode cX4_barriersNow 52 = .ok (.aload_n 0, 1) := by decide +kernel
theorem dX4_barriersNow_53 : decode cX4_barriersNow 53 = .ok (.getfield 43, 3) := by decide +kernel
theorem dX4_barriersNow_56 : decode cX4_barriersNow 56 = .ok (.iload_n 2, 1) := by decide +kernel
theorem dX4_barriersNow_57 : decode cX4_barriersNow 57 = .ok (.baload, 1) := by decide +kernel
theorem dX4_barriersNow_58 : decode cX4_barriersNow 58 = .ok (.ifCond .eq 24, 3) := by decide +kernel
theorem dX4_barriersNow_61 : decode cX4_barriersNow 61 = .ok (.aload_n 0, 1) := by decide +kernel
theorem dX4_barriersNow_62 : decode cX4_barriersNow 62 = .ok (.getfield 128, 3) := by decide +kernel
theorem dX4_barriersNow_65 : decode cX4_barriersNow 65 = .ok (.aload_n 0, 1) := by decide +kernel
theorem dX4_barriersNow_66 : decode cX4_barriersNow 66 = .ok (.getfield 46, 3) := by decide +kernel
theorem dX4_barriersNow_69 : decode cX4_barriersNow 69 = .ok (.iload_n 2, 1) := by decide +kernel
theorem dX4_barriersNow_70 : decode cX4_barriersNow 70 = .ok (.iaload, 1) := by decide +kernel
theorem dX4_barriersNow_71 : decode cX4_barriersNow 71 = .ok (.isub, 1) := by decide +kernel
theorem dX4_barriersNow_72 : decode cX4_barriersNow 72 = .ok (.sipush 20160, 3) := by decide +kernel
theorem dX4_barriersNow_75 : decode cX4_barriersNow 75 = .ok (.if_icmp .gt 7, 3) := by decide +kernel
theorem dX4_barriersNow_78 : decode cX4_barriersNow 78 = .ok (.iconst 1, 1) := by decide +kernel
theorem dX4_barriersNow_79 : decode cX4_barriersNow 79 = .ok (.goto 4, 3) := by decide +kernel
theorem dX4_barriersNow_82 : decode cX4_barriersNow 82 = .ok (.iconst 0, 1) := by decide +kernel
theorem dX4_barriersNow_83 : decode cX4_barriersNow 83 = .ok (.istore_n 3, 1) := by decide +kernel
theorem dX4_barriersNow_84 : decode cX4_barriersNow 84 = .ok (.aload_n 0, 1) := by decide +kernel
theorem dX4_barriersNow_85 : decode cX4_barriersNow 85 = .ok (.iconst 1, 1) := by decide +kernel
theorem dX4_barriersNow_86 : decode cX4_barriersNow 86 = .ok (.aload_n 0, 1) := by decide +kernel
theorem dX4_barriersNow_87 : decode cX4_barriersNow 87 = .ok (.getfield 162, 3) := by decide +kernel
theorem dX4_barriersNow_90 : decode cX4_barriersNow 90 = .ok (.invokevirtual 165, 3) := by decide +kernel
theorem dX4_barriersNow_93 : decode cX4_barriersNow 93 = .ok (.istore 4, 2) := by decide +kernel
theorem dX4_barriersNow_95 : decode cX4_barriersNow 95 = .ok (.aload_n 0, 1) := by decide +kernel
theorem dX4_barriersNow_96 : decode cX4_barriersNow 96 = .ok (.getfield 93, 3) := by decide +kernel
theorem dX4_barriersNow_99 : decode cX4_barriersNow 99 = .ok (.ifCond .le 23, 3) := by decide +kernel
theorem dX4_barriersNow_102 : decode cX4_barriersNow 102 = .ok (.iload 4, 2) := by decide +kernel
theorem dX4_barriersNow_104 : decode cX4_barriersNow 104 = .ok (.iconst (-1), 1) := by decide +kernel
theorem dX4_barriersNow_105 : decode cX4_barriersNow 105 = .ok (.if_icmp .eq 17, 3) := by decide +kernel
theorem dX4_barriersNow_108 : decode cX4_barriersNow 108 = .ok (.aload_n 0, 1) := by decide +kernel
theorem dX4_barriersNow_109 : decode cX4_barriersNow 109 = .ok (.getfield 43, 3) := by decide +kernel
theorem dX4_barriersNow_112 : decode cX4_barriersNow 112 = .ok (.iload 4, 2) := by decide +kernel
theorem dX4_barriersNow_114 : decode cX4_barriersNow 114 = .ok (.baload, 1) := by decide +kernel
theorem dX4_barriersNow_115 : decode cX4_barriersNow 115 = .ok (.ifCond .eq 7, 3) := by decide +kernel
theorem dX4_barriersNow_118 : decode cX4_barriersNow 118 = .ok (.iconst 1, 1) := by decide +kernel
theorem dX4_barriersNow_119 : decode cX4_barriersNow 119 = .ok (.goto 4, 3) := by decide +kernel
theorem dX4_barriersNow_122 : decode cX4_barriersNow 122 = .ok (.iconst 0, 1) := by decide +kernel
theorem dX4_barriersNow_123 : decode cX4_barriersNow 123 = .ok (.istore 5, 2) := by decide +kernel
theorem dX4_barriersNow_125 : decode cX4_barriersNow 125 = .ok (.iload_n 1, 1) := by decide +kernel
theorem dX4_barriersNow_126 : decode cX4_barriersNow 126 = .ok (.ifCond .eq 7, 3) := by decide +kernel
theorem dX4_barriersNow_129 : decode cX4_barriersNow 129 = .ok (.iconst 1, 1) := by decide +kernel
theorem dX4_barriersNow_130 : decode cX4_barriersNow 130 = .ok (.goto 4, 3) := by decide +kernel
theorem dX4_barriersNow_133 : decode cX4_barriersNow 133 = .ok (.iconst 0, 1) := by decide +kernel
theorem dX4_barriersNow_134 : decode cX4_barriersNow 134 = .ok (.iload_n 3, 1) := by decide +kernel
theorem dX4_barriersNow_135 : decode cX4_barriersNow 135 = .ok (.ifCond .eq 7, 3) := by decide +kernel
theorem dX4_barriersNow_138 : decode cX4_barriersNow 138 = .ok (.iconst 2, 1) := by decide +kernel
theorem dX4_barriersNow_139 : decode cX4_barriersNow 139 = .ok (.goto 4, 3) := by decide +kernel
theorem dX4_barriersNow_142 : decode cX4_barriersNow 142 = .ok (.iconst 0, 1) := by decide +kernel
theorem dX4_barriersNow_143 : decode cX4_barriersNow 143 = .ok (.iadd, 1) := by decide +kernel
theorem dX4_barriersNow_144 : decode cX4_barriersNow 144 = .ok (.iload 5, 2) := by decide +kernel
theorem dX4_barriersNow_146 : decode cX4_barriersNow 146 = .ok (.ifCond .eq 7, 3) := by decide +kernel
theorem dX4_barriersNow_149 : decode cX4_barriersNow 149 = .ok (.iconst 4, 1) := by decide +kernel
theorem dX4_barriersNow_150 : decode cX4_barriersNow 150 = .ok (.goto 4, 3) := by decide +kernel
theorem dX4_barriersNow_153 : decode cX4_barriersNow 153 = .ok (.iconst 0, 1) := by decide +kernel
theorem dX4_barriersNow_154 : decode cX4_barriersNow 154 = .ok (.iadd, 1) := by decide +kernel
theorem dX4_barriersNow_155 : decode cX4_barriersNow 155 = .ok (.ireturn, 1) := by decide +kernel
theorem dX4_barriers_0 : decode cX4_barriers 0 = .ok (.aload_n 0, 1) := by decide +kernel
theorem dX4_barriers_1 : decode cX4_barriers 1 = .ok (.iconst 0, 1) := by decide +kernel
theorem dX4_barriers_2 : decode cX4_barriers 2 = .ok (.putfield 52, 3) := by decide +kernel
theorem dX4_barriers_5 : decode cX4_barriers 5 = .ok (.aload_n 0, 1) := by decide +kernel
theorem dX4_barriers_6 : decode cX4_barriers 6 = .ok (.invokevirtual 169, 3) := by decide +kernel
theorem dX4_barriers_9 : decode cX4_barriers 9 = .ok (.ireturn, 1) := by decide +kernel
theorem dX4_barsNow_0 : decode cX4_barsNow 0 = .ok (.iconst 0, 1) := by decide +kernel
theorem dX4_barsNow_1 : decode cX4_barsNow 1 = .ok (.istore_n 1, 1) := by decide +kernel
theorem dX4_barsNow_2 : decode cX4_barsNow 2 = .ok (.iconst 0, 1) := by decide +kernel
theorem dX4_barsNow_3 : decode cX4_barsNow 3 = .ok (.istore_n 2, 1) := by decide +kernel
theorem dX4_barsNow_4 : decode cX4_barsNow 4 = .ok (.iload_n 2, 1) := by decide +kernel
theorem dX4_barsNow_5 : decode cX4_barsNow 5 = .ok (.bipush 6, 2) := by decide +kernel
theorem dX4_barsNow_7 : decode cX4_barsNow 7 = .ok (.if_icmp .ge 28, 3) := by decide +kernel
theorem dX4_barsNow_10 : decode cX4_barsNow 10 = .ok (.iload_n 1, 1) := by decide +kernel
theorem dX4_barsNow_11 : decode cX4_barsNow 11 = .ok (.ifCond .ne 12, 3) := by decide +kernel
theorem dX4_barsNow_14 : decode cX4_barsNow 14 = .ok (.aload_n 0, 1) := by decide +kernel
theorem dX4_barsNow_15 : decode cX4_barsNow 15 = .ok (.getfield 49, 3) := by decide +kernel
theorem dX4_barsNow_18 : decode cX4_barsNow 18 = .ok (.iload_n 2, 1) := by decide +kernel
theorem dX4_barsNow_19 : decode cX4_barsNow 19 = .ok (.baload, 1) := by decide +kernel
theorem dX4_barsNow_20 : decode cX4_barsNow 20 = .ok (.ifCond .eq 7, 3) := by decide +kernel
theorem dX4_barsNow_23 : decode cX4_barsNow 23 = .ok (.iconst 1, 1) := by decide +kernel
theorem dX4_barsNow_24 : decode cX4_barsNow 24 = .ok (.goto 4, 3) := by decide +kernel
theorem dX4_barsNow_27 : decode cX4_barsNow 27 = .ok (.iconst 0, 1) := by decide +kernel
theorem dX4_barsNow_28 : decode cX4_barsNow 28 = .ok (.istore_n 1, 1) := by decide +kernel
theorem dX4_barsNow_29 : decode cX4_barsNow 29 = .ok (.iinc 2 1, 3) := by decide +kernel
theorem dX4_barsNow_32 : decode cX4_barsNow 32 = .ok (.goto (-28), 3) := by decide +kernel
theorem dX4_barsNow_35 : decode cX4_barsNow 35 = .ok (.aload_n 0, 1) := by decide +kernel
theorem dX4_barsNow_36 : decode cX4_barsNow 36 = .ok (.invokevirtual 169, 3) := by decide +kernel
theorem dX4_barsNow_39 : decode cX4_barsNow 39 = .ok (.istore_n 2, 1) := by decide +kernel
theorem dX4_barsNow_40 : decode cX4_barsNow 40 = .ok (.iload_n 2, 1) := by decide +kernel
theorem dX4_barsNow_41 : decode cX4_barsNow 41 = .ok (.iconst 2, 1) := by decide +kernel
theorem dX4_barsNow_42 : decode cX4_barsNow 42 = .ok (.irem, 1) := by decide +kernel
theorem dX4_barsNow_43 : decode cX4_barsNow 43 = .ok (.iload_n 2, 1) := by decide +kernel
theorem dX4_barsNow_44 : decode cX4_barsNow 44 = .ok (.iconst 2, 1) := by decide +kernel
theorem dX4_barsNow_45 : decode cX4_barsNow 45 = .ok (.idiv, 1) := by decide +kernel
theorem dX4_barsNow_46 : decode cX4_barsNow 46 = .ok (.iconst 2, 1) := by decide +kernel
theorem dX4_barsNow_47 : decode cX4_barsNow 47 = .ok (.irem, 1) := by decide +kernel
theorem dX4_barsNow_48 : decode cX4_barsNow 48 = .ok (.iadd, 1) := by decide +kernel
theorem dX4_barsNow_49 : decode cX4_barsNow 49 = .ok (.iload_n 2, 1) := by decide +kernel
theorem dX4_barsNow_50 : decode cX4_barsNow 50 = .ok (.iconst 4, 1) := by decide +kernel
theorem dX4_barsNow_51 : decode cX4_barsNow 51 = .ok (.idiv, 1) := by decide +kernel
theorem dX4_barsNow_52 : decode cX4_barsNow 52 = .ok (.iadd, 1) := by decide +kernel
theorem dX4_barsNow_53 : decode cX4_barsNow 53 = .ok (.istore_n 3, 1) := by decide +kernel
theorem dX4_barsNow_54 : decode cX4_barsNow 54 = .ok (.iload_n 1, 1) := by decide +kernel
theorem dX4_barsNow_55 : decode cX4_barsNow 55 = .ok (.ifCond .eq 7, 3) := by decide +kernel
theorem dX4_barsNow_58 : decode cX4_barsNow 58 = .ok (.iconst 1, 1) := by decide +kernel
theorem dX4_barsNow_59 : decode cX4_barsNow 59 = .ok (.goto 58, 3) := by decide +kernel
theorem dX4_barsNow_62 : decode cX4_barsNow 62 = .ok (.aload_n 0, 1) := by decide +kernel
theorem dX4_barsNow_63 : decode cX4_barsNow 63 = .ok (.getfield 70, 3) := by decide +kernel
theorem dX4_barsNow_66 : decode cX4_barsNow 66 = .ok (.ifCond .eq 7, 3) := by decide +kernel
theorem dX4_barsNow_69 : decode cX4_barsNow 69 = .ok (.iconst 2, 1) := by decide +kernel
theorem dX4_barsNow_70 : decode cX4_barsNow 70 = .ok (.goto 47, 3) := by decide +kernel
theorem dX4_barsNow_73 : decode cX4_barsNow 73 = .ok (.aload_n 0, 1) := by decide +kernel
theorem dX4_barsNow_74 : decode cX4_barsNow 74 = .ok (.getfield 96, 3) := by decide +kernel
theorem dX4_barsNow_77 : decode cX4_barsNow 77 = .ok (.lconst 0, 1) := by decide +kernel
theorem dX4_barsNow_78 : decode cX4_barsNow 78 = .ok (.lcmp, 1) := by decide +kernel
theorem dX4_barsNow_79 : decode cX4_barsNow 79 = .ok (.ifCond .gt 10, 3) := by decide +kernel
theorem dX4_barsNow_82 : decode cX4_barsNow 82 = .ok (.aload_n 0, 1) := by decide +kernel
theorem dX4_barsNow_83 : decode cX4_barsNow 83 = .ok (.getfield 80, 3) := by decide +kernel
theorem dX4_barsNow_86 : decode cX4_barsNow 86 = .ok (.ifCond .le 7, 3) := by decide +kernel
theorem dX4_barsNow_89 : decode cX4_barsNow 89 = .ok (.iconst 3, 1) := by decide +kernel
theorem dX4_barsNow_90 : decode cX4_barsNow 90 = .ok (.goto 27, 3) := by decide +kernel
theorem dX4_barsNow_93 : decode cX4_barsNow 93 = .ok (.iload_n 3, 1) := by decide +kernel
theorem dX4_barsNow_94 : decode cX4_barsNow 94 = .ok (.iconst 2, 1) := by decide +kernel
theorem dX4_barsNow_95 : decode cX4_barsNow 95 = .ok (.if_icmp .ge 7, 3) := by decide +kernel
theorem dX4_barsNow_98 : decode cX4_barsNow 98 = .ok (.iconst 4, 1) := by decide +kernel
theorem dX4_barsNow_99 : decode cX4_barsNow 99 = .ok (.goto 18, 3) := by decide +kernel
theorem dX4_barsNow_102 : decode cX4_barsNow 102 = .ok (.aload_n 0, 1) := by decide +kernel
theorem dX4_barsNow_103 : decode cX4_barsNow 103 = .ok (.getfield 63, 3) := by decide +kernel
theorem dX4_barsNow_106 : decode cX4_barsNow 106 = .ok (.sipush 5000, 3) := by decide +kernel
theorem dX4_barsNow_109 : decode cX4_barsNow 109 = .ok (.if_icmp .ne 7, 3) := by decide +kernel
theorem dX4_barsNow_112 : decode cX4_barsNow 112 = .ok (.iconst 5, 1) := by decide +kernel
theorem dX4_barsNow_113 : decode cX4_barsNow 113 = .ok (.goto 4, 3) := by decide +kernel
theorem dX4_barsNow_116 : decode cX4_barsNow 116 = .ok (.iconst 0, 1) := by decide +kernel
theorem dX4_barsNow_117 : decode cX4_barsNow 117 = .ok (.ireturn, 1) := by decide +kernel
theorem dX4_bars_0 : decode cX4_bars 0 = .ok (.aload_n 0, 1) := by decide +kernel
theorem dX4_bars_1 : decode cX4_bars 1 = .ok (.iconst 0, 1) := by decide +kernel
theorem dX4_bars_2 : decode cX4_bars 2 = .ok (.putfield 52, 3) := by decide +kernel
theorem dX4_bars_5 : decode cX4_bars 5 = .ok (.aload_n 0, 1) := by decide +kernel
theorem dX4_bars_6 : decode cX4_bars 6 = .ok (.invokevirtual 152, 3) := by decide +kernel
theorem dX4_bars_9 : decode cX4_bars 9 = .ok (.ireturn, 1) := by decide +kernel
theorem dX4_pressure_0 : decode cX4_pressure 0 = .ok (.aload_n 0, 1) := by decide +kernel
theorem dX4_pressure_1 : decode cX4_pressure 1 = .ok (.iload_n 1, 1) := by decide +kernel
theorem dX4_pressure_2 : decode cX4_pressure 2 = .ok (.iconst 0, 1) := by decide +kernel
theorem dX4_pressure_3 : decode cX4_pressure 3 = .ok (.iconst 5, 1) := by decide +kernel
theorem dX4_pressure_4 : decode cX4_pressure 4 = .ok (.invokestatic 59, 3) := by decide +kernel
theorem dX4_pressure_7 : decode cX4_pressure 7 = .ok (.ifCond .eq 7, 3) := by decide +kernel
theorem dX4_pressure_10 : decode cX4_pressure 10 = .ok (.iconst 0, 1) := by decide +kernel
theorem dX4_pressure_11 : decode cX4_pressure 11 = .ok (.goto 4, 3) := by decide +kernel
theorem dX4_pressure_14 : decode cX4_pressure 14 = .ok (.iconst 1, 1) := by decide +kernel
theorem dX4_pressure_15 : decode cX4_pressure 15 = .ok (.invokevirtual 66, 3) := by decide +kernel
theorem dX4_pressure_18 : decode cX4_pressure 18 = .ok (.ifCond .ne 5, 3) := by decide +kernel
theorem dX4_pressure_21 : decode cX4_pressure 21 = .ok (.iconst 0, 1) := by decide +kernel
theorem dX4_pressure_22 : decode cX4_pressure 22 = .ok (.ireturn, 1) := by decide +kernel
theorem dX4_pressure_23 : decode cX4_pressure 23 = .ok (.iload_n 1, 1) := by decide +kernel
theorem dX4_pressure_24 : decode cX4_pressure 24 = .ok (.tableswitch 69 0 4 #[36, 41, 50, 55, 64], 36) := by decide +kernel
theorem dX4_pressure_60 : decode cX4_pressure 60 = .ok (.aload_n 0, 1) := by decide +kernel
theorem dX4_pressure_61 : decode cX4_pressure 61 = .ok (.invokevirtual 118, 3) := by decide +kernel
theorem dX4_pressure_64 : decode cX4_pressure 64 = .ok (.ireturn, 1) := by decide +kernel
theorem dX4_pressure_65 : decode cX4_pressure 65 = .ok (.aload_n 0, 1) := by decide +kernel
theorem dX4_pressure_66 : decode cX4_pressure 66 = .ok (.aload_n 0, 1) := by decide +kernel
theorem dX4_pressure_67 : decode cX4_pressure 67 = .ok (.getfield 63, 3) := by decide +kernel
theorem dX4_pressure_70 : decode cX4_pressure 70 = .ok (.invokevirtual 109, 3) := by decide +kernel
theorem dX4_pressure_73 : decode cX4_pressure 73 = .ok (.ireturn, 1) := by decide +kernel
theorem dX4_pressure_74 : decode cX4_pressure 74 = .ok (.aload_n 0, 1) := by decide +kernel
theorem dX4_pressure_75 : decode cX4_pressure 75 = .ok (.invokevirtual 144, 3) := by decide +kernel
theorem dX4_pressure_78 : decode cX4_pressure 78 = .ok (.ireturn, 1) := by decide +kernel
theorem dX4_pressure_79 : decode cX4_pressure 79 = .ok (.aload_n 0, 1) := by decide +kernel
theorem dX4_pressure_80 : decode cX4_pressure 80 = .ok (.aload_n 0, 1) := by decide +kernel
theorem dX4_pressure_81 : decode cX4_pressure 81 = .ok (.getfield 93, 3) := by decide +kernel
theorem dX4_pressure_84 : decode cX4_pressure 84 = .ok (.invokevirtual 147, 3) := by decide +kernel
theorem dX4_pressure_87 : decode cX4_pressure 87 = .ok (.ireturn, 1) := by decide +kernel
theorem dX4_pressure_88 : decode cX4_pressure 88 = .ok (.aload_n 0, 1) := by decide +kernel
theorem dX4_pressure_89 : decode cX4_pressure 89 = .ok (.getfield 87, 3) := by decide +kernel
theorem dX4_pressure_92 : decode cX4_pressure 92 = .ok (.ireturn, 1) := by decide +kernel
theorem dX4_pressure_93 : decode cX4_pressure 93 = .ok (.aload_n 0, 1) := by decide +kernel
theorem dX4_pressure_94 : decode cX4_pressure 94 = .ok (.getfield 96, 3) := by decide +kernel
theorem dX4_pressure_97 : decode cX4_pressure 97 = .ok (.lconst 0, 1) := by decide +kernel
theorem dX4_pressure_98 : decode cX4_pressure 98 = .ok (.lcmp, 1) := by decide +kernel
theorem dX4_pressure_99 : decode cX4_pressure 99 = .ok (.ifCond .le 10, 3) := by decide +kernel
theorem dX4_pressure_102 : decode cX4_pressure 102 = .ok (.aload_n 0, 1) := by decide +kernel
theorem dX4_pressure_103 : decode cX4_pressure 103 = .ok (.invokevirtual 100, 3) := by decide +kernel
theorem dX4_pressure_106 : decode cX4_pressure 106 = .ok (.goto 4, 3) := by decide +kernel
theorem dX4_pressure_109 : decode cX4_pressure 109 = .ok (.iconst 0, 1) := by decide +kernel
theorem dX4_pressure_110 : decode cX4_pressure 110 = .ok (.ireturn, 1) := by decide +kernel
theorem dX4_of_0 : decode cX4_of 0 = .ok (.aload_n 0, 1) := by decide +kernel
theorem dX4_of_1 : decode cX4_of 1 = .ok (.iload_n 1, 1) := by decide +kernel
theorem dX4_of_2 : decode cX4_of 2 = .ok (.iconst 0, 1) := by decide +kernel
theorem dX4_of_3 : decode cX4_of 3 = .ok (.bipush 11, 2) := by decide +kernel
theorem dX4_of_5 : decode cX4_of 5 = .ok (.invokestatic 59, 3) := by decide +kernel
theorem dX4_of_8 : decode cX4_of 8 = .ok (.ifCond .eq 7, 3) := by decide +kernel
theorem dX4_of_11 : decode cX4_of 11 = .ok (.iconst 0, 1) := by decide +kernel
theorem dX4_of_12 : decode cX4_of 12 = .ok (.goto 4, 3) := by decide +kernel
theorem dX4_of_15 : decode cX4_of 15 = .ok (.iconst 1, 1) := by decide +kernel
theorem dX4_of_16 : decode cX4_of 16 = .ok (.invokevirtual 66, 3) := by decide +kernel
theorem dX4_of_19 : decode cX4_of 19 = .ok (.ifCond .ne 5, 3) := by decide +kernel
theorem dX4_of_22 : decode cX4_of 22 = .ok (.lconst 0, 1) := by decide +kernel
theorem dX4_of_23 : decode cX4_of 23 = .ok (.lreturn, 1) := by decide +kernel
theorem dX4_of_24 : decode cX4_of 24 = .ok (.iload_n 1, 1) := by decide +kernel
theorem dX4_of_25 : decode cX4_of 25 = .ok (.tableswitch 145 0 10 #[59, 65, 71, 77, 90, 96, 102, 123, 129, 134, 139], 59) := by decide +kernel
theorem dX4_of_84 : decode cX4_of 84 = .ok (.aload_n 0, 1) := by decide +kernel
theorem dX4_of_85 : decode cX4_of 85 = .ok (.getfield 63, 3) := by decide +kernel
theorem dX4_of_88 : decode cX4_of 88 = .ok (.i2l, 1) := by decide +kernel
theorem dX4_of_89 : decode cX4_of 89 = .ok (.lreturn, 1) := by decide +kernel
theorem dX4_of_90 : decode cX4_of 90 = .ok (.aload_n 0, 1) := by decide +kernel
theorem dX4_of_91 : decode cX4_of 91 = .ok (.getfield 93, 3) := by decide +kernel
theorem dX4_of_94 : decode cX4_of 94 = .ok (.i2l, 1) := by decide +kernel
theorem dX4_of_95 : decode cX4_of 95 = .ok (.lreturn, 1) := by decide +kernel
theorem dX4_of_96 : decode cX4_of 96 = .ok (.aload_n 0, 1) := by decide +kernel
theorem dX4_of_97 : decode cX4_of 97 = .ok (.getfield 23, 3) := by decide +kernel
theorem dX4_of_100 : decode cX4_of 100 = .ok (.i2l, 1) := by decide +kernel
theorem dX4_of_101 : decode cX4_of 101 = .ok (.lreturn, 1) := by decide +kernel
theorem dX4_of_102 : decode cX4_of 102 = .ok (.aload_n 0, 1) := by decide +kernel
theorem dX4_of_103 : decode cX4_of 103 = .ok (.getfield 70, 3) := by decide +kernel
theorem dX4_of_106 : decode cX4_of 106 = .ok (.ifCond .eq 7, 3) := by decide +kernel
theorem dX4_of_109 : decode cX4_of 109 = .ok (.lconst 1, 1) := by decide +kernel
theorem dX4_of_110 : decode cX4_of 110 = .ok (.goto 4, 3) := by decide +kernel
theorem dX4_of_113 : decode cX4_of 113 = .ok (.lconst 0, 1) := by decide +kernel
theorem dX4_of_114 : decode cX4_of 114 = .ok (.lreturn, 1) := by decide +kernel
theorem dX4_of_115 : decode cX4_of 115 = .ok (.aload_n 0, 1) := by decide +kernel
theorem dX4_of_116 : decode cX4_of 116 = .ok (.getfield 128, 3) := by decide +kernel
theorem dX4_of_119 : decode cX4_of 119 = .ok (.i2l, 1) := by decide +kernel
theorem dX4_of_120 : decode cX4_of 120 = .ok (.lreturn, 1) := by decide +kernel
theorem dX4_of_121 : decode cX4_of 121 = .ok (.aload_n 0, 1) := by decide +kernel
theorem dX4_of_122 : decode cX4_of 122 = .ok (.getfield 77, 3) := by decide +kernel
theorem dX4_of_125 : decode cX4_of 125 = .ok (.i2l, 1) := by decide +kernel
theorem dX4_of_126 : decode cX4_of 126 = .ok (.lreturn, 1) := by decide +kernel
theorem dX4_of_127 : decode cX4_of 127 = .ok (.aload_n 0, 1) := by decide +kernel
theorem dX4_of_128 : decode cX4_of 128 = .ok (.getfield 96, 3) := by decide +kernel
theorem dX4_of_131 : decode cX4_of 131 = .ok (.lconst 0, 1) := by decide +kernel
theorem dX4_of_132 : decode cX4_of 132 = .ok (.lcmp, 1) := by decide +kernel
theorem dX4_of_133 : decode cX4_of 133 = .ok (.ifCond .le 11, 3) := by decide +kernel
theorem dX4_of_136 : decode cX4_of 136 = .ok (.aload_n 0, 1) := by decide +kernel
theorem dX4_of_137 : decode cX4_of 137 = .ok (.getfield 90, 3) := by decide +kernel
theorem dX4_of_140 : decode cX4_of 140 = .ok (.i2l, 1) := by decide +kernel
theorem dX4_of_141 : decode cX4_of 141 = .ok (.goto 6, 3) := by decide +kernel
theorem dX4_of_144 : decode cX4_of 144 = .ok (.ldc2_w 172, 3) := by decide +kernel
theorem dX4_of_147 : decode cX4_of 147 = .ok (.lreturn, 1) := by decide +kernel
theorem dX4_of_148 : decode cX4_of 148 = .ok (.aload_n 0, 1) := by decide +kernel
theorem dX4_of_149 : decode cX4_of 149 = .ok (.getfield 80, 3) := by decide +kernel
theorem dX4_of_152 : decode cX4_of 152 = .ok (.i2l, 1) := by decide +kernel
theorem dX4_of_153 : decode cX4_of 153 = .ok (.lreturn, 1) := by decide +kernel
theorem dX4_of_154 : decode cX4_of 154 = .ok (.aload_n 0, 1) := by decide +kernel
theorem dX4_of_155 : decode cX4_of 155 = .ok (.getfield 103, 3) := by decide +kernel
theorem dX4_of_158 : decode cX4_of 158 = .ok (.lreturn, 1) := by decide +kernel
theorem dX4_of_159 : decode cX4_of 159 = .ok (.aload_n 0, 1) := by decide +kernel
theorem dX4_of_160 : decode cX4_of 160 = .ok (.getfield 141, 3) := by decide +kernel
theorem dX4_of_163 : decode cX4_of 163 = .ok (.lreturn, 1) := by decide +kernel
theorem dX4_of_164 : decode cX4_of 164 = .ok (.aload_n 0, 1) := by decide +kernel
theorem dX4_of_165 : decode cX4_of 165 = .ok (.getfield 74, 3) := by decide +kernel
theorem dX4_of_168 : decode cX4_of 168 = .ok (.i2l, 1) := by decide +kernel
theorem dX4_of_169 : decode cX4_of 169 = .ok (.lreturn, 1) := by decide +kernel
theorem dX4_of_170 : decode cX4_of 170 = .ok (.aload_n 0, 1) := by decide +kernel
theorem dX4_of_171 : decode cX4_of 171 = .ok (.getfield 159, 3) := by decide +kernel
theorem dX4_of_174 : decode cX4_of 174 = .ok (.i2l, 1) := by decide +kernel
theorem dX4_of_175 : decode cX4_of 175 = .ok (.lreturn, 1) := by decide +kernel
theorem dX4_ofTest_0 : decode cX4_ofTest 0 = .ok (.iload_n 1, 1) := by decide +kernel
theorem dX4_ofTest_1 : decode cX4_ofTest 1 = .ok (.iconst 0, 1) := by decide +kernel
theorem dX4_ofTest_2 : decode cX4_ofTest 2 = .ok (.aload_n 0, 1) := by decide +kernel
theorem dX4_ofTest_3 : decode cX4_ofTest 3 = .ok (.getfield 112, 3) := by decide +kernel
theorem dX4_ofTest_6 : decode cX4_ofTest 6 = .ok (.iconst 1, 1) := by decide +kernel
theorem dX4_ofTest_7 : decode cX4_ofTest 7 = .ok (.isub, 1) := by decide +kernel
theorem dX4_ofTest_8 : decode cX4_ofTest 8 = .ok (.invokestatic 59, 3) := by decide +kernel
theorem dX4_ofTest_11 : decode cX4_ofTest 11 = .ok (.istore_n 3, 1) := by decide +kernel
theorem dX4_ofTest_12 : decode cX4_ofTest 12 = .ok (.aload_n 0, 1) := by decide +kernel
theorem dX4_ofTest_13 : decode cX4_ofTest 13 = .ok (.iload_n 3, 1) := by decide +kernel
theorem dX4_ofTest_14 : decode cX4_ofTest 14 = .ok (.ifCond .ne 7, 3) := by decide +kernel
theorem dX4_ofTest_17 : decode cX4_ofTest 17 = .ok (.iconst 1, 1) := by decide +kernel
theorem dX4_ofTest_18 : decode cX4_ofTest 18 = .ok (.goto 17, 3) := by decide +kernel
theorem dX4_ofTest_21 : decode cX4_ofTest 21 = .ok (.iload_n 2, 1) := by decide +kernel
theorem dX4_ofTest_22 : decode cX4_ofTest 22 = .ok (.iconst 0, 1) := by decide +kernel
theorem dX4_ofTest_23 : decode cX4_ofTest 23 = .ok (.iconst 3, 1) := by decide +kernel
theorem dX4_ofTest_24 : decode cX4_ofTest 24 = .ok (.invokestatic 59, 3) := by decide +kernel
theorem dX4_ofTest_27 : decode cX4_ofTest 27 = .ok (.ifCond .eq 7, 3) := by decide +kernel
theorem dX4_ofTest_30 : decode cX4_ofTest 30 = .ok (.iconst 0, 1) := by decide +kernel
theorem dX4_ofTest_31 : decode cX4_ofTest 31 = .ok (.goto 4, 3) := by decide +kernel
theorem dX4_ofTest_34 : decode cX4_ofTest 34 = .ok (.iconst 2, 1) := by decide +kernel
theorem dX4_ofTest_35 : decode cX4_ofTest 35 = .ok (.invokevirtual 66, 3) := by decide +kernel
theorem dX4_ofTest_38 : decode cX4_ofTest 38 = .ok (.ifCond .ne 5, 3) := by decide +kernel
theorem dX4_ofTest_41 : decode cX4_ofTest 41 = .ok (.iconst 0, 1) := by decide +kernel
theorem dX4_ofTest_42 : decode cX4_ofTest 42 = .ok (.ireturn, 1) := by decide +kernel
theorem dX4_ofTest_43 : decode cX4_ofTest 43 = .ok (.iload_n 2, 1) := by decide +kernel
theorem dX4_ofTest_44 : decode cX4_ofTest 44 = .ok (.ifCond .ne 12, 3) := by decide +kernel
theorem dX4_ofTest_47 : decode cX4_ofTest 47 = .ok (.aload_n 0, 1) := by decide +kernel
theorem dX4_ofTest_48 : decode cX4_ofTest 48 = .ok (.getfield 37, 3) := by decide +kernel
theorem dX4_ofTest_51 : decode cX4_ofTest 51 = .ok (.iload_n 1, 1) := by decide +kernel
theorem dX4_ofTest_52 : decode cX4_ofTest 52 = .ok (.iaload, 1) := by decide +kernel
theorem dX4_ofTest_53 : decode cX4_ofTest 53 = .ok (.goto 45, 3) := by decide +kernel
theorem dX4_ofTest_56 : decode cX4_ofTest 56 = .ok (.iload_n 2, 1) := by decide +kernel
theorem dX4_ofTest_57 : decode cX4_ofTest 57 = .ok (.iconst 1, 1) := by decide +kernel
theorem dX4_ofTest_58 : decode cX4_ofTest 58 = .ok (.if_icmp .ne 12, 3) := by decide +kernel
theorem dX4_ofTest_61 : decode cX4_ofTest 61 = .ok (.aload_n 0, 1) := by decide +kernel
theorem dX4_ofTest_62 : decode cX4_ofTest 62 = .ok (.getfield 40, 3) := by decide +kernel
theorem dX4_ofTest_65 : decode cX4_ofTest 65 = .ok (.iload_n 1, 1) := by decide +kernel
theorem dX4_ofTest_66 : decode cX4_ofTest 66 = .ok (.iaload, 1) := by decide +kernel
theorem dX4_ofTest_67 : decode cX4_ofTest 67 = .ok (.goto 31, 3) := by decide +kernel
theorem dX4_ofTest_70 : decode cX4_ofTest 70 = .ok (.iload_n 2, 1) := by decide +kernel
theorem dX4_ofTest_71 : decode cX4_ofTest 71 = .ok (.iconst 2, 1) := by decide +kernel
theorem dX4_ofTest_72 : decode cX4_ofTest 72 = .ok (.if_icmp .ne 20, 3) := by decide +kernel
theorem dX4_ofTest_75 : decode cX4_ofTest 75 = .ok (.aload_n 0, 1) := by decide +kernel
theorem dX4_ofTest_76 : decode cX4_ofTest 76 = .ok (.getfield 43, 3) := by decide +kernel
theorem dX4_ofTest_79 : decode cX4_ofTest 79 = .ok (.iload_n 1, 1) := by decide +kernel
theorem dX4_ofTest_80 : decode cX4_ofTest 80 = .ok (.baload, 1) := by decide +kernel
theorem dX4_ofTest_81 : decode cX4_ofTest 81 = .ok (.ifCond .eq 7, 3) := by decide +kernel
theorem dX4_ofTest_84 : decode cX4_ofTest 84 = .ok (.iconst 1, 1) := by decide +kernel
theorem dX4_ofTest_85 : decode cX4_ofTest 85 = .ok (.goto 13, 3) := by decide +kernel
theorem dX4_ofTest_88 : decode cX4_ofTest 88 = .ok (.iconst 0, 1) := by decide +kernel
theorem dX4_ofTest_89 : decode cX4_ofTest 89 = .ok (.goto 9, 3) := by decide +kernel
theorem dX4_ofTest_92 : decode cX4_ofTest 92 = .ok (.aload_n 0, 1) := by decide +kernel
theorem dX4_ofTest_93 : decode cX4_ofTest 93 = .ok (.getfield 46, 3) := by decide +kernel
theorem dX4_ofTest_96 : decode cX4_ofTest 96 = .ok (.iload_n 1, 1) := by decide +kernel
theorem dX4_ofTest_97 : decode cX4_ofTest 97 = .ok (.iaload, 1) := by decide +kernel
theorem dX4_ofTest_98 : decode cX4_ofTest 98 = .ok (.ireturn, 1) := by decide +kernel
theorem dX4_killWeight_0 : decode cX4_killWeight 0 = .ok (.aload_n 0, 1) := by decide +kernel
theorem dX4_killWeight_1 : decode cX4_killWeight 1 = .ok (.aload_n 0, 1) := by decide +kernel
theorem dX4_killWeight_2 : decode cX4_killWeight 2 = .ok (.getfield 63, 3) := by decide +kernel
theorem dX4_killWeight_5 : decode cX4_killWeight 5 = .ok (.ifCond .le 7, 3) := by decide +kernel
theorem dX4_killWeight_8 : decode cX4_killWeight 8 = .ok (.iconst 0, 1) := by decide +kernel
theorem dX4_killWeight_9 : decode cX4_killWeight 9 = .ok (.goto 4, 3) := by decide +kernel
theorem dX4_killWeight_12 : decode cX4_killWeight 12 = .ok (.iconst 1, 1) := by decide +kernel
theorem dX4_killWeight_13 : decode cX4_killWeight 13 = .ok (.invokevirtual 66, 3) := by decide +kernel
theorem dX4_killWeight_16 : decode cX4_killWeight 16 = .ok (.ifCond .ne 5, 3) := by decide +kernel
theorem dX4_killWeight_19 : decode cX4_killWeight 19 = .ok (.iconst 0, 1) := by decide +kernel
theorem dX4_killWeight_20 : decode cX4_killWeight 20 = .ok (.ireturn, 1) := by decide +kernel
theorem dX4_killWeight_21 : decode cX4_killWeight 21 = .ok (.iconst 0, 1) := by decide +kernel
theorem dX4_killWeight_22 : decode cX4_killWeight 22 = .ok (.istore_n 1, 1) := by decide +kernel
theorem dX4_killWeight_23 : decode cX4_killWeight 23 = .ok (.iload_n 1, 1) := by decide +kernel
theorem dX4_killWeight_24 : decode cX4_killWeight 24 = .ok (.aload_n 0, 1) := by decide +kernel
theorem dX4_killWeight_25 : decode cX4_killWeight 25 = .ok (.getfield 63, 3) := by decide +kernel
theorem dX4_killWeight_28 : decode cX4_killWeight 28 = .ok (.imul, 1) := by decide +kernel
theorem dX4_killWeight_29 : decode cX4_killWeight 29 = .ok (.bipush 10, 2) := by decide +kernel
theorem dX4_killWeight_31 : decode cX4_killWeight 31 = .ok (.idiv, 1) := by decide +kernel
theorem dX4_killWeight_32 : decode cX4_killWeight 32 = .ok (.aload_n 0, 1) := by decide +kernel
theorem dX4_killWeight_33 : decode cX4_killWeight 33 = .ok (.aload_n 0, 1) := by decide +kernel
theorem dX4_killWeight_34 : decode cX4_killWeight 34 = .ok (.getfield 63, 3) := by decide +kernel
theorem dX4_killWeight_37 : decode cX4_killWeight 37 = .ok (.invokevirtual 109, 3) := by decide +kernel
theorem dX4_killWeight_40 : decode cX4_killWeight 40 = .ok (.if_icmp .ge 9, 3) := by decide +kernel
theorem dX4_killWeight_43 : decode cX4_killWeight 43 = .ok (.iinc 1 1, 3) := by decide +kernel
theorem dX4_killWeight_46 : decode cX4_killWeight 46 = .ok (.goto (-23), 3) := by decide +kernel
theorem dX4_killWeight_49 : decode cX4_killWeight 49 = .ok (.iload_n 1, 1) := by decide +kernel
theorem dX4_killWeight_50 : decode cX4_killWeight 50 = .ok (.ireturn, 1) := by decide +kernel
theorem dX4_bound_0 : decode cX4_bound 0 = .ok (.iload_n 3, 1) := by decide +kernel
theorem dX4_bound_1 : decode cX4_bound 1 = .ok (.ifCond .eq 12, 3) := by decide +kernel
theorem dX4_bound_4 : decode cX4_bound 4 = .ok (.aload_n 0, 1) := by decide +kernel
theorem dX4_bound_5 : decode cX4_bound 5 = .ok (.getfield 13, 3) := by decide +kernel
theorem dX4_bound_8 : decode cX4_bound 8 = .ok (.iload_n 1, 1) := by decide +kernel
theorem dX4_bound_9 : decode cX4_bound 9 = .ok (.iaload, 1) := by decide +kernel
theorem dX4_bound_10 : decode cX4_bound 10 = .ok (.goto 9, 3) := by decide +kernel
theorem dX4_bound_13 : decode cX4_bound 13 = .ok (.aload_n 0, 1) := by decide +kernel
theorem dX4_bound_14 : decode cX4_bound 14 = .ok (.getfield 7, 3) := by decide +kernel
theorem dX4_bound_17 : decode cX4_bound 17 = .ok (.iload_n 1, 1) := by decide +kernel
theorem dX4_bound_18 : decode cX4_bound 18 = .ok (.iaload, 1) := by decide +kernel
theorem dX4_bound_19 : decode cX4_bound 19 = .ok (.istore 4, 2) := by decide +kernel
theorem dX4_bound_21 : decode cX4_bound 21 = .ok (.iload_n 1, 1) := by decide +kernel
theorem dX4_bound_22 : decode cX4_bound 22 = .ok (.istore 5, 2) := by decide +kernel
theorem dX4_bound_24 : decode cX4_bound 24 = .ok (.iload 5, 2) := by decide +kernel
theorem dX4_bound_26 : decode cX4_bound 26 = .ok (.iload_n 2, 1) := by decide +kernel
theorem dX4_bound_27 : decode cX4_bound 27 = .ok (.if_icmp .gt 66, 3) := by decide +kernel
theorem dX4_bound_30 : decode cX4_bound 30 = .ok (.iload_n 3, 1) := by decide +kernel
theorem dX4_bound_31 : decode cX4_bound 31 = .ok (.ifCond .eq 30, 3) := by decide +kernel
theorem dX4_bound_34 : decode cX4_bound 34 = .ok (.aload_n 0, 1) := by decide +kernel
theorem dX4_bound_35 : decode cX4_bound 35 = .ok (.getfield 13, 3) := by decide +kernel
theorem dX4_bound_38 : decode cX4_bound 38 = .ok (.iload 5, 2) := by decide +kernel
theorem dX4_bound_40 : decode cX4_bound 40 = .ok (.iaload, 1) := by decide +kernel
theorem dX4_bound_41 : decode cX4_bound 41 = .ok (.iload 4, 2) := by decide +kernel
theorem dX4_bound_43 : decode cX4_bound 43 = .ok (.if_icmp .ge 13, 3) := by decide +kernel
theorem dX4_bound_46 : decode cX4_bound 46 = .ok (.aload_n 0, 1) := by decide +kernel
theorem dX4_bound_47 : decode cX4_bound 47 = .ok (.getfield 13, 3) := by decide +kernel
theorem dX4_bound_50 : decode cX4_bound 50 = .ok (.iload 5, 2) := by decide +kernel
theorem dX4_bound_52 : decode cX4_bound 52 = .ok (.iaload, 1) := by decide +kernel
theorem dX4_bound_53 : decode cX4_bound 53 = .ok (.goto 32, 3) := by decide +kernel
theorem dX4_bound_56 : decode cX4_bound 56 = .ok (.iload 4, 2) := by decide +kernel
theorem dX4_bound_58 : decode cX4_bound 58 = .ok (.goto 27, 3) := by decide +kernel
theorem dX4_bound_61 : decode cX4_bound 61 = .ok (.aload_n 0, 1) := by decide +kernel
theorem dX4_bound_62 : decode cX4_bound 62 = .ok (.getfield 7, 3) := by decide +kernel
theorem dX4_bound_65 : decode cX4_bound 65 = .ok (.iload 5, 2) := by decide +kernel
theorem dX4_bound_67 : decode cX4_bound 67 = .ok (.iaload, 1) := by decide +kernel
theorem dX4_bound_68 : decode cX4_bound 68 = .ok (.iload 4, 2) := by decide +kernel
theorem dX4_bound_70 : decode cX4_bound 70 = .ok (.if_icmp .le 13, 3) := by decide +kernel
theorem dX4_bound_73 : decode cX4_bound 73 = .ok (.aload_n 0, 1) := by decide +kernel
theorem dX4_bound_74 : decode cX4_bound 74 = .ok (.getfield 7, 3) := by decide +kernel
theorem dX4_bound_77 : decode cX4_bound 77 = .ok (.iload 5, 2) := by decide +kernel
theorem dX4_bound_79 : decode cX4_bound 79 = .ok (.iaload, 1) := by decide +kernel
theorem dX4_bound_80 : decode cX4_bound 80 = .ok (.goto 5, 3) := by decide +kernel
theorem dX4_bound_83 : decode cX4_bound 83 = .ok (.iload 4, 2) := by decide +kernel
theorem dX4_bound_85 : decode cX4_bound 85 = .ok (.istore 4, 2) := by decide +kernel
theorem dX4_bound_87 : decode cX4_bound 87 = .ok (.iinc 5 1, 3) := by decide +kernel
theorem dX4_bound_90 : decode cX4_bound 90 = .ok (.goto (-66), 3) := by decide +kernel
theorem dX4_bound_93 : decode cX4_bound 93 = .ok (.iload 4, 2) := by decide +kernel
theorem dX4_bound_95 : decode cX4_bound 95 = .ok (.ireturn, 1) := by decide +kernel
theorem dX4_window_0 : decode cX4_window 0 = .ok (.iload_n 1, 1) := by decide +kernel
theorem dX4_window_1 : decode cX4_window 1 = .ok (.iconst 0, 1) := by decide +kernel
theorem dX4_window_2 : decode cX4_window 2 = .ok (.sipush 4999, 3) := by decide +kernel
theorem dX4_window_5 : decode cX4_window 5 = .ok (.invokestatic 59, 3) := by decide +kernel
theorem dX4_window_8 : decode cX4_window 8 = .ok (.ifCond .eq 19, 3) := by decide +kernel
theorem dX4_window_11 : decode cX4_window 11 = .ok (.iload_n 2, 1) := by decide +kernel
theorem dX4_window_12 : decode cX4_window 12 = .ok (.iload_n 1, 1) := by decide +kernel
theorem dX4_window_13 : decode cX4_window 13 = .ok (.if_icmp .le 14, 3) := by decide +kernel
theorem dX4_window_16 : decode cX4_window 16 = .ok (.iload_n 2, 1) := by decide +kernel
theorem dX4_window_17 : decode cX4_window 17 = .ok (.sipush 5000, 3) := by decide +kernel
theorem dX4_window_20 : decode cX4_window 20 = .ok (.if_icmp .gt 7, 3) := by decide +kernel
theorem dX4_window_23 : decode cX4_window 23 = .ok (.iconst 1, 1) := by decide +kernel
theorem dX4_window_24 : decode cX4_window 24 = .ok (.goto 4, 3) := by decide +kernel
theorem dX4_window_27 : decode cX4_window 27 = .ok (.iconst 0, 1) := by decide +kernel
theorem dX4_window_28 : decode cX4_window 28 = .ok (.istore 4, 2) := by decide +kernel
theorem dX4_window_30 : decode cX4_window 30 = .ok (.aload_n 0, 1) := by decide +kernel
theorem dX4_window_31 : decode cX4_window 31 = .ok (.iload 4, 2) := by decide +kernel
theorem dX4_window_33 : decode cX4_window 33 = .ok (.ifCond .eq 7, 3) := by decide +kernel
theorem dX4_window_36 : decode cX4_window 36 = .ok (.iconst 0, 1) := by decide +kernel
theorem dX4_window_37 : decode cX4_window 37 = .ok (.goto 4, 3) := by decide +kernel
theorem dX4_window_40 : decode cX4_window 40 = .ok (.iconst 1, 1) := by decide +kernel
theorem dX4_window_41 : decode cX4_window 41 = .ok (.invokevirtual 66, 3) := by decide +kernel
theorem dX4_window_44 : decode cX4_window 44 = .ok (.ifCond .eq 19, 3) := by decide +kernel
theorem dX4_window_47 : decode cX4_window 47 = .ok (.aload_n 0, 1) := by decide +kernel
theorem dX4_window_48 : decode cX4_window 48 = .ok (.iload_n 1, 1) := by decide +kernel
theorem dX4_window_49 : decode cX4_window 49 = .ok (.bipush 100, 2) := by decide +kernel
theorem dX4_window_51 : decode cX4_window 51 = .ok (.idiv, 1) := by decide +kernel
theorem dX4_window_52 : decode cX4_window 52 = .ok (.iload_n 2, 1) := by decide +kernel
theorem dX4_window_53 : decode cX4_window 53 = .ok (.invokestatic 55, 3) := by decide +kernel
theorem dX4_window_56 : decode cX4_window 56 = .ok (.iload_n 3, 1) := by decide +kernel
theorem dX4_window_57 : decode cX4_window 57 = .ok (.invokevirtual 174, 3) := by decide +kernel
theorem dX4_window_60 : decode cX4_window 60 = .ok (.goto 4, 3) := by decide +kernel
theorem dX4_window_63 : decode cX4_window 63 = .ok (.iconst 0, 1) := by decide +kernel
theorem dX4_window_64 : decode cX4_window 64 = .ok (.ireturn, 1) := by decide +kernel
theorem dX4_casingsOf_0 : decode cX4_casingsOf 0 = .ok (.aload_n 0, 1) := by decide +kernel
theorem dX4_casingsOf_1 : decode cX4_casingsOf 1 = .ok (.iload_n 1, 1) := by decide +kernel
theorem dX4_casingsOf_2 : decode cX4_casingsOf 2 = .ok (.iconst 1, 1) := by decide +kernel
theorem dX4_casingsOf_3 : decode cX4_casingsOf 3 = .ok (.sipush 5000, 3) := by decide +kernel
theorem dX4_casingsOf_6 : decode cX4_casingsOf 6 = .ok (.invokestatic 59, 3) := by decide +kernel
theorem dX4_casingsOf_9 : decode cX4_casingsOf 9 = .ok (.ifCond .eq 7, 3) := by decide +kernel
theorem dX4_casingsOf_12 : decode cX4_casingsOf 12 = .ok (.iconst 0, 1) := by decide +kernel
theorem dX4_casingsOf_13 : decode cX4_casingsOf 13 = .ok (.goto 4, 3) := by decide +kernel
theorem dX4_casingsOf_16 : decode cX4_casingsOf 16 = .ok (.iconst 1, 1) := by decide +kernel
theorem dX4_casingsOf_17 : decode cX4_casingsOf 17 = .ok (.invokevirtual 66, 3) := by decide +kernel
theorem dX4_casingsOf_20 : decode cX4_casingsOf 20 = .ok (.ifCond .ne 5, 3) := by decide +kernel
theorem dX4_casingsOf_23 : decode cX4_casingsOf 23 = .ok (.iconst 0, 1) := by decide +kernel
theorem dX4_casingsOf_24 : decode cX4_casingsOf 24 = .ok (.ireturn, 1) := by decide +kernel
theorem dX4_casingsOf_25 : decode cX4_casingsOf 25 = .ok (.iconst 0, 1) := by decide +kernel
theorem dX4_casingsOf_26 : decode cX4_casingsOf 26 = .ok (.istore_n 2, 1) := by decide +kernel
theorem dX4_casingsOf_27 : decode cX4_casingsOf 27 = .ok (.iconst 0, 1) := by decide +kernel
theorem dX4_casingsOf_28 : decode cX4_casingsOf 28 = .ok (.istore_n 3, 1) := by decide +kernel
theorem dX4_casingsOf_29 : decode cX4_casingsOf 29 = .ok (.iload_n 3, 1) := by decide +kernel
theorem dX4_casingsOf_30 : decode cX4_casingsOf 30 = .ok (.iload_n 1, 1) := by decide +kernel
theorem dX4_casingsOf_31 : decode cX4_casingsOf 31 = .ok (.invokestatic 55, 3) := by decide +kernel
theorem dX4_casingsOf_34 : decode cX4_casingsOf 34 = .ok (.if_icmp .gt 57, 3) := by decide +kernel
theorem dX4_casingsOf_37 : decode cX4_casingsOf 37 = .ok (.iload_n 3, 1) := by decide +kernel
theorem dX4_casingsOf_38 : decode cX4_casingsOf 38 = .ok (.istore 4, 2) := by decide +kernel
theorem dX4_casingsOf_40 : decode cX4_casingsOf 40 = .ok (.iload 4, 2) := by decide +kernel
theorem dX4_casingsOf_42 : decode cX4_casingsOf 42 = .ok (.iload_n 1, 1) := by decide +kernel
theorem dX4_casingsOf_43 : decode cX4_casingsOf 43 = .ok (.invokestatic 55, 3) := by decide +kernel
theorem dX4_casingsOf_46 : decode cX4_casingsOf 46 = .ok (.if_icmp .gt 28, 3) := by decide +kernel
theorem dX4_casingsOf_49 : decode cX4_casingsOf 49 = .ok (.aload_n 0, 1) := by decide +kernel
theorem dX4_casingsOf_50 : decode cX4_casingsOf 50 = .ok (.iload_n 3, 1) := by decide +kernel
theorem dX4_casingsOf_51 : decode cX4_casingsOf 51 = .ok (.iload 4, 2) := by decide +kernel
theorem dX4_casingsOf_53 : decode cX4_casingsOf 53 = .ok (.iconst 0, 1) := by decide +kernel
theorem dX4_casingsOf_54 : decode cX4_casingsOf 54 = .ok (.invokevirtual 174, 3) := by decide +kernel
theorem dX4_casingsOf_57 : decode cX4_casingsOf 57 = .ok (.aload_n 0, 1) := by decide +kernel
theorem dX4_casingsOf_58 : decode cX4_casingsOf 58 = .ok (.iload_n 3, 1) := by decide +kernel
theorem dX4_casingsOf_59 : decode cX4_casingsOf 59 = .ok (.iload 4, 2) := by decide +kernel
theorem dX4_casingsOf_61 : decode cX4_casingsOf 61 = .ok (.iconst 1, 1) := by decide +kernel
theorem dX4_casingsOf_62 : decode cX4_casingsOf 62 = .ok (.invokevirtual 174, 3) := by decide +kernel
theorem dX4_casingsOf_65 : decode cX4_casingsOf 65 = .ok (.if_icmp .gt 9, 3) := by decide +kernel
theorem dX4_casingsOf_68 : decode cX4_casingsOf 68 = .ok (.iinc 4 1, 3) := by decide +kernel
theorem dX4_casingsOf_71 : decode cX4_casingsOf 71 = .ok (.goto (-31), 3) := by decide +kernel
theorem dX4_casingsOf_74 : decode cX4_casingsOf 74 = .ok (.iload 4, 2) := by decide +kernel
theorem dX4_casingsOf_76 : decode cX4_casingsOf 76 = .ok (.iload_n 3, 1) := by decide +kernel
theorem dX4_casingsOf_77 : decode cX4_casingsOf 77 = .ok (.if_icmp .ne 5, 3) := by decide +kernel
theorem dX4_casingsOf_80 : decode cX4_casingsOf 80 = .ok (.iconst (-1), 1) := by decide +kernel
theorem dX4_casingsOf_81 : decode cX4_casingsOf 81 = .ok (.ireturn, 1) := by decide +kernel
theorem dX4_casingsOf_82 : decode cX4_casingsOf 82 = .ok (.iload 4, 2) := by decide +kernel
theorem dX4_casingsOf_84 : decode cX4_casingsOf 84 = .ok (.istore_n 3, 1) := by decide +kernel
theorem dX4_casingsOf_85 : decode cX4_casingsOf 85 = .ok (.iinc 2 1, 3) := by decide +kernel
theorem dX4_casingsOf_88 : decode cX4_casingsOf 88 = .ok (.goto (-59), 3) := by decide +kernel
theorem dX4_casingsOf_91 : decode cX4_casingsOf 91 = .ok (.iload_n 2, 1) := by decide +kernel
theorem dX4_casingsOf_92 : decode cX4_casingsOf 92 = .ok (.ireturn, 1) := by decide +kernel
theorem dX4_casings_0 : decode cX4_casings 0 = .ok (.aload_n 0, 1) := by decide +kernel
theorem dX4_casings_1 : decode cX4_casings 1 = .ok (.iload_n 1, 1) := by decide +kernel
theorem dX4_casings_2 : decode cX4_casings 2 = .ok (.invokevirtual 178, 3) := by decide +kernel
theorem dX4_casings_5 : decode cX4_casings 5 = .ok (.ireturn, 1) := by decide +kernel
theorem dX4_casingsAnew_0 : decode cX4_casingsAnew 0 = .ok (.aload_n 0, 1) := by decide +kernel
theorem dX4_casingsAnew_1 : decode cX4_casingsAnew 1 = .ok (.iload_n 1, 1) := by decide +kernel
theorem dX4_casingsAnew_2 : decode cX4_casingsAnew 2 = .ok (.invokevirtual 178, 3) := by decide +kernel
theorem dX4_casingsAnew_5 : decode cX4_casingsAnew 5 = .ok (.ireturn, 1) := by decide +kernel
theorem dX4_equivalent_0 : decode cX4_equivalent 0 = .ok (.aload_n 0, 1) := by decide +kernel
theorem dX4_equivalent_1 : decode cX4_equivalent 1 = .ok (.aload_n 0, 1) := by decide +kernel
theorem dX4_equivalent_2 : decode cX4_equivalent 2 = .ok (.getfield 93, 3) := by decide +kernel
theorem dX4_equivalent_5 : decode cX4_equivalent 5 = .ok (.ifCond .le 7, 3) := by decide +kernel
theorem dX4_equivalent_8 : decode cX4_equivalent 8 = .ok (.iconst 0, 1) := by decide +kernel
theorem dX4_equivalent_9 : decode cX4_equivalent 9 = .ok (.goto 4, 3) := by decide +kernel
theorem dX4_equivalent_12 : decode cX4_equivalent 12 = .ok (.iconst 1, 1) := by decide +kernel
theorem dX4_equivalent_13 : decode cX4_equivalent 13 = .ok (.invokevirtual 66, 3) := by decide +kernel
theorem dX4_equivalent_16 : decode cX4_equivalent 16 = .ok (.ifCond .eq 20, 3) := by decide +kernel
theorem dX4_equivalent_19 : decode cX4_equivalent 19 = .ok (.bipush 10, 2) := by decide +kernel
theorem dX4_equivalent_21 : decode cX4_equivalent 21 = .ok (.aload_n 0, 1) := by decide +kernel
theorem dX4_equivalent_22 : decode cX4_equivalent 22 = .ok (.invokevirtual 144, 3) := by decide +kernel
theorem dX4_equivalent_25 : decode cX4_equivalent 25 = .ok (.imul, 1) := by decide +kernel
theorem dX4_equivalent_26 : decode cX4_equivalent 26 = .ok (.i2f, 1) := by decide +kernel
theorem dX4_equivalent_27 : decode cX4_equivalent 27 = .ok (.aload_n 0, 1) := by decide +kernel
theorem dX4_equivalent_28 : decode cX4_equivalent 28 = .ok (.getfield 93, 3) := by decide +kernel
theorem dX4_equivalent_31 : decode cX4_equivalent 31 = .ok (.i2f, 1) := by decide +kernel
theorem dX4_equivalent_32 : decode cX4_equivalent 32 = .ok (.fdiv, 1) := by decide +kernel
theorem dX4_equivalent_33 : decode cX4_equivalent 33 = .ok (.goto 4, 3) := by decide +kernel
theorem dX4_equivalent_36 : decode cX4_equivalent 36 = .ok (.fconst 0, 1) := by decide +kernel
theorem dX4_equivalent_37 : decode cX4_equivalent 37 = .ok (.freturn, 1) := by decide +kernel
theorem dX4_keep_0 : decode cX4_keep 0 = .ok (.aload_n 0, 1) := by decide +kernel
theorem dX4_keep_1 : decode cX4_keep 1 = .ok (.getfield 33, 3) := by decide +kernel
theorem dX4_keep_4 : decode cX4_keep 4 = .ok (.iconst 0, 1) := by decide +kernel
theorem dX4_keep_5 : decode cX4_keep 5 = .ok (.aload_n 0, 1) := by decide +kernel
theorem dX4_keep_6 : decode cX4_keep 6 = .ok (.getfield 63, 3) := by decide +kernel
theorem dX4_keep_9 : decode cX4_keep 9 = .ok (.i2l, 1) := by decide +kernel
theorem dX4_keep_10 : decode cX4_keep 10 = .ok (.lastore, 1) := by decide +kernel
theorem dX4_keep_11 : decode cX4_keep 11 = .ok (.aload_n 0, 1) := by decide +kernel
theorem dX4_keep_12 : decode cX4_keep 12 = .ok (.getfield 33, 3) := by decide +kernel
theorem dX4_keep_15 : decode cX4_keep 15 = .ok (.iconst 1, 1) := by decide +kernel
theorem dX4_keep_16 : decode cX4_keep 16 = .ok (.aload_n 0, 1) := by decide +kernel
theorem dX4_keep_17 : decode cX4_keep 17 = .ok (.getfield 70, 3) := by decide +kernel
theorem dX4_keep_20 : decode cX4_keep 20 = .ok (.ifCond .eq 7, 3) := by decide +kernel
theorem dX4_keep_23 : decode cX4_keep 23 = .ok (.lconst 1, 1) := by decide +kernel
theorem dX4_keep_24 : decode cX4_keep 24 = .ok (.goto 4, 3) := by decide +kernel
theorem dX4_keep_27 : decode cX4_keep 27 = .ok (.lconst 0, 1) := by decide +kernel
theorem dX4_keep_28 : decode cX4_keep 28 = .ok (.lastore, 1) := by decide +kernel
theorem dX4_keep_29 : decode cX4_keep 29 = .ok (.aload_n 0, 1) := by decide +kernel
theorem dX4_keep_30 : decode cX4_keep 30 = .ok (.getfield 33, 3) := by decide +kernel
theorem dX4_keep_33 : decode cX4_keep 33 = .ok (.iconst 2, 1) := by decide +kernel
theorem dX4_keep_34 : decode cX4_keep 34 = .ok (.aload_n 0, 1) := by decide +kernel
theorem dX4_keep_35 : decode cX4_keep 35 = .ok (.getfield 87, 3) := by decide +kernel
theorem dX4_keep_38 : decode cX4_keep 38 = .ok (.i2l, 1) := by decide +kernel
theorem dX4_keep_39 : decode cX4_keep 39 = .ok (.lastore, 1) := by decide +kernel
theorem dX4_keep_40 : decode cX4_keep 40 = .ok (.aload_n 0, 1) := by decide +kernel
theorem dX4_keep_41 : decode cX4_keep 41 = .ok (.getfield 33, 3) := by decide +kernel
theorem dX4_keep_44 : decode cX4_keep 44 = .ok (.iconst 3, 1) := by decide +kernel
theorem dX4_keep_45 : decode cX4_keep 45 = .ok (.aload_n 0, 1) := by decide +kernel
theorem dX4_keep_46 : decode cX4_keep 46 = .ok (.getfield 96, 3) := by decide +kernel
theorem dX4_keep_49 : decode cX4_keep 49 = .ok (.lastore, 1) := by decide +kernel
theorem dX4_keep_50 : decode cX4_keep 50 = .ok (.aload_n 0, 1) := by decide +kernel
theorem dX4_keep_51 : decode cX4_keep 51 = .ok (.getfield 33, 3) := by decide +kernel
theorem dX4_keep_54 : decode cX4_keep 54 = .ok (.iconst 4, 1) := by decide +kernel
theorem dX4_keep_55 : decode cX4_keep 55 = .ok (.aload_n 0, 1) := by decide +kernel
theorem dX4_keep_56 : decode cX4_keep 56 = .ok (.getfield 90, 3) := by decide +kernel
theorem dX4_keep_59 : decode cX4_keep 59 = .ok (.i2l, 1) := by decide +kernel
theorem dX4_keep_60 : decode cX4_keep 60 = .ok (.lastore, 1) := by decide +kernel
theorem dX4_keep_61 : decode cX4_keep 61 = .ok (.aload_n 0, 1) := by decide +kernel
theorem dX4_keep_62 : decode cX4_keep 62 = .ok (.getfield 33, 3) := by decide +kernel
theorem dX4_keep_65 : decode cX4_keep 65 = .ok (.iconst 5, 1) := by decide +kernel
theorem dX4_keep_66 : decode cX4_keep 66 = .ok (.aload_n 0, 1) := by decide +kernel
theorem dX4_keep_67 : decode cX4_keep 67 = .ok (.getfield 77, 3) := by decide +kernel
theorem dX4_keep_70 : decode cX4_keep 70 = .ok (.i2l, 1) := by decide +kernel
theorem dX4_keep_71 : decode cX4_keep 71 = .ok (.lastore, 1) := by decide +kernel
theorem dX4_keep_72 : decode cX4_keep 72 = .ok (.aload_n 0, 1) := by decide +kernel
theorem dX4_keep_73 : decode cX4_keep 73 = .ok (.getfield 33, 3) := by decide +kernel
theorem dX4_keep_76 : decode cX4_keep 76 = .ok (.bipush 6, 2) := by decide +kernel
theorem dX4_keep_78 : decode cX4_keep 78 = .ok (.aload_n 0, 1) := by decide +kernel
theorem dX4_keep_79 : decode cX4_keep 79 = .ok (.getfield 80, 3) := by decide +kernel
theorem dX4_keep_82 : decode cX4_keep 82 = .ok (.i2l, 1) := by decide +kernel
theorem dX4_keep_83 : decode cX4_keep 83 = .ok (.lastore, 1) := by decide +kernel
theorem dX4_keep_84 : decode cX4_keep 84 = .ok (.aload_n 0, 1) := by decide +kernel
theorem dX4_keep_85 : decode cX4_keep 85 = .ok (.getfield 33, 3) := by decide +kernel
theorem dX4_keep_88 : decode cX4_keep 88 = .ok (.bipush 7, 2) := by decide +kernel
theorem dX4_keep_90 : decode cX4_keep 90 = .ok (.aload_n 0, 1) := by decide +kernel
theorem dX4_keep_91 : decode cX4_keep 91 = .ok (.getfield 128, 3) := by decide +kernel
theorem dX4_keep_94 : decode cX4_keep 94 = .ok (.i2l, 1) := by decide +kernel
theorem dX4_keep_95 : decode cX4_keep 95 = .ok (.lastore, 1) := by decide +kernel
theorem dX4_keep_96 : decode cX4_keep 96 = .ok (.aload_n 0, 1) := by decide +kernel
theorem dX4_keep_97 : decode cX4_keep 97 = .ok (.getfield 33, 3) := by decide +kernel
theorem dX4_keep_100 : decode cX4_keep 100 = .ok (.bipush 8, 2) := by decide +kernel
theorem dX4_keep_102 : decode cX4_keep 102 = .ok (.aload_n 0, 1) := by decide +kernel
theorem dX4_keep_103 : decode cX4_keep 103 = .ok (.getfield 103, 3) := by decide +kernel
theorem dX4_keep_106 : decode cX4_keep 106 = .ok (.lastore, 1) := by decide +kernel
theorem dX4_keep_107 : decode cX4_keep 107 = .ok (.aload_n 0, 1) := by decide +kernel
theorem dX4_keep_108 : decode cX4_keep 108 = .ok (.getfield 33, 3) := by decide +kernel
theorem dX4_keep_111 : decode cX4_keep 111 = .ok (.bipush 9, 2) := by decide +kernel
theorem dX4_keep_113 : decode cX4_keep 113 = .ok (.aload_n 0, 1) := by decide +kernel
theorem dX4_keep_114 : decode cX4_keep 114 = .ok (.getfield 141, 3) := by decide +kernel
theorem dX4_keep_117 : decode cX4_keep 117 = .ok (.lastore, 1) := by decide +kernel
theorem dX4_keep_118 : decode cX4_keep 118 = .ok (.aload_n 0, 1) := by decide +kernel
theorem dX4_keep_119 : decode cX4_keep 119 = .ok (.getfield 33, 3) := by decide +kernel
theorem dX4_keep_122 : decode cX4_keep 122 = .ok (.bipush 10, 2) := by decide +kernel
theorem dX4_keep_124 : decode cX4_keep 124 = .ok (.aload_n 0, 1) := by decide +kernel
theorem dX4_keep_125 : decode cX4_keep 125 = .ok (.getfield 115, 3) := by decide +kernel
theorem dX4_keep_128 : decode cX4_keep 128 = .ok (.i2l, 1) := by decide +kernel
theorem dX4_keep_129 : decode cX4_keep 129 = .ok (.lastore, 1) := by decide +kernel
theorem dX4_keep_130 : decode cX4_keep 130 = .ok (.return_, 1) := by decide +kernel
theorem dX4_comeBack_0 : decode cX4_comeBack 0 = .ok (.aload_n 0, 1) := by decide +kernel
theorem dX4_comeBack_1 : decode cX4_comeBack 1 = .ok (.aload_n 0, 1) := by decide +kernel
theorem dX4_comeBack_2 : decode cX4_comeBack 2 = .ok (.getfield 33, 3) := by decide +kernel
theorem dX4_comeBack_5 : decode cX4_comeBack 5 = .ok (.iconst 0, 1) := by decide +kernel
theorem dX4_comeBack_6 : decode cX4_comeBack 6 = .ok (.laload, 1) := by decide +kernel
theorem dX4_comeBack_7 : decode cX4_comeBack 7 = .ok (.l2i, 1) := by decide +kernel
theorem dX4_comeBack_8 : decode cX4_comeBack 8 = .ok (.putfield 63, 3) := by decide +kernel
theorem dX4_comeBack_11 : decode cX4_comeBack 11 = .ok (.aload_n 0, 1) := by decide +kernel
theorem dX4_comeBack_12 : decode cX4_comeBack 12 = .ok (.aload_n 0, 1) := by decide +kernel
theorem dX4_comeBack_13 : decode cX4_comeBack 13 = .ok (.getfield 33, 3) := by decide +kernel
theorem dX4_comeBack_16 : decode cX4_comeBack 16 = .ok (.iconst 1, 1) := by decide +kernel
theorem dX4_comeBack_17 : decode cX4_comeBack 17 = .ok (.laload, 1) := by decide +kernel
theorem dX4_comeBack_18 : decode cX4_comeBack 18 = .ok (.lconst 1, 1) := by decide +kernel
theorem dX4_comeBack_19 : decode cX4_comeBack 19 = .ok (.lcmp, 1) := by decide +kernel
theorem dX4_comeBack_20 : decode cX4_comeBack 20 = .ok (.ifCond .ne 7, 3) := by decide +kernel
theorem dX4_comeBack_23 : decode cX4_comeBack 23 = .ok (.iconst 1, 1) := by decide +kernel
theorem dX4_comeBack_24 : decode cX4_comeBack 24 = .ok (.goto 4, 3) := by decide +kernel
theorem dX4_comeBack_27 : decode cX4_comeBack 27 = .ok (.iconst 0, 1) := by decide +kernel
theorem dX4_comeBack_28 : decode cX4_comeBack 28 = .ok (.putfield 70, 3) := by decide +kernel
theorem dX4_comeBack_31 : decode cX4_comeBack 31 = .ok (.aload_n 0, 1) := by decide +kernel
theorem dX4_comeBack_32 : decode cX4_comeBack 32 = .ok (.aload_n 0, 1) := by decide +kernel
theorem dX4_comeBack_33 : decode cX4_comeBack 33 = .ok (.getfield 33, 3) := by decide +kernel
theorem dX4_comeBack_36 : decode cX4_comeBack 36 = .ok (.iconst 2, 1) := by decide +kernel
theorem dX4_comeBack_37 : decode cX4_comeBack 37 = .ok (.laload, 1) := by decide +kernel
theorem dX4_comeBack_38 : decode cX4_comeBack 38 = .ok (.l2i, 1) := by decide +kernel
theorem dX4_comeBack_39 : decode cX4_comeBack 39 = .ok (.putfield 87, 3) := by decide +kernel
theorem dX4_comeBack_42 : decode cX4_comeBack 42 = .ok (.aload_n 0, 1) := by decide +kernel
theorem dX4_comeBack_43 : decode cX4_comeBack 43 = .ok (.aload_n 0, 1) := by decide +kernel
theorem dX4_comeBack_44 : decode cX4_comeBack 44 = .ok (.getfield 33, 3) := by decide +kernel
theorem dX4_comeBack_47 : decode cX4_comeBack 47 = .ok (.iconst 3, 1) := by decide +kernel
theorem dX4_comeBack_48 : decode cX4_comeBack 48 = .ok (.laload, 1) := by decide +kernel
theorem dX4_comeBack_49 : decode cX4_comeBack 49 = .ok (.putfield 96, 3) := by decide +kernel
theorem dX4_comeBack_52 : decode cX4_comeBack 52 = .ok (.aload_n 0, 1) := by decide +kernel
theorem dX4_comeBack_53 : decode cX4_comeBack 53 = .ok (.aload_n 0, 1) := by decide +kernel
theorem dX4_comeBack_54 : decode cX4_comeBack 54 = .ok (.getfield 33, 3) := by decide +kernel
theorem dX4_comeBack_57 : decode cX4_comeBack 57 = .ok (.iconst 4, 1) := by decide +kernel
theorem dX4_comeBack_58 : decode cX4_comeBack 58 = .ok (.laload, 1) := by decide +kernel
theorem dX4_comeBack_59 : decode cX4_comeBack 59 = .ok (.l2i, 1) := by decide +kernel
theorem dX4_comeBack_60 : decode cX4_comeBack 60 = .ok (.putfield 90, 3) := by decide +kernel
theorem dX4_comeBack_63 : decode cX4_comeBack 63 = .ok (.aload_n 0, 1) := by decide +kernel
theorem dX4_comeBack_64 : decode cX4_comeBack 64 = .ok (.aload_n 0, 1) := by decide +kernel
theorem dX4_comeBack_65 : decode cX4_comeBack 65 = .ok (.getfield 33, 3) := by decide +kernel
theorem dX4_comeBack_68 : decode cX4_comeBack 68 = .ok (.iconst 5, 1) := by decide +kernel
theorem dX4_comeBack_69 : decode cX4_comeBack 69 = .ok (.laload, 1) := by decide +kernel
theorem dX4_comeBack_70 : decode cX4_comeBack 70 = .ok (.l2i, 1) := by decide +kernel
theorem dX4_comeBack_71 : decode cX4_comeBack 71 = .ok (.putfield 77, 3) := by decide +kernel
theorem dX4_comeBack_74 : decode cX4_comeBack 74 = .ok (.aload_n 0, 1) := by decide +kernel
theorem dX4_comeBack_75 : decode cX4_comeBack 75 = .ok (.aload_n 0, 1) := by decide +kernel
theorem dX4_comeBack_76 : decode cX4_comeBack 76 = .ok (.getfield 33, 3) := by decide +kernel
theorem dX4_comeBack_79 : decode cX4_comeBack 79 = .ok (.bipush 6, 2) := by decide +kernel
theorem dX4_comeBack_81 : decode cX4_comeBack 81 = .ok (.laload, 1) := by decide +kernel
theorem dX4_comeBack_82 : decode cX4_comeBack 82 = .ok (.l2i, 1) := by decide +kernel
theorem dX4_comeBack_83 : decode cX4_comeBack 83 = .ok (.putfield 80, 3) := by decide +kernel
theorem dX4_comeBack_86 : decode cX4_comeBack 86 = .ok (.aload_n 0, 1) := by decide +kernel
theorem dX4_comeBack_87 : decode cX4_comeBack 87 = .ok (.aload_n 0, 1) := by decide +kernel
theorem dX4_comeBack_88 : decode cX4_comeBack 88 = .ok (.getfield 33, 3) := by decide +kernel
theorem dX4_comeBack_91 : decode cX4_comeBack 91 = .ok (.bipush 7, 2) := by decide +kernel
theorem dX4_comeBack_93 : decode cX4_comeBack 93 = .ok (.laload, 1) := by decide +kernel
theorem dX4_comeBack_94 : decode cX4_comeBack 94 = .ok (.l2i, 1) := by decide +kernel
theorem dX4_comeBack_95 : decode cX4_comeBack 95 = .ok (.putfield 128, 3) := by decide +kernel
theorem dX4_comeBack_98 : decode cX4_comeBack 98 = .ok (.aload_n 0, 1) := by decide +kernel
theorem dX4_comeBack_99 : decode cX4_comeBack 99 = .ok (.aload_n 0, 1) := by decide +kernel
theorem dX4_comeBack_100 : decode cX4_comeBack 100 = .ok (.getfield 33, 3) := by decide +kernel
theorem dX4_comeBack_103 : decode cX4_comeBack 103 = .ok (.bipush 8, 2) := by decide +kernel
theorem dX4_comeBack_105 : decode cX4_comeBack 105 = .ok (.laload, 1) := by decide +kernel
theorem dX4_comeBack_106 : decode cX4_comeBack 106 = .ok (.putfield 103, 3) := by decide +kernel
theorem dX4_comeBack_109 : decode cX4_comeBack 109 = .ok (.aload_n 0, 1) := by decide +kernel
theorem dX4_comeBack_110 : decode cX4_comeBack 110 = .ok (.aload_n 0, 1) := by decide +kernel
theorem dX4_comeBack_111 : decode cX4_comeBack 111 = .ok (.getfield 33, 3) := by decide +kernel
theorem dX4_comeBack_114 : decode cX4_comeBack 114 = .ok (.bipush 9, 2) := by decide +kernel
theorem dX4_comeBack_116 : decode cX4_comeBack 116 = .ok (.laload, 1) := by decide +kernel
theorem dX4_comeBack_117 : decode cX4_comeBack 117 = .ok (.putfield 141, 3) := by decide +kernel
theorem dX4_comeBack_120 : decode cX4_comeBack 120 = .ok (.aload_n 0, 1) := by decide +kernel
theorem dX4_comeBack_121 : decode cX4_comeBack 121 = .ok (.aload_n 0, 1) := by decide +kernel
theorem dX4_comeBack_122 : decode cX4_comeBack 122 = .ok (.getfield 33, 3) := by decide +kernel
theorem dX4_comeBack_125 : decode cX4_comeBack 125 = .ok (.bipush 10, 2) := by decide +kernel
theorem dX4_comeBack_127 : decode cX4_comeBack 127 = .ok (.laload, 1) := by decide +kernel
theorem dX4_comeBack_128 : decode cX4_comeBack 128 = .ok (.l2i, 1) := by decide +kernel
theorem dX4_comeBack_129 : decode cX4_comeBack 129 = .ok (.putfield 115, 3) := by decide +kernel
theorem dX4_comeBack_132 : decode cX4_comeBack 132 = .ok (.return_, 1) := by decide +kernel
theorem dX4_ahead_0 : decode cX4_ahead 0 = .ok (.aload_n 0, 1) := by decide +kernel
theorem dX4_ahead_1 : decode cX4_ahead 1 = .ok (.iload_n 1, 1) := by decide +kernel
theorem dX4_ahead_2 : decode cX4_ahead 2 = .ok (.iconst 1, 1) := by decide +kernel
theorem dX4_ahead_3 : decode cX4_ahead 3 = .ok (.sipush 2000, 3) := by decide +kernel
theorem dX4_ahead_6 : decode cX4_ahead 6 = .ok (.invokestatic 59, 3) := by decide +kernel
theorem dX4_ahead_9 : decode cX4_ahead 9 = .ok (.ifCond .eq 7, 3) := by decide +kernel
theorem dX4_ahead_12 : decode cX4_ahead 12 = .ok (.iconst 0, 1) := by decide +kernel
theorem dX4_ahead_13 : decode cX4_ahead 13 = .ok (.goto 4, 3) := by decide +kernel
theorem dX4_ahead_16 : decode cX4_ahead 16 = .ok (.iconst 1, 1) := by decide +kernel
theorem dX4_ahead_17 : decode cX4_ahead 17 = .ok (.invokevirtual 66, 3) := by decide +kernel
theorem dX4_ahead_20 : decode cX4_ahead 20 = .ok (.ifCond .ne 5, 3) := by decide +kernel
theorem dX4_ahead_23 : decode cX4_ahead 23 = .ok (.iconst 0, 1) := by decide +kernel
theorem dX4_ahead_24 : decode cX4_ahead 24 = .ok (.ireturn, 1) := by decide +kernel
theorem dX4_ahead_25 : decode cX4_ahead 25 = .ok (.aload_n 0, 1) := by decide +kernel
theorem dX4_ahead_26 : decode cX4_ahead 26 = .ok (.invokevirtual 181, 3) := by decide +kernel
theorem dX4_ahead_29 : decode cX4_ahead 29 = .ok (.iconst 0, 1) := by decide +kernel
theorem dX4_ahead_30 : decode cX4_ahead 30 = .ok (.istore_n 2, 1) := by decide +kernel
theorem dX4_ahead_31 : decode cX4_ahead 31 = .ok (.iload_n 2, 1) := by decide +kernel
theorem dX4_ahead_32 : decode cX4_ahead 32 = .ok (.iload_n 1, 1) := by decide +kernel
theorem dX4_ahead_33 : decode cX4_ahead 33 = .ok (.if_icmp .ge 14, 3) := by decide +kernel
theorem dX4_ahead_36 : decode cX4_ahead 36 = .ok (.aload_n 0, 1) := by decide +kernel
theorem dX4_ahead_37 : decode cX4_ahead 37 = .ok (.iconst 0, 1) := by decide +kernel
theorem dX4_ahead_38 : decode cX4_ahead 38 = .ok (.invokevirtual 156, 3) := by decide +kernel
theorem dX4_ahead_41 : decode cX4_ahead 41 = .ok (.iinc 2 1, 3) := by decide +kernel
theorem dX4_ahead_44 : decode cX4_ahead 44 = .ok (.goto (-13), 3) := by decide +kernel
theorem dX4_ahead_47 : decode cX4_ahead 47 = .ok (.aload_n 0, 1) := by decide +kernel
theorem dX4_ahead_48 : decode cX4_ahead 48 = .ok (.getfield 77, 3) := by decide +kernel
theorem dX4_ahead_51 : decode cX4_ahead 51 = .ok (.aload_n 0, 1) := by decide +kernel
theorem dX4_ahead_52 : decode cX4_ahead 52 = .ok (.getfield 80, 3) := by decide +kernel
theorem dX4_ahead_55 : decode cX4_ahead 55 = .ok (.iadd, 1) := by decide +kernel
theorem dX4_ahead_56 : decode cX4_ahead 56 = .ok (.istore_n 2, 1) := by decide +kernel
theorem dX4_ahead_57 : decode cX4_ahead 57 = .ok (.aload_n 0, 1) := by decide +kernel
theorem dX4_ahead_58 : decode cX4_ahead 58 = .ok (.invokevirtual 184, 3) := by decide +kernel
theorem dX4_ahead_61 : decode cX4_ahead 61 = .ok (.iload_n 2, 1) := by decide +kernel
theorem dX4_ahead_62 : decode cX4_ahead 62 = .ok (.ireturn, 1) := by decide +kernel
theorem dJ6_bitCount_0f7a4_0 : decode cJ6_bitCount_0f7a4 0 = .ok (.iload_n 0, 1) := by decide +kernel
theorem dJ6_bitCount_0f7a4_1 : decode cJ6_bitCount_0f7a4 1 = .ok (.iload_n 0, 1) := by decide +kernel
theorem dJ6_bitCount_0f7a4_2 : decode cJ6_bitCount_0f7a4 2 = .ok (.iconst 1, 1) := by decide +kernel
theorem dJ6_bitCount_0f7a4_3 : decode cJ6_bitCount_0f7a4 3 = .ok (.iushr, 1) := by decide +kernel
theorem dJ6_bitCount_0f7a4_4 : decode cJ6_bitCount_0f7a4 4 = .ok (.ldc_w 265, 3) := by decide +kernel
theorem dJ6_bitCount_0f7a4_7 : decode cJ6_bitCount_0f7a4 7 = .ok (.iand, 1) := by decide +kernel
theorem dJ6_bitCount_0f7a4_8 : decode cJ6_bitCount_0f7a4 8 = .ok (.isub, 1) := by decide +kernel
theorem dJ6_bitCount_0f7a4_9 : decode cJ6_bitCount_0f7a4 9 = .ok (.istore_n 0, 1) := by decide +kernel
theorem dJ6_bitCount_0f7a4_10 : decode cJ6_bitCount_0f7a4 10 = .ok (.iload_n 0, 1) := by decide +kernel
theorem dJ6_bitCount_0f7a4_11 : decode cJ6_bitCount_0f7a4 11 = .ok (.ldc_w 266, 3) := by decide +kernel
theorem dJ6_bitCount_0f7a4_14 : decode cJ6_bitCount_0f7a4 14 = .ok (.iand, 1) := by decide +kernel
theorem dJ6_bitCount_0f7a4_15 : decode cJ6_bitCount_0f7a4 15 = .ok (.iload_n 0, 1) := by decide +kernel
theorem dJ6_bitCount_0f7a4_16 : decode cJ6_bitCount_0f7a4 16 = .ok (.iconst 2, 1) := by decide +kernel
theorem dJ6_bitCount_0f7a4_17 : decode cJ6_bitCount_0f7a4 17 = .ok (.iushr, 1) := by decide +kernel
theorem dJ6_bitCount_0f7a4_18 : decode cJ6_bitCount_0f7a4 18 = .ok (.ldc_w 266, 3) := by decide +kernel
theorem dJ6_bitCount_0f7a4_21 : decode cJ6_bitCount_0f7a4 21 = .ok (.iand, 1) := by decide +kernel
theorem dJ6_bitCount_0f7a4_22 : decode cJ6_bitCount_0f7a4 22 = .ok (.iadd, 1) := by decide +kernel
theorem dJ6_bitCount_0f7a4_23 : decode cJ6_bitCount_0f7a4 23 = .ok (.istore_n 0, 1) := by decide +kernel
theorem dJ6_bitCount_0f7a4_24 : decode cJ6_bitCount_0f7a4 24 = .ok (.iload_n 0, 1) := by decide +kernel
theorem dJ6_bitCount_0f7a4_25 : decode cJ6_bitCount_0f7a4 25 = .ok (.iload_n 0, 1) := by decide +kernel
theorem dJ6_bitCount_0f7a4_26 : decode cJ6_bitCount_0f7a4 26 = .ok (.iconst 4, 1) := by decide +kernel
theorem dJ6_bitCount_0f7a4_27 : decode cJ6_bitCount_0f7a4 27 = .ok (.iushr, 1) := by decide +kernel
theorem dJ6_bitCount_0f7a4_28 : decode cJ6_bitCount_0f7a4 28 = .ok (.iadd, 1) := by decide +kernel
theorem dJ6_bitCount_0f7a4_29 : decode cJ6_bitCount_0f7a4 29 = .ok (.ldc_w 267, 3) := by decide +kernel
theorem dJ6_bitCount_0f7a4_32 : decode cJ6_bitCount_0f7a4 32 = .ok (.iand, 1) := by decide +kernel
theorem dJ6_bitCount_0f7a4_33 : decode cJ6_bitCount_0f7a4 33 = .ok (.istore_n 0, 1) := by decide +kernel
theorem dJ6_bitCount_0f7a4_34 : decode cJ6_bitCount_0f7a4 34 = .ok (.iload_n 0, 1) := by decide +kernel
theorem dJ6_bitCount_0f7a4_35 : decode cJ6_bitCount_0f7a4 35 = .ok (.iload_n 0, 1) := by decide +kernel
theorem dJ6_bitCount_0f7a4_36 : decode cJ6_bitCount_0f7a4 36 = .ok (.bipush 8, 2) := by decide +kernel
theorem dJ6_bitCount_0f7a4_38 : decode cJ6_bitCount_0f7a4 38 = .ok (.iushr, 1) := by decide +kernel
theorem dJ6_bitCount_0f7a4_39 : decode cJ6_bitCount_0f7a4 39 = .ok (.iadd, 1) := by decide +kernel
theorem dJ6_bitCount_0f7a4_40 : decode cJ6_bitCount_0f7a4 40 = .ok (.istore_n 0, 1) := by decide +kernel
theorem dJ6_bitCount_0f7a4_41 : decode cJ6_bitCount_0f7a4 41 = .ok (.iload_n 0, 1) := by decide +kernel
theorem dJ6_bitCount_0f7a4_42 : decode cJ6_bitCount_0f7a4 42 = .ok (.iload_n 0, 1) := by decide +kernel
theorem dJ6_bitCount_0f7a4_43 : decode cJ6_bitCount_0f7a4 43 = .ok (.bipush 16, 2) := by decide +kernel
theorem dJ6_bitCount_0f7a4_45 : decode cJ6_bitCount_0f7a4 45 = .ok (.iushr, 1) := by decide +kernel
theorem dJ6_bitCount_0f7a4_46 : decode cJ6_bitCount_0f7a4 46 = .ok (.iadd, 1) := by decide +kernel
theorem dJ6_bitCount_0f7a4_47 : decode cJ6_bitCount_0f7a4 47 = .ok (.istore_n 0, 1) := by decide +kernel
theorem dJ6_bitCount_0f7a4_48 : decode cJ6_bitCount_0f7a4 48 = .ok (.iload_n 0, 1) := by decide +kernel
theorem dJ6_bitCount_0f7a4_49 : decode cJ6_bitCount_0f7a4 49 = .ok (.bipush 63, 2) := by decide +kernel
theorem dJ6_bitCount_0f7a4_51 : decode cJ6_bitCount_0f7a4 51 = .ok (.iand, 1) := by decide +kernel
theorem dJ6_bitCount_0f7a4_52 : decode cJ6_bitCount_0f7a4 52 = .ok (.ireturn, 1) := by decide +kernel
theorem dJ9_max_7cf53_0 : decode cJ9_max_7cf53 0 = .ok (.iload_n 0, 1) := by decide +kernel
theorem dJ9_max_7cf53_1 : decode cJ9_max_7cf53 1 = .ok (.iload_n 1, 1) := by decide +kernel
theorem dJ9_max_7cf53_2 : decode cJ9_max_7cf53 2 = .ok (.if_icmp .lt 7, 3) := by decide +kernel
theorem dJ9_max_7cf53_5 : decode cJ9_max_7cf53 5 = .ok (.iload_n 0, 1) := by decide +kernel
theorem dJ9_max_7cf53_6 : decode cJ9_max_7cf53 6 = .ok (.goto 4, 3) := by decide +kernel
theorem dJ9_max_7cf53_9 : decode cJ9_max_7cf53 9 = .ok (.iload_n 1, 1) := by decide +kernel
theorem dJ9_max_7cf53_10 : decode cJ9_max_7cf53 10 = .ok (.ireturn, 1) := by decide +kernel
theorem dJ9_min_7cf53_0 : decode cJ9_min_7cf53 0 = .ok (.iload_n 0, 1) := by decide +kernel
theorem dJ9_min_7cf53_1 : decode cJ9_min_7cf53 1 = .ok (.iload_n 1, 1) := by decide +kernel
theorem dJ9_min_7cf53_2 : decode cJ9_min_7cf53 2 = .ok (.if_icmp .gt 7, 3) := by decide +kernel
theorem dJ9_min_7cf53_5 : decode cJ9_min_7cf53 5 = .ok (.iload_n 0, 1) := by decide +kernel
theorem dJ9_min_7cf53_6 : decode cJ9_min_7cf53 6 = .ok (.goto 4, 3) := by decide +kernel
theorem dJ9_min_7cf53_9 : decode cJ9_min_7cf53 9 = .ok (.iload_n 1, 1) := by decide +kernel
theorem dJ9_min_7cf53_10 : decode cJ9_min_7cf53 10 = .ok (.ireturn, 1) := by decide +kernel
theorem dJ9_min_f86c9_0 : decode cJ9_min_f86c9 0 = .ok (.lload_n 0, 1) := by decide +kernel
theorem dJ9_min_f86c9_1 : decode cJ9_min_f86c9 1 = .ok (.lload_n 2, 1) := by decide +kernel
theorem dJ9_min_f86c9_2 : decode cJ9_min_f86c9 2 = .ok (.lcmp, 1) := by decide +kernel
theorem dJ9_min_f86c9_3 : decode cJ9_min_f86c9 3 = .ok (.ifCond .gt 7, 3) := by decide +kernel
theorem dJ9_min_f86c9_6 : decode cJ9_min_f86c9 6 = .ok (.lload_n 0, 1) := by decide +kernel
theorem dJ9_min_f86c9_7 : decode cJ9_min_f86c9 7 = .ok (.goto 4, 3) := by decide +kernel
theorem dJ9_min_f86c9_10 : decode cJ9_min_f86c9 10 = .ok (.lload_n 2, 1) := by decide +kernel
theorem dJ9_min_f86c9_11 : decode cJ9_min_f86c9 11 = .ok (.lreturn, 1) := by decide +kernel
theorem dJ7_fill_53178_0 : decode cJ7_fill_53178 0 = .ok (.iconst 0, 1) := by decide +kernel
theorem dJ7_fill_53178_1 : decode cJ7_fill_53178 1 = .ok (.istore_n 2, 1) := by decide +kernel
theorem dJ7_fill_53178_2 : decode cJ7_fill_53178 2 = .ok (.aload_n 0, 1) := by decide +kernel
theorem dJ7_fill_53178_3 : decode cJ7_fill_53178 3 = .ok (.arraylength, 1) := by decide +kernel
theorem dJ7_fill_53178_4 : decode cJ7_fill_53178 4 = .ok (.istore_n 3, 1) := by decide +kernel
theorem dJ7_fill_53178_5 : decode cJ7_fill_53178 5 = .ok (.iload_n 2, 1) := by decide +kernel
theorem dJ7_fill_53178_6 : decode cJ7_fill_53178 6 = .ok (.iload_n 3, 1) := by decide +kernel
theorem dJ7_fill_53178_7 : decode cJ7_fill_53178 7 = .ok (.if_icmp .ge 13, 3) := by decide +kernel
theorem dJ7_fill_53178_10 : decode cJ7_fill_53178 10 = .ok (.aload_n 0, 1) := by decide +kernel
theorem dJ7_fill_53178_11 : decode cJ7_fill_53178 11 = .ok (.iload_n 2, 1) := by decide +kernel
theorem dJ7_fill_53178_12 : decode cJ7_fill_53178 12 = .ok (.iload_n 1, 1) := by decide +kernel
theorem dJ7_fill_53178_13 : decode cJ7_fill_53178 13 = .ok (.iastore, 1) := by decide +kernel
theorem dJ7_fill_53178_14 : decode cJ7_fill_53178 14 = .ok (.iinc 2 1, 3) := by decide +kernel
theorem dJ7_fill_53178_17 : decode cJ7_fill_53178 17 = .ok (.goto (-12), 3) := by decide +kernel
theorem dJ7_fill_53178_20 : decode cJ7_fill_53178 20 = .ok (.return_, 1) := by decide +kernel
theorem dL_layer_0 : decode cL_layer 0 = .ok (.aload_n 0, 1) := by decide +kernel
theorem dL_layer_1 : decode cL_layer 1 = .ok (.iload_n 1, 1) := by decide +kernel
theorem dL_layer_2 : decode cL_layer 2 = .ok (.iload_n 2, 1) := by decide +kernel
theorem dL_layer_3 : decode cL_layer 3 = .ok (.iload_n 3, 1) := by decide +kernel
theorem dL_layer_4 : decode cL_layer 4 = .ok (.iload 4, 2) := by decide +kernel
theorem dL_layer_6 : decode cL_layer 6 = .ok (.iload 5, 2) := by decide +kernel
theorem dL_layer_8 : decode cL_layer 8 = .ok (.invokevirtual 7, 3) := by decide +kernel
theorem dL_layer_11 : decode cL_layer 11 = .ok (.goto 15, 3) := by decide +kernel
theorem dL_layer_14 : decode cL_layer 14 = .ok (.astore 6, 2) := by decide +kernel
theorem dL_layer_16 : decode cL_layer 16 = .ok (.iconst 1, 1) := by decide +kernel
theorem dL_layer_17 : decode cL_layer 17 = .ok (.ireturn, 1) := by decide +kernel
theorem dL_layer_18 : decode cL_layer 18 = .ok (.astore 6, 2) := by decide +kernel
theorem dL_layer_20 : decode cL_layer 20 = .ok (.iconst 2, 1) := by decide +kernel
theorem dL_layer_21 : decode cL_layer 21 = .ok (.ireturn, 1) := by decide +kernel
theorem dL_layer_22 : decode cL_layer 22 = .ok (.astore 6, 2) := by decide +kernel
theorem dL_layer_24 : decode cL_layer 24 = .ok (.iconst 3, 1) := by decide +kernel
theorem dL_layer_25 : decode cL_layer 25 = .ok (.ireturn, 1) := by decide +kernel
theorem dL_layer_26 : decode cL_layer 26 = .ok (.iconst 0, 1) := by decide +kernel
theorem dL_layer_27 : decode cL_layer 27 = .ok (.ireturn, 1) := by decide +kernel
theorem dL_mud_0 : decode cL_mud 0 = .ok (.aload_n 2, 1) := by decide +kernel
theorem dL_mud_1 : decode cL_mud 1 = .ok (.iconst 0, 1) := by decide +kernel
theorem dL_mud_2 : decode cL_mud 2 = .ok (.aload_n 0, 1) := by decide +kernel
theorem dL_mud_3 : decode cL_mud 3 = .ok (.iload_n 1, 1) := by decide +kernel
theorem dL_mud_4 : decode cL_mud 4 = .ok (.invokevirtual 19, 3) := by decide +kernel
theorem dL_mud_7 : decode cL_mud 7 = .ok (.i2l, 1) := by decide +kernel
theorem dL_mud_8 : decode cL_mud 8 = .ok (.lastore, 1) := by decide +kernel
theorem dL_mud_9 : decode cL_mud 9 = .ok (.goto 9, 3) := by decide +kernel
theorem dL_mud_12 : decode cL_mud 12 = .ok (.astore_n 3, 1) := by decide +kernel
theorem dL_mud_13 : decode cL_mud 13 = .ok (.iconst 1, 1) := by decide +kernel
theorem dL_mud_14 : decode cL_mud 14 = .ok (.ireturn, 1) := by decide +kernel
theorem dL_mud_15 : decode cL_mud 15 = .ok (.astore_n 3, 1) := by decide +kernel
theorem dL_mud_16 : decode cL_mud 16 = .ok (.iconst 2, 1) := by decide +kernel
theorem dL_mud_17 : decode cL_mud 17 = .ok (.ireturn, 1) := by decide +kernel
theorem dL_mud_18 : decode cL_mud 18 = .ok (.iconst 0, 1) := by decide +kernel
theorem dL_mud_19 : decode cL_mud 19 = .ok (.ireturn, 1) := by decide +kernel
theorem dL_drill_0 : decode cL_drill 0 = .ok (.aload_n 2, 1) := by decide +kernel
theorem dL_drill_1 : decode cL_drill 1 = .ok (.iconst 0, 1) := by decide +kernel
theorem dL_drill_2 : decode cL_drill 2 = .ok (.aload_n 0, 1) := by decide +kernel
theorem dL_drill_3 : decode cL_drill 3 = .ok (.iload_n 1, 1) := by decide +kernel
theorem dL_drill_4 : decode cL_drill 4 = .ok (.invokevirtual 23, 3) := by decide +kernel
theorem dL_drill_7 : decode cL_drill 7 = .ok (.i2l, 1) := by decide +kernel
theorem dL_drill_8 : decode cL_drill 8 = .ok (.lastore, 1) := by decide +kernel
theorem dL_drill_9 : decode cL_drill 9 = .ok (.goto 9, 3) := by decide +kernel
theorem dL_drill_12 : decode cL_drill 12 = .ok (.astore_n 3, 1) := by decide +kernel
theorem dL_drill_13 : decode cL_drill 13 = .ok (.iconst 1, 1) := by decide +kernel
theorem dL_drill_14 : decode cL_drill 14 = .ok (.ireturn, 1) := by decide +kernel
theorem dL_drill_15 : decode cL_drill 15 = .ok (.astore_n 3, 1) := by decide +kernel
theorem dL_drill_16 : decode cL_drill 16 = .ok (.iconst 2, 1) := by decide +kernel
theorem dL_drill_17 : decode cL_drill 17 = .ok (.ireturn, 1) := by decide +kernel
theorem dL_drill_18 : decode cL_drill 18 = .ok (.iconst 0, 1) := by decide +kernel
theorem dL_drill_19 : decode cL_drill 19 = .ok (.ireturn, 1) := by decide +kernel
theorem dL_pass_0 : decode cL_pass 0 = .ok (.aload_n 2, 1) := by decide +kernel
theorem dL_pass_1 : decode cL_pass 1 = .ok (.iconst 0, 1) := by decide +kernel
theorem dL_pass_2 : decode cL_pass 2 = .ok (.aload_n 0, 1) := by decide +kernel
theorem dL_pass_3 : decode cL_pass 3 = .ok (.iload_n 1, 1) := by decide +kernel
theorem dL_pass_4 : decode cL_pass 4 = .ok (.invokevirtual 26, 3) := by decide +kernel
theorem dL_pass_7 : decode cL_pass 7 = .ok (.i2l, 1) := by decide +kernel
theorem dL_pass_8 : decode cL_pass 8 = .ok (.lastore, 1) := by decide +kernel
theorem dL_pass_9 : decode cL_pass 9 = .ok (.goto 9, 3) := by decide +kernel
theorem dL_pass_12 : decode cL_pass 12 = .ok (.astore_n 3, 1) := by decide +kernel
theorem dL_pass_13 : decode cL_pass 13 = .ok (.iconst 1, 1) := by decide +kernel
theorem dL_pass_14 : decode cL_pass 14 = .ok (.ireturn, 1) := by decide +kernel
theorem dL_pass_15 : decode cL_pass 15 = .ok (.astore_n 3, 1) := by decide +kernel
theorem dL_pass_16 : decode cL_pass 16 = .ok (.iconst 2, 1) := by decide +kernel
theorem dL_pass_17 : decode cL_pass 17 = .ok (.ireturn, 1) := by decide +kernel
theorem dL_pass_18 : decode cL_pass 18 = .ok (.iconst 0, 1) := by decide +kernel
theorem dL_pass_19 : decode cL_pass 19 = .ok (.ireturn, 1) := by decide +kernel
theorem dL_close_0 : decode cL_close 0 = .ok (.aload_n 0, 1) := by decide +kernel
theorem dL_close_1 : decode cL_close 1 = .ok (.invokevirtual 29, 3) := by decide +kernel
theorem dL_close_4 : decode cL_close 4 = .ok (.goto 6, 3) := by decide +kernel
theorem dL_close_7 : decode cL_close 7 = .ok (.astore_n 1, 1) := by decide +kernel
theorem dL_close_8 : decode cL_close 8 = .ok (.iconst 1, 1) := by decide +kernel
theorem dL_close_9 : decode cL_close 9 = .ok (.ireturn, 1) := by decide +kernel
theorem dL_close_10 : decode cL_close 10 = .ok (.iconst 0, 1) := by decide +kernel
theorem dL_close_11 : decode cL_close 11 = .ok (.ireturn, 1) := by decide +kernel
theorem dL_open_0 : decode cL_open 0 = .ok (.aload_n 1, 1) := by decide +kernel
theorem dL_open_1 : decode cL_open 1 = .ok (.iconst 0, 1) := by decide +kernel
theorem dL_open_2 : decode cL_open 2 = .ok (.aload_n 0, 1) := by decide +kernel
theorem dL_open_3 : decode cL_open 3 = .ok (.invokevirtual 32, 3) := by decide +kernel
theorem dL_open_6 : decode cL_open 6 = .ok (.i2l, 1) := by decide +kernel
theorem dL_open_7 : decode cL_open 7 = .ok (.lastore, 1) := by decide +kernel
theorem dL_open_8 : decode cL_open 8 = .ok (.goto 6, 3) := by decide +kernel
theorem dL_open_11 : decode cL_open 11 = .ok (.astore_n 2, 1) := by decide +kernel
theorem dL_open_12 : decode cL_open 12 = .ok (.iconst 1, 1) := by decide +kernel
theorem dL_open_13 : decode cL_open 13 = .ok (.ireturn, 1) := by decide +kernel
theorem dL_open_14 : decode cL_open 14 = .ok (.iconst 0, 1) := by decide +kernel
theorem dL_open_15 : decode cL_open 15 = .ok (.ireturn, 1) := by decide +kernel
theorem dL_pump_0 : decode cL_pump 0 = .ok (.aload_n 3, 1) := by decide +kernel
theorem dL_pump_1 : decode cL_pump 1 = .ok (.iconst 0, 1) := by decide +kernel
theorem dL_pump_2 : decode cL_pump 2 = .ok (.aload_n 0, 1) := by decide +kernel
theorem dL_pump_3 : decode cL_pump 3 = .ok (.iload_n 1, 1) := by decide +kernel
theorem dL_pump_4 : decode cL_pump 4 = .ok (.iload_n 2, 1) := by decide +kernel
theorem dL_pump_5 : decode cL_pump 5 = .ok (.invokevirtual 36, 3) := by decide +kernel
theorem dL_pump_8 : decode cL_pump 8 = .ok (.i2l, 1) := by decide +kernel
theorem dL_pump_9 : decode cL_pump 9 = .ok (.lastore, 1) := by decide +kernel
theorem dL_pump_10 : decode cL_pump 10 = .ok (.goto 11, 3) := by decide +kernel
theorem dL_pump_13 : decode cL_pump 13 = .ok (.astore 4, 2) := by decide +kernel
theorem dL_pump_15 : decode cL_pump 15 = .ok (.iconst 1, 1) := by decide +kernel
theorem dL_pump_16 : decode cL_pump 16 = .ok (.ireturn, 1) := by decide +kernel
theorem dL_pump_17 : decode cL_pump 17 = .ok (.astore 4, 2) := by decide +kernel
theorem dL_pump_19 : decode cL_pump 19 = .ok (.iconst 2, 1) := by decide +kernel
theorem dL_pump_20 : decode cL_pump 20 = .ok (.ireturn, 1) := by decide +kernel
theorem dL_pump_21 : decode cL_pump 21 = .ok (.iconst 0, 1) := by decide +kernel
theorem dL_pump_22 : decode cL_pump 22 = .ok (.ireturn, 1) := by decide +kernel
theorem dL_casing_0 : decode cL_casing 0 = .ok (.aload_n 2, 1) := by decide +kernel
theorem dL_casing_1 : decode cL_casing 1 = .ok (.iconst 0, 1) := by decide +kernel
theorem dL_casing_2 : decode cL_casing 2 = .ok (.aload_n 0, 1) := by decide +kernel
theorem dL_casing_3 : decode cL_casing 3 = .ok (.iload_n 1, 1) := by decide +kernel
theorem dL_casing_4 : decode cL_casing 4 = .ok (.invokevirtual 40, 3) := by decide +kernel
theorem dL_casing_7 : decode cL_casing 7 = .ok (.i2l, 1) := by decide +kernel
theorem dL_casing_8 : decode cL_casing 8 = .ok (.lastore, 1) := by decide +kernel
theorem dL_casing_9 : decode cL_casing 9 = .ok (.goto 9, 3) := by decide +kernel
theorem dL_casing_12 : decode cL_casing 12 = .ok (.astore_n 3, 1) := by decide +kernel
theorem dL_casing_13 : decode cL_casing 13 = .ok (.iconst 1, 1) := by decide +kernel
theorem dL_casing_14 : decode cL_casing 14 = .ok (.ireturn, 1) := by decide +kernel
theorem dL_casing_15 : decode cL_casing 15 = .ok (.astore_n 3, 1) := by decide +kernel
theorem dL_casing_16 : decode cL_casing 16 = .ok (.iconst 2, 1) := by decide +kernel
theorem dL_casing_17 : decode cL_casing 17 = .ok (.ireturn, 1) := by decide +kernel
theorem dL_casing_18 : decode cL_casing 18 = .ok (.iconst 0, 1) := by decide +kernel
theorem dL_casing_19 : decode cL_casing 19 = .ok (.ireturn, 1) := by decide +kernel
theorem dL_strength_0 : decode cL_strength 0 = .ok (.aload_n 2, 1) := by decide +kernel
theorem dL_strength_1 : decode cL_strength 1 = .ok (.iconst 0, 1) := by decide +kernel
theorem dL_strength_2 : decode cL_strength 2 = .ok (.aload_n 0, 1) := by decide +kernel
theorem dL_strength_3 : decode cL_strength 3 = .ok (.iload_n 1, 1) := by decide +kernel
theorem dL_strength_4 : decode cL_strength 4 = .ok (.invokevirtual 43, 3) := by decide +kernel
theorem dL_strength_7 : decode cL_strength 7 = .ok (.i2l, 1) := by decide +kernel
theorem dL_strength_8 : decode cL_strength 8 = .ok (.lastore, 1) := by decide +kernel
theorem dL_strength_9 : decode cL_strength 9 = .ok (.goto 6, 3) := by decide +kernel
theorem dL_strength_12 : decode cL_strength 12 = .ok (.astore_n 3, 1) := by decide +kernel
theorem dL_strength_13 : decode cL_strength 13 = .ok (.iconst 1, 1) := by decide +kernel
theorem dL_strength_14 : decode cL_strength 14 = .ok (.ireturn, 1) := by decide +kernel
theorem dL_strength_15 : decode cL_strength 15 = .ok (.iconst 0, 1) := by decide +kernel
theorem dL_strength_16 : decode cL_strength 16 = .ok (.ireturn, 1) := by decide +kernel
theorem dL_test_0 : decode cL_test 0 = .ok (.aload_n 3, 1) := by decide +kernel
theorem dL_test_1 : decode cL_test 1 = .ok (.iconst 0, 1) := by decide +kernel
theorem dL_test_2 : decode cL_test 2 = .ok (.aload_n 0, 1) := by decide +kernel
theorem dL_test_3 : decode cL_test 3 = .ok (.iload_n 1, 1) := by decide +kernel
theorem dL_test_4 : decode cL_test 4 = .ok (.iload_n 2, 1) := by decide +kernel
theorem dL_test_5 : decode cL_test 5 = .ok (.invokevirtual 46, 3) := by decide +kernel
theorem dL_test_8 : decode cL_test 8 = .ok (.ifCond .eq 7, 3) := by decide +kernel
theorem dL_test_11 : decode cL_test 11 = .ok (.lconst 1, 1) := by decide +kernel
theorem dL_test_12 : decode cL_test 12 = .ok (.goto 4, 3) := by decide +kernel
theorem dL_test_15 : decode cL_test 15 = .ok (.lconst 0, 1) := by decide +kernel
theorem dL_test_16 : decode cL_test 16 = .ok (.lastore, 1) := by decide +kernel
theorem dL_test_17 : decode cL_test 17 = .ok (.goto 11, 3) := by decide +kernel
theorem dL_test_20 : decode cL_test 20 = .ok (.astore 4, 2) := by decide +kernel
theorem dL_test_22 : decode cL_test 22 = .ok (.iconst 1, 1) := by decide +kernel
theorem dL_test_23 : decode cL_test 23 = .ok (.ireturn, 1) := by decide +kernel
theorem dL_test_24 : decode cL_test 24 = .ok (.astore 4, 2) := by decide +kernel
theorem dL_test_26 : decode cL_test 26 = .ok (.iconst 2, 1) := by decide +kernel
theorem dL_test_27 : decode cL_test 27 = .ok (.ireturn, 1) := by decide +kernel
theorem dL_test_28 : decode cL_test 28 = .ok (.iconst 0, 1) := by decide +kernel
theorem dL_test_29 : decode cL_test 29 = .ok (.ireturn, 1) := by decide +kernel
theorem dL_stop_0 : decode cL_stop 0 = .ok (.aload_n 3, 1) := by decide +kernel
theorem dL_stop_1 : decode cL_stop 1 = .ok (.iconst 0, 1) := by decide +kernel
theorem dL_stop_2 : decode cL_stop 2 = .ok (.aload_n 0, 1) := by decide +kernel
theorem dL_stop_3 : decode cL_stop 3 = .ok (.iload_n 1, 1) := by decide +kernel
theorem dL_stop_4 : decode cL_stop 4 = .ok (.iload_n 2, 1) := by decide +kernel
theorem dL_stop_5 : decode cL_stop 5 = .ok (.invokevirtual 50, 3) := by decide +kernel
theorem dL_stop_8 : decode cL_stop 8 = .ok (.i2l, 1) := by decide +kernel
theorem dL_stop_9 : decode cL_stop 9 = .ok (.lastore, 1) := by decide +kernel
theorem dL_stop_10 : decode cL_stop 10 = .ok (.goto 7, 3) := by decide +kernel
theorem dL_stop_13 : decode cL_stop 13 = .ok (.astore 4, 2) := by decide +kernel
theorem dL_stop_15 : decode cL_stop 15 = .ok (.iconst 1, 1) := by decide +kernel
theorem dL_stop_16 : decode cL_stop 16 = .ok (.ireturn, 1) := by decide +kernel
theorem dL_stop_17 : decode cL_stop 17 = .ok (.iconst 0, 1) := by decide +kernel
theorem dL_stop_18 : decode cL_stop 18 = .ok (.ireturn, 1) := by decide +kernel
theorem dL_pressure_0 : decode cL_pressure 0 = .ok (.aload_n 2, 1) := by decide +kernel
theorem dL_pressure_1 : decode cL_pressure 1 = .ok (.iconst 0, 1) := by decide +kernel
theorem dL_pressure_2 : decode cL_pressure 2 = .ok (.aload_n 0, 1) := by decide +kernel
theorem dL_pressure_3 : decode cL_pressure 3 = .ok (.iload_n 1, 1) := by decide +kernel
theorem dL_pressure_4 : decode cL_pressure 4 = .ok (.invokevirtual 54, 3) := by decide +kernel
theorem dL_pressure_7 : decode cL_pressure 7 = .ok (.i2l, 1) := by decide +kernel
theorem dL_pressure_8 : decode cL_pressure 8 = .ok (.lastore, 1) := by decide +kernel
theorem dL_pressure_9 : decode cL_pressure 9 = .ok (.goto 6, 3) := by decide +kernel
theorem dL_pressure_12 : decode cL_pressure 12 = .ok (.astore_n 3, 1) := by decide +kernel
theorem dL_pressure_13 : decode cL_pressure 13 = .ok (.iconst 1, 1) := by decide +kernel
theorem dL_pressure_14 : decode cL_pressure 14 = .ok (.ireturn, 1) := by decide +kernel
theorem dL_pressure_15 : decode cL_pressure 15 = .ok (.iconst 0, 1) := by decide +kernel
theorem dL_pressure_16 : decode cL_pressure 16 = .ok (.ireturn, 1) := by decide +kernel
theorem dL_of_0 : decode cL_of 0 = .ok (.aload_n 2, 1) := by decide +kernel
theorem dL_of_1 : decode cL_of 1 = .ok (.iconst 0, 1) := by decide +kernel
theorem dL_of_2 : decode cL_of 2 = .ok (.aload_n 0, 1) := by decide +kernel
theorem dL_of_3 : decode cL_of 3 = .ok (.iload_n 1, 1) := by decide +kernel
theorem dL_of_4 : decode cL_of 4 = .ok (.invokevirtual 57, 3) := by decide +kernel
theorem dL_of_7 : decode cL_of 7 = .ok (.lastore, 1) := by decide +kernel
theorem dL_of_8 : decode cL_of 8 = .ok (.goto 6, 3) := by decide +kernel
theorem dL_of_11 : decode cL_of 11 = .ok (.astore_n 3, 1) := by decide +kernel
theorem dL_of_12 : decode cL_of 12 = .ok (.iconst 1, 1) := by decide +kernel
theorem dL_of_13 : decode cL_of 13 = .ok (.ireturn, 1) := by decide +kernel
theorem dL_of_14 : decode cL_of 14 = .ok (.iconst 0, 1) := by decide +kernel
theorem dL_of_15 : decode cL_of 15 = .ok (.ireturn, 1) := by decide +kernel
theorem dL_ofTest_0 : decode cL_ofTest 0 = .ok (.aload_n 3, 1) := by decide +kernel
theorem dL_ofTest_1 : decode cL_ofTest 1 = .ok (.iconst 0, 1) := by decide +kernel
theorem dL_ofTest_2 : decode cL_ofTest 2 = .ok (.aload_n 0, 1) := by decide +kernel
theorem dL_ofTest_3 : decode cL_ofTest 3 = .ok (.iload_n 1, 1) := by decide +kernel
theorem dL_ofTest_4 : decode cL_ofTest 4 = .ok (.iload_n 2, 1) := by decide +kernel
theorem dL_ofTest_5 : decode cL_ofTest 5 = .ok (.invokevirtual 61, 3) := by decide +kernel
theorem dL_ofTest_8 : decode cL_ofTest 8 = .ok (.i2l, 1) := by decide +kernel
theorem dL_ofTest_9 : decode cL_ofTest 9 = .ok (.lastore, 1) := by decide +kernel
theorem dL_ofTest_10 : decode cL_ofTest 10 = .ok (.goto 11, 3) := by decide +kernel
theorem dL_ofTest_13 : decode cL_ofTest 13 = .ok (.astore 4, 2) := by decide +kernel
theorem dL_ofTest_15 : decode cL_ofTest 15 = .ok (.iconst 1, 1) := by decide +kernel
theorem dL_ofTest_16 : decode cL_ofTest 16 = .ok (.ireturn, 1) := by decide +kernel
theorem dL_ofTest_17 : decode cL_ofTest 17 = .ok (.astore 4, 2) := by decide +kernel
theorem dL_ofTest_19 : decode cL_ofTest 19 = .ok (.iconst 2, 1) := by decide +kernel
theorem dL_ofTest_20 : decode cL_ofTest 20 = .ok (.ireturn, 1) := by decide +kernel
theorem dL_ofTest_21 : decode cL_ofTest 21 = .ok (.iconst 0, 1) := by decide +kernel
theorem dL_ofTest_22 : decode cL_ofTest 22 = .ok (.ireturn, 1) := by decide +kernel
theorem dL_killWeight_0 : decode cL_killWeight 0 = .ok (.aload_n 1, 1) := by decide +kernel
theorem dL_killWeight_1 : decode cL_killWeight 1 = .ok (.iconst 0, 1) := by decide +kernel
theorem dL_killWeight_2 : decode cL_killWeight 2 = .ok (.aload_n 0, 1) := by decide +kernel
theorem dL_killWeight_3 : decode cL_killWeight 3 = .ok (.invokevirtual 64, 3) := by decide +kernel
theorem dL_killWeight_6 : decode cL_killWeight 6 = .ok (.i2l, 1) := by decide +kernel
theorem dL_killWeight_7 : decode cL_killWeight 7 = .ok (.lastore, 1) := by decide +kernel
theorem dL_killWeight_8 : decode cL_killWeight 8 = .ok (.goto 6, 3) := by decide +kernel
theorem dL_killWeight_11 : decode cL_killWeight 11 = .ok (.astore_n 2, 1) := by decide +kernel
theorem dL_killWeight_12 : decode cL_killWeight 12 = .ok (.iconst 1, 1) := by decide +kernel
theorem dL_killWeight_13 : decode cL_killWeight 13 = .ok (.ireturn, 1) := by decide +kernel
theorem dL_killWeight_14 : decode cL_killWeight 14 = .ok (.iconst 0, 1) := by decide +kernel
theorem dL_killWeight_15 : decode cL_killWeight 15 = .ok (.ireturn, 1) := by decide +kernel
theorem dL_window_0 : decode cL_window 0 = .ok (.aload 4, 2) := by decide +kernel
theorem dL_window_2 : decode cL_window 2 = .ok (.iconst 0, 1) := by decide +kernel
theorem dL_window_3 : decode cL_window 3 = .ok (.aload_n 0, 1) := by decide +kernel
theorem dL_window_4 : decode cL_window 4 = .ok (.iload_n 1, 1) := by decide +kernel
theorem dL_window_5 : decode cL_window 5 = .ok (.iload_n 2, 1) := by decide +kernel
theorem dL_window_6 : decode cL_window 6 = .ok (.iload_n 3, 1) := by decide +kernel
theorem dL_window_7 : decode cL_window 7 = .ok (.invokevirtual 67, 3) := by decide +kernel
theorem dL_window_10 : decode cL_window 10 = .ok (.i2l, 1) := by decide +kernel
theorem dL_window_11 : decode cL_window 11 = .ok (.lastore, 1) := by decide +kernel
theorem dL_window_12 : decode cL_window 12 = .ok (.goto 7, 3) := by decide +kernel
theorem dL_window_15 : decode cL_window 15 = .ok (.astore 5, 2) := by decide +kernel
theorem dL_window_17 : decode cL_window 17 = .ok (.iconst 1, 1) := by decide +kernel
theorem dL_window_18 : decode cL_window 18 = .ok (.ireturn, 1) := by decide +kernel
theorem dL_window_19 : decode cL_window 19 = .ok (.iconst 0, 1) := by decide +kernel
theorem dL_window_20 : decode cL_window 20 = .ok (.ireturn, 1) := by decide +kernel
theorem dL_casings_0 : decode cL_casings 0 = .ok (.aload_n 2, 1) := by decide +kernel
theorem dL_casings_1 : decode cL_casings 1 = .ok (.iconst 0, 1) := by decide +kernel
theorem dL_casings_2 : decode cL_casings 2 = .ok (.aload_n 0, 1) := by decide +kernel
theorem dL_casings_3 : decode cL_casings 3 = .ok (.iload_n 1, 1) := by decide +kernel
theorem dL_casings_4 : decode cL_casings 4 = .ok (.invokevirtual 71, 3) := by decide +kernel
theorem dL_casings_7 : decode cL_casings 7 = .ok (.i2l, 1) := by decide +kernel
theorem dL_casings_8 : decode cL_casings 8 = .ok (.lastore, 1) := by decide +kernel
theorem dL_casings_9 : decode cL_casings 9 = .ok (.goto 6, 3) := by decide +kernel
theorem dL_casings_12 : decode cL_casings 12 = .ok (.astore_n 3, 1) := by decide +kernel
theorem dL_casings_13 : decode cL_casings 13 = .ok (.iconst 1, 1) := by decide +kernel
theorem dL_casings_14 : decode cL_casings 14 = .ok (.ireturn, 1) := by decide +kernel
theorem dL_casings_15 : decode cL_casings 15 = .ok (.iconst 0, 1) := by decide +kernel
theorem dL_casings_16 : decode cL_casings 16 = .ok (.ireturn, 1) := by decide +kernel
theorem dL_casingsAnew_0 : decode cL_casingsAnew 0 = .ok (.aload_n 2, 1) := by decide +kernel
theorem dL_casingsAnew_1 : decode cL_casingsAnew 1 = .ok (.iconst 0, 1) := by decide +kernel
theorem dL_casingsAnew_2 : decode cL_casingsAnew 2 = .ok (.aload_n 0, 1) := by decide +kernel
theorem dL_casingsAnew_3 : decode cL_casingsAnew 3 = .ok (.iload_n 1, 1) := by decide +kernel
theorem dL_casingsAnew_4 : decode cL_casingsAnew 4 = .ok (.invokevirtual 74, 3) := by decide +kernel
theorem dL_casingsAnew_7 : decode cL_casingsAnew 7 = .ok (.i2l, 1) := by decide +kernel
theorem dL_casingsAnew_8 : decode cL_casingsAnew 8 = .ok (.lastore, 1) := by decide +kernel
theorem dL_casingsAnew_9 : decode cL_casingsAnew 9 = .ok (.goto 6, 3) := by decide +kernel
theorem dL_casingsAnew_12 : decode cL_casingsAnew 12 = .ok (.astore_n 3, 1) := by decide +kernel
theorem dL_casingsAnew_13 : decode cL_casingsAnew 13 = .ok (.iconst 1, 1) := by decide +kernel
theorem dL_casingsAnew_14 : decode cL_casingsAnew 14 = .ok (.ireturn, 1) := by decide +kernel
theorem dL_casingsAnew_15 : decode cL_casingsAnew 15 = .ok (.iconst 0, 1) := by decide +kernel
theorem dL_casingsAnew_16 : decode cL_casingsAnew 16 = .ok (.ireturn, 1) := by decide +kernel
theorem dL_equivalent_0 : decode cL_equivalent 0 = .ok (.aload_n 1, 1) := by decide +kernel
theorem dL_equivalent_1 : decode cL_equivalent 1 = .ok (.iconst 0, 1) := by decide +kernel
theorem dL_equivalent_2 : decode cL_equivalent 2 = .ok (.aload_n 0, 1) := by decide +kernel
theorem dL_equivalent_3 : decode cL_equivalent 3 = .ok (.invokevirtual 77, 3) := by decide +kernel
theorem dL_equivalent_6 : decode cL_equivalent 6 = .ok (.f2d, 1) := by decide +kernel
theorem dL_equivalent_7 : decode cL_equivalent 7 = .ok (.dastore, 1) := by decide +kernel
theorem dL_equivalent_8 : decode cL_equivalent 8 = .ok (.goto 6, 3) := by decide +kernel
theorem dL_equivalent_11 : decode cL_equivalent 11 = .ok (.astore_n 2, 1) := by decide +kernel
theorem dL_equivalent_12 : decode cL_equivalent 12 = .ok (.iconst 1, 1) := by decide +kernel
theorem dL_equivalent_13 : decode cL_equivalent 13 = .ok (.ireturn, 1) := by decide +kernel
theorem dL_equivalent_14 : decode cL_equivalent 14 = .ok (.iconst 0, 1) := by decide +kernel
theorem dL_equivalent_15 : decode cL_equivalent 15 = .ok (.ireturn, 1) := by decide +kernel
theorem dL_ahead_0 : decode cL_ahead 0 = .ok (.aload_n 2, 1) := by decide +kernel
theorem dL_ahead_1 : decode cL_ahead 1 = .ok (.iconst 0, 1) := by decide +kernel
theorem dL_ahead_2 : decode cL_ahead 2 = .ok (.aload_n 0, 1) := by decide +kernel
theorem dL_ahead_3 : decode cL_ahead 3 = .ok (.iload_n 1, 1) := by decide +kernel
theorem dL_ahead_4 : decode cL_ahead 4 = .ok (.invokevirtual 81, 3) := by decide +kernel
theorem dL_ahead_7 : decode cL_ahead 7 = .ok (.i2l, 1) := by decide +kernel
theorem dL_ahead_8 : decode cL_ahead 8 = .ok (.lastore, 1) := by decide +kernel
theorem dL_ahead_9 : decode cL_ahead 9 = .ok (.goto 6, 3) := by decide +kernel
theorem dL_ahead_12 : decode cL_ahead 12 = .ok (.astore_n 3, 1) := by decide +kernel
theorem dL_ahead_13 : decode cL_ahead 13 = .ok (.iconst 1, 1) := by decide +kernel
theorem dL_ahead_14 : decode cL_ahead 14 = .ok (.ireturn, 1) := by decide +kernel
theorem dL_ahead_15 : decode cL_ahead 15 = .ok (.iconst 0, 1) := by decide +kernel
theorem dL_ahead_16 : decode cL_ahead 16 = .ok (.ireturn, 1) := by decide +kernel
