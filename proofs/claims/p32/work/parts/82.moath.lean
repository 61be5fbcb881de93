theorem dX12_put_0 : decode cX12_put 0 = .ok (.aload_n 0, 1) := by decide +kernel
theorem dX12_put_1 : decode cX12_put 1 = .ok (.getfield 7, 3) := by decide +kernel
theorem dX12_put_4 : decode cX12_put 4 = .ok (.bipush 16, 2) := by decide +kernel
theorem dX12_put_6 : decode cX12_put 6 = .ok (.bipush 7, 2) := by decide +kernel
theorem dX12_put_8 : decode cX12_put 8 = .ok (.iload_n 1, 1) := by decide +kernel
theorem dX12_put_9 : decode cX12_put 9 = .ok (.imul, 1) := by decide +kernel
theorem dX12_put_10 : decode cX12_put 10 = .ok (.iadd, 1) := by decide +kernel
theorem dX12_put_11 : decode cX12_put 11 = .ok (.iload_n 2, 1) := by decide +kernel
theorem dX12_put_12 : decode cX12_put 12 = .ok (.iadd, 1) := by decide +kernel
theorem dX12_put_13 : decode cX12_put 13 = .ok (.iload_n 3, 1) := by decide +kernel
theorem dX12_put_14 : decode cX12_put 14 = .ok (.iastore, 1) := by decide +kernel
theorem dX12_put_15 : decode cX12_put 15 = .ok (.return_, 1) := by decide +kernel
theorem dX12_isLegible_0 : decode cX12_isLegible 0 = .ok (.aload_n 0, 1) := by decide +kernel
theorem dX12_isLegible_1 : decode cX12_isLegible 1 = .ok (.iload_n 1, 1) := by decide +kernel
theorem dX12_isLegible_2 : decode cX12_isLegible 2 = .ok (.iconst 5, 1) := by decide +kernel
theorem dX12_isLegible_3 : decode cX12_isLegible 3 = .ok (.invokevirtual 73, 3) := by decide +kernel
theorem cw_X12_get : CWv yX12_get cX12_get 3 (some .int) 2 := ⟨⟨⟨List.mem_of_getElem? (i := 137) (by decide +kernel), by decide +kernel⟩, ⟨List.mem_of_getElem? (i := 1812) (by decide +kernel), by decide +kernel⟩, by decide +kernel⟩, ⟨List.mem_of_getElem? (i := 1811) (by decide +kernel), by decide +kernel⟩, ⟨List.mem_of_getElem? (i := 84) (by decide +kernel), by decide +kernel⟩⟩
theorem km12_73 : inW (Cond.methodLink RX12 73 yX12_get) := ⟨List.mem_of_getElem? (i := 1809) (by decide +kernel), by decide +kernel⟩
theorem dX12_isLegible_6 : decode cX12_isLegible 6 = .ok (.bipush 99, 2) := by decide +kernel
theorem dX12_isLegible_8 : decode cX12_isLegible 8 = .ok (.if_icmp .ge 17, 3) := by decide +kernel
theorem dX12_isLegible_25 : decode cX12_isLegible 25 = .ok (.iconst 0, 1) := by decide +kernel
theorem dX12_isLegible_26 : decode cX12_isLegible 26 = .ok (.ireturn, 1) := by decide +kernel
theorem dX12_isLegible_11 : decode cX12_isLegible 11 = .ok (.aload_n 0, 1) := by decide +kernel
theorem dX12_isLegible_12 : decode cX12_isLegible 12 = .ok (.iload_n 1, 1) := by decide +kernel
theorem dX12_isLegible_13 : decode cX12_isLegible 13 = .ok (.iconst 4, 1) := by decide +kernel
theorem dX12_isLegible_14 : decode cX12_isLegible 14 = .ok (.invokevirtual 73, 3) := by decide +kernel
theorem dX12_isLegible_17 : decode cX12_isLegible 17 = .ok (.iconst 2, 1) := by decide +kernel
theorem dX12_isLegible_18 : decode cX12_isLegible 18 = .ok (.if_icmp .eq 7, 3) := by decide +kernel
theorem dX12_isLegible_21 : decode cX12_isLegible 21 = .ok (.iconst 1, 1) := by decide +kernel
theorem dX12_isLegible_22 : decode cX12_isLegible 22 = .ok (.goto 4, 3) := by decide +kernel
theorem dX12_legibleOn_0 : decode cX12_legibleOn 0 = .ok (.iconst 0, 1) := by decide +kernel
theorem dX12_legibleOn_1 : decode cX12_legibleOn 1 = .ok (.istore_n 2, 1) := by decide +kernel
theorem dX12_legibleOn_2 : decode cX12_legibleOn 2 = .ok (.iconst 0, 1) := by decide +kernel
theorem dX12_legibleOn_3 : decode cX12_legibleOn 3 = .ok (.istore_n 3, 1) := by decide +kernel
theorem dX12_legibleOn_4 : decode cX12_legibleOn 4 = .ok (.iload_n 3, 1) := by decide +kernel
theorem dX12_legibleOn_5 : decode cX12_legibleOn 5 = .ok (.aload_n 0, 1) := by decide +kernel
theorem dX12_legibleOn_6 : decode cX12_legibleOn 6 = .ok (.getfield 7, 3) := by decide +kernel
theorem dX12_legibleOn_9 : decode cX12_legibleOn 9 = .ok (.bipush 13, 2) := by decide +kernel
theorem dX12_legibleOn_11 : decode cX12_legibleOn 11 = .ok (.iaload, 1) := by decide +kernel
theorem dX12_legibleOn_12 : decode cX12_legibleOn 12 = .ok (.if_icmp .ge 37, 3) := by decide +kernel
theorem dX12_legibleOn_49 : decode cX12_legibleOn 49 = .ok (.iload_n 2, 1) := by decide +kernel
theorem dX12_legibleOn_50 : decode cX12_legibleOn 50 = .ok (.ireturn, 1) := by decide +kernel
theorem dX12_legibleOn_15 : decode cX12_legibleOn 15 = .ok (.iload_n 2, 1) := by decide +kernel
theorem dX12_legibleOn_16 : decode cX12_legibleOn 16 = .ok (.aload_n 0, 1) := by decide +kernel
theorem dX12_legibleOn_17 : decode cX12_legibleOn 17 = .ok (.iload_n 3, 1) := by decide +kernel
theorem dX12_legibleOn_18 : decode cX12_legibleOn 18 = .ok (.iconst 1, 1) := by decide +kernel
theorem dX12_legibleOn_19 : decode cX12_legibleOn 19 = .ok (.invokevirtual 73, 3) := by decide +kernel
theorem dX12_legibleOn_22 : decode cX12_legibleOn 22 = .ok (.iload_n 1, 1) := by decide +kernel
theorem dX12_legibleOn_23 : decode cX12_legibleOn 23 = .ok (.if_icmp .ne 17, 3) := by decide +kernel
theorem dX12_legibleOn_40 : decode cX12_legibleOn 40 = .ok (.iconst 0, 1) := by decide +kernel
theorem dX12_legibleOn_41 : decode cX12_legibleOn 41 = .ok (.ior, 1) := by decide +kernel
theorem dX12_legibleOn_42 : decode cX12_legibleOn 42 = .ok (.istore_n 2, 1) := by decide +kernel
theorem dX12_legibleOn_43 : decode cX12_legibleOn 43 = .ok (.iinc 3 1, 3) := by decide +kernel
theorem dX12_legibleOn_46 : decode cX12_legibleOn 46 = .ok (.goto (-42), 3) := by decide +kernel
theorem dX12_legibleOn_26 : decode cX12_legibleOn 26 = .ok (.aload_n 0, 1) := by decide +kernel
theorem dX12_legibleOn_27 : decode cX12_legibleOn 27 = .ok (.iload_n 3, 1) := by decide +kernel
theorem dX12_legibleOn_28 : decode cX12_legibleOn 28 = .ok (.invokevirtual 77, 3) := by decide +kernel
theorem cw_X12_isLegible : CWv yX12_isLegible cX12_isLegible 2 (some .boolean) 1 := ⟨⟨⟨List.mem_of_getElem? (i := 137) (by decide +kernel), by decide +kernel⟩, ⟨List.mem_of_getElem? (i := 1864) (by decide +kernel), by decide +kernel⟩, by decide +kernel⟩, ⟨List.mem_of_getElem? (i := 1863) (by decide +kernel), by decide +kernel⟩, ⟨List.mem_of_getElem? (i := 95) (by decide +kernel), by decide +kernel⟩⟩
theorem km12_77 : inW (Cond.methodLink RX12 77 yX12_isLegible) := ⟨List.mem_of_getElem? (i := 1861) (by decide +kernel), by decide +kernel⟩
theorem dX12_legibleOn_31 : decode cX12_legibleOn 31 = .ok (.ifCond .eq 9, 3) := by decide +kernel
theorem dX12_legibleOn_34 : decode cX12_legibleOn 34 = .ok (.iconst 1, 1) := by decide +kernel
theorem dX12_legibleOn_35 : decode cX12_legibleOn 35 = .ok (.iload_n 3, 1) := by decide +kernel
theorem dX12_legibleOn_36 : decode cX12_legibleOn 36 = .ok (.ishl, 1) := by decide +kernel
theorem dX12_legibleOn_37 : decode cX12_legibleOn 37 = .ok (.goto 4, 3) := by decide +kernel
theorem dX12_legible_0 : decode cX12_legible 0 = .ok (.iconst 0, 1) := by decide +kernel
theorem dX12_legible_1 : decode cX12_legible 1 = .ok (.istore_n 1, 1) := by decide +kernel
theorem dX12_legible_2 : decode cX12_legible 2 = .ok (.iconst 0, 1) := by decide +kernel
theorem dX12_legible_3 : decode cX12_legible 3 = .ok (.istore_n 2, 1) := by decide +kernel
theorem dX12_legible_4 : decode cX12_legible 4 = .ok (.iload_n 2, 1) := by decide +kernel
theorem dX12_legible_5 : decode cX12_legible 5 = .ok (.aload_n 0, 1) := by decide +kernel
theorem dX12_legible_6 : decode cX12_legible 6 = .ok (.getfield 7, 3) := by decide +kernel
theorem dX12_legible_9 : decode cX12_legible 9 = .ok (.bipush 13, 2) := by decide +kernel
theorem dX12_legible_11 : decode cX12_legible 11 = .ok (.iaload, 1) := by decide +kernel
theorem dX12_legible_12 : decode cX12_legible 12 = .ok (.if_icmp .ge 27, 3) := by decide +kernel
theorem dX12_legible_39 : decode cX12_legible 39 = .ok (.iload_n 1, 1) := by decide +kernel
theorem dX12_legible_40 : decode cX12_legible 40 = .ok (.ireturn, 1) := by decide +kernel
theorem dX12_legible_15 : decode cX12_legible 15 = .ok (.iload_n 1, 1) := by decide +kernel
theorem dX12_legible_16 : decode cX12_legible 16 = .ok (.aload_n 0, 1) := by decide +kernel
theorem dX12_legible_17 : decode cX12_legible 17 = .ok (.iload_n 2, 1) := by decide +kernel
theorem dX12_legible_18 : decode cX12_legible 18 = .ok (.invokevirtual 77, 3) := by decide +kernel
theorem dX12_legible_21 : decode cX12_legible 21 = .ok (.ifCond .eq 9, 3) := by decide +kernel
theorem dX12_legible_30 : decode cX12_legible 30 = .ok (.iconst 0, 1) := by decide +kernel
theorem dX12_legible_31 : decode cX12_legible 31 = .ok (.ior, 1) := by decide +kernel
theorem dX12_legible_32 : decode cX12_legible 32 = .ok (.istore_n 1, 1) := by decide +kernel
theorem dX12_legible_33 : decode cX12_legible 33 = .ok (.iinc 2 1, 3) := by decide +kernel
theorem dX12_legible_36 : decode cX12_legible 36 = .ok (.goto (-32), 3) := by decide +kernel
theorem dX12_legible_24 : decode cX12_legible 24 = .ok (.iconst 1, 1) := by decide +kernel
theorem dX12_legible_25 : decode cX12_legible 25 = .ok (.iload_n 2, 1) := by decide +kernel
theorem dX12_legible_26 : decode cX12_legible 26 = .ok (.ishl, 1) := by decide +kernel
theorem dX12_legible_27 : decode cX12_legible 27 = .ok (.goto 4, 3) := by decide +kernel
theorem dX12_toughOf_0 : decode cX12_toughOf 0 = .ok (.aload_n 0, 1) := by decide +kernel
theorem dX12_toughOf_1 : decode cX12_toughOf 1 = .ok (.getfield 7, 3) := by decide +kernel
theorem dX12_toughOf_4 : decode cX12_toughOf 4 = .ok (.bipush 114, 2) := by decide +kernel
theorem dX12_toughOf_6 : decode cX12_toughOf 6 = .ok (.iconst 2, 1) := by decide +kernel
theorem dX12_toughOf_7 : decode cX12_toughOf 7 = .ok (.iload_n 1, 1) := by decide +kernel
theorem dX12_toughOf_8 : decode cX12_toughOf 8 = .ok (.imul, 1) := by decide +kernel
theorem dX12_toughOf_9 : decode cX12_toughOf 9 = .ok (.iadd, 1) := by decide +kernel
theorem dX12_toughOf_10 : decode cX12_toughOf 10 = .ok (.iaload, 1) := by decide +kernel
theorem dX12_toughOf_11 : decode cX12_toughOf 11 = .ok (.ireturn, 1) := by decide +kernel
theorem dX12_isLink_0 : decode cX12_isLink 0 = .ok (.aload_n 0, 1) := by decide +kernel
theorem dX12_isLink_1 : decode cX12_isLink 1 = .ok (.iload_n 1, 1) := by decide +kernel
theorem dX12_isLink_2 : decode cX12_isLink 2 = .ok (.iconst 2, 1) := by decide +kernel
theorem dX12_isLink_3 : decode cX12_isLink 3 = .ok (.invokevirtual 73, 3) := by decide +kernel
theorem dX12_isLink_6 : decode cX12_isLink 6 = .ok (.iconst 1, 1) := by decide +kernel
theorem dX12_isLink_7 : decode cX12_isLink 7 = .ok (.if_icmp .ne 24, 3) := by decide +kernel
theorem dX12_isLink_31 : decode cX12_isLink 31 = .ok (.iconst 0, 1) := by decide +kernel
theorem dX12_isLink_32 : decode cX12_isLink 32 = .ok (.ireturn, 1) := by decide +kernel
theorem dX12_isLink_10 : decode cX12_isLink 10 = .ok (.aload_n 0, 1) := by decide +kernel
theorem dX12_isLink_11 : decode cX12_isLink 11 = .ok (.iload_n 1, 1) := by decide +kernel
theorem dX12_isLink_12 : decode cX12_isLink 12 = .ok (.iconst 4, 1) := by decide +kernel
theorem dX12_isLink_13 : decode cX12_isLink 13 = .ok (.invokevirtual 73, 3) := by decide +kernel
theorem dX12_isLink_16 : decode cX12_isLink 16 = .ok (.ifCond .ne 15, 3) := by decide +kernel
theorem dX12_isLink_19 : decode cX12_isLink 19 = .ok (.aload_n 0, 1) := by decide +kernel
theorem dX12_isLink_20 : decode cX12_isLink 20 = .ok (.iload_n 1, 1) := by decide +kernel
theorem dX12_isLink_21 : decode cX12_isLink 21 = .ok (.invokevirtual 77, 3) := by decide +kernel
theorem dX12_isLink_24 : decode cX12_isLink 24 = .ok (.ifCond .eq 7, 3) := by decide +kernel
theorem dX12_isLink_27 : decode cX12_isLink 27 = .ok (.iconst 1, 1) := by decide +kernel
theorem dX12_isLink_28 : decode cX12_isLink 28 = .ok (.goto 4, 3) := by decide +kernel
theorem dX12_anew_0 : decode cX12_anew 0 = .ok (.aload_n 0, 1) := by decide +kernel
theorem dX12_anew_1 : decode cX12_anew 1 = .ok (.getfield 7, 3) := by decide +kernel
theorem dX12_anew_4 : decode cX12_anew 4 = .ok (.bipush 12, 2) := by decide +kernel
theorem dX12_anew_6 : decode cX12_anew 6 = .ok (.aload_n 0, 1) := by decide +kernel
theorem dX12_anew_7 : decode cX12_anew 7 = .ok (.getfield 7, 3) := by decide +kernel
theorem dX12_anew_10 : decode cX12_anew 10 = .ok (.bipush 12, 2) := by decide +kernel
theorem dX12_anew_12 : decode cX12_anew 12 = .ok (.iaload, 1) := by decide +kernel
theorem dX12_anew_13 : decode cX12_anew 13 = .ok (.i2l, 1) := by decide +kernel
theorem dX12_anew_14 : decode cX12_anew 14 = .ok (.ldc2_w 311, 3) := by decide +kernel
theorem kl12_311 : inW (Cond.constantLong RX12 311 (367)) := ⟨List.mem_of_getElem? (i := 1929) (by decide +kernel), by decide +kernel⟩
theorem dX12_anew_17 : decode cX12_anew 17 = .ok (.lmul, 1) := by decide +kernel
theorem dX12_anew_18 : decode cX12_anew 18 = .ok (.ldc2_w 313, 3) := by decide +kernel
theorem kl12_313 : inW (Cond.constantLong RX12 313 (241)) := ⟨List.mem_of_getElem? (i := 1930) (by decide +kernel), by decide +kernel⟩
theorem dX12_anew_21 : decode cX12_anew 21 = .ok (.ladd, 1) := by decide +kernel
theorem dX12_anew_22 : decode cX12_anew 22 = .ok (.ldc2_w 315, 3) := by decide +kernel
theorem kl12_315 : inW (Cond.constantLong RX12 315 (30449)) := ⟨List.mem_of_getElem? (i := 1931) (by decide +kernel), by decide +kernel⟩
theorem dX12_anew_25 : decode cX12_anew 25 = .ok (.lrem, 1) := by decide +kernel
theorem dX12_anew_26 : decode cX12_anew 26 = .ok (.l2i, 1) := by decide +kernel
theorem dX12_anew_27 : decode cX12_anew 27 = .ok (.iastore, 1) := by decide +kernel
theorem dX12_anew_28 : decode cX12_anew 28 = .ok (.return_, 1) := by decide +kernel
theorem dX12_netOf_0 : decode cX12_netOf 0 = .ok (.iconst 0, 1) := by decide +kernel
theorem dX12_netOf_1 : decode cX12_netOf 1 = .ok (.istore_n 2, 1) := by decide +kernel
theorem dX12_netOf_2 : decode cX12_netOf 2 = .ok (.iconst 0, 1) := by decide +kernel
theorem dX12_netOf_3 : decode cX12_netOf 3 = .ok (.istore_n 3, 1) := by decide +kernel
theorem dX12_netOf_4 : decode cX12_netOf 4 = .ok (.iload_n 3, 1) := by decide +kernel
theorem dX12_netOf_5 : decode cX12_netOf 5 = .ok (.aload_n 0, 1) := by decide +kernel
theorem dX12_netOf_6 : decode cX12_netOf 6 = .ok (.getfield 7, 3) := by decide +kernel
theorem dX12_netOf_9 : decode cX12_netOf 9 = .ok (.bipush 13, 2) := by decide +kernel
theorem dX12_netOf_11 : decode cX12_netOf 11 = .ok (.iaload, 1) := by decide +kernel
theorem dX12_netOf_12 : decode cX12_netOf 12 = .ok (.if_icmp .ge 76, 3) := by decide +kernel
theorem dX12_netOf_88 : decode cX12_netOf 88 = .ok (.iload_n 2, 1) := by decide +kernel
theorem dX12_netOf_89 : decode cX12_netOf 89 = .ok (.ireturn, 1) := by decide +kernel
theorem dX12_netOf_15 : decode cX12_netOf 15 = .ok (.aload_n 0, 1) := by decide +kernel
theorem dX12_netOf_16 : decode cX12_netOf 16 = .ok (.iload_n 3, 1) := by decide +kernel
theorem dX12_netOf_17 : decode cX12_netOf 17 = .ok (.iconst 2, 1) := by decide +kernel
theorem dX12_netOf_18 : decode cX12_netOf 18 = .ok (.invokevirtual 73, 3) := by decide +kernel
theorem dX12_netOf_21 : decode cX12_netOf 21 = .ok (.ifCond .eq 61, 3) := by decide +kernel
theorem dX12_netOf_82 : decode cX12_netOf 82 = .ok (.iinc 3 1, 3) := by decide +kernel
theorem dX12_netOf_85 : decode cX12_netOf 85 = .ok (.goto (-81), 3) := by decide +kernel
theorem dX12_netOf_24 : decode cX12_netOf 24 = .ok (.aload_n 0, 1) := by decide +kernel
theorem dX12_netOf_25 : decode cX12_netOf 25 = .ok (.iload_n 3, 1) := by decide +kernel
theorem dX12_netOf_26 : decode cX12_netOf 26 = .ok (.iconst 4, 1) := by decide +kernel
theorem dX12_netOf_27 : decode cX12_netOf 27 = .ok (.invokevirtual 73, 3) := by decide +kernel
theorem dX12_netOf_30 : decode cX12_netOf 30 = .ok (.ifCond .eq 6, 3) := by decide +kernel
theorem dX12_netOf_36 : decode cX12_netOf 36 = .ok (.iload_n 2, 1) := by decide +kernel
theorem dX12_netOf_37 : decode cX12_netOf 37 = .ok (.aload_n 0, 1) := by decide +kernel
theorem dX12_netOf_38 : decode cX12_netOf 38 = .ok (.iload_n 3, 1) := by decide +kernel
theorem dX12_netOf_39 : decode cX12_netOf 39 = .ok (.iconst 1, 1) := by decide +kernel
theorem dX12_netOf_40 : decode cX12_netOf 40 = .ok (.invokevirtual 73, 3) := by decide +kernel
theorem dX12_netOf_43 : decode cX12_netOf 43 = .ok (.iload_n 1, 1) := by decide +kernel
theorem dX12_netOf_44 : decode cX12_netOf 44 = .ok (.if_icmp .ne 12, 3) := by decide +kernel
theorem dX12_netOf_56 : decode cX12_netOf 56 = .ok (.iconst 0, 1) := by decide +kernel
theorem dX12_netOf_57 : decode cX12_netOf 57 = .ok (.iadd, 1) := by decide +kernel
theorem dX12_netOf_58 : decode cX12_netOf 58 = .ok (.istore_n 2, 1) := by decide +kernel
theorem dX12_netOf_59 : decode cX12_netOf 59 = .ok (.iload_n 2, 1) := by decide +kernel
theorem dX12_netOf_60 : decode cX12_netOf 60 = .ok (.aload_n 0, 1) := by decide +kernel
theorem dX12_netOf_61 : decode cX12_netOf 61 = .ok (.iload_n 3, 1) := by decide +kernel
theorem dX12_netOf_62 : decode cX12_netOf 62 = .ok (.iconst 0, 1) := by decide +kernel
theorem dX12_netOf_63 : decode cX12_netOf 63 = .ok (.invokevirtual 73, 3) := by decide +kernel
theorem dX12_netOf_66 : decode cX12_netOf 66 = .ok (.iload_n 1, 1) := by decide +kernel
theorem dX12_netOf_67 : decode cX12_netOf 67 = .ok (.if_icmp .ne 12, 3) := by decide +kernel
theorem dX12_netOf_79 : decode cX12_netOf 79 = .ok (.iconst 0, 1) := by decide +kernel
theorem dX12_netOf_80 : decode cX12_netOf 80 = .ok (.isub, 1) := by decide +kernel
theorem dX12_netOf_81 : decode cX12_netOf 81 = .ok (.istore_n 2, 1) := by decide +kernel
theorem dX12_netOf_70 : decode cX12_netOf 70 = .ok (.aload_n 0, 1) := by decide +kernel
theorem dX12_netOf_71 : decode cX12_netOf 71 = .ok (.iload_n 3, 1) := by decide +kernel
theorem dX12_netOf_72 : decode cX12_netOf 72 = .ok (.iconst 3, 1) := by decide +kernel
theorem dX12_netOf_73 : decode cX12_netOf 73 = .ok (.invokevirtual 73, 3) := by decide +kernel
theorem dX12_netOf_76 : decode cX12_netOf 76 = .ok (.goto 4, 3) := by decide +kernel
theorem dX12_netOf_47 : decode cX12_netOf 47 = .ok (.aload_n 0, 1) := by decide +kernel
theorem dX12_netOf_48 : decode cX12_netOf 48 = .ok (.iload_n 3, 1) := by decide +kernel
theorem dX12_netOf_49 : decode cX12_netOf 49 = .ok (.iconst 3, 1) := by decide +kernel
theorem dX12_netOf_50 : decode cX12_netOf 50 = .ok (.invokevirtual 73, 3) := by decide +kernel
theorem dX12_netOf_53 : decode cX12_netOf 53 = .ok (.goto 4, 3) := by decide +kernel
theorem dX12_netOf_33 : decode cX12_netOf 33 = .ok (.goto 49, 3) := by decide +kernel
theorem dX12_keptOnes_0 : decode cX12_keptOnes 0 = .ok (.iconst 0, 1) := by decide +kernel
theorem dX12_keptOnes_1 : decode cX12_keptOnes 1 = .ok (.istore_n 1, 1) := by decide +kernel
theorem dX12_keptOnes_2 : decode cX12_keptOnes 2 = .ok (.iconst 0, 1) := by decide +kernel
theorem dX12_keptOnes_3 : decode cX12_keptOnes 3 = .ok (.istore_n 2, 1) := by decide +kernel
theorem dX12_keptOnes_4 : decode cX12_keptOnes 4 = .ok (.iload_n 2, 1) := by decide +kernel
theorem dX12_keptOnes_5 : decode cX12_keptOnes 5 = .ok (.aload_n 0, 1) := by decide +kernel
theorem dX12_keptOnes_6 : decode cX12_keptOnes 6 = .ok (.getfield 7, 3) := by decide +kernel
theorem dX12_keptOnes_9 : decode cX12_keptOnes 9 = .ok (.bipush 13, 2) := by decide +kernel
theorem dX12_keptOnes_11 : decode cX12_keptOnes 11 = .ok (.iaload, 1) := by decide +kernel
theorem dX12_keptOnes_12 : decode cX12_keptOnes 12 = .ok (.if_icmp .ge 28, 3) := by decide +kernel
theorem dX12_keptOnes_40 : decode cX12_keptOnes 40 = .ok (.iload_n 1, 1) := by decide +kernel
theorem dX12_keptOnes_41 : decode cX12_keptOnes 41 = .ok (.ireturn, 1) := by decide +kernel
theorem dX12_keptOnes_15 : decode cX12_keptOnes 15 = .ok (.iload_n 1, 1) := by decide +kernel
theorem dX12_keptOnes_16 : decode cX12_keptOnes 16 = .ok (.aload_n 0, 1) := by decide +kernel
theorem dX12_keptOnes_17 : decode cX12_keptOnes 17 = .ok (.iload_n 2, 1) := by decide +kernel
theorem dX12_keptOnes_18 : decode cX12_keptOnes 18 = .ok (.iconst 4, 1) := by decide +kernel
theorem dX12_keptOnes_19 : decode cX12_keptOnes 19 = .ok (.invokevirtual 73, 3) := by decide +kernel
theorem dX12_keptOnes_22 : decode cX12_keptOnes 22 = .ok (.ifCond .ne 9, 3) := by decide +kernel
theorem dX12_keptOnes_31 : decode cX12_keptOnes 31 = .ok (.iconst 0, 1) := by decide +kernel
theorem dX12_keptOnes_32 : decode cX12_keptOnes 32 = .ok (.ior, 1) := by decide +kernel
theorem dX12_keptOnes_33 : decode cX12_keptOnes 33 = .ok (.istore_n 1, 1) := by decide +kernel
theorem dX12_keptOnes_34 : decode cX12_keptOnes 34 = .ok (.iinc 2 1, 3) := by decide +kernel
theorem dX12_keptOnes_37 : decode cX12_keptOnes 37 = .ok (.goto (-33), 3) := by decide +kernel
theorem dX12_keptOnes_25 : decode cX12_keptOnes 25 = .ok (.iconst 1, 1) := by decide +kernel
theorem dX12_keptOnes_26 : decode cX12_keptOnes 26 = .ok (.iload_n 2, 1) := by decide +kernel
theorem dX12_keptOnes_27 : decode cX12_keptOnes 27 = .ok (.ishl, 1) := by decide +kernel
theorem dX12_keptOnes_28 : decode cX12_keptOnes 28 = .ok (.goto 4, 3) := by decide +kernel
theorem dX12_ownOf_0 : decode cX12_ownOf 0 = .ok (.iconst 0, 1) := by decide +kernel
theorem dX12_ownOf_1 : decode cX12_ownOf 1 = .ok (.istore_n 2, 1) := by decide +kernel
theorem dX12_ownOf_2 : decode cX12_ownOf 2 = .ok (.iconst 0, 1) := by decide +kernel
theorem dX12_ownOf_3 : decode cX12_ownOf 3 = .ok (.istore_n 3, 1) := by decide +kernel
theorem dX12_ownOf_4 : decode cX12_ownOf 4 = .ok (.iload_n 3, 1) := by decide +kernel
theorem dX12_ownOf_5 : decode cX12_ownOf 5 = .ok (.aload_n 0, 1) := by decide +kernel
theorem dX12_ownOf_6 : decode cX12_ownOf 6 = .ok (.getfield 7, 3) := by decide +kernel
theorem dX12_ownOf_9 : decode cX12_ownOf 9 = .ok (.bipush 13, 2) := by decide +kernel
theorem dX12_ownOf_11 : decode cX12_ownOf 11 = .ok (.iaload, 1) := by decide +kernel
theorem dX12_ownOf_12 : decode cX12_ownOf 12 = .ok (.if_icmp .ge 47, 3) := by decide +kernel
theorem dX12_ownOf_59 : decode cX12_ownOf 59 = .ok (.iload_n 2, 1) := by decide +kernel
theorem dX12_ownOf_60 : decode cX12_ownOf 60 = .ok (.ireturn, 1) := by decide +kernel
theorem dX12_ownOf_15 : decode cX12_ownOf 15 = .ok (.iload_n 2, 1) := by decide +kernel
theorem dX12_ownOf_16 : decode cX12_ownOf 16 = .ok (.aload_n 0, 1) := by decide +kernel
theorem dX12_ownOf_17 : decode cX12_ownOf 17 = .ok (.iload_n 3, 1) := by decide +kernel
theorem dX12_ownOf_18 : decode cX12_ownOf 18 = .ok (.iconst 0, 1) := by decide +kernel
theorem dX12_ownOf_19 : decode cX12_ownOf 19 = .ok (.invokevirtual 73, 3) := by decide +kernel
theorem dX12_ownOf_22 : decode cX12_ownOf 22 = .ok (.iload_n 1, 1) := by decide +kernel
theorem dX12_ownOf_23 : decode cX12_ownOf 23 = .ok (.if_icmp .eq 13, 3) := by decide +kernel
theorem dX12_ownOf_36 : decode cX12_ownOf 36 = .ok (.aload_n 0, 1) := by decide +kernel
theorem dX12_ownOf_37 : decode cX12_ownOf 37 = .ok (.iload_n 3, 1) := by decide +kernel
theorem dX12_ownOf_38 : decode cX12_ownOf 38 = .ok (.invokevirtual 77, 3) := by decide +kernel
theorem dX12_ownOf_41 : decode cX12_ownOf 41 = .ok (.ifCond .eq 9, 3) := by decide +kernel
theorem dX12_ownOf_50 : decode cX12_ownOf 50 = .ok (.iconst 0, 1) := by decide +kernel
theorem dX12_ownOf_51 : decode cX12_ownOf 51 = .ok (.ior, 1) := by decide +kernel
theorem dX12_ownOf_52 : decode cX12_ownOf 52 = .ok (.istore_n 2, 1) := by decide +kernel
theorem dX12_ownOf_53 : decode cX12_ownOf 53 = .ok (.iinc 3 1, 3) := by decide +kernel
theorem dX12_ownOf_56 : decode cX12_ownOf 56 = .ok (.goto (-52), 3) := by decide +kernel
theorem dX12_ownOf_44 : decode cX12_ownOf 44 = .ok (.iconst 1, 1) := by decide +kernel
theorem dX12_ownOf_45 : decode cX12_ownOf 45 = .ok (.iload_n 3, 1) := by decide +kernel
theorem dX12_ownOf_46 : decode cX12_ownOf 46 = .ok (.ishl, 1) := by decide +kernel
theorem dX12_ownOf_47 : decode cX12_ownOf 47 = .ok (.goto 4, 3) := by decide +kernel
theorem dX12_ownOf_26 : decode cX12_ownOf 26 = .ok (.aload_n 0, 1) := by decide +kernel
theorem dX12_ownOf_27 : decode cX12_ownOf 27 = .ok (.iload_n 3, 1) := by decide +kernel
theorem dX12_ownOf_28 : decode cX12_ownOf 28 = .ok (.iconst 1, 1) := by decide +kernel
theorem dX12_ownOf_29 : decode cX12_ownOf 29 = .ok (.invokevirtual 73, 3) := by decide +kernel
theorem dX12_ownOf_32 : decode cX12_ownOf 32 = .ok (.iload_n 1, 1) := by decide +kernel
theorem dX12_ownOf_33 : decode cX12_ownOf 33 = .ok (.if_icmp .ne 17, 3) := by decide +kernel
theorem dX12_knownBy_0 : decode cX12_knownBy 0 = .ok (.aload_n 0, 1) := by decide +kernel
theorem dX12_knownBy_1 : decode cX12_knownBy 1 = .ok (.iload_n 1, 1) := by decide +kernel
theorem dX12_knownBy_2 : decode cX12_knownBy 2 = .ok (.invokevirtual 434, 3) := by decide +kernel
theorem cw_X12_ownOf : CWv yX12_ownOf cX12_ownOf 4 (some .int) 1 := ⟨⟨⟨List.mem_of_getElem? (i := 137) (by decide +kernel), by decide +kernel⟩, ⟨List.mem_of_getElem? (i := 2118) (by decide +kernel), by decide +kernel⟩, by decide +kernel⟩, ⟨List.mem_of_getElem? (i := 2117) (by decide +kernel), by decide +kernel⟩, ⟨List.mem_of_getElem? (i := 120) (by decide +kernel), by decide +kernel⟩⟩
theorem km12_434 : inW (Cond.methodLink RX12 434 yX12_ownOf) := ⟨List.mem_of_getElem? (i := 2115) (by decide +kernel), by decide +kernel⟩
theorem dX12_knownBy_5 : decode cX12_knownBy 5 = .ok (.istore_n 2, 1) := by decide +kernel
theorem dX12_knownBy_6 : decode cX12_knownBy 6 = .ok (.iconst 0, 1) := by decide +kernel
theorem dX12_knownBy_7 : decode cX12_knownBy 7 = .ok (.istore_n 3, 1) := by decide +kernel
theorem dX12_knownBy_8 : decode cX12_knownBy 8 = .ok (.iload_n 3, 1) := by decide +kernel
theorem dX12_knownBy_9 : decode cX12_knownBy 9 = .ok (.aload_n 0, 1) := by decide +kernel
theorem dX12_knownBy_10 : decode cX12_knownBy 10 = .ok (.getfield 7, 3) := by decide +kernel
theorem dX12_knownBy_13 : decode cX12_knownBy 13 = .ok (.bipush 7, 2) := by decide +kernel
theorem dX12_knownBy_15 : decode cX12_knownBy 15 = .ok (.iaload, 1) := by decide +kernel
theorem dX12_knownBy_16 : decode cX12_knownBy 16 = .ok (.if_icmp .ge 46, 3) := by decide +kernel
theorem dX12_knownBy_62 : decode cX12_knownBy 62 = .ok (.iload_n 2, 1) := by decide +kernel
theorem dX12_knownBy_63 : decode cX12_knownBy 63 = .ok (.ireturn, 1) := by decide +kernel
theorem dX12_knownBy_19 : decode cX12_knownBy 19 = .ok (.aload_n 0, 1) := by decide +kernel
theorem dX12_knownBy_20 : decode cX12_knownBy 20 = .ok (.getfield 7, 3) := by decide +kernel
theorem dX12_knownBy_23 : decode cX12_knownBy 23 = .ok (.sipush 176, 3) := by decide +kernel
theorem dX12_knownBy_26 : decode cX12_knownBy 26 = .ok (.iconst 2, 1) := by decide +kernel
theorem dX12_knownBy_27 : decode cX12_knownBy 27 = .ok (.iload_n 3, 1) := by decide +kernel
theorem dX12_knownBy_28 : decode cX12_knownBy 28 = .ok (.imul, 1) := by decide +kernel
theorem dX12_knownBy_29 : decode cX12_knownBy 29 = .ok (.iadd, 1) := by decide +kernel
theorem dX12_knownBy_30 : decode cX12_knownBy 30 = .ok (.iaload, 1) := by decide +kernel
theorem dX12_knownBy_31 : decode cX12_knownBy 31 = .ok (.iload_n 1, 1) := by decide +kernel
theorem dX12_knownBy_32 : decode cX12_knownBy 32 = .ok (.if_icmp .ne 24, 3) := by decide +kernel
theorem dX12_knownBy_56 : decode cX12_knownBy 56 = .ok (.iinc 3 1, 3) := by decide +kernel
theorem dX12_knownBy_59 : decode cX12_knownBy 59 = .ok (.goto (-51), 3) := by decide +kernel
theorem dX12_knownBy_35 : decode cX12_knownBy 35 = .ok (.iload_n 2, 1) := by decide +kernel
theorem dX12_knownBy_36 : decode cX12_knownBy 36 = .ok (.aload_n 0, 1) := by decide +kernel
theorem dX12_knownBy_37 : decode cX12_knownBy 37 = .ok (.aload_n 0, 1) := by decide +kernel
theorem dX12_knownBy_38 : decode cX12_knownBy 38 = .ok (.getfield 7, 3) := by decide +kernel
theorem dX12_knownBy_41 : decode cX12_knownBy 41 = .ok (.sipush 176, 3) := by decide +kernel
theorem dX12_knownBy_44 : decode cX12_knownBy 44 = .ok (.iconst 2, 1) := by decide +kernel
theorem dX12_knownBy_45 : decode cX12_knownBy 45 = .ok (.iload_n 3, 1) := by decide +kernel
theorem dX12_knownBy_46 : decode cX12_knownBy 46 = .ok (.imul, 1) := by decide +kernel
theorem dX12_knownBy_47 : decode cX12_knownBy 47 = .ok (.iadd, 1) := by decide +kernel
theorem dX12_knownBy_48 : decode cX12_knownBy 48 = .ok (.iconst 1, 1) := by decide +kernel
theorem dX12_knownBy_49 : decode cX12_knownBy 49 = .ok (.iadd, 1) := by decide +kernel
theorem dX12_knownBy_50 : decode cX12_knownBy 50 = .ok (.iaload, 1) := by decide +kernel
theorem dX12_knownBy_51 : decode cX12_knownBy 51 = .ok (.invokevirtual 265, 3) := by decide +kernel
theorem cw_X12_legibleOn : CWv yX12_legibleOn cX12_legibleOn 4 (some .int) 1 := ⟨⟨⟨List.mem_of_getElem? (i := 137) (by decide +kernel), by decide +kernel⟩, ⟨List.mem_of_getElem? (i := 1860) (by decide +kernel), by decide +kernel⟩, by decide +kernel⟩, ⟨List.mem_of_getElem? (i := 1859) (by decide +kernel), by decide +kernel⟩, ⟨List.mem_of_getElem? (i := 94) (by decide +kernel), by decide +kernel⟩⟩
theorem km12_265 : inW (Cond.methodLink RX12 265 yX12_legibleOn) := ⟨List.mem_of_getElem? (i := 1857) (by decide +kernel), by decide +kernel⟩
theorem dX12_knownBy_54 : decode cX12_knownBy 54 = .ok (.ior, 1) := by decide +kernel
theorem dX12_knownBy_55 : decode cX12_knownBy 55 = .ok (.istore_n 2, 1) := by decide +kernel
theorem dX12_workOf_0 : decode cX12_workOf 0 = .ok (.iconst 0, 1) := by decide +kernel
theorem dX12_workOf_1 : decode cX12_workOf 1 = .ok (.istore_n 2, 1) := by decide +kernel
theorem dX12_workOf_2 : decode cX12_workOf 2 = .ok (.iconst 0, 1) := by decide +kernel
theorem dX12_workOf_3 : decode cX12_workOf 3 = .ok (.istore_n 3, 1) := by decide +kernel
theorem dX12_workOf_4 : decode cX12_workOf 4 = .ok (.iload_n 3, 1) := by decide +kernel
theorem dX12_workOf_5 : decode cX12_workOf 5 = .ok (.aload_n 0, 1) := by decide +kernel
theorem dX12_workOf_6 : decode cX12_workOf 6 = .ok (.getfield 7, 3) := by decide +kernel
theorem dX12_workOf_9 : decode cX12_workOf 9 = .ok (.bipush 6, 2) := by decide +kernel
theorem dX12_workOf_11 : decode cX12_workOf 11 = .ok (.iaload, 1) := by decide +kernel
theorem dX12_workOf_12 : decode cX12_workOf 12 = .ok (.if_icmp .ge 36, 3) := by decide +kernel
theorem dX12_workOf_48 : decode cX12_workOf 48 = .ok (.iload_n 2, 1) := by decide +kernel
theorem dX12_workOf_49 : decode cX12_workOf 49 = .ok (.ireturn, 1) := by decide +kernel
theorem dX12_workOf_15 : decode cX12_workOf 15 = .ok (.iload_n 2, 1) := by decide +kernel
theorem dX12_workOf_16 : decode cX12_workOf 16 = .ok (.iload_n 1, 1) := by decide +kernel
theorem dX12_workOf_17 : decode cX12_workOf 17 = .ok (.iload_n 3, 1) := by decide +kernel
theorem dX12_workOf_18 : decode cX12_workOf 18 = .ok (.invokestatic 244, 3) := by decide +kernel
theorem cw_X12_has : CWs yX12_has cX12_has 2 (some .boolean) 2 := ⟨⟨⟨List.mem_of_getElem? (i := 137) (by decide +kernel), by decide +kernel⟩, ⟨List.mem_of_getElem? (i := 1673) (by decide +kernel), by decide +kernel⟩, by decide +kernel⟩, ⟨List.mem_of_getElem? (i := 1672) (by decide +kernel), by decide +kernel⟩⟩
theorem km12_244 : inW (Cond.methodLink RX12 244 yX12_has) := ⟨List.mem_of_getElem? (i := 1671) (by decide +kernel), by decide +kernel⟩
theorem dX12_workOf_21 : decode cX12_workOf 21 = .ok (.ifCond .eq 18, 3) := by decide +kernel
theorem dX12_workOf_39 : decode cX12_workOf 39 = .ok (.iconst 0, 1) := by decide +kernel
theorem dX12_workOf_40 : decode cX12_workOf 40 = .ok (.iadd, 1) := by decide +kernel
theorem dX12_workOf_41 : decode cX12_workOf 41 = .ok (.istore_n 2, 1) := by decide +kernel
theorem dX12_workOf_42 : decode cX12_workOf 42 = .ok (.iinc 3 1, 3) := by decide +kernel
theorem dX12_workOf_45 : decode cX12_workOf 45 = .ok (.goto (-41), 3) := by decide +kernel
theorem dX12_workOf_24 : decode cX12_workOf 24 = .ok (.aload_n 0, 1) := by decide +kernel
theorem dX12_workOf_25 : decode cX12_workOf 25 = .ok (.getfield 7, 3) := by decide +kernel
theorem dX12_workOf_28 : decode cX12_workOf 28 = .ok (.sipush 160, 3) := by decide +kernel
theorem dX12_workOf_31 : decode cX12_workOf 31 = .ok (.iconst 2, 1) := by decide +kernel
theorem dX12_workOf_32 : decode cX12_workOf 32 = .ok (.iload_n 3, 1) := by decide +kernel
theorem dX12_workOf_33 : decode cX12_workOf 33 = .ok (.imul, 1) := by decide +kernel
theorem dX12_workOf_34 : decode cX12_workOf 34 = .ok (.iadd, 1) := by decide +kernel
theorem dX12_workOf_35 : decode cX12_workOf 35 = .ok (.iaload, 1) := by decide +kernel
theorem dX12_workOf_36 : decode cX12_workOf 36 = .ok (.goto 4, 3) := by decide +kernel
theorem dX12_isInTime_0 : decode cX12_isInTime 0 = .ok (.iconst 0, 1) := by decide +kernel
theorem dX12_isInTime_1 : decode cX12_isInTime 1 = .ok (.istore_n 2, 1) := by decide +kernel
theorem dX12_isInTime_2 : decode cX12_isInTime 2 = .ok (.iload_n 2, 1) := by decide +kernel
theorem dX12_isInTime_3 : decode cX12_isInTime 3 = .ok (.aload_n 0, 1) := by decide +kernel
theorem dX12_isInTime_4 : decode cX12_isInTime 4 = .ok (.getfield 7, 3) := by decide +kernel
theorem dX12_isInTime_7 : decode cX12_isInTime 7 = .ok (.bipush 6, 2) := by decide +kernel
theorem dX12_isInTime_9 : decode cX12_isInTime 9 = .ok (.iaload, 1) := by decide +kernel
theorem dX12_isInTime_10 : decode cX12_isInTime 10 = .ok (.if_icmp .ge 117, 3) := by decide +kernel
theorem dX12_isInTime_127 : decode cX12_isInTime 127 = .ok (.iconst 1, 1) := by decide +kernel
theorem dX12_isInTime_128 : decode cX12_isInTime 128 = .ok (.ireturn, 1) := by decide +kernel
theorem dX12_isInTime_13 : decode cX12_isInTime 13 = .ok (.iload_n 1, 1) := by decide +kernel
theorem dX12_isInTime_14 : decode cX12_isInTime 14 = .ok (.iload_n 2, 1) := by decide +kernel
theorem dX12_isInTime_15 : decode cX12_isInTime 15 = .ok (.invokestatic 244, 3) := by decide +kernel
theorem dX12_isInTime_18 : decode cX12_isInTime 18 = .ok (.ifCond .ne 6, 3) := by decide +kernel
theorem dX12_isInTime_24 : decode cX12_isInTime 24 = .ok (.aload_n 0, 1) := by decide +kernel
theorem dX12_isInTime_25 : decode cX12_isInTime 25 = .ok (.getfield 7, 3) := by decide +kernel
theorem dX12_isInTime_28 : decode cX12_isInTime 28 = .ok (.sipush 160, 3) := by decide +kernel
theorem dX12_isInTime_31 : decode cX12_isInTime 31 = .ok (.iconst 2, 1) := by decide +kernel
theorem dX12_isInTime_32 : decode cX12_isInTime 32 = .ok (.iload_n 2, 1) := by decide +kernel
theorem dX12_isInTime_33 : decode cX12_isInTime 33 = .ok (.imul, 1) := by decide +kernel
theorem dX12_isInTime_34 : decode cX12_isInTime 34 = .ok (.iadd, 1) := by decide +kernel
theorem dX12_isInTime_35 : decode cX12_isInTime 35 = .ok (.iconst 1, 1) := by decide +kernel
theorem dX12_isInTime_36 : decode cX12_isInTime 36 = .ok (.iadd, 1) := by decide +kernel
theorem dX12_isInTime_37 : decode cX12_isInTime 37 = .ok (.iaload, 1) := by decide +kernel
theorem dX12_isInTime_38 : decode cX12_isInTime 38 = .ok (.istore_n 3, 1) := by decide +kernel
theorem dX12_isInTime_39 : decode cX12_isInTime 39 = .ok (.iconst 0, 1) := by decide +kernel
theorem dX12_isInTime_40 : decode cX12_isInTime 40 = .ok (.istore 4, 2) := by decide +kernel
theorem dX12_isInTime_42 : decode cX12_isInTime 42 = .ok (.iconst 0, 1) := by decide +kernel
theorem dX12_isInTime_43 : decode cX12_isInTime 43 = .ok (.istore 5, 2) := by decide +kernel
theorem dX12_isInTime_21 : decode cX12_isInTime 21 = .ok (.goto 100, 3) := by decide +kernel
theorem dX12_isInTime_121 : decode cX12_isInTime 121 = .ok (.iinc 2 1, 3) := by decide +kernel
theorem dX12_isInTime_124 : decode cX12_isInTime 124 = .ok (.goto (-122), 3) := by decide +kernel
theorem dX12_isInTime_45 : decode cX12_isInTime 45 = .ok (.iload 5, 2) := by decide +kernel
theorem dX12_isInTime_47 : decode cX12_isInTime 47 = .ok (.aload_n 0, 1) := by decide +kernel
theorem dX12_isInTime_48 : decode cX12_isInTime 48 = .ok (.getfield 7, 3) := by decide +kernel
theorem dX12_isInTime_51 : decode cX12_isInTime 51 = .ok (.bipush 6, 2) := by decide +kernel
theorem dX12_isInTime_53 : decode cX12_isInTime 53 = .ok (.iaload, 1) := by decide +kernel
theorem dX12_isInTime_54 : decode cX12_isInTime 54 = .ok (.if_icmp .ge 59, 3) := by decide +kernel
theorem dX12_isInTime_113 : decode cX12_isInTime 113 = .ok (.iload 4, 2) := by decide +kernel
theorem dX12_isInTime_115 : decode cX12_isInTime 115 = .ok (.iload_n 3, 1) := by decide +kernel
theorem dX12_isInTime_116 : decode cX12_isInTime 116 = .ok (.if_icmp .le 5, 3) := by decide +kernel
theorem dX12_isInTime_119 : decode cX12_isInTime 119 = .ok (.iconst 0, 1) := by decide +kernel
theorem dX12_isInTime_120 : decode cX12_isInTime 120 = .ok (.ireturn, 1) := by decide +kernel
theorem dX12_isInTime_57 : decode cX12_isInTime 57 = .ok (.iload 4, 2) := by decide +kernel
theorem dX12_isInTime_59 : decode cX12_isInTime 59 = .ok (.iload_n 1, 1) := by decide +kernel
theorem dX12_isInTime_60 : decode cX12_isInTime 60 = .ok (.iload 5, 2) := by decide +kernel
theorem dX12_isInTime_62 : decode cX12_isInTime 62 = .ok (.invokestatic 244, 3) := by decide +kernel
theorem dX12_isInTime_65 : decode cX12_isInTime 65 = .ok (.ifCond .eq 38, 3) := by decide +kernel
theorem dX12_isInTime_103 : decode cX12_isInTime 103 = .ok (.iconst 0, 1) := by decide +kernel
theorem dX12_isInTime_104 : decode cX12_isInTime 104 = .ok (.iadd, 1) := by decide +kernel
theorem dX12_isInTime_105 : decode cX12_isInTime 105 = .ok (.istore 4, 2) := by decide +kernel
theorem dX12_isInTime_107 : decode cX12_isInTime 107 = .ok (.iinc 5 1, 3) := by decide +kernel
theorem dX12_isInTime_110 : decode cX12_isInTime 110 = .ok (.goto (-65), 3) := by decide +kernel
theorem dX12_isInTime_68 : decode cX12_isInTime 68 = .ok (.aload_n 0, 1) := by decide +kernel
theorem dX12_isInTime_69 : decode cX12_isInTime 69 = .ok (.getfield 7, 3) := by decide +kernel
theorem dX12_isInTime_72 : decode cX12_isInTime 72 = .ok (.sipush 160, 3) := by decide +kernel
theorem dX12_isInTime_75 : decode cX12_isInTime 75 = .ok (.iconst 2, 1) := by decide +kernel
theorem dX12_isInTime_76 : decode cX12_isInTime 76 = .ok (.iload 5, 2) := by decide +kernel
theorem dX12_isInTime_78 : decode cX12_isInTime 78 = .ok (.imul, 1) := by decide +kernel
theorem dX12_isInTime_79 : decode cX12_isInTime 79 = .ok (.iadd, 1) := by decide +kernel
theorem dX12_isInTime_80 : decode cX12_isInTime 80 = .ok (.iconst 1, 1) := by decide +kernel
theorem dX12_isInTime_81 : decode cX12_isInTime 81 = .ok (.iadd, 1) := by decide +kernel
theorem dX12_isInTime_82 : decode cX12_isInTime 82 = .ok (.iaload, 1) := by decide +kernel
theorem dX12_isInTime_83 : decode cX12_isInTime 83 = .ok (.iload_n 3, 1) := by decide +kernel
theorem dX12_isInTime_84 : decode cX12_isInTime 84 = .ok (.if_icmp .gt 19, 3) := by decide +kernel
theorem dX12_isInTime_87 : decode cX12_isInTime 87 = .ok (.aload_n 0, 1) := by decide +kernel
theorem dX12_isInTime_88 : decode cX12_isInTime 88 = .ok (.getfield 7, 3) := by decide +kernel
theorem dX12_isInTime_91 : decode cX12_isInTime 91 = .ok (.sipush 160, 3) := by decide +kernel
theorem dX12_isInTime_94 : decode cX12_isInTime 94 = .ok (.iconst 2, 1) := by decide +kernel
theorem dX12_isInTime_95 : decode cX12_isInTime 95 = .ok (.iload 5, 2) := by decide +kernel
theorem dX12_isInTime_97 : decode cX12_isInTime 97 = .ok (.imul, 1) := by decide +kernel
theorem dX12_isInTime_98 : decode cX12_isInTime 98 = .ok (.iadd, 1) := by decide +kernel
theorem dX12_isInTime_99 : decode cX12_isInTime 99 = .ok (.iaload, 1) := by decide +kernel
theorem dX12_isInTime_100 : decode cX12_isInTime 100 = .ok (.goto 4, 3) := by decide +kernel
theorem dX12_isAtPeace_0 : decode cX12_isAtPeace 0 = .ok (.iconst 0, 1) := by decide +kernel
theorem dX12_isAtPeace_1 : decode cX12_isAtPeace 1 = .ok (.istore_n 2, 1) := by decide +kernel
theorem dX12_isAtPeace_2 : decode cX12_isAtPeace 2 = .ok (.iload_n 2, 1) := by decide +kernel
theorem dX12_isAtPeace_3 : decode cX12_isAtPeace 3 = .ok (.aload_n 0, 1) := by decide +kernel
theorem dX12_isAtPeace_4 : decode cX12_isAtPeace 4 = .ok (.getfield 7, 3) := by decide +kernel
theorem dX12_isAtPeace_7 : decode cX12_isAtPeace 7 = .ok (.iconst 5, 1) := by decide +kernel
theorem dX12_isAtPeace_8 : decode cX12_isAtPeace 8 = .ok (.iaload, 1) := by decide +kernel
theorem dX12_isAtPeace_9 : decode cX12_isAtPeace 9 = .ok (.if_icmp .ge 51, 3) := by decide +kernel
theorem dX12_isAtPeace_60 : decode cX12_isAtPeace 60 = .ok (.iconst 1, 1) := by decide +kernel
theorem dX12_isAtPeace_61 : decode cX12_isAtPeace 61 = .ok (.ireturn, 1) := by decide +kernel
theorem dX12_isAtPeace_12 : decode cX12_isAtPeace 12 = .ok (.iload_n 1, 1) := by decide +kernel
theorem dX12_isAtPeace_13 : decode cX12_isAtPeace 13 = .ok (.aload_n 0, 1) := by decide +kernel
theorem dX12_isAtPeace_14 : decode cX12_isAtPeace 14 = .ok (.getfield 7, 3) := by decide +kernel
theorem dX12_isAtPeace_17 : decode cX12_isAtPeace 17 = .ok (.sipush 144, 3) := by decide +kernel
theorem dX12_isAtPeace_20 : decode cX12_isAtPeace 20 = .ok (.iconst 2, 1) := by decide +kernel
theorem dX12_isAtPeace_21 : decode cX12_isAtPeace 21 = .ok (.iload_n 2, 1) := by decide +kernel
theorem dX12_isAtPeace_22 : decode cX12_isAtPeace 22 = .ok (.imul, 1) := by decide +kernel
theorem dX12_isAtPeace_23 : decode cX12_isAtPeace 23 = .ok (.iadd, 1) := by decide +kernel
theorem dX12_isAtPeace_24 : decode cX12_isAtPeace 24 = .ok (.iaload, 1) := by decide +kernel
theorem dX12_isAtPeace_25 : decode cX12_isAtPeace 25 = .ok (.invokestatic 244, 3) := by decide +kernel
theorem dX12_isAtPeace_28 : decode cX12_isAtPeace 28 = .ok (.ifCond .eq 26, 3) := by decide +kernel
theorem dX12_isAtPeace_54 : decode cX12_isAtPeace 54 = .ok (.iinc 2 1, 3) := by decide +kernel
theorem dX12_isAtPeace_57 : decode cX12_isAtPeace 57 = .ok (.goto (-55), 3) := by decide +kernel
theorem dX12_isAtPeace_31 : decode cX12_isAtPeace 31 = .ok (.iload_n 1, 1) := by decide +kernel
theorem dX12_isAtPeace_32 : decode cX12_isAtPeace 32 = .ok (.aload_n 0, 1) := by decide +kernel
theorem dX12_isAtPeace_33 : decode cX12_isAtPeace 33 = .ok (.getfield 7, 3) := by decide +kernel
theorem dX12_isAtPeace_36 : decode cX12_isAtPeace 36 = .ok (.sipush 144, 3) := by decide +kernel
theorem dX12_isAtPeace_39 : decode cX12_isAtPeace 39 = .ok (.iconst 2, 1) := by decide +kernel
theorem dX12_isAtPeace_40 : decode cX12_isAtPeace 40 = .ok (.iload_n 2, 1) := by decide +kernel
theorem dX12_isAtPeace_41 : decode cX12_isAtPeace 41 = .ok (.imul, 1) := by decide +kernel
theorem dX12_isAtPeace_42 : decode cX12_isAtPeace 42 = .ok (.iadd, 1) := by decide +kernel
theorem dX12_isAtPeace_43 : decode cX12_isAtPeace 43 = .ok (.iconst 1, 1) := by decide +kernel
theorem dX12_isAtPeace_44 : decode cX12_isAtPeace 44 = .ok (.iadd, 1) := by decide +kernel
theorem dX12_isAtPeace_45 : decode cX12_isAtPeace 45 = .ok (.iaload, 1) := by decide +kernel
theorem dX12_isAtPeace_46 : decode cX12_isAtPeace 46 = .ok (.invokestatic 244, 3) := by decide +kernel
theorem dX12_isAtPeace_49 : decode cX12_isAtPeace 49 = .ok (.ifCond .eq 5, 3) := by decide +kernel
theorem dX12_isAtPeace_52 : decode cX12_isAtPeace 52 = .ok (.iconst 0, 1) := by decide +kernel
theorem dX12_isAtPeace_53 : decode cX12_isAtPeace 53 = .ok (.ireturn, 1) := by decide +kernel
theorem dX12_shown_0 : decode cX12_shown 0 = .ok (.aload_n 0, 1) := by decide +kernel
theorem dX12_shown_1 : decode cX12_shown 1 = .ok (.getfield 7, 3) := by decide +kernel
theorem dX12_shown_4 : decode cX12_shown 4 = .ok (.bipush 14, 2) := by decide +kernel
theorem dX12_shown_6 : decode cX12_shown 6 = .ok (.iaload, 1) := by decide +kernel
theorem dX12_shown_7 : decode cX12_shown 7 = .ok (.bipush 30, 2) := by decide +kernel
theorem dX12_shown_9 : decode cX12_shown 9 = .ok (.if_icmp .ge 13, 3) := by decide +kernel
theorem dX12_shown_22 : decode cX12_shown 22 = .ok (.bipush 30, 2) := by decide +kernel
theorem dX12_shown_24 : decode cX12_shown 24 = .ok (.ireturn, 1) := by decide +kernel
theorem dX12_shown_12 : decode cX12_shown 12 = .ok (.aload_n 0, 1) := by decide +kernel
theorem dX12_shown_13 : decode cX12_shown 13 = .ok (.getfield 7, 3) := by decide +kernel
theorem dX12_shown_16 : decode cX12_shown 16 = .ok (.bipush 14, 2) := by decide +kernel
theorem dX12_shown_18 : decode cX12_shown 18 = .ok (.iaload, 1) := by decide +kernel
theorem dX12_shown_19 : decode cX12_shown 19 = .ok (.goto 5, 3) := by decide +kernel
theorem oa_ix {x x1 x0 o k : Int32} (e : x = x1 + k) (e1 : x1 = 16 + x0) (e0 : x0 = 7 * o) (ho : bn 0 13 o) (hk : bn 0 6 k) : x.toNatClampNeg = 16 + 7 * o.toNatClampNeg + k.toNatClampNeg := by
  have c7 : bn 7 7 (7 : Int32) := bn_k (by decide)
  have c16 : bn 16 16 (16 : Int32) := bn_k (by decide)
  obtain ⟨h1, h2⟩ := ho; obtain ⟨k1, k2⟩ := hk
  have t0 : x0.toInt = 7 * o.toInt := by rw [e0, ti_mul (by rw [show (7 : Int32).toInt = 7 from rfl]; omega) (by rw [show (7 : Int32).toInt = 7 from rfl]; omega)]; rfl
  have t1 : x1.toInt = 16 + 7 * o.toInt := by rw [e1, ti_add (by rw [show (16 : Int32).toInt = 16 from rfl]; omega) (by rw [show (16 : Int32).toInt = 16 from rfl]; omega), t0]; rfl
  have t2 : x.toInt = 16 + 7 * o.toInt + k.toInt := by rw [e, ti_add (by omega) (by omega), t1]
  have a1 : x.toNatClampNeg = x.toInt.toNat := rfl
  have a2 : o.toNatClampNeg = o.toInt.toNat := rfl
  have a3 : k.toNatClampNeg = k.toInt.toNat := rfl
  rw [a1, a2, a3]; omega
theorem tn1 {x : Int32} (h : bn 1 1 x) : x.toNatClampNeg = 1 := by
  obtain ⟨h1, h2⟩ := h
  have e : x.toNatClampNeg = x.toInt.toNat := rfl
  rw [e]; omega
set_option maxHeartbeats 4000000 in
set_option maxRecDepth 100000 in
theorem x_X12_getON {l : Launch} {G : GG}  {L : List Nat} {f : HF} {ad : Nat → Nat → Nat} {sl : Int} {pl : Int} {oh : Int} {dh : Int} {w : Int × Int} {pi : (Nat → Int32) → Prop} {px : (Nat → Int32) → Prop} {pa : (Nat → Int32) → Prop} {i1 i2 : Int32} (I : SH (spM (IA sl pl oh dh w) pi px pa) nnM G ad L f) (hB : BBp sl pl oh dh w) (b_i1 : bn 0 13 i1) (b_i2 : bn 1 1 i2) : PMp l yX12_get cX12_get 3 .int 0 0 0 G [.ref (ad 0 0), .int i1, .int i2] L f (fun r => bn 0 5 r) := by
  refine PMi.of (post := fun r L1 f1 => (bn 0 5 r) ∧ L1 = L ∧ f1 = f) (own := RX12) (by decide) rfl (Nat.le_of_ble_eq_true rfl) (fun sz p e s m args below meth c A ls hA1 hname S Y hl => ?_)
  have hx := S.hx
  have hb := S.hb
  have hl : lv_has ls 3 [(0, .ref (ad 0 0)), (1, .int i1), (2, .int i2)] := hl
  have b_i2w : bn 0 6 i2 := bn_w b_i2 (by decide)
  refine lv_aload_n hx hb dX12_get_0 rfl (lv_at hl 0 rfl) ?_
  obtain ⟨v_780, v_782, v_784, v_786, v_788, v_790, v_792, v_794, v_795, v_797, v_799, v_801, v_803, v_805, v_807, v_809, v_811, v_813, p_ad_0_0, b_781, b_783, b_785, b_787, b_789, b_791, b_793, b_796, b_798, b_800, b_802, b_804, b_806, b_808, b_810, b_812, b_814⟩ := opnM_0 (j := 0) I (by decide)
  have p_ad_0_0 : pt L f (ad 0 0) (.inr (12, [.ref (ad 1 0), .ref (ad 2 0), .ref (ad 3 0), .ref (ad 4 0), .int v_780, .int v_782, .int v_784, .int v_786, .int v_788, .int v_790, .int v_792, .long v_794, .int v_795, .int v_797, .int v_799, .ref (ad 5 0), .ref (ad 6 0), .int v_801, .int v_803, .int v_805, .int v_807, .int v_809, .ref (ad 7 0), .ref (ad 8 0), .ref (ad 9 0), .int v_811, .ref (ad 10 0), .ref (ad 11 0), .ref (ad 12 0), .ref (ad 13 0), .int v_813, .ref (ad 14 0)])) := p_ad_0_0
  refine pg_get S Y ok_X12 0 (by decide) kf12_7 (v := .ref (ad 1 0)) p_ad_0_0 rfl dX12_get_1 ?_
  refine lv_bipush (v := 16) hx hb dX12_get_4 (by decide) ?_
  refine lv_bipush (v := 7) hx hb dX12_get_6 (by decide) ?_
  refine lv_iload_n hx hb dX12_get_8 rfl (lv_at hl 1 rfl) ?_
  refine lv_imul hx hb dX12_get_9 ?_
  refine lv_topi (fun x_815 ex_815 => ?_)
  refine lv_iadd hx hb dX12_get_10 ?_
  refine lv_topi (fun x_816 ex_816 => ?_)
  refine lv_iload_n hx hb dX12_get_11 rfl (lv_at hl 2 rfl) ?_
  refine lv_iadd hx hb dX12_get_12 ?_
  refine lv_topi (fun x_817 ex_817 => ?_)
  obtain ⟨g_818, p_ad_1_0, o_819⟩ := I.opi (k := 1) (j := 0) (by decide) rfl
  have p_ad_1_0 : pt L f (ad 1 0) (.inl (G.2 0, 10568, .inl g_818)) := p_ad_1_0
  obtain ⟨v_820, ev_820⟩ : ∃ z, z = g_818 (x_817 : Int32).toNatClampNeg := ⟨_, rfl⟩
  refine pg_iald S Y (v := v_820) p_ad_1_0 (vp_bn (bn_eq ex_817 (bn_add (bn_eq ex_816 (bn_add (show bn 16 16 (16 : Int32) from bn_k (by decide)) (bn_eq ex_815 (bn_mul (show bn 7 7 (7 : Int32) from bn_k (by decide)) b_i1 (by decide))) (by decide))) b_i2 (by decide))) (by decide)) ev_820.symm dX12_get_13 ?_
  have bv_820 : bn 0 5 v_820 := by rw [ev_820, oa_ix ex_817 ex_816 ex_815 b_i1 b_i2w, show i2.toNatClampNeg = 1 from tn1 b_i2, show 16 + 7 * i1.toNatClampNeg + 1 = 17 + 7 * i1.toNatClampNeg from by omega]; exact IA_on o_819 (tn_bn b_i1 (by decide))
  exact prI (post := fun r L1 f1 => (bn 0 5 r) ∧ L1 = L ∧ f1 = f) S Y rfl (by decide) (by decide) hA1 ⟨bn_w bv_820 (by decide), rfl, rfl⟩ dX12_get_14
theorem i2_1 {k : Int32} {n : Nat} (h : bn 0 6 k) (z : (16 + 7 * n + k.toNatClampNeg - 16) % 7 = 1) : k = 1 := by
  have h2 := tn_bn (n := 7) h (by decide)
  obtain ⟨h0, h1⟩ := h
  have e : k.toNatClampNeg = k.toInt.toNat := rfl
  apply Int32.toInt_inj.mp
  rw [show (1 : Int32).toInt = 1 from rfl]; omega
set_option maxHeartbeats 4000000 in
set_option maxRecDepth 100000 in
theorem x_X12_put {l : Launch} {G : GG}  {L : List Nat} {f : HF} {ad : Nat → Nat → Nat} {sl : Int} {pl : Int} {oh : Int} {dh : Int} {w : Int × Int} {pi : (Nat → Int32) → Prop} {px : (Nat → Int32) → Prop} {pa : (Nat → Int32) → Prop} {i1 i2 i3 : Int32} (I : SH (spM (IA sl pl oh dh w) pi px pa) nnM G ad L f) (hB : BBp sl pl oh dh w) (b_i1 : bn 0 13 i1) (b_i2 : bn 0 6 i2) (hv : i2 = 1 → bn 0 5 i3) : PMv l yX12_put cX12_put 4 0 0 0 G [.ref (ad 0 0), .int i1, .int i2, .int i3] L f (fun L1 f1 => SH (spM (IA sl pl oh dh w) pi px pa) nnM G ad L1 f1) := by
  refine PMv.of (post := fun L1 f1 => SH (spM (IA sl pl oh dh w) pi px pa) nnM G ad L1 f1) (own := RX12) (by decide) rfl (Nat.le_of_ble_eq_true rfl) (fun sz p e s m args below meth c A ls hA1 hname S Y hl => ?_)
  have hx := S.hx
  have hb := S.hb
  have hl : lv_has ls 4 [(0, .ref (ad 0 0)), (1, .int i1), (2, .int i2), (3, .int i3)] := hl
  refine lv_aload_n hx hb dX12_put_0 rfl (lv_at hl 0 rfl) ?_
  obtain ⟨v_907, v_909, v_911, v_913, v_915, v_917, v_919, v_921, v_922, v_924, v_926, v_928, v_930, v_932, v_934, v_936, v_938, v_940, p_ad_0_0, b_908, b_910, b_912, b_914, b_916, b_918, b_920, b_923, b_925, b_927, b_929, b_931, b_933, b_935, b_937, b_939, b_941⟩ := opnM_0 (j := 0) I (by decide)
  have p_ad_0_0 : pt L f (ad 0 0) (.inr (12, [.ref (ad 1 0), .ref (ad 2 0), .ref (ad 3 0), .ref (ad 4 0), .int v_907, .int v_909, .int v_911, .int v_913, .int v_915, .int v_917, .int v_919, .long v_921, .int v_922, .int v_924, .int v_926, .ref (ad 5 0), .ref (ad 6 0), .int v_928, .int v_930, .int v_932, .int v_934, .int v_936, .ref (ad 7 0), .ref (ad 8 0), .ref (ad 9 0), .int v_938, .ref (ad 10 0), .ref (ad 11 0), .ref (ad 12 0), .ref (ad 13 0), .int v_940, .ref (ad 14 0)])) := p_ad_0_0
  refine pg_get S Y ok_X12 0 (by decide) kf12_7 (v := .ref (ad 1 0)) p_ad_0_0 rfl dX12_put_1 ?_
  refine lv_bipush (v := 16) hx hb dX12_put_4 (by decide) ?_
  refine lv_bipush (v := 7) hx hb dX12_put_6 (by decide) ?_
  refine lv_iload_n hx hb dX12_put_8 rfl (lv_at hl 1 rfl) ?_
  refine lv_imul hx hb dX12_put_9 ?_
  refine lv_topi (fun x_942 ex_942 => ?_)
  refine lv_iadd hx hb dX12_put_10 ?_
  refine lv_topi (fun x_943 ex_943 => ?_)
  refine lv_iload_n hx hb dX12_put_11 rfl (lv_at hl 2 rfl) ?_
  refine lv_iadd hx hb dX12_put_12 ?_
  refine lv_topi (fun x_944 ex_944 => ?_)
  refine lv_iload_n hx hb dX12_put_13 rfl (lv_at hl 3 rfl) ?_
  obtain ⟨g_945, p_ad_1_0, o_946⟩ := I.opi (k := 1) (j := 0) (by decide) rfl
  have p_ad_1_0 : pt L f (ad 1 0) (.inl (G.2 0, 10568, .inl g_945)) := p_ad_1_0
  refine pg_iast S Y p_ad_1_0 (vp_bn (bn_eq ex_944 (bn_add (bn_eq ex_943 (bn_add (show bn 16 16 (16 : Int32) from bn_k (by decide)) (bn_eq ex_942 (bn_mul (show bn 7 7 (7 : Int32) from bn_k (by decide)) b_i1 (by decide))) (by decide))) b_i2 (by decide))) (by decide)) dX12_put_14 (fun f_948 H locs ef_948 Y => ?_)
  obtain ⟨g_947, eg_947⟩ : ∃ z, z = upd (g_945) (x_944 : Int32).toNatClampNeg i3 := ⟨_, rfl⟩
  rw [← eg_947] at ef_948
  have p_ad_0_0 := p_ad_0_0.up ef_948 (I.ne (k := 0) (j := 0) (k' := 1) (j' := 0) (by decide) (by decide) (Or.inl (by decide)))
  have p_ad_1_0 := p_ad_1_0.me ef_948
  have o_949 : (IA sl pl oh dh w) g_947 := (by rw [eg_947, oa_ix ex_944 ex_943 ex_942 b_i1 b_i2]; exact IA_oa o_946 ⟨by omega, by have h1 := tn_bn (n := 14) b_i1 (by decide); have h2 := tn_bn (n := 7) b_i2 (by decide); omega⟩ (fun z => hv (i2_1 b_i2 z)))
  have I := I.up (k := 1) (j := 0) (by decide) ef_948 (okE_a (g := g_947) o_949)
  exact prV (post := fun L1 f1 => SH (spM (IA sl pl oh dh w) pi px pa) nnM G ad L1 f1) S Y (by decide) (by decide) hA1 I dX12_put_15
set_option maxHeartbeats 4000000 in
set_option maxRecDepth 100000 in
theorem x_X12_isLegible {l : Launch} {G : GG}  {L : List Nat} {f : HF} {ad : Nat → Nat → Nat} {sl : Int} {pl : Int} {oh : Int} {dh : Int} {w : Int × Int} {pi : (Nat → Int32) → Prop} {px : (Nat → Int32) → Prop} {pa : (Nat → Int32) → Prop} {i1 : Int32} (I : SH (spM (IA sl pl oh dh w) pi px pa) nnM G ad L f) (hB : BBp sl pl oh dh w) (b_i1 : bn 0 13 i1) : PMp l yX12_isLegible cX12_isLegible 2 .boolean 1 0 0 G [.ref (ad 0 0), .int i1] L f (fun r => bn 0 1 r) := by
  refine PMi.of (post := fun r L1 f1 => (bn 0 1 r) ∧ L1 = L ∧ f1 = f) (own := RX12) (by decide) rfl (Nat.le_of_ble_eq_true rfl) (fun sz p e s m args below meth c A ls hA1 hname S Y hl => ?_)
  have hx := S.hx
  have hb := S.hb
  have hl : lv_has ls 2 [(0, .ref (ad 0 0)), (1, .int i1)] := hl
  refine lv_aload_n hx hb dX12_isLegible_0 rfl (lv_at hl 0 rfl) ?_
  refine lv_iload_n hx hb dX12_isLegible_1 rfl (lv_at hl 1 rfl) ?_
  refine lv_iconst (v := 5) hx hb dX12_isLegible_2 (by decide) ?_
  refine cVp (As := [.int i1, .int 5]) (rest := []) S Y (x_X12_get (l := l) I hB (bn_w b_i1 (by decide)) (bn_w (show bn 5 5 (5 : Int32) from bn_k (by decide)) (by decide))) cw_X12_get km12_73 (I.opo (k := 0) (j := 0) (by decide) rfl).choose_spec.1 ok_X12.1 rfl rfl ⟨Nat.le_of_ble_eq_true rfl, Nat.le_of_ble_eq_true rfl⟩ hl.1 rfl (Nat.le_of_ble_eq_true rfl) ⟨Nat.le_of_ble_eq_true rfl, Nat.le_of_ble_eq_true rfl⟩ dX12_isLegible_3 (fun r_964 H locs er_964 Y => ?_)
  refine lv_bipush (v := 99) hx hb dX12_isLegible_6 (by decide) ?_
  refine lv_icmp_ge (tgt := 25) hx hb dX12_isLegible_8 (by decide) (fun c_965 => ?_) (fun c_965 => ?_)
  · have B_966 : bn 99 2147483647 r_964 := bn_w (bn_ler c_965 (show bn 99 99 (99 : Int32) from bn_k (by decide)) (bn_any r_964)) (by decide)
    refine lv_iconst (v := 0) hx hb dX12_isLegible_25 (by decide) ?_
    exact prI (post := fun r L1 f1 => (bn 0 1 r) ∧ L1 = L ∧ f1 = f) S Y rfl (by decide) (by decide) hA1 ⟨bn_w (show bn 0 0 (0 : Int32) from bn_k (by decide)) (by decide), rfl, rfl⟩ dX12_isLegible_26
  · have B_967 : bn (-2147483648) 98 r_964 := bn_w (bn_gtr c_965 (show bn 99 99 (99 : Int32) from bn_k (by decide)) (bn_any r_964)) (by decide)
    refine lv_aload_n hx hb dX12_isLegible_11 rfl (lv_at hl 0 rfl) ?_
    refine lv_iload_n hx hb dX12_isLegible_12 rfl (lv_at hl 1 rfl) ?_
    refine lv_iconst (v := 4) hx hb dX12_isLegible_13 (by decide) ?_
    refine cVp (As := [.int i1, .int 4]) (rest := []) S Y (x_X12_get (l := l) I hB (bn_w b_i1 (by decide)) (bn_w (show bn 4 4 (4 : Int32) from bn_k (by decide)) (by decide))) cw_X12_get km12_73 (I.opo (k := 0) (j := 0) (by decide) rfl).choose_spec.1 ok_X12.1 rfl rfl ⟨Nat.le_of_ble_eq_true rfl, Nat.le_of_ble_eq_true rfl⟩ hl.1 rfl (Nat.le_of_ble_eq_true rfl) ⟨Nat.le_of_ble_eq_true rfl, Nat.le_of_ble_eq_true rfl⟩ dX12_isLegible_14 (fun r_968 H locs er_968 Y => ?_)
    refine lv_iconst (v := 2) hx hb dX12_isLegible_17 (by decide) ?_
    refine lv_icmp_eq (tgt := 25) hx hb dX12_isLegible_18 (by decide) (fun c_969 => ?_) (fun c_969 => ?_)
    · have B_970 : bn 2 2 r_968 := bn_w (bn_eq c_969 (show bn 2 2 (2 : Int32) from bn_k (by decide))) (by decide)
      refine lv_iconst (v := 0) hx hb dX12_isLegible_25 (by decide) ?_
      exact prI (post := fun r L1 f1 => (bn 0 1 r) ∧ L1 = L ∧ f1 = f) S Y rfl (by decide) (by decide) hA1 ⟨bn_w (show bn 0 0 (0 : Int32) from bn_k (by decide)) (by decide), rfl, rfl⟩ dX12_isLegible_26
    · refine lv_iconst (v := 1) hx hb dX12_isLegible_21 (by decide) ?_
      refine lv_goto (tgt := 26) hx hb dX12_isLegible_22 (by decide) ?_
      exact prI (post := fun r L1 f1 => (bn 0 1 r) ∧ L1 = L ∧ f1 = f) S Y rfl (by decide) (by decide) hA1 ⟨bn_w (show bn 1 1 (1 : Int32) from bn_k (by decide)) (by decide), rfl, rfl⟩ dX12_isLegible_26
set_option maxHeartbeats 4000000 in
set_option maxRecDepth 100000 in
theorem x_X12_legibleOn {l : Launch} {G : GG}  {L : List Nat} {f : HF} {ad : Nat → Nat → Nat} {sl : Int} {pl : Int} {oh : Int} {dh : Int} {w : Int × Int} {pi : (Nat → Int32) → Prop} {px : (Nat → Int32) → Prop} {pa : (Nat → Int32) → Prop} {i1 : Int32} (I : SH (spM (IA sl pl oh dh w) pi px pa) nnM G ad L f) (hB : BBp sl pl oh dh w) : PMp l yX12_legibleOn cX12_legibleOn 4 .int 2 0 0 G [.ref (ad 0 0), .int i1] L f (fun r => bn 0 16383 r) := by
  refine PMi.of (post := fun r L1 f1 => (bn 0 16383 r) ∧ L1 = L ∧ f1 = f) (own := RX12) (by decide) rfl (Nat.le_of_ble_eq_true rfl) (fun sz p e s m args below meth c A ls hA1 hname S Y hl => ?_)
  have hx := S.hx
  have hb := S.hb
  have hl : lv_has ls 4 [(0, .ref (ad 0 0)), (1, .int i1)] := hl
  have J_4 : ∀ (n4 : Nat) (y4_2 y4_3 : Int32) (H : Heap) (locs : List Loc) (ls : Array Slot), (bn 0 16383 y4_2) → (bn 0 14 y4_3) → (((14 : Int) - y4_3.toInt).toNat = n4) → (DY G A s [] L f H locs) → (lv_has ls 4 [(0, .ref (ad 0 0)), (1, .int i1), (2, .int y4_2), (3, .int y4_3)]) → W p l e (rmD 2 0 0) s m args below meth c H locs (0) (0) (MQ below (va_Qi (fun r (u : List Nat × HF) => (fun r L1 f1 => (bn 0 16383 r) ∧ L1 = L ∧ f1 = f) r u.1 u.2) (fun u t => pOut G (va_A (va_pl L f) sz) u.1 u.2 t) (va_A (va_pl L f) sz)) args s 0 0 A) (F0 m 4 ls []) := by
    intro n4
    induction n4 using Nat.strongRecOn with
    | _ n4 ih4 =>
      intro y4_2 y4_3 H locs ls b_y4_2 b_y4_3 hm4 Y hl
      refine lv_iload_n hx hb dX12_legibleOn_4 rfl (lv_at hl 3 rfl) ?_
      refine lv_aload_n hx hb dX12_legibleOn_5 rfl (lv_at hl 0 rfl) ?_
      obtain ⟨v_1727, v_1729, v_1731, v_1733, v_1735, v_1737, v_1739, v_1741, v_1742, v_1744, v_1746, v_1748, v_1750, v_1752, v_1754, v_1756, v_1758, v_1760, p_ad_0_0, b_1728, b_1730, b_1732, b_1734, b_1736, b_1738, b_1740, b_1743, b_1745, b_1747, b_1749, b_1751, b_1753, b_1755, b_1757, b_1759, b_1761⟩ := opnM_0 (j := 0) I (by decide)
      have p_ad_0_0 : pt L f (ad 0 0) (.inr (12, [.ref (ad 1 0), .ref (ad 2 0), .ref (ad 3 0), .ref (ad 4 0), .int v_1727, .int v_1729, .int v_1731, .int v_1733, .int v_1735, .int v_1737, .int v_1739, .long v_1741, .int v_1742, .int v_1744, .int v_1746, .ref (ad 5 0), .ref (ad 6 0), .int v_1748, .int v_1750, .int v_1752, .int v_1754, .int v_1756, .ref (ad 7 0), .ref (ad 8 0), .ref (ad 9 0), .int v_1758, .ref (ad 10 0), .ref (ad 11 0), .ref (ad 12 0), .ref (ad 13 0), .int v_1760, .ref (ad 14 0)])) := p_ad_0_0
      refine pg_get S Y ok_X12 0 (by decide) kf12_7 (v := .ref (ad 1 0)) p_ad_0_0 rfl dX12_legibleOn_6 ?_
      refine lv_bipush (v := 13) hx hb dX12_legibleOn_9 (by decide) ?_
      obtain ⟨g_1762, p_ad_1_0, o_1763⟩ := I.opi (k := 1) (j := 0) (by decide) rfl
      have p_ad_1_0 : pt L f (ad 1 0) (.inl (G.2 0, 10568, .inl g_1762)) := p_ad_1_0
      obtain ⟨v_1764, ev_1764⟩ : ∃ z, z = g_1762 (13 : Int32).toNatClampNeg := ⟨_, rfl⟩
      refine pg_iald S Y (v := v_1764) p_ad_1_0 (by unfold vp_in; decide) ev_1764.symm dX12_legibleOn_11 ?_
      have bv_1764 : bn 0 14 v_1764 := bn_eq ev_1764 (bn_w (a' := 0) (b' := 14) (IA_13 o_1763) ⟨by decide, by have h9 := hB; unfold BBp at h9; omega⟩)
      refine lv_icmp_ge (tgt := 49) hx hb dX12_legibleOn_12 (by decide) (fun c_1765 => ?_) (fun c_1765 => ?_)
      · refine lv_iload_n hx hb dX12_legibleOn_49 rfl (lv_at hl 2 rfl) ?_
        exact prI (post := fun r L1 f1 => (bn 0 16383 r) ∧ L1 = L ∧ f1 = f) S Y rfl (by decide) (by decide) hA1 ⟨bn_w b_y4_2 (by decide), rfl, rfl⟩ dX12_legibleOn_50
      · have B_1766 : bn 1 14 v_1764 := bn_w (bn_gtl c_1765 bv_1764 b_y4_3) (by decide)
        have B_1767 : bn 0 13 y4_3 := bn_w (bn_gtr c_1765 bv_1764 b_y4_3) (by decide)
        refine lv_iload_n hx hb dX12_legibleOn_15 rfl (lv_at hl 2 rfl) ?_
        refine lv_aload_n hx hb dX12_legibleOn_16 rfl (lv_at hl 0 rfl) ?_
        refine lv_iload_n hx hb dX12_legibleOn_17 rfl (lv_at hl 3 rfl) ?_
        refine lv_iconst (v := 1) hx hb dX12_legibleOn_18 (by decide) ?_
        refine cVp (As := [.int y4_3, .int 1]) (rest := [.int y4_2]) S Y (x_X12_getON (l := l) I hB (bn_w B_1767 (by decide)) (bn_w (show bn 1 1 (1 : Int32) from bn_k (by decide)) (by decide))) cw_X12_get km12_73 p_ad_0_0 ok_X12.1 rfl rfl ⟨Nat.le_of_ble_eq_true rfl, Nat.le_of_ble_eq_true rfl⟩ hl.1 rfl (Nat.le_of_ble_eq_true rfl) ⟨Nat.le_of_ble_eq_true rfl, Nat.le_of_ble_eq_true rfl⟩ dX12_legibleOn_19 (fun r_1768 H locs er_1768 Y => ?_)
        refine lv_iload_n hx hb dX12_legibleOn_22 rfl (lv_at hl 1 rfl) ?_
        refine lv_icmp_ne (tgt := 40) hx hb dX12_legibleOn_23 (by decide) (fun c_1769 => ?_) (fun c_1769 => ?_)
        · refine lv_iconst (v := 0) hx hb dX12_legibleOn_40 (by decide) ?_
          refine lv_ior hx hb dX12_legibleOn_41 ?_
          refine lv_topi (fun x_1770 ex_1770 => ?_)
          refine lv_istore_n (lv' := [(2, .int x_1770), (0, .ref (ad 0 0)), (1, .int i1), (3, .int y4_3)]) hx hb dX12_legibleOn_42 rfl hl (by decide) rfl (fun ls hl => ?_)
          obtain ⟨x_1771, ex_1771⟩ : ∃ z : Int32, z = y4_3 + 1 := ⟨_, rfl⟩
          refine lv_iinc (v := x_1771) (lv' := [(3, .int x_1771), (2, .int x_1770), (0, .ref (ad 0 0)), (1, .int i1)]) hx hb dX12_legibleOn_43 hl (k := 3) rfl (by rw [ex_1771]; rfl) (by decide) rfl (fun ls hl => ?_)
          refine lv_goto (tgt := 4) hx hb dX12_legibleOn_46 (by decide) ?_
          exact ih4 _ (by rw [← hm4]; exact ms_up (m := 1) ex_1771 (show bn 1 1 (1 : Int32) from bn_k (by decide)) B_1767 (bn_w (bn_eq ex_1771 (bn_add B_1767 (show bn 1 1 (1 : Int32) from bn_k (by decide)) (by decide))) (by decide) : bn 0 14 x_1771) (by decide)) x_1770 x_1771  _ _ _  (bn_w (bn_eq ex_1770 (bn_or (n := 14) (bn_w b_y4_2 (by decide) : bn 0 16383 y4_2) (bn_w (show bn 0 0 (0 : Int32) from bn_k (by decide)) (by decide) : bn 0 0 0) (by decide) (by decide))) (by decide)) (bn_w (bn_eq ex_1771 (bn_add B_1767 (show bn 1 1 (1 : Int32) from bn_k (by decide)) (by decide))) (by decide)) rfl Y (lv_sub hl [2, 3, 1, 0] rfl)
        · refine lv_aload_n hx hb dX12_legibleOn_26 rfl (lv_at hl 0 rfl) ?_
          refine lv_iload_n hx hb dX12_legibleOn_27 rfl (lv_at hl 3 rfl) ?_
          refine cVp (As := [.int y4_3]) (rest := [.int y4_2]) S Y (x_X12_isLegible (l := l) I hB (bn_w B_1767 (by decide))) cw_X12_isLegible km12_77 p_ad_0_0 ok_X12.1 rfl rfl ⟨Nat.le_of_ble_eq_true rfl, Nat.le_of_ble_eq_true rfl⟩ hl.1 rfl (Nat.le_of_ble_eq_true rfl) ⟨Nat.le_of_ble_eq_true rfl, Nat.le_of_ble_eq_true rfl⟩ dX12_legibleOn_28 (fun r_1772 H locs er_1772 Y => ?_)
          refine lv_if_eq (tgt := 40) hx hb dX12_legibleOn_31 (by decide) (fun c_1773 => ?_) (fun c_1773 => ?_)
          · have B_1774 : bn 0 0 r_1772 := bn_w (bn_eq c_1773 (show bn 0 0 (0 : Int32) from bn_k (by decide))) (by decide)
            refine lv_iconst (v := 0) hx hb dX12_legibleOn_40 (by decide) ?_
            refine lv_ior hx hb dX12_legibleOn_41 ?_
            refine lv_topi (fun x_1776 ex_1776 => ?_)
            refine lv_istore_n (lv' := [(2, .int x_1776), (0, .ref (ad 0 0)), (1, .int i1), (3, .int y4_3)]) hx hb dX12_legibleOn_42 rfl hl (by decide) rfl (fun ls hl => ?_)
            obtain ⟨x_1777, ex_1777⟩ : ∃ z : Int32, z = y4_3 + 1 := ⟨_, rfl⟩
            refine lv_iinc (v := x_1777) (lv' := [(3, .int x_1777), (2, .int x_1776), (0, .ref (ad 0 0)), (1, .int i1)]) hx hb dX12_legibleOn_43 hl (k := 3) rfl (by rw [ex_1777]; rfl) (by decide) rfl (fun ls hl => ?_)
            refine lv_goto (tgt := 4) hx hb dX12_legibleOn_46 (by decide) ?_
            exact ih4 _ (by rw [← hm4]; exact ms_up (m := 1) ex_1777 (show bn 1 1 (1 : Int32) from bn_k (by decide)) B_1767 (bn_w (bn_eq ex_1777 (bn_add B_1767 (show bn 1 1 (1 : Int32) from bn_k (by decide)) (by decide))) (by decide) : bn 0 14 x_1777) (by decide)) x_1776 x_1777  _ _ _  (bn_w (bn_eq ex_1776 (bn_or (n := 14) (bn_w b_y4_2 (by decide) : bn 0 16383 y4_2) (bn_w (show bn 0 0 (0 : Int32) from bn_k (by decide)) (by decide) : bn 0 0 0) (by decide) (by decide))) (by decide)) (bn_w (bn_eq ex_1777 (bn_add B_1767 (show bn 1 1 (1 : Int32) from bn_k (by decide)) (by decide))) (by decide)) rfl Y (lv_sub hl [2, 3, 1, 0] rfl)
          · have B_1775 : bn 1 1 r_1772 := bn_w (bn_nel c_1773 er_1772 (show bn 0 0 (0 : Int32) from bn_k (by decide))) (by decide)
            refine lv_iconst (v := 1) hx hb dX12_legibleOn_34 (by decide) ?_
            refine lv_iload_n hx hb dX12_legibleOn_35 rfl (lv_at hl 3 rfl) ?_
            refine lv_ishl hx hb dX12_legibleOn_36 ?_
            refine lv_topi (fun x_1778 ex_1778 => ?_)
            refine lv_goto (tgt := 41) hx hb dX12_legibleOn_37 (by decide) ?_
            refine lv_ior hx hb dX12_legibleOn_41 ?_
            refine lv_topi (fun x_1779 ex_1779 => ?_)
            refine lv_istore_n (lv' := [(2, .int x_1779), (0, .ref (ad 0 0)), (1, .int i1), (3, .int y4_3)]) hx hb dX12_legibleOn_42 rfl hl (by decide) rfl (fun ls hl => ?_)
            obtain ⟨x_1780, ex_1780⟩ : ∃ z : Int32, z = y4_3 + 1 := ⟨_, rfl⟩
            refine lv_iinc (v := x_1780) (lv' := [(3, .int x_1780), (2, .int x_1779), (0, .ref (ad 0 0)), (1, .int i1)]) hx hb dX12_legibleOn_43 hl (k := 3) rfl (by rw [ex_1780]; rfl) (by decide) rfl (fun ls hl => ?_)
            refine lv_goto (tgt := 4) hx hb dX12_legibleOn_46 (by decide) ?_
            exact ih4 _ (by rw [← hm4]; exact ms_up (m := 1) ex_1780 (show bn 1 1 (1 : Int32) from bn_k (by decide)) B_1767 (bn_w (bn_eq ex_1780 (bn_add B_1767 (show bn 1 1 (1 : Int32) from bn_k (by decide)) (by decide))) (by decide) : bn 0 14 x_1780) (by decide)) x_1779 x_1780  _ _ _  (bn_w (bn_eq ex_1779 (bn_or (n := 14) (bn_w b_y4_2 (by decide) : bn 0 16383 y4_2) (bn_w (bn_eq ex_1778 (bn_shl (n := 13) (bn_w B_1767 (by decide) : bn 0 13 y4_3) (by decide) (by decide))) (by decide) : bn 0 8192 x_1778) (by decide) (by decide))) (by decide)) (bn_w (bn_eq ex_1780 (bn_add B_1767 (show bn 1 1 (1 : Int32) from bn_k (by decide)) (by decide))) (by decide)) rfl Y (lv_sub hl [2, 3, 1, 0] rfl)
  refine lv_iconst (v := 0) hx hb dX12_legibleOn_0 (by decide) ?_
  refine lv_istore_n (lv' := [(2, .int 0), (0, .ref (ad 0 0)), (1, .int i1)]) hx hb dX12_legibleOn_1 rfl hl (by decide) rfl (fun ls hl => ?_)
  refine lv_iconst (v := 0) hx hb dX12_legibleOn_2 (by decide) ?_
  refine lv_istore_n (lv' := [(3, .int 0), (2, .int 0), (0, .ref (ad 0 0)), (1, .int i1)]) hx hb dX12_legibleOn_3 rfl hl (by decide) rfl (fun ls hl => ?_)
  exact J_4 _ 0 0  _ _ _  (bn_w (show bn 0 0 (0 : Int32) from bn_k (by decide)) (by decide)) (bn_w (show bn 0 0 (0 : Int32) from bn_k (by decide)) (by decide)) rfl Y (lv_sub hl [2, 3, 1, 0] rfl)
set_option maxHeartbeats 4000000 in
set_option maxRecDepth 100000 in
theorem x_X12_legible {l : Launch} {G : GG}  {L : List Nat} {f : HF} {ad : Nat → Nat → Nat} {sl : Int} {pl : Int} {oh : Int} {dh : Int} {w : Int × Int} {pi : (Nat → Int32) → Prop} {px : (Nat → Int32) → Prop} {pa : (Nat → Int32) → Prop} (I : SH (spM (IA sl pl oh dh w) pi px pa) nnM G ad L f) (hB : BBp sl pl oh dh w) : PMp l yX12_legible cX12_legible 3 .int 2 0 0 G [.ref (ad 0 0)] L f (fun r => bn 0 16383 r) := by
  refine PMi.of (post := fun r L1 f1 => (bn 0 16383 r) ∧ L1 = L ∧ f1 = f) (own := RX12) (by decide) rfl (Nat.le_of_ble_eq_true rfl) (fun sz p e s m args below meth c A ls hA1 hname S Y hl => ?_)
  have hx := S.hx
  have hb := S.hb
  have hl : lv_has ls 3 [(0, .ref (ad 0 0))] := hl
  have J_4 : ∀ (n4 : Nat) (y4_1 y4_2 : Int32) (H : Heap) (locs : List Loc) (ls : Array Slot), (bn 0 16383 y4_1) → (bn 0 14 y4_2) → (((14 : Int) - y4_2.toInt).toNat = n4) → (DY G A s [] L f H locs) → (lv_has ls 3 [(0, .ref (ad 0 0)), (1, .int y4_1), (2, .int y4_2)]) → W p l e (rmD 2 0 0) s m args below meth c H locs (0) (0) (MQ below (va_Qi (fun r (u : List Nat × HF) => (fun r L1 f1 => (bn 0 16383 r) ∧ L1 = L ∧ f1 = f) r u.1 u.2) (fun u t => pOut G (va_A (va_pl L f) sz) u.1 u.2 t) (va_A (va_pl L f) sz)) args s 0 0 A) (F0 m 4 ls []) := by
    intro n4
    induction n4 using Nat.strongRecOn with
    | _ n4 ih4 =>
      intro y4_1 y4_2 H locs ls b_y4_1 b_y4_2 hm4 Y hl
      refine lv_iload_n hx hb dX12_legible_4 rfl (lv_at hl 2 rfl) ?_
      refine lv_aload_n hx hb dX12_legible_5 rfl (lv_at hl 0 rfl) ?_
      obtain ⟨v_2481, v_2483, v_2485, v_2487, v_2489, v_2491, v_2493, v_2495, v_2496, v_2498, v_2500, v_2502, v_2504, v_2506, v_2508, v_2510, v_2512, v_2514, p_ad_0_0, b_2482, b_2484, b_2486, b_2488, b_2490, b_2492, b_2494, b_2497, b_2499, b_2501, b_2503, b_2505, b_2507, b_2509, b_2511, b_2513, b_2515⟩ := opnM_0 (j := 0) I (by decide)
      have p_ad_0_0 : pt L f (ad 0 0) (.inr (12, [.ref (ad 1 0), .ref (ad 2 0), .ref (ad 3 0), .ref (ad 4 0), .int v_2481, .int v_2483, .int v_2485, .int v_2487, .int v_2489, .int v_2491, .int v_2493, .long v_2495, .int v_2496, .int v_2498, .int v_2500, .ref (ad 5 0), .ref (ad 6 0), .int v_2502, .int v_2504, .int v_2506, .int v_2508, .int v_2510, .ref (ad 7 0), .ref (ad 8 0), .ref (ad 9 0), .int v_2512, .ref (ad 10 0), .ref (ad 11 0), .ref (ad 12 0), .ref (ad 13 0), .int v_2514, .ref (ad 14 0)])) := p_ad_0_0
      refine pg_get S Y ok_X12 0 (by decide) kf12_7 (v := .ref (ad 1 0)) p_ad_0_0 rfl dX12_legible_6 ?_
      refine lv_bipush (v := 13) hx hb dX12_legible_9 (by decide) ?_
      obtain ⟨g_2516, p_ad_1_0, o_2517⟩ := I.opi (k := 1) (j := 0) (by decide) rfl
      have p_ad_1_0 : pt L f (ad 1 0) (.inl (G.2 0, 10568, .inl g_2516)) := p_ad_1_0
      obtain ⟨v_2518, ev_2518⟩ : ∃ z, z = g_2516 (13 : Int32).toNatClampNeg := ⟨_, rfl⟩
      refine pg_iald S Y (v := v_2518) p_ad_1_0 (by unfold vp_in; decide) ev_2518.symm dX12_legible_11 ?_
      have bv_2518 : bn 0 14 v_2518 := bn_eq ev_2518 (bn_w (a' := 0) (b' := 14) (IA_13 o_2517) ⟨by decide, by have h9 := hB; unfold BBp at h9; omega⟩)
      refine lv_icmp_ge (tgt := 39) hx hb dX12_legible_12 (by decide) (fun c_2519 => ?_) (fun c_2519 => ?_)
      · refine lv_iload_n hx hb dX12_legible_39 rfl (lv_at hl 1 rfl) ?_
        exact prI (post := fun r L1 f1 => (bn 0 16383 r) ∧ L1 = L ∧ f1 = f) S Y rfl (by decide) (by decide) hA1 ⟨bn_w b_y4_1 (by decide), rfl, rfl⟩ dX12_legible_40
      · have B_2520 : bn 1 14 v_2518 := bn_w (bn_gtl c_2519 bv_2518 b_y4_2) (by decide)
        have B_2521 : bn 0 13 y4_2 := bn_w (bn_gtr c_2519 bv_2518 b_y4_2) (by decide)
        refine lv_iload_n hx hb dX12_legible_15 rfl (lv_at hl 1 rfl) ?_
        refine lv_aload_n hx hb dX12_legible_16 rfl (lv_at hl 0 rfl) ?_
        refine lv_iload_n hx hb dX12_legible_17 rfl (lv_at hl 2 rfl) ?_
        refine cVp (As := [.int y4_2]) (rest := [.int y4_1]) S Y (x_X12_isLegible (l := l) I hB (bn_w B_2521 (by decide))) cw_X12_isLegible km12_77 p_ad_0_0 ok_X12.1 rfl rfl ⟨Nat.le_of_ble_eq_true rfl, Nat.le_of_ble_eq_true rfl⟩ hl.1 rfl (Nat.le_of_ble_eq_true rfl) ⟨Nat.le_of_ble_eq_true rfl, Nat.le_of_ble_eq_true rfl⟩ dX12_legible_18 (fun r_2522 H locs er_2522 Y => ?_)
        refine lv_if_eq (tgt := 30) hx hb dX12_legible_21 (by decide) (fun c_2523 => ?_) (fun c_2523 => ?_)
        · have B_2524 : bn 0 0 r_2522 := bn_w (bn_eq c_2523 (show bn 0 0 (0 : Int32) from bn_k (by decide))) (by decide)
          refine lv_iconst (v := 0) hx hb dX12_legible_30 (by decide) ?_
          refine lv_ior hx hb dX12_legible_31 ?_
          refine lv_topi (fun x_2526 ex_2526 => ?_)
          refine lv_istore_n (lv' := [(1, .int x_2526), (0, .ref (ad 0 0)), (2, .int y4_2)]) hx hb dX12_legible_32 rfl hl (by decide) rfl (fun ls hl => ?_)
          obtain ⟨x_2527, ex_2527⟩ : ∃ z : Int32, z = y4_2 + 1 := ⟨_, rfl⟩
          refine lv_iinc (v := x_2527) (lv' := [(2, .int x_2527), (1, .int x_2526), (0, .ref (ad 0 0))]) hx hb dX12_legible_33 hl (k := 2) rfl (by rw [ex_2527]; rfl) (by decide) rfl (fun ls hl => ?_)
          refine lv_goto (tgt := 4) hx hb dX12_legible_36 (by decide) ?_
          exact ih4 _ (by rw [← hm4]; exact ms_up (m := 1) ex_2527 (show bn 1 1 (1 : Int32) from bn_k (by decide)) B_2521 (bn_w (bn_eq ex_2527 (bn_add B_2521 (show bn 1 1 (1 : Int32) from bn_k (by decide)) (by decide))) (by decide) : bn 0 14 x_2527) (by decide)) x_2526 x_2527  _ _ _  (bn_w (bn_eq ex_2526 (bn_or (n := 14) (bn_w b_y4_1 (by decide) : bn 0 16383 y4_1) (bn_w (show bn 0 0 (0 : Int32) from bn_k (by decide)) (by decide) : bn 0 0 0) (by decide) (by decide))) (by decide)) (bn_w (bn_eq ex_2527 (bn_add B_2521 (show bn 1 1 (1 : Int32) from bn_k (by decide)) (by decide))) (by decide)) rfl Y (lv_sub hl [2, 1, 0] rfl)
        · have B_2525 : bn 1 1 r_2522 := bn_w (bn_nel c_2523 er_2522 (show bn 0 0 (0 : Int32) from bn_k (by decide))) (by decide)
          refine lv_iconst (v := 1) hx hb dX12_legible_24 (by decide) ?_
          refine lv_iload_n hx hb dX12_legible_25 rfl (lv_at hl 2 rfl) ?_
          refine lv_ishl hx hb dX12_legible_26 ?_
          refine lv_topi (fun x_2528 ex_2528 => ?_)
          refine lv_goto (tgt := 31) hx hb dX12_legible_27 (by decide) ?_
          refine lv_ior hx hb dX12_legible_31 ?_
          refine lv_topi (fun x_2529 ex_2529 => ?_)
          refine lv_istore_n (lv' := [(1, .int x_2529), (0, .ref (ad 0 0)), (2, .int y4_2)]) hx hb dX12_legible_32 rfl hl (by decide) rfl (fun ls hl => ?_)
          obtain ⟨x_2530, ex_2530⟩ : ∃ z : Int32, z = y4_2 + 1 := ⟨_, rfl⟩
          refine lv_iinc (v := x_2530) (lv' := [(2, .int x_2530), (1, .int x_2529), (0, .ref (ad 0 0))]) hx hb dX12_legible_33 hl (k := 2) rfl (by rw [ex_2530]; rfl) (by decide) rfl (fun ls hl => ?_)
          refine lv_goto (tgt := 4) hx hb dX12_legible_36 (by decide) ?_
          exact ih4 _ (by rw [← hm4]; exact ms_up (m := 1) ex_2530 (show bn 1 1 (1 : Int32) from bn_k (by decide)) B_2521 (bn_w (bn_eq ex_2530 (bn_add B_2521 (show bn 1 1 (1 : Int32) from bn_k (by decide)) (by decide))) (by decide) : bn 0 14 x_2530) (by decide)) x_2529 x_2530  _ _ _  (bn_w (bn_eq ex_2529 (bn_or (n := 14) (bn_w b_y4_1 (by decide) : bn 0 16383 y4_1) (bn_w (bn_eq ex_2528 (bn_shl (n := 13) (bn_w B_2521 (by decide) : bn 0 13 y4_2) (by decide) (by decide))) (by decide) : bn 0 8192 x_2528) (by decide) (by decide))) (by decide)) (bn_w (bn_eq ex_2530 (bn_add B_2521 (show bn 1 1 (1 : Int32) from bn_k (by decide)) (by decide))) (by decide)) rfl Y (lv_sub hl [2, 1, 0] rfl)
  refine lv_iconst (v := 0) hx hb dX12_legible_0 (by decide) ?_
  refine lv_istore_n (lv' := [(1, .int 0), (0, .ref (ad 0 0))]) hx hb dX12_legible_1 rfl hl (by decide) rfl (fun ls hl => ?_)
  refine lv_iconst (v := 0) hx hb dX12_legible_2 (by decide) ?_
  refine lv_istore_n (lv' := [(2, .int 0), (1, .int 0), (0, .ref (ad 0 0))]) hx hb dX12_legible_3 rfl hl (by decide) rfl (fun ls hl => ?_)
  exact J_4 _ 0 0  _ _ _  (bn_w (show bn 0 0 (0 : Int32) from bn_k (by decide)) (by decide)) (bn_w (show bn 0 0 (0 : Int32) from bn_k (by decide)) (by decide)) rfl Y (lv_sub hl [2, 1, 0] rfl)
set_option maxHeartbeats 4000000 in
set_option maxRecDepth 100000 in
theorem x_X12_toughOf {l : Launch} {G : GG}  {L : List Nat} {f : HF} {ad : Nat → Nat → Nat} {sl : Int} {pl : Int} {oh : Int} {dh : Int} {w : Int × Int} {pi : (Nat → Int32) → Prop} {px : (Nat → Int32) → Prop} {pa : (Nat → Int32) → Prop} {i1 : Int32} (I : SH (spM (IA sl pl oh dh w) pi px pa) nnM G ad L f) (hB : BBp sl pl oh dh w) (b_i1 : bn 0 5 i1) : PMp l yX12_toughOf cX12_toughOf 2 .int 0 0 0 G [.ref (ad 0 0), .int i1] L f (fun r => True) := by
  refine PMi.of (post := fun r L1 f1 => (True) ∧ L1 = L ∧ f1 = f) (own := RX12) (by decide) rfl (Nat.le_of_ble_eq_true rfl) (fun sz p e s m args below meth c A ls hA1 hname S Y hl => ?_)
  have hx := S.hx
  have hb := S.hb
  have hl : lv_has ls 2 [(0, .ref (ad 0 0)), (1, .int i1)] := hl
  refine lv_aload_n hx hb dX12_toughOf_0 rfl (lv_at hl 0 rfl) ?_
  obtain ⟨v_2611, v_2613, v_2615, v_2617, v_2619, v_2621, v_2623, v_2625, v_2626, v_2628, v_2630, v_2632, v_2634, v_2636, v_2638, v_2640, v_2642, v_2644, p_ad_0_0, b_2612, b_2614, b_2616, b_2618, b_2620, b_2622, b_2624, b_2627, b_2629, b_2631, b_2633, b_2635, b_2637, b_2639, b_2641, b_2643, b_2645⟩ := opnM_0 (j := 0) I (by decide)
  have p_ad_0_0 : pt L f (ad 0 0) (.inr (12, [.ref (ad 1 0), .ref (ad 2 0), .ref (ad 3 0), .ref (ad 4 0), .int v_2611, .int v_2613, .int v_2615, .int v_2617, .int v_2619, .int v_2621, .int v_2623, .long v_2625, .int v_2626, .int v_2628, .int v_2630, .ref (ad 5 0), .ref (ad 6 0), .int v_2632, .int v_2634, .int v_2636, .int v_2638, .int v_2640, .ref (ad 7 0), .ref (ad 8 0), .ref (ad 9 0), .int v_2642, .ref (ad 10 0), .ref (ad 11 0), .ref (ad 12 0), .ref (ad 13 0), .int v_2644, .ref (ad 14 0)])) := p_ad_0_0
  refine pg_get S Y ok_X12 0 (by decide) kf12_7 (v := .ref (ad 1 0)) p_ad_0_0 rfl dX12_toughOf_1 ?_
  refine lv_bipush (v := 114) hx hb dX12_toughOf_4 (by decide) ?_
  refine lv_iconst (v := 2) hx hb dX12_toughOf_6 (by decide) ?_
  refine lv_iload_n hx hb dX12_toughOf_7 rfl (lv_at hl 1 rfl) ?_
  refine lv_imul hx hb dX12_toughOf_8 ?_
  refine lv_topi (fun x_2646 ex_2646 => ?_)
  refine lv_iadd hx hb dX12_toughOf_9 ?_
  refine lv_topi (fun x_2647 ex_2647 => ?_)
  obtain ⟨g_2648, p_ad_1_0, o_2649⟩ := I.opi (k := 1) (j := 0) (by decide) rfl
  have p_ad_1_0 : pt L f (ad 1 0) (.inl (G.2 0, 10568, .inl g_2648)) := p_ad_1_0
  obtain ⟨v_2650, ev_2650⟩ : ∃ z, z = g_2648 (x_2647 : Int32).toNatClampNeg := ⟨_, rfl⟩
  refine pg_iald S Y (v := v_2650) p_ad_1_0 (vp_bn (bn_eq ex_2647 (bn_add (show bn 114 114 (114 : Int32) from bn_k (by decide)) (bn_eq ex_2646 (bn_mul (show bn 2 2 (2 : Int32) from bn_k (by decide)) b_i1 (by decide))) (by decide))) (by decide)) ev_2650.symm dX12_toughOf_10 ?_
  exact prI (post := fun r L1 f1 => (True) ∧ L1 = L ∧ f1 = f) S Y rfl (by decide) (by decide) hA1 ⟨trivial, rfl, rfl⟩ dX12_toughOf_11
set_option maxHeartbeats 4000000 in
set_option maxRecDepth 100000 in
theorem x_X12_isLink {l : Launch} {G : GG}  {L : List Nat} {f : HF} {ad : Nat → Nat → Nat} {sl : Int} {pl : Int} {oh : Int} {dh : Int} {w : Int × Int} {pi : (Nat → Int32) → Prop} {px : (Nat → Int32) → Prop} {pa : (Nat → Int32) → Prop} {i1 : Int32} (I : SH (spM (IA sl pl oh dh w) pi px pa) nnM G ad L f) (hB : BBp sl pl oh dh w) (b_i1 : bn 0 13 i1) : PMp l yX12_isLink cX12_isLink 2 .boolean 2 0 0 G [.ref (ad 0 0), .int i1] L f (fun r => bn 0 1 r) := by
  refine PMi.of (post := fun r L1 f1 => (bn 0 1 r) ∧ L1 = L ∧ f1 = f) (own := RX12) (by decide) rfl (Nat.le_of_ble_eq_true rfl) (fun sz p e s m args below meth c A ls hA1 hname S Y hl => ?_)
  have hx := S.hx
  have hb := S.hb
  have hl : lv_has ls 2 [(0, .ref (ad 0 0)), (1, .int i1)] := hl
  refine lv_aload_n hx hb dX12_isLink_0 rfl (lv_at hl 0 rfl) ?_
  refine lv_iload_n hx hb dX12_isLink_1 rfl (lv_at hl 1 rfl) ?_
  refine lv_iconst (v := 2) hx hb dX12_isLink_2 (by decide) ?_
  refine cVp (As := [.int i1, .int 2]) (rest := []) S Y (x_X12_get (l := l) I hB (bn_w b_i1 (by decide)) (bn_w (show bn 2 2 (2 : Int32) from bn_k (by decide)) (by decide))) cw_X12_get km12_73 (I.opo (k := 0) (j := 0) (by decide) rfl).choose_spec.1 ok_X12.1 rfl rfl ⟨Nat.le_of_ble_eq_true rfl, Nat.le_of_ble_eq_true rfl⟩ hl.1 rfl (Nat.le_of_ble_eq_true rfl) ⟨Nat.le_of_ble_eq_true rfl, Nat.le_of_ble_eq_true rfl⟩ dX12_isLink_3 (fun r_2671 H locs er_2671 Y => ?_)
  refine lv_iconst (v := 1) hx hb dX12_isLink_6 (by decide) ?_
  refine lv_icmp_ne (tgt := 31) hx hb dX12_isLink_7 (by decide) (fun c_2672 => ?_) (fun c_2672 => ?_)
  · refine lv_iconst (v := 0) hx hb dX12_isLink_31 (by decide) ?_
    exact prI (post := fun r L1 f1 => (bn 0 1 r) ∧ L1 = L ∧ f1 = f) S Y rfl (by decide) (by decide) hA1 ⟨bn_w (show bn 0 0 (0 : Int32) from bn_k (by decide)) (by decide), rfl, rfl⟩ dX12_isLink_32
  · have B_2673 : bn 1 1 r_2671 := bn_w (bn_eq c_2672 (show bn 1 1 (1 : Int32) from bn_k (by decide))) (by decide)
    refine lv_aload_n hx hb dX12_isLink_10 rfl (lv_at hl 0 rfl) ?_
    refine lv_iload_n hx hb dX12_isLink_11 rfl (lv_at hl 1 rfl) ?_
    refine lv_iconst (v := 4) hx hb dX12_isLink_12 (by decide) ?_
    refine cVp (As := [.int i1, .int 4]) (rest := []) S Y (x_X12_get (l := l) I hB (bn_w b_i1 (by decide)) (bn_w (show bn 4 4 (4 : Int32) from bn_k (by decide)) (by decide))) cw_X12_get km12_73 (I.opo (k := 0) (j := 0) (by decide) rfl).choose_spec.1 ok_X12.1 rfl rfl ⟨Nat.le_of_ble_eq_true rfl, Nat.le_of_ble_eq_true rfl⟩ hl.1 rfl (Nat.le_of_ble_eq_true rfl) ⟨Nat.le_of_ble_eq_true rfl, Nat.le_of_ble_eq_true rfl⟩ dX12_isLink_13 (fun r_2674 H locs er_2674 Y => ?_)
    refine lv_if_ne (tgt := 31) hx hb dX12_isLink_16 (by decide) (fun c_2675 => ?_) (fun c_2675 => ?_)
    · refine lv_iconst (v := 0) hx hb dX12_isLink_31 (by decide) ?_
      exact prI (post := fun r L1 f1 => (bn 0 1 r) ∧ L1 = L ∧ f1 = f) S Y rfl (by decide) (by decide) hA1 ⟨bn_w (show bn 0 0 (0 : Int32) from bn_k (by decide)) (by decide), rfl, rfl⟩ dX12_isLink_32
    · have B_2676 : bn 0 0 r_2674 := bn_w (bn_eq c_2675 (show bn 0 0 (0 : Int32) from bn_k (by decide))) (by decide)
      refine lv_aload_n hx hb dX12_isLink_19 rfl (lv_at hl 0 rfl) ?_
      refine lv_iload_n hx hb dX12_isLink_20 rfl (lv_at hl 1 rfl) ?_
      refine cVp (As := [.int i1]) (rest := []) S Y (x_X12_isLegible (l := l) I hB (bn_w b_i1 (by decide))) cw_X12_isLegible km12_77 (I.opo (k := 0) (j := 0) (by decide) rfl).choose_spec.1 ok_X12.1 rfl rfl ⟨Nat.le_of_ble_eq_true rfl, Nat.le_of_ble_eq_true rfl⟩ hl.1 rfl (Nat.le_of_ble_eq_true rfl) ⟨Nat.le_of_ble_eq_true rfl, Nat.le_of_ble_eq_true rfl⟩ dX12_isLink_21 (fun r_2677 H locs er_2677 Y => ?_)
      refine lv_if_eq (tgt := 31) hx hb dX12_isLink_24 (by decide) (fun c_2678 => ?_) (fun c_2678 => ?_)
      · have B_2679 : bn 0 0 r_2677 := bn_w (bn_eq c_2678 (show bn 0 0 (0 : Int32) from bn_k (by decide))) (by decide)
        refine lv_iconst (v := 0) hx hb dX12_isLink_31 (by decide) ?_
        exact prI (post := fun r L1 f1 => (bn 0 1 r) ∧ L1 = L ∧ f1 = f) S Y rfl (by decide) (by decide) hA1 ⟨bn_w (show bn 0 0 (0 : Int32) from bn_k (by decide)) (by decide), rfl, rfl⟩ dX12_isLink_32
      · have B_2680 : bn 1 1 r_2677 := bn_w (bn_nel c_2678 er_2677 (show bn 0 0 (0 : Int32) from bn_k (by decide))) (by decide)
        refine lv_iconst (v := 1) hx hb dX12_isLink_27 (by decide) ?_
        refine lv_goto (tgt := 32) hx hb dX12_isLink_28 (by decide) ?_
        exact prI (post := fun r L1 f1 => (bn 0 1 r) ∧ L1 = L ∧ f1 = f) S Y rfl (by decide) (by decide) hA1 ⟨bn_w (show bn 1 1 (1 : Int32) from bn_k (by decide)) (by decide), rfl, rfl⟩ dX12_isLink_32
set_option maxHeartbeats 4000000 in
set_option maxRecDepth 100000 in
theorem x_X12_anew {l : Launch} {G : GG}  {L : List Nat} {f : HF} {ad : Nat → Nat → Nat} {sl : Int} {pl : Int} {oh : Int} {dh : Int} {w : Int × Int} {pi : (Nat → Int32) → Prop} {px : (Nat → Int32) → Prop} {pa : (Nat → Int32) → Prop} (I : SH (spM (IA sl pl oh dh w) pi px pa) nnM G ad L f) (hB : BBp sl pl oh dh w) : PMv l yX12_anew cX12_anew 1 0 0 0 G [.ref (ad 0 0)] L f (fun L1 f1 => SH (spM (IA sl pl oh dh w) pi px pa) nnM G ad L1 f1) := by
  refine PMv.of (post := fun L1 f1 => SH (spM (IA sl pl oh dh w) pi px pa) nnM G ad L1 f1) (own := RX12) (by decide) rfl (Nat.le_of_ble_eq_true rfl) (fun sz p e s m args below meth c A ls hA1 hname S Y hl => ?_)
  have hx := S.hx
  have hb := S.hb
  have hl : lv_has ls 1 [(0, .ref (ad 0 0))] := hl
  refine lv_aload_n hx hb dX12_anew_0 rfl (lv_at hl 0 rfl) ?_
  obtain ⟨v_2775, v_2777, v_2779, v_2781, v_2783, v_2785, v_2787, v_2789, v_2790, v_2792, v_2794, v_2796, v_2798, v_2800, v_2802, v_2804, v_2806, v_2808, p_ad_0_0, b_2776, b_2778, b_2780, b_2782, b_2784, b_2786, b_2788, b_2791, b_2793, b_2795, b_2797, b_2799, b_2801, b_2803, b_2805, b_2807, b_2809⟩ := opnM_0 (j := 0) I (by decide)
  have p_ad_0_0 : pt L f (ad 0 0) (.inr (12, [.ref (ad 1 0), .ref (ad 2 0), .ref (ad 3 0), .ref (ad 4 0), .int v_2775, .int v_2777, .int v_2779, .int v_2781, .int v_2783, .int v_2785, .int v_2787, .long v_2789, .int v_2790, .int v_2792, .int v_2794, .ref (ad 5 0), .ref (ad 6 0), .int v_2796, .int v_2798, .int v_2800, .int v_2802, .int v_2804, .ref (ad 7 0), .ref (ad 8 0), .ref (ad 9 0), .int v_2806, .ref (ad 10 0), .ref (ad 11 0), .ref (ad 12 0), .ref (ad 13 0), .int v_2808, .ref (ad 14 0)])) := p_ad_0_0
  refine pg_get S Y ok_X12 0 (by decide) kf12_7 (v := .ref (ad 1 0)) p_ad_0_0 rfl dX12_anew_1 ?_
  refine lv_bipush (v := 12) hx hb dX12_anew_4 (by decide) ?_
  refine lv_aload_n hx hb dX12_anew_6 rfl (lv_at hl 0 rfl) ?_
  refine pg_get S Y ok_X12 0 (by decide) kf12_7 (v := .ref (ad 1 0)) p_ad_0_0 rfl dX12_anew_7 ?_
  refine lv_bipush (v := 12) hx hb dX12_anew_10 (by decide) ?_
  obtain ⟨g_2810, p_ad_1_0, o_2811⟩ := I.opi (k := 1) (j := 0) (by decide) rfl
  have p_ad_1_0 : pt L f (ad 1 0) (.inl (G.2 0, 10568, .inl g_2810)) := p_ad_1_0
  obtain ⟨v_2812, ev_2812⟩ : ∃ z, z = g_2810 (12 : Int32).toNatClampNeg := ⟨_, rfl⟩
  refine pg_iald S Y (v := v_2812) p_ad_1_0 (by unfold vp_in; decide) ev_2812.symm dX12_anew_12 ?_
  refine lv_i2l hx hb dX12_anew_13 rfl ?_
  refine lv_topl (fun x_2813 ex_2813 => ?_)
  refine lv_ldc2 (v := 367) hx hb S.ow (S.w kl12_311) dX12_anew_14 ?_
  refine lv_lmul hx hb dX12_anew_17 ?_
  refine lv_topl (fun x_2814 ex_2814 => ?_)
  refine lv_ldc2 (v := 241) hx hb S.ow (S.w kl12_313) dX12_anew_18 ?_
  refine lv_ladd hx hb dX12_anew_21 ?_
  refine lv_topl (fun x_2815 ex_2815 => ?_)
  refine lv_ldc2 (v := 30449) hx hb S.ow (S.w kl12_315) dX12_anew_22 ?_
  refine lv_lrem hx hb dX12_anew_25 (by decide) ?_
  refine lv_topl (fun x_2816 ex_2816 => ?_)
  refine lv_l2i hx hb dX12_anew_26 rfl ?_
  refine lv_topi (fun x_2817 ex_2817 => ?_)
  refine pg_iast S Y p_ad_1_0 (by unfold vp_in; decide) dX12_anew_27 (fun f_2819 H locs ef_2819 Y => ?_)
  obtain ⟨g_2818, eg_2818⟩ : ∃ z, z = upd (g_2810) (12 : Int32).toNatClampNeg x_2817 := ⟨_, rfl⟩
  rw [← eg_2818] at ef_2819
  have p_ad_0_0 := p_ad_0_0.up ef_2819 (I.ne (k := 0) (j := 0) (k' := 1) (j' := 0) (by decide) (by decide) (Or.inl (by decide)))
  have p_ad_1_0 := p_ad_1_0.me ef_2819
  have o_2820 : (IA sl pl oh dh w) g_2818 := (by rw [eg_2818]; exact (IA_free o_2811 (by unfold frC; decide)))
  have I := I.up (k := 1) (j := 0) (by decide) ef_2819 (okE_a (g := g_2818) o_2820)
  have q_2821 : g_2818 (12 : Int32).toNatClampNeg = x_2817 := by rw [eg_2818]; exact pk_us
  exact prV (post := fun L1 f1 => SH (spM (IA sl pl oh dh w) pi px pa) nnM G ad L1 f1) S Y (by decide) (by decide) hA1 I dX12_anew_28
set_option maxHeartbeats 4000000 in
set_option maxRecDepth 100000 in
theorem x_X12_netOf {l : Launch} {G : GG}  {L : List Nat} {f : HF} {ad : Nat → Nat → Nat} {sl : Int} {pl : Int} {oh : Int} {dh : Int} {w : Int × Int} {pi : (Nat → Int32) → Prop} {px : (Nat → Int32) → Prop} {pa : (Nat → Int32) → Prop} {i1 : Int32} (I : SH (spM (IA sl pl oh dh w) pi px pa) nnM G ad L f) (hB : BBp sl pl oh dh w) : PMp l yX12_netOf cX12_netOf 4 .int 1 0 0 G [.ref (ad 0 0), .int i1] L f (fun r => True) := by
  refine PMi.of (post := fun r L1 f1 => (True) ∧ L1 = L ∧ f1 = f) (own := RX12) (by decide) rfl (Nat.le_of_ble_eq_true rfl) (fun sz p e s m args below meth c A ls hA1 hname S Y hl => ?_)
  have hx := S.hx
  have hb := S.hb
  have hl : lv_has ls 4 [(0, .ref (ad 0 0)), (1, .int i1)] := hl
  have J_4 : ∀ (n4 : Nat) (y4_2 y4_3 : Int32) (H : Heap) (locs : List Loc) (ls : Array Slot), (bn 0 14 y4_3) → (((14 : Int) - y4_3.toInt).toNat = n4) → (DY G A s [] L f H locs) → (lv_has ls 4 [(0, .ref (ad 0 0)), (1, .int i1), (2, .int y4_2), (3, .int y4_3)]) → W p l e (rmD 1 0 0) s m args below meth c H locs (0) (0) (MQ below (va_Qi (fun r (u : List Nat × HF) => (fun r L1 f1 => (True) ∧ L1 = L ∧ f1 = f) r u.1 u.2) (fun u t => pOut G (va_A (va_pl L f) sz) u.1 u.2 t) (va_A (va_pl L f) sz)) args s 0 0 A) (F0 m 4 ls []) := by
    intro n4
    induction n4 using Nat.strongRecOn with
    | _ n4 ih4 =>
      intro y4_2 y4_3 H locs ls b_y4_3 hm4 Y hl
      refine lv_iload_n hx hb dX12_netOf_4 rfl (lv_at hl 3 rfl) ?_
      refine lv_aload_n hx hb dX12_netOf_5 rfl (lv_at hl 0 rfl) ?_
      obtain ⟨v_3774, v_3776, v_3778, v_3780, v_3782, v_3784, v_3786, v_3788, v_3789, v_3791, v_3793, v_3795, v_3797, v_3799, v_3801, v_3803, v_3805, v_3807, p_ad_0_0, b_3775, b_3777, b_3779, b_3781, b_3783, b_3785, b_3787, b_3790, b_3792, b_3794, b_3796, b_3798, b_3800, b_3802, b_3804, b_3806, b_3808⟩ := opnM_0 (j := 0) I (by decide)
      have p_ad_0_0 : pt L f (ad 0 0) (.inr (12, [.ref (ad 1 0), .ref (ad 2 0), .ref (ad 3 0), .ref (ad 4 0), .int v_3774, .int v_3776, .int v_3778, .int v_3780, .int v_3782, .int v_3784, .int v_3786, .long v_3788, .int v_3789, .int v_3791, .int v_3793, .ref (ad 5 0), .ref (ad 6 0), .int v_3795, .int v_3797, .int v_3799, .int v_3801, .int v_3803, .ref (ad 7 0), .ref (ad 8 0), .ref (ad 9 0), .int v_3805, .ref (ad 10 0), .ref (ad 11 0), .ref (ad 12 0), .ref (ad 13 0), .int v_3807, .ref (ad 14 0)])) := p_ad_0_0
      refine pg_get S Y ok_X12 0 (by decide) kf12_7 (v := .ref (ad 1 0)) p_ad_0_0 rfl dX12_netOf_6 ?_
      refine lv_bipush (v := 13) hx hb dX12_netOf_9 (by decide) ?_
      obtain ⟨g_3809, p_ad_1_0, o_3810⟩ := I.opi (k := 1) (j := 0) (by decide) rfl
      have p_ad_1_0 : pt L f (ad 1 0) (.inl (G.2 0, 10568, .inl g_3809)) := p_ad_1_0
      obtain ⟨v_3811, ev_3811⟩ : ∃ z, z = g_3809 (13 : Int32).toNatClampNeg := ⟨_, rfl⟩
      refine pg_iald S Y (v := v_3811) p_ad_1_0 (by unfold vp_in; decide) ev_3811.symm dX12_netOf_11 ?_
      have bv_3811 : bn 0 14 v_3811 := bn_eq ev_3811 (bn_w (a' := 0) (b' := 14) (IA_13 o_3810) ⟨by decide, by have h9 := hB; unfold BBp at h9; omega⟩)
      refine lv_icmp_ge (tgt := 88) hx hb dX12_netOf_12 (by decide) (fun c_3812 => ?_) (fun c_3812 => ?_)
      · refine lv_iload_n hx hb dX12_netOf_88 rfl (lv_at hl 2 rfl) ?_
        exact prI (post := fun r L1 f1 => (True) ∧ L1 = L ∧ f1 = f) S Y rfl (by decide) (by decide) hA1 ⟨trivial, rfl, rfl⟩ dX12_netOf_89
      · have B_3813 : bn 1 14 v_3811 := bn_w (bn_gtl c_3812 bv_3811 b_y4_3) (by decide)
        have B_3814 : bn 0 13 y4_3 := bn_w (bn_gtr c_3812 bv_3811 b_y4_3) (by decide)
        refine lv_aload_n hx hb dX12_netOf_15 rfl (lv_at hl 0 rfl) ?_
        refine lv_iload_n hx hb dX12_netOf_16 rfl (lv_at hl 3 rfl) ?_
        refine lv_iconst (v := 2) hx hb dX12_netOf_17 (by decide) ?_
        refine cVp (As := [.int y4_3, .int 2]) (rest := []) S Y (x_X12_get (l := l) I hB (bn_w B_3814 (by decide)) (bn_w (show bn 2 2 (2 : Int32) from bn_k (by decide)) (by decide))) cw_X12_get km12_73 p_ad_0_0 ok_X12.1 rfl rfl ⟨Nat.le_of_ble_eq_true rfl, Nat.le_of_ble_eq_true rfl⟩ hl.1 rfl (Nat.le_of_ble_eq_true rfl) ⟨Nat.le_of_ble_eq_true rfl, Nat.le_of_ble_eq_true rfl⟩ dX12_netOf_18 (fun r_3815 H locs er_3815 Y => ?_)
        refine lv_if_eq (tgt := 82) hx hb dX12_netOf_21 (by decide) (fun c_3816 => ?_) (fun c_3816 => ?_)
        · have B_3817 : bn 0 0 r_3815 := bn_w (bn_eq c_3816 (show bn 0 0 (0 : Int32) from bn_k (by decide))) (by decide)
          obtain ⟨x_3818, ex_3818⟩ : ∃ z : Int32, z = y4_3 + 1 := ⟨_, rfl⟩
          refine lv_iinc (v := x_3818) (lv' := [(3, .int x_3818), (0, .ref (ad 0 0)), (1, .int i1), (2, .int y4_2)]) hx hb dX12_netOf_82 hl (k := 3) rfl (by rw [ex_3818]; rfl) (by decide) rfl (fun ls hl => ?_)
          refine lv_goto (tgt := 4) hx hb dX12_netOf_85 (by decide) ?_
          exact ih4 _ (by rw [← hm4]; exact ms_up (m := 1) ex_3818 (show bn 1 1 (1 : Int32) from bn_k (by decide)) B_3814 (bn_w (bn_eq ex_3818 (bn_add B_3814 (show bn 1 1 (1 : Int32) from bn_k (by decide)) (by decide))) (by decide) : bn 0 14 x_3818) (by decide)) y4_2 x_3818  _ _ _  (bn_w (bn_eq ex_3818 (bn_add B_3814 (show bn 1 1 (1 : Int32) from bn_k (by decide)) (by decide))) (by decide)) rfl Y (lv_sub hl [1, 2, 3, 0] rfl)
        · refine lv_aload_n hx hb dX12_netOf_24 rfl (lv_at hl 0 rfl) ?_
          refine lv_iload_n hx hb dX12_netOf_25 rfl (lv_at hl 3 rfl) ?_
          refine lv_iconst (v := 4) hx hb dX12_netOf_26 (by decide) ?_
          refine cVp (As := [.int y4_3, .int 4]) (rest := []) S Y (x_X12_get (l := l) I hB (bn_w B_3814 (by decide)) (bn_w (show bn 4 4 (4 : Int32) from bn_k (by decide)) (by decide))) cw_X12_get km12_73 p_ad_0_0 ok_X12.1 rfl rfl ⟨Nat.le_of_ble_eq_true rfl, Nat.le_of_ble_eq_true rfl⟩ hl.1 rfl (Nat.le_of_ble_eq_true rfl) ⟨Nat.le_of_ble_eq_true rfl, Nat.le_of_ble_eq_true rfl⟩ dX12_netOf_27 (fun r_3819 H locs er_3819 Y => ?_)
          refine lv_if_eq (tgt := 36) hx hb dX12_netOf_30 (by decide) (fun c_3820 => ?_) (fun c_3820 => ?_)
          · have B_3821 : bn 0 0 r_3819 := bn_w (bn_eq c_3820 (show bn 0 0 (0 : Int32) from bn_k (by decide))) (by decide)
            refine lv_iload_n hx hb dX12_netOf_36 rfl (lv_at hl 2 rfl) ?_
            refine lv_aload_n hx hb dX12_netOf_37 rfl (lv_at hl 0 rfl) ?_
            refine lv_iload_n hx hb dX12_netOf_38 rfl (lv_at hl 3 rfl) ?_
            refine lv_iconst (v := 1) hx hb dX12_netOf_39 (by decide) ?_
            refine cVp (As := [.int y4_3, .int 1]) (rest := [.int y4_2]) S Y (x_X12_getON (l := l) I hB (bn_w B_3814 (by decide)) (bn_w (show bn 1 1 (1 : Int32) from bn_k (by decide)) (by decide))) cw_X12_get km12_73 p_ad_0_0 ok_X12.1 rfl rfl ⟨Nat.le_of_ble_eq_true rfl, Nat.le_of_ble_eq_true rfl⟩ hl.1 rfl (Nat.le_of_ble_eq_true rfl) ⟨Nat.le_of_ble_eq_true rfl, Nat.le_of_ble_eq_true rfl⟩ dX12_netOf_40 (fun r_3822 H locs er_3822 Y => ?_)
            refine lv_iload_n hx hb dX12_netOf_43 rfl (lv_at hl 1 rfl) ?_
            refine lv_icmp_ne (tgt := 56) hx hb dX12_netOf_44 (by decide) (fun c_3823 => ?_) (fun c_3823 => ?_)
            · refine lv_iconst (v := 0) hx hb dX12_netOf_56 (by decide) ?_
              refine lv_iadd hx hb dX12_netOf_57 ?_
              refine lv_topi (fun x_3824 ex_3824 => ?_)
              refine lv_istore_n (lv' := [(2, .int x_3824), (0, .ref (ad 0 0)), (1, .int i1), (3, .int y4_3)]) hx hb dX12_netOf_58 rfl hl (by decide) rfl (fun ls hl => ?_)
              refine lv_iload_n hx hb dX12_netOf_59 rfl (lv_at hl 0 rfl) ?_
              refine lv_aload_n hx hb dX12_netOf_60 rfl (lv_at hl 1 rfl) ?_
              refine lv_iload_n hx hb dX12_netOf_61 rfl (lv_at hl 3 rfl) ?_
              refine lv_iconst (v := 0) hx hb dX12_netOf_62 (by decide) ?_
              refine cVp (As := [.int y4_3, .int 0]) (rest := [.int x_3824]) S Y (x_X12_get (l := l) I hB (bn_w B_3814 (by decide)) (bn_w (show bn 0 0 (0 : Int32) from bn_k (by decide)) (by decide))) cw_X12_get km12_73 p_ad_0_0 ok_X12.1 rfl rfl ⟨Nat.le_of_ble_eq_true rfl, Nat.le_of_ble_eq_true rfl⟩ hl.1 rfl (Nat.le_of_ble_eq_true rfl) ⟨Nat.le_of_ble_eq_true rfl, Nat.le_of_ble_eq_true rfl⟩ dX12_netOf_63 (fun r_3825 H locs er_3825 Y => ?_)
              refine lv_iload_n hx hb dX12_netOf_66 rfl (lv_at hl 2 rfl) ?_
              refine lv_icmp_ne (tgt := 79) hx hb dX12_netOf_67 (by decide) (fun c_3826 => ?_) (fun c_3826 => ?_)
              · refine lv_iconst (v := 0) hx hb dX12_netOf_79 (by decide) ?_
                refine lv_isub hx hb dX12_netOf_80 ?_
                refine lv_topi (fun x_3827 ex_3827 => ?_)
                refine lv_istore_n (lv' := [(2, .int x_3827), (0, .ref (ad 0 0)), (1, .int i1), (3, .int y4_3)]) hx hb dX12_netOf_81 rfl hl (by decide) rfl (fun ls hl => ?_)
                obtain ⟨x_3828, ex_3828⟩ : ∃ z : Int32, z = y4_3 + 1 := ⟨_, rfl⟩
                refine lv_iinc (v := x_3828) (lv' := [(3, .int x_3828), (2, .int x_3827), (0, .ref (ad 0 0)), (1, .int i1)]) hx hb dX12_netOf_82 hl (k := 3) rfl (by rw [ex_3828]; rfl) (by decide) rfl (fun ls hl => ?_)
                refine lv_goto (tgt := 4) hx hb dX12_netOf_85 (by decide) ?_
                exact ih4 _ (by rw [← hm4]; exact ms_up (m := 1) ex_3828 (show bn 1 1 (1 : Int32) from bn_k (by decide)) B_3814 (bn_w (bn_eq ex_3828 (bn_add B_3814 (show bn 1 1 (1 : Int32) from bn_k (by decide)) (by decide))) (by decide) : bn 0 14 x_3828) (by decide)) x_3827 x_3828  _ _ _  (bn_w (bn_eq ex_3828 (bn_add B_3814 (show bn 1 1 (1 : Int32) from bn_k (by decide)) (by decide))) (by decide)) rfl Y (lv_sub hl [2, 3, 1, 0] rfl)
              · refine lv_aload_n hx hb dX12_netOf_70 rfl (lv_at hl 1 rfl) ?_
                refine lv_iload_n hx hb dX12_netOf_71 rfl (lv_at hl 3 rfl) ?_
                refine lv_iconst (v := 3) hx hb dX12_netOf_72 (by decide) ?_
                refine cVp (As := [.int y4_3, .int 3]) (rest := [.int x_3824]) S Y (x_X12_get (l := l) I hB (bn_w B_3814 (by decide)) (bn_w (show bn 3 3 (3 : Int32) from bn_k (by decide)) (by decide))) cw_X12_get km12_73 p_ad_0_0 ok_X12.1 rfl rfl ⟨Nat.le_of_ble_eq_true rfl, Nat.le_of_ble_eq_true rfl⟩ hl.1 rfl (Nat.le_of_ble_eq_true rfl) ⟨Nat.le_of_ble_eq_true rfl, Nat.le_of_ble_eq_true rfl⟩ dX12_netOf_73 (fun r_3829 H locs er_3829 Y => ?_)
                refine lv_goto (tgt := 80) hx hb dX12_netOf_76 (by decide) ?_
                refine lv_isub hx hb dX12_netOf_80 ?_
                refine lv_topi (fun x_3830 ex_3830 => ?_)
                refine lv_istore_n (lv' := [(2, .int x_3830), (0, .ref (ad 0 0)), (1, .int i1), (3, .int y4_3)]) hx hb dX12_netOf_81 rfl hl (by decide) rfl (fun ls hl => ?_)
                obtain ⟨x_3831, ex_3831⟩ : ∃ z : Int32, z = y4_3 + 1 := ⟨_, rfl⟩
                refine lv_iinc (v := x_3831) (lv' := [(3, .int x_3831), (2, .int x_3830), (0, .ref (ad 0 0)), (1, .int i1)]) hx hb dX12_netOf_82 hl (k := 3) rfl (by rw [ex_3831]; rfl) (by decide) rfl (fun ls hl => ?_)
                refine lv_goto (tgt := 4) hx hb dX12_netOf_85 (by decide) ?_
                exact ih4 _ (by rw [← hm4]; exact ms_up (m := 1) ex_3831 (show bn 1 1 (1 : Int32) from bn_k (by decide)) B_3814 (bn_w (bn_eq ex_3831 (bn_add B_3814 (show bn 1 1 (1 : Int32) from bn_k (by decide)) (by decide))) (by decide) : bn 0 14 x_3831) (by decide)) x_3830 x_3831  _ _ _  (bn_w (bn_eq ex_3831 (bn_add B_3814 (show bn 1 1 (1 : Int32) from bn_k (by decide)) (by decide))) (by decide)) rfl Y (lv_sub hl [2, 3, 1, 0] rfl)
            · refine lv_aload_n hx hb dX12_netOf_47 rfl (lv_at hl 0 rfl) ?_
              refine lv_iload_n hx hb dX12_netOf_48 rfl (lv_at hl 3 rfl) ?_
              refine lv_iconst (v := 3) hx hb dX12_netOf_49 (by decide) ?_
              refine cVp (As := [.int y4_3, .int 3]) (rest := [.int y4_2]) S Y (x_X12_get (l := l) I hB (bn_w B_3814 (by decide)) (bn_w (show bn 3 3 (3 : Int32) from bn_k (by decide)) (by decide))) cw_X12_get km12_73 p_ad_0_0 ok_X12.1 rfl rfl ⟨Nat.le_of_ble_eq_true rfl, Nat.le_of_ble_eq_true rfl⟩ hl.1 rfl (Nat.le_of_ble_eq_true rfl) ⟨Nat.le_of_ble_eq_true rfl, Nat.le_of_ble_eq_true rfl⟩ dX12_netOf_50 (fun r_3832 H locs er_3832 Y => ?_)
              refine lv_goto (tgt := 57) hx hb dX12_netOf_53 (by decide) ?_
              refine lv_iadd hx hb dX12_netOf_57 ?_
              refine lv_topi (fun x_3833 ex_3833 => ?_)
              refine lv_istore_n (lv' := [(2, .int x_3833), (0, .ref (ad 0 0)), (1, .int i1), (3, .int y4_3)]) hx hb dX12_netOf_58 rfl hl (by decide) rfl (fun ls hl => ?_)
              refine lv_iload_n hx hb dX12_netOf_59 rfl (lv_at hl 0 rfl) ?_
              refine lv_aload_n hx hb dX12_netOf_60 rfl (lv_at hl 1 rfl) ?_
              refine lv_iload_n hx hb dX12_netOf_61 rfl (lv_at hl 3 rfl) ?_
              refine lv_iconst (v := 0) hx hb dX12_netOf_62 (by decide) ?_
              refine cVp (As := [.int y4_3, .int 0]) (rest := [.int x_3833]) S Y (x_X12_get (l := l) I hB (bn_w B_3814 (by decide)) (bn_w (show bn 0 0 (0 : Int32) from bn_k (by decide)) (by decide))) cw_X12_get km12_73 p_ad_0_0 ok_X12.1 rfl rfl ⟨Nat.le_of_ble_eq_true rfl, Nat.le_of_ble_eq_true rfl⟩ hl.1 rfl (Nat.le_of_ble_eq_true rfl) ⟨Nat.le_of_ble_eq_true rfl, Nat.le_of_ble_eq_true rfl⟩ dX12_netOf_63 (fun r_3834 H locs er_3834 Y => ?_)
              refine lv_iload_n hx hb dX12_netOf_66 rfl (lv_at hl 2 rfl) ?_
              refine lv_icmp_ne (tgt := 79) hx hb dX12_netOf_67 (by decide) (fun c_3835 => ?_) (fun c_3835 => ?_)
              · refine lv_iconst (v := 0) hx hb dX12_netOf_79 (by decide) ?_
                refine lv_isub hx hb dX12_netOf_80 ?_
                refine lv_topi (fun x_3836 ex_3836 => ?_)
                refine lv_istore_n (lv' := [(2, .int x_3836), (0, .ref (ad 0 0)), (1, .int i1), (3, .int y4_3)]) hx hb dX12_netOf_81 rfl hl (by decide) rfl (fun ls hl => ?_)
                obtain ⟨x_3837, ex_3837⟩ : ∃ z : Int32, z = y4_3 + 1 := ⟨_, rfl⟩
                refine lv_iinc (v := x_3837) (lv' := [(3, .int x_3837), (2, .int x_3836), (0, .ref (ad 0 0)), (1, .int i1)]) hx hb dX12_netOf_82 hl (k := 3) rfl (by rw [ex_3837]; rfl) (by decide) rfl (fun ls hl => ?_)
                refine lv_goto (tgt := 4) hx hb dX12_netOf_85 (by decide) ?_
                exact ih4 _ (by rw [← hm4]; exact ms_up (m := 1) ex_3837 (show bn 1 1 (1 : Int32) from bn_k (by decide)) B_3814 (bn_w (bn_eq ex_3837 (bn_add B_3814 (show bn 1 1 (1 : Int32) from bn_k (by decide)) (by decide))) (by decide) : bn 0 14 x_3837) (by decide)) x_3836 x_3837  _ _ _  (bn_w (bn_eq ex_3837 (bn_add B_3814 (show bn 1 1 (1 : Int32) from bn_k (by decide)) (by decide))) (by decide)) rfl Y (lv_sub hl [2, 3, 1, 0] rfl)
              · refine lv_aload_n hx hb dX12_netOf_70 rfl (lv_at hl 1 rfl) ?_
                refine lv_iload_n hx hb dX12_netOf_71 rfl (lv_at hl 3 rfl) ?_
                refine lv_iconst (v := 3) hx hb dX12_netOf_72 (by decide) ?_
                refine cVp (As := [.int y4_3, .int 3]) (rest := [.int x_3833]) S Y (x_X12_get (l := l) I hB (bn_w B_3814 (by decide)) (bn_w (show bn 3 3 (3 : Int32) from bn_k (by decide)) (by decide))) cw_X12_get km12_73 p_ad_0_0 ok_X12.1 rfl rfl ⟨Nat.le_of_ble_eq_true rfl, Nat.le_of_ble_eq_true rfl⟩ hl.1 rfl (Nat.le_of_ble_eq_true rfl) ⟨Nat.le_of_ble_eq_true rfl, Nat.le_of_ble_eq_true rfl⟩ dX12_netOf_73 (fun r_3838 H locs er_3838 Y => ?_)
                refine lv_goto (tgt := 80) hx hb dX12_netOf_76 (by decide) ?_
                refine lv_isub hx hb dX12_netOf_80 ?_
                refine lv_topi (fun x_3839 ex_3839 => ?_)
                refine lv_istore_n (lv' := [(2, .int x_3839), (0, .ref (ad 0 0)), (1, .int i1), (3, .int y4_3)]) hx hb dX12_netOf_81 rfl hl (by decide) rfl (fun ls hl => ?_)
                obtain ⟨x_3840, ex_3840⟩ : ∃ z : Int32, z = y4_3 + 1 := ⟨_, rfl⟩
                refine lv_iinc (v := x_3840) (lv' := [(3, .int x_3840), (2, .int x_3839), (0, .ref (ad 0 0)), (1, .int i1)]) hx hb dX12_netOf_82 hl (k := 3) rfl (by rw [ex_3840]; rfl) (by decide) rfl (fun ls hl => ?_)
                refine lv_goto (tgt := 4) hx hb dX12_netOf_85 (by decide) ?_
                exact ih4 _ (by rw [← hm4]; exact ms_up (m := 1) ex_3840 (show bn 1 1 (1 : Int32) from bn_k (by decide)) B_3814 (bn_w (bn_eq ex_3840 (bn_add B_3814 (show bn 1 1 (1 : Int32) from bn_k (by decide)) (by decide))) (by decide) : bn 0 14 x_3840) (by decide)) x_3839 x_3840  _ _ _  (bn_w (bn_eq ex_3840 (bn_add B_3814 (show bn 1 1 (1 : Int32) from bn_k (by decide)) (by decide))) (by decide)) rfl Y (lv_sub hl [2, 3, 1, 0] rfl)
          · refine lv_goto (tgt := 82) hx hb dX12_netOf_33 (by decide) ?_
            obtain ⟨x_3841, ex_3841⟩ : ∃ z : Int32, z = y4_3 + 1 := ⟨_, rfl⟩
            refine lv_iinc (v := x_3841) (lv' := [(3, .int x_3841), (0, .ref (ad 0 0)), (1, .int i1), (2, .int y4_2)]) hx hb dX12_netOf_82 hl (k := 3) rfl (by rw [ex_3841]; rfl) (by decide) rfl (fun ls hl => ?_)
            refine lv_goto (tgt := 4) hx hb dX12_netOf_85 (by decide) ?_
            exact ih4 _ (by rw [← hm4]; exact ms_up (m := 1) ex_3841 (show bn 1 1 (1 : Int32) from bn_k (by decide)) B_3814 (bn_w (bn_eq ex_3841 (bn_add B_3814 (show bn 1 1 (1 : Int32) from bn_k (by decide)) (by decide))) (by decide) : bn 0 14 x_3841) (by decide)) y4_2 x_3841  _ _ _  (bn_w (bn_eq ex_3841 (bn_add B_3814 (show bn 1 1 (1 : Int32) from bn_k (by decide)) (by decide))) (by decide)) rfl Y (lv_sub hl [1, 2, 3, 0] rfl)
  refine lv_iconst (v := 0) hx hb dX12_netOf_0 (by decide) ?_
  refine lv_istore_n (lv' := [(2, .int 0), (0, .ref (ad 0 0)), (1, .int i1)]) hx hb dX12_netOf_1 rfl hl (by decide) rfl (fun ls hl => ?_)
  refine lv_iconst (v := 0) hx hb dX12_netOf_2 (by decide) ?_
  refine lv_istore_n (lv' := [(3, .int 0), (2, .int 0), (0, .ref (ad 0 0)), (1, .int i1)]) hx hb dX12_netOf_3 rfl hl (by decide) rfl (fun ls hl => ?_)
  exact J_4 _ 0 0  _ _ _  (bn_w (show bn 0 0 (0 : Int32) from bn_k (by decide)) (by decide)) rfl Y (lv_sub hl [2, 3, 1, 0] rfl)
set_option maxHeartbeats 4000000 in
set_option maxRecDepth 100000 in
theorem x_X12_keptOnes {l : Launch} {G : GG}  {L : List Nat} {f : HF} {ad : Nat → Nat → Nat} {sl : Int} {pl : Int} {oh : Int} {dh : Int} {w : Int × Int} {pi : (Nat → Int32) → Prop} {px : (Nat → Int32) → Prop} {pa : (Nat → Int32) → Prop} (I : SH (spM (IA sl pl oh dh w) pi px pa) nnM G ad L f) (hB : BBp sl pl oh dh w) : PMp l yX12_keptOnes cX12_keptOnes 3 .int 1 0 0 G [.ref (ad 0 0)] L f (fun r => bn 0 16383 r) := by
  refine PMi.of (post := fun r L1 f1 => (bn 0 16383 r) ∧ L1 = L ∧ f1 = f) (own := RX12) (by decide) rfl (Nat.le_of_ble_eq_true rfl) (fun sz p e s m args below meth c A ls hA1 hname S Y hl => ?_)
  have hx := S.hx
  have hb := S.hb
  have hl : lv_has ls 3 [(0, .ref (ad 0 0))] := hl
  have J_4 : ∀ (n4 : Nat) (y4_1 y4_2 : Int32) (H : Heap) (locs : List Loc) (ls : Array Slot), (bn 0 16383 y4_1) → (bn 0 14 y4_2) → (((14 : Int) - y4_2.toInt).toNat = n4) → (DY G A s [] L f H locs) → (lv_has ls 3 [(0, .ref (ad 0 0)), (1, .int y4_1), (2, .int y4_2)]) → W p l e (rmD 1 0 0) s m args below meth c H locs (0) (0) (MQ below (va_Qi (fun r (u : List Nat × HF) => (fun r L1 f1 => (bn 0 16383 r) ∧ L1 = L ∧ f1 = f) r u.1 u.2) (fun u t => pOut G (va_A (va_pl L f) sz) u.1 u.2 t) (va_A (va_pl L f) sz)) args s 0 0 A) (F0 m 4 ls []) := by
    intro n4
    induction n4 using Nat.strongRecOn with
    | _ n4 ih4 =>
      intro y4_1 y4_2 H locs ls b_y4_1 b_y4_2 hm4 Y hl
      refine lv_iload_n hx hb dX12_keptOnes_4 rfl (lv_at hl 2 rfl) ?_
      refine lv_aload_n hx hb dX12_keptOnes_5 rfl (lv_at hl 0 rfl) ?_
      obtain ⟨v_4528, v_4530, v_4532, v_4534, v_4536, v_4538, v_4540, v_4542, v_4543, v_4545, v_4547, v_4549, v_4551, v_4553, v_4555, v_4557, v_4559, v_4561, p_ad_0_0, b_4529, b_4531, b_4533, b_4535, b_4537, b_4539, b_4541, b_4544, b_4546, b_4548, b_4550, b_4552, b_4554, b_4556, b_4558, b_4560, b_4562⟩ := opnM_0 (j := 0) I (by decide)
      have p_ad_0_0 : pt L f (ad 0 0) (.inr (12, [.ref (ad 1 0), .ref (ad 2 0), .ref (ad 3 0), .ref (ad 4 0), .int v_4528, .int v_4530, .int v_4532, .int v_4534, .int v_4536, .int v_4538, .int v_4540, .long v_4542, .int v_4543, .int v_4545, .int v_4547, .ref (ad 5 0), .ref (ad 6 0), .int v_4549, .int v_4551, .int v_4553, .int v_4555, .int v_4557, .ref (ad 7 0), .ref (ad 8 0), .ref (ad 9 0), .int v_4559, .ref (ad 10 0), .ref (ad 11 0), .ref (ad 12 0), .ref (ad 13 0), .int v_4561, .ref (ad 14 0)])) := p_ad_0_0
      refine pg_get S Y ok_X12 0 (by decide) kf12_7 (v := .ref (ad 1 0)) p_ad_0_0 rfl dX12_keptOnes_6 ?_
      refine lv_bipush (v := 13) hx hb dX12_keptOnes_9 (by decide) ?_
      obtain ⟨g_4563, p_ad_1_0, o_4564⟩ := I.opi (k := 1) (j := 0) (by decide) rfl
      have p_ad_1_0 : pt L f (ad 1 0) (.inl (G.2 0, 10568, .inl g_4563)) := p_ad_1_0
      obtain ⟨v_4565, ev_4565⟩ : ∃ z, z = g_4563 (13 : Int32).toNatClampNeg := ⟨_, rfl⟩
      refine pg_iald S Y (v := v_4565) p_ad_1_0 (by unfold vp_in; decide) ev_4565.symm dX12_keptOnes_11 ?_
      have bv_4565 : bn 0 14 v_4565 := bn_eq ev_4565 (bn_w (a' := 0) (b' := 14) (IA_13 o_4564) ⟨by decide, by have h9 := hB; unfold BBp at h9; omega⟩)
      refine lv_icmp_ge (tgt := 40) hx hb dX12_keptOnes_12 (by decide) (fun c_4566 => ?_) (fun c_4566 => ?_)
      · refine lv_iload_n hx hb dX12_keptOnes_40 rfl (lv_at hl 1 rfl) ?_
        exact prI (post := fun r L1 f1 => (bn 0 16383 r) ∧ L1 = L ∧ f1 = f) S Y rfl (by decide) (by decide) hA1 ⟨bn_w b_y4_1 (by decide), rfl, rfl⟩ dX12_keptOnes_41
      · have B_4567 : bn 1 14 v_4565 := bn_w (bn_gtl c_4566 bv_4565 b_y4_2) (by decide)
        have B_4568 : bn 0 13 y4_2 := bn_w (bn_gtr c_4566 bv_4565 b_y4_2) (by decide)
        refine lv_iload_n hx hb dX12_keptOnes_15 rfl (lv_at hl 1 rfl) ?_
        refine lv_aload_n hx hb dX12_keptOnes_16 rfl (lv_at hl 0 rfl) ?_
        refine lv_iload_n hx hb dX12_keptOnes_17 rfl (lv_at hl 2 rfl) ?_
        refine lv_iconst (v := 4) hx hb dX12_keptOnes_18 (by decide) ?_
        refine cVp (As := [.int y4_2, .int 4]) (rest := [.int y4_1]) S Y (x_X12_get (l := l) I hB (bn_w B_4568 (by decide)) (bn_w (show bn 4 4 (4 : Int32) from bn_k (by decide)) (by decide))) cw_X12_get km12_73 p_ad_0_0 ok_X12.1 rfl rfl ⟨Nat.le_of_ble_eq_true rfl, Nat.le_of_ble_eq_true rfl⟩ hl.1 rfl (Nat.le_of_ble_eq_true rfl) ⟨Nat.le_of_ble_eq_true rfl, Nat.le_of_ble_eq_true rfl⟩ dX12_keptOnes_19 (fun r_4569 H locs er_4569 Y => ?_)
        refine lv_if_ne (tgt := 31) hx hb dX12_keptOnes_22 (by decide) (fun c_4570 => ?_) (fun c_4570 => ?_)
        · refine lv_iconst (v := 0) hx hb dX12_keptOnes_31 (by decide) ?_
          refine lv_ior hx hb dX12_keptOnes_32 ?_
          refine lv_topi (fun x_4572 ex_4572 => ?_)
          refine lv_istore_n (lv' := [(1, .int x_4572), (0, .ref (ad 0 0)), (2, .int y4_2)]) hx hb dX12_keptOnes_33 rfl hl (by decide) rfl (fun ls hl => ?_)
          obtain ⟨x_4573, ex_4573⟩ : ∃ z : Int32, z = y4_2 + 1 := ⟨_, rfl⟩
          refine lv_iinc (v := x_4573) (lv' := [(2, .int x_4573), (1, .int x_4572), (0, .ref (ad 0 0))]) hx hb dX12_keptOnes_34 hl (k := 2) rfl (by rw [ex_4573]; rfl) (by decide) rfl (fun ls hl => ?_)
          refine lv_goto (tgt := 4) hx hb dX12_keptOnes_37 (by decide) ?_
          exact ih4 _ (by rw [← hm4]; exact ms_up (m := 1) ex_4573 (show bn 1 1 (1 : Int32) from bn_k (by decide)) B_4568 (bn_w (bn_eq ex_4573 (bn_add B_4568 (show bn 1 1 (1 : Int32) from bn_k (by decide)) (by decide))) (by decide) : bn 0 14 x_4573) (by decide)) x_4572 x_4573  _ _ _  (bn_w (bn_eq ex_4572 (bn_or (n := 14) (bn_w b_y4_1 (by decide) : bn 0 16383 y4_1) (bn_w (show bn 0 0 (0 : Int32) from bn_k (by decide)) (by decide) : bn 0 0 0) (by decide) (by decide))) (by decide)) (bn_w (bn_eq ex_4573 (bn_add B_4568 (show bn 1 1 (1 : Int32) from bn_k (by decide)) (by decide))) (by decide)) rfl Y (lv_sub hl [2, 1, 0] rfl)
        · have B_4571 : bn 0 0 r_4569 := bn_w (bn_eq c_4570 (show bn 0 0 (0 : Int32) from bn_k (by decide))) (by decide)
          refine lv_iconst (v := 1) hx hb dX12_keptOnes_25 (by decide) ?_
          refine lv_iload_n hx hb dX12_keptOnes_26 rfl (lv_at hl 2 rfl) ?_
          refine lv_ishl hx hb dX12_keptOnes_27 ?_
          refine lv_topi (fun x_4574 ex_4574 => ?_)
          refine lv_goto (tgt := 32) hx hb dX12_keptOnes_28 (by decide) ?_
          refine lv_ior hx hb dX12_keptOnes_32 ?_
          refine lv_topi (fun x_4575 ex_4575 => ?_)
          refine lv_istore_n (lv' := [(1, .int x_4575), (0, .ref (ad 0 0)), (2, .int y4_2)]) hx hb dX12_keptOnes_33 rfl hl (by decide) rfl (fun ls hl => ?_)
          obtain ⟨x_4576, ex_4576⟩ : ∃ z : Int32, z = y4_2 + 1 := ⟨_, rfl⟩
          refine lv_iinc (v := x_4576) (lv' := [(2, .int x_4576), (1, .int x_4575), (0, .ref (ad 0 0))]) hx hb dX12_keptOnes_34 hl (k := 2) rfl (by rw [ex_4576]; rfl) (by decide) rfl (fun ls hl => ?_)
          refine lv_goto (tgt := 4) hx hb dX12_keptOnes_37 (by decide) ?_
          exact ih4 _ (by rw [← hm4]; exact ms_up (m := 1) ex_4576 (show bn 1 1 (1 : Int32) from bn_k (by decide)) B_4568 (bn_w (bn_eq ex_4576 (bn_add B_4568 (show bn 1 1 (1 : Int32) from bn_k (by decide)) (by decide))) (by decide) : bn 0 14 x_4576) (by decide)) x_4575 x_4576  _ _ _  (bn_w (bn_eq ex_4575 (bn_or (n := 14) (bn_w b_y4_1 (by decide) : bn 0 16383 y4_1) (bn_w (bn_eq ex_4574 (bn_shl (n := 13) (bn_w B_4568 (by decide) : bn 0 13 y4_2) (by decide) (by decide))) (by decide) : bn 0 8192 x_4574) (by decide) (by decide))) (by decide)) (bn_w (bn_eq ex_4576 (bn_add B_4568 (show bn 1 1 (1 : Int32) from bn_k (by decide)) (by decide))) (by decide)) rfl Y (lv_sub hl [2, 1, 0] rfl)
  refine lv_iconst (v := 0) hx hb dX12_keptOnes_0 (by decide) ?_
  refine lv_istore_n (lv' := [(1, .int 0), (0, .ref (ad 0 0))]) hx hb dX12_keptOnes_1 rfl hl (by decide) rfl (fun ls hl => ?_)
  refine lv_iconst (v := 0) hx hb dX12_keptOnes_2 (by decide) ?_
  refine lv_istore_n (lv' := [(2, .int 0), (1, .int 0), (0, .ref (ad 0 0))]) hx hb dX12_keptOnes_3 rfl hl (by decide) rfl (fun ls hl => ?_)
  exact J_4 _ 0 0  _ _ _  (bn_w (show bn 0 0 (0 : Int32) from bn_k (by decide)) (by decide)) (bn_w (show bn 0 0 (0 : Int32) from bn_k (by decide)) (by decide)) rfl Y (lv_sub hl [2, 1, 0] rfl)
set_option maxHeartbeats 4000000 in
set_option maxRecDepth 100000 in
theorem x_X12_ownOf {l : Launch} {G : GG}  {L : List Nat} {f : HF} {ad : Nat → Nat → Nat} {sl : Int} {pl : Int} {oh : Int} {dh : Int} {w : Int × Int} {pi : (Nat → Int32) → Prop} {px : (Nat → Int32) → Prop} {pa : (Nat → Int32) → Prop} {i1 : Int32} (I : SH (spM (IA sl pl oh dh w) pi px pa) nnM G ad L f) (hB : BBp sl pl oh dh w) : PMp l yX12_ownOf cX12_ownOf 4 .int 2 0 0 G [.ref (ad 0 0), .int i1] L f (fun r => bn 0 16383 r) := by
  refine PMi.of (post := fun r L1 f1 => (bn 0 16383 r) ∧ L1 = L ∧ f1 = f) (own := RX12) (by decide) rfl (Nat.le_of_ble_eq_true rfl) (fun sz p e s m args below meth c A ls hA1 hname S Y hl => ?_)
  have hx := S.hx
  have hb := S.hb
  have hl : lv_has ls 4 [(0, .ref (ad 0 0)), (1, .int i1)] := hl
  have J_4 : ∀ (n4 : Nat) (y4_2 y4_3 : Int32) (H : Heap) (locs : List Loc) (ls : Array Slot), (bn 0 16383 y4_2) → (bn 0 14 y4_3) → (((14 : Int) - y4_3.toInt).toNat = n4) → (DY G A s [] L f H locs) → (lv_has ls 4 [(0, .ref (ad 0 0)), (1, .int i1), (2, .int y4_2), (3, .int y4_3)]) → W p l e (rmD 2 0 0) s m args below meth c H locs (0) (0) (MQ below (va_Qi (fun r (u : List Nat × HF) => (fun r L1 f1 => (bn 0 16383 r) ∧ L1 = L ∧ f1 = f) r u.1 u.2) (fun u t => pOut G (va_A (va_pl L f) sz) u.1 u.2 t) (va_A (va_pl L f) sz)) args s 0 0 A) (F0 m 4 ls []) := by
    intro n4
    induction n4 using Nat.strongRecOn with
    | _ n4 ih4 =>
      intro y4_2 y4_3 H locs ls b_y4_2 b_y4_3 hm4 Y hl
      refine lv_iload_n hx hb dX12_ownOf_4 rfl (lv_at hl 3 rfl) ?_
      refine lv_aload_n hx hb dX12_ownOf_5 rfl (lv_at hl 0 rfl) ?_
      obtain ⟨v_5487, v_5489, v_5491, v_5493, v_5495, v_5497, v_5499, v_5501, v_5502, v_5504, v_5506, v_5508, v_5510, v_5512, v_5514, v_5516, v_5518, v_5520, p_ad_0_0, b_5488, b_5490, b_5492, b_5494, b_5496, b_5498, b_5500, b_5503, b_5505, b_5507, b_5509, b_5511, b_5513, b_5515, b_5517, b_5519, b_5521⟩ := opnM_0 (j := 0) I (by decide)
      have p_ad_0_0 : pt L f (ad 0 0) (.inr (12, [.ref (ad 1 0), .ref (ad 2 0), .ref (ad 3 0), .ref (ad 4 0), .int v_5487, .int v_5489, .int v_5491, .int v_5493, .int v_5495, .int v_5497, .int v_5499, .long v_5501, .int v_5502, .int v_5504, .int v_5506, .ref (ad 5 0), .ref (ad 6 0), .int v_5508, .int v_5510, .int v_5512, .int v_5514, .int v_5516, .ref (ad 7 0), .ref (ad 8 0), .ref (ad 9 0), .int v_5518, .ref (ad 10 0), .ref (ad 11 0), .ref (ad 12 0), .ref (ad 13 0), .int v_5520, .ref (ad 14 0)])) := p_ad_0_0
      refine pg_get S Y ok_X12 0 (by decide) kf12_7 (v := .ref (ad 1 0)) p_ad_0_0 rfl dX12_ownOf_6 ?_
      refine lv_bipush (v := 13) hx hb dX12_ownOf_9 (by decide) ?_
      obtain ⟨g_5522, p_ad_1_0, o_5523⟩ := I.opi (k := 1) (j := 0) (by decide) rfl
      have p_ad_1_0 : pt L f (ad 1 0) (.inl (G.2 0, 10568, .inl g_5522)) := p_ad_1_0
      obtain ⟨v_5524, ev_5524⟩ : ∃ z, z = g_5522 (13 : Int32).toNatClampNeg := ⟨_, rfl⟩
      refine pg_iald S Y (v := v_5524) p_ad_1_0 (by unfold vp_in; decide) ev_5524.symm dX12_ownOf_11 ?_
      have bv_5524 : bn 0 14 v_5524 := bn_eq ev_5524 (bn_w (a' := 0) (b' := 14) (IA_13 o_5523) ⟨by decide, by have h9 := hB; unfold BBp at h9; omega⟩)
      refine lv_icmp_ge (tgt := 59) hx hb dX12_ownOf_12 (by decide) (fun c_5525 => ?_) (fun c_5525 => ?_)
      · refine lv_iload_n hx hb dX12_ownOf_59 rfl (lv_at hl 2 rfl) ?_
        exact prI (post := fun r L1 f1 => (bn 0 16383 r) ∧ L1 = L ∧ f1 = f) S Y rfl (by decide) (by decide) hA1 ⟨bn_w b_y4_2 (by decide), rfl, rfl⟩ dX12_ownOf_60
      · have B_5526 : bn 1 14 v_5524 := bn_w (bn_gtl c_5525 bv_5524 b_y4_3) (by decide)
        have B_5527 : bn 0 13 y4_3 := bn_w (bn_gtr c_5525 bv_5524 b_y4_3) (by decide)
        refine lv_iload_n hx hb dX12_ownOf_15 rfl (lv_at hl 2 rfl) ?_
        refine lv_aload_n hx hb dX12_ownOf_16 rfl (lv_at hl 0 rfl) ?_
        refine lv_iload_n hx hb dX12_ownOf_17 rfl (lv_at hl 3 rfl) ?_
        refine lv_iconst (v := 0) hx hb dX12_ownOf_18 (by decide) ?_
        refine cVp (As := [.int y4_3, .int 0]) (rest := [.int y4_2]) S Y (x_X12_get (l := l) I hB (bn_w B_5527 (by decide)) (bn_w (show bn 0 0 (0 : Int32) from bn_k (by decide)) (by decide))) cw_X12_get km12_73 p_ad_0_0 ok_X12.1 rfl rfl ⟨Nat.le_of_ble_eq_true rfl, Nat.le_of_ble_eq_true rfl⟩ hl.1 rfl (Nat.le_of_ble_eq_true rfl) ⟨Nat.le_of_ble_eq_true rfl, Nat.le_of_ble_eq_true rfl⟩ dX12_ownOf_19 (fun r_5528 H locs er_5528 Y => ?_)
        refine lv_iload_n hx hb dX12_ownOf_22 rfl (lv_at hl 1 rfl) ?_
        refine lv_icmp_eq (tgt := 36) hx hb dX12_ownOf_23 (by decide) (fun c_5529 => ?_) (fun c_5529 => ?_)
        · refine lv_aload_n hx hb dX12_ownOf_36 rfl (lv_at hl 0 rfl) ?_
          refine lv_iload_n hx hb dX12_ownOf_37 rfl (lv_at hl 3 rfl) ?_
          refine cVp (As := [.int y4_3]) (rest := [.int y4_2]) S Y (x_X12_isLegible (l := l) I hB (bn_w B_5527 (by decide))) cw_X12_isLegible km12_77 p_ad_0_0 ok_X12.1 rfl rfl ⟨Nat.le_of_ble_eq_true rfl, Nat.le_of_ble_eq_true rfl⟩ hl.1 rfl (Nat.le_of_ble_eq_true rfl) ⟨Nat.le_of_ble_eq_true rfl, Nat.le_of_ble_eq_true rfl⟩ dX12_ownOf_38 (fun r_5530 H locs er_5530 Y => ?_)
          refine lv_if_eq (tgt := 50) hx hb dX12_ownOf_41 (by decide) (fun c_5531 => ?_) (fun c_5531 => ?_)
          · have B_5532 : bn 0 0 r_5530 := bn_w (bn_eq c_5531 (show bn 0 0 (0 : Int32) from bn_k (by decide))) (by decide)
            refine lv_iconst (v := 0) hx hb dX12_ownOf_50 (by decide) ?_
            refine lv_ior hx hb dX12_ownOf_51 ?_
            refine lv_topi (fun x_5534 ex_5534 => ?_)
            refine lv_istore_n (lv' := [(2, .int x_5534), (0, .ref (ad 0 0)), (1, .int i1), (3, .int y4_3)]) hx hb dX12_ownOf_52 rfl hl (by decide) rfl (fun ls hl => ?_)
            obtain ⟨x_5535, ex_5535⟩ : ∃ z : Int32, z = y4_3 + 1 := ⟨_, rfl⟩
            refine lv_iinc (v := x_5535) (lv' := [(3, .int x_5535), (2, .int x_5534), (0, .ref (ad 0 0)), (1, .int i1)]) hx hb dX12_ownOf_53 hl (k := 3) rfl (by rw [ex_5535]; rfl) (by decide) rfl (fun ls hl => ?_)
            refine lv_goto (tgt := 4) hx hb dX12_ownOf_56 (by decide) ?_
            exact ih4 _ (by rw [← hm4]; exact ms_up (m := 1) ex_5535 (show bn 1 1 (1 : Int32) from bn_k (by decide)) B_5527 (bn_w (bn_eq ex_5535 (bn_add B_5527 (show bn 1 1 (1 : Int32) from bn_k (by decide)) (by decide))) (by decide) : bn 0 14 x_5535) (by decide)) x_5534 x_5535  _ _ _  (bn_w (bn_eq ex_5534 (bn_or (n := 14) (bn_w b_y4_2 (by decide) : bn 0 16383 y4_2) (bn_w (show bn 0 0 (0 : Int32) from bn_k (by decide)) (by decide) : bn 0 0 0) (by decide) (by decide))) (by decide)) (bn_w (bn_eq ex_5535 (bn_add B_5527 (show bn 1 1 (1 : Int32) from bn_k (by decide)) (by decide))) (by decide)) rfl Y (lv_sub hl [2, 3, 1, 0] rfl)
          · have B_5533 : bn 1 1 r_5530 := bn_w (bn_nel c_5531 er_5530 (show bn 0 0 (0 : Int32) from bn_k (by decide))) (by decide)
            refine lv_iconst (v := 1) hx hb dX12_ownOf_44 (by decide) ?_
            refine lv_iload_n hx hb dX12_ownOf_45 rfl (lv_at hl 3 rfl) ?_
            refine lv_ishl hx hb dX12_ownOf_46 ?_
            refine lv_topi (fun x_5536 ex_5536 => ?_)
            refine lv_goto (tgt := 51) hx hb dX12_ownOf_47 (by decide) ?_
            refine lv_ior hx hb dX12_ownOf_51 ?_
            refine lv_topi (fun x_5537 ex_5537 => ?_)
            refine lv_istore_n (lv' := [(2, .int x_5537), (0, .ref (ad 0 0)), (1, .int i1), (3, .int y4_3)]) hx hb dX12_ownOf_52 rfl hl (by decide) rfl (fun ls hl => ?_)
            obtain ⟨x_5538, ex_5538⟩ : ∃ z : Int32, z = y4_3 + 1 := ⟨_, rfl⟩
            refine lv_iinc (v := x_5538) (lv' := [(3, .int x_5538), (2, .int x_5537), (0, .ref (ad 0 0)), (1, .int i1)]) hx hb dX12_ownOf_53 hl (k := 3) rfl (by rw [ex_5538]; rfl) (by decide) rfl (fun ls hl => ?_)
            refine lv_goto (tgt := 4) hx hb dX12_ownOf_56 (by decide) ?_
            exact ih4 _ (by rw [← hm4]; exact ms_up (m := 1) ex_5538 (show bn 1 1 (1 : Int32) from bn_k (by decide)) B_5527 (bn_w (bn_eq ex_5538 (bn_add B_5527 (show bn 1 1 (1 : Int32) from bn_k (by decide)) (by decide))) (by decide) : bn 0 14 x_5538) (by decide)) x_5537 x_5538  _ _ _  (bn_w (bn_eq ex_5537 (bn_or (n := 14) (bn_w b_y4_2 (by decide) : bn 0 16383 y4_2) (bn_w (bn_eq ex_5536 (bn_shl (n := 13) (bn_w B_5527 (by decide) : bn 0 13 y4_3) (by decide) (by decide))) (by decide) : bn 0 8192 x_5536) (by decide) (by decide))) (by decide)) (bn_w (bn_eq ex_5538 (bn_add B_5527 (show bn 1 1 (1 : Int32) from bn_k (by decide)) (by decide))) (by decide)) rfl Y (lv_sub hl [2, 3, 1, 0] rfl)
        · refine lv_aload_n hx hb dX12_ownOf_26 rfl (lv_at hl 0 rfl) ?_
          refine lv_iload_n hx hb dX12_ownOf_27 rfl (lv_at hl 3 rfl) ?_
          refine lv_iconst (v := 1) hx hb dX12_ownOf_28 (by decide) ?_
          refine cVp (As := [.int y4_3, .int 1]) (rest := [.int y4_2]) S Y (x_X12_getON (l := l) I hB (bn_w B_5527 (by decide)) (bn_w (show bn 1 1 (1 : Int32) from bn_k (by decide)) (by decide))) cw_X12_get km12_73 p_ad_0_0 ok_X12.1 rfl rfl ⟨Nat.le_of_ble_eq_true rfl, Nat.le_of_ble_eq_true rfl⟩ hl.1 rfl (Nat.le_of_ble_eq_true rfl) ⟨Nat.le_of_ble_eq_true rfl, Nat.le_of_ble_eq_true rfl⟩ dX12_ownOf_29 (fun r_5539 H locs er_5539 Y => ?_)
          refine lv_iload_n hx hb dX12_ownOf_32 rfl (lv_at hl 1 rfl) ?_
          refine lv_icmp_ne (tgt := 50) hx hb dX12_ownOf_33 (by decide) (fun c_5540 => ?_) (fun c_5540 => ?_)
          · refine lv_iconst (v := 0) hx hb dX12_ownOf_50 (by decide) ?_
            refine lv_ior hx hb dX12_ownOf_51 ?_
            refine lv_topi (fun x_5541 ex_5541 => ?_)
            refine lv_istore_n (lv' := [(2, .int x_5541), (0, .ref (ad 0 0)), (1, .int i1), (3, .int y4_3)]) hx hb dX12_ownOf_52 rfl hl (by decide) rfl (fun ls hl => ?_)
            obtain ⟨x_5542, ex_5542⟩ : ∃ z : Int32, z = y4_3 + 1 := ⟨_, rfl⟩
            refine lv_iinc (v := x_5542) (lv' := [(3, .int x_5542), (2, .int x_5541), (0, .ref (ad 0 0)), (1, .int i1)]) hx hb dX12_ownOf_53 hl (k := 3) rfl (by rw [ex_5542]; rfl) (by decide) rfl (fun ls hl => ?_)
            refine lv_goto (tgt := 4) hx hb dX12_ownOf_56 (by decide) ?_
            exact ih4 _ (by rw [← hm4]; exact ms_up (m := 1) ex_5542 (show bn 1 1 (1 : Int32) from bn_k (by decide)) B_5527 (bn_w (bn_eq ex_5542 (bn_add B_5527 (show bn 1 1 (1 : Int32) from bn_k (by decide)) (by decide))) (by decide) : bn 0 14 x_5542) (by decide)) x_5541 x_5542  _ _ _  (bn_w (bn_eq ex_5541 (bn_or (n := 14) (bn_w b_y4_2 (by decide) : bn 0 16383 y4_2) (bn_w (show bn 0 0 (0 : Int32) from bn_k (by decide)) (by decide) : bn 0 0 0) (by decide) (by decide))) (by decide)) (bn_w (bn_eq ex_5542 (bn_add B_5527 (show bn 1 1 (1 : Int32) from bn_k (by decide)) (by decide))) (by decide)) rfl Y (lv_sub hl [2, 3, 1, 0] rfl)
          · refine lv_aload_n hx hb dX12_ownOf_36 rfl (lv_at hl 0 rfl) ?_
            refine lv_iload_n hx hb dX12_ownOf_37 rfl (lv_at hl 3 rfl) ?_
            refine cVp (As := [.int y4_3]) (rest := [.int y4_2]) S Y (x_X12_isLegible (l := l) I hB (bn_w B_5527 (by decide))) cw_X12_isLegible km12_77 p_ad_0_0 ok_X12.1 rfl rfl ⟨Nat.le_of_ble_eq_true rfl, Nat.le_of_ble_eq_true rfl⟩ hl.1 rfl (Nat.le_of_ble_eq_true rfl) ⟨Nat.le_of_ble_eq_true rfl, Nat.le_of_ble_eq_true rfl⟩ dX12_ownOf_38 (fun r_5543 H locs er_5543 Y => ?_)
            refine lv_if_eq (tgt := 50) hx hb dX12_ownOf_41 (by decide) (fun c_5544 => ?_) (fun c_5544 => ?_)
            · have B_5545 : bn 0 0 r_5543 := bn_w (bn_eq c_5544 (show bn 0 0 (0 : Int32) from bn_k (by decide))) (by decide)
              refine lv_iconst (v := 0) hx hb dX12_ownOf_50 (by decide) ?_
              refine lv_ior hx hb dX12_ownOf_51 ?_
              refine lv_topi (fun x_5547 ex_5547 => ?_)
              refine lv_istore_n (lv' := [(2, .int x_5547), (0, .ref (ad 0 0)), (1, .int i1), (3, .int y4_3)]) hx hb dX12_ownOf_52 rfl hl (by decide) rfl (fun ls hl => ?_)
              obtain ⟨x_5548, ex_5548⟩ : ∃ z : Int32, z = y4_3 + 1 := ⟨_, rfl⟩
              refine lv_iinc (v := x_5548) (lv' := [(3, .int x_5548), (2, .int x_5547), (0, .ref (ad 0 0)), (1, .int i1)]) hx hb dX12_ownOf_53 hl (k := 3) rfl (by rw [ex_5548]; rfl) (by decide) rfl (fun ls hl => ?_)
              refine lv_goto (tgt := 4) hx hb dX12_ownOf_56 (by decide) ?_
              exact ih4 _ (by rw [← hm4]; exact ms_up (m := 1) ex_5548 (show bn 1 1 (1 : Int32) from bn_k (by decide)) B_5527 (bn_w (bn_eq ex_5548 (bn_add B_5527 (show bn 1 1 (1 : Int32) from bn_k (by decide)) (by decide))) (by decide) : bn 0 14 x_5548) (by decide)) x_5547 x_5548  _ _ _  (bn_w (bn_eq ex_5547 (bn_or (n := 14) (bn_w b_y4_2 (by decide) : bn 0 16383 y4_2) (bn_w (show bn 0 0 (0 : Int32) from bn_k (by decide)) (by decide) : bn 0 0 0) (by decide) (by decide))) (by decide)) (bn_w (bn_eq ex_5548 (bn_add B_5527 (show bn 1 1 (1 : Int32) from bn_k (by decide)) (by decide))) (by decide)) rfl Y (lv_sub hl [2, 3, 1, 0] rfl)
            · have B_5546 : bn 1 1 r_5543 := bn_w (bn_nel c_5544 er_5543 (show bn 0 0 (0 : Int32) from bn_k (by decide))) (by decide)
              refine lv_iconst (v := 1) hx hb dX12_ownOf_44 (by decide) ?_
              refine lv_iload_n hx hb dX12_ownOf_45 rfl (lv_at hl 3 rfl) ?_
              refine lv_ishl hx hb dX12_ownOf_46 ?_
              refine lv_topi (fun x_5549 ex_5549 => ?_)
              refine lv_goto (tgt := 51) hx hb dX12_ownOf_47 (by decide) ?_
              refine lv_ior hx hb dX12_ownOf_51 ?_
              refine lv_topi (fun x_5550 ex_5550 => ?_)
              refine lv_istore_n (lv' := [(2, .int x_5550), (0, .ref (ad 0 0)), (1, .int i1), (3, .int y4_3)]) hx hb dX12_ownOf_52 rfl hl (by decide) rfl (fun ls hl => ?_)
              obtain ⟨x_5551, ex_5551⟩ : ∃ z : Int32, z = y4_3 + 1 := ⟨_, rfl⟩
              refine lv_iinc (v := x_5551) (lv' := [(3, .int x_5551), (2, .int x_5550), (0, .ref (ad 0 0)), (1, .int i1)]) hx hb dX12_ownOf_53 hl (k := 3) rfl (by rw [ex_5551]; rfl) (by decide) rfl (fun ls hl => ?_)
              refine lv_goto (tgt := 4) hx hb dX12_ownOf_56 (by decide) ?_
              exact ih4 _ (by rw [← hm4]; exact ms_up (m := 1) ex_5551 (show bn 1 1 (1 : Int32) from bn_k (by decide)) B_5527 (bn_w (bn_eq ex_5551 (bn_add B_5527 (show bn 1 1 (1 : Int32) from bn_k (by decide)) (by decide))) (by decide) : bn 0 14 x_5551) (by decide)) x_5550 x_5551  _ _ _  (bn_w (bn_eq ex_5550 (bn_or (n := 14) (bn_w b_y4_2 (by decide) : bn 0 16383 y4_2) (bn_w (bn_eq ex_5549 (bn_shl (n := 13) (bn_w B_5527 (by decide) : bn 0 13 y4_3) (by decide) (by decide))) (by decide) : bn 0 8192 x_5549) (by decide) (by decide))) (by decide)) (bn_w (bn_eq ex_5551 (bn_add B_5527 (show bn 1 1 (1 : Int32) from bn_k (by decide)) (by decide))) (by decide)) rfl Y (lv_sub hl [2, 3, 1, 0] rfl)
  refine lv_iconst (v := 0) hx hb dX12_ownOf_0 (by decide) ?_
  refine lv_istore_n (lv' := [(2, .int 0), (0, .ref (ad 0 0)), (1, .int i1)]) hx hb dX12_ownOf_1 rfl hl (by decide) rfl (fun ls hl => ?_)
  refine lv_iconst (v := 0) hx hb dX12_ownOf_2 (by decide) ?_
  refine lv_istore_n (lv' := [(3, .int 0), (2, .int 0), (0, .ref (ad 0 0)), (1, .int i1)]) hx hb dX12_ownOf_3 rfl hl (by decide) rfl (fun ls hl => ?_)
  exact J_4 _ 0 0  _ _ _  (bn_w (show bn 0 0 (0 : Int32) from bn_k (by decide)) (by decide)) (bn_w (show bn 0 0 (0 : Int32) from bn_k (by decide)) (by decide)) rfl Y (lv_sub hl [2, 3, 1, 0] rfl)
set_option maxHeartbeats 4000000 in
set_option maxRecDepth 100000 in
theorem x_X12_knownBy {l : Launch} {G : GG}  {L : List Nat} {f : HF} {ad : Nat → Nat → Nat} {sl : Int} {pl : Int} {oh : Int} {dh : Int} {w : Int × Int} {pi : (Nat → Int32) → Prop} {px : (Nat → Int32) → Prop} {pa : (Nat → Int32) → Prop} {i1 : Int32} (I : SH (spM (IA sl pl oh dh w) pi px pa) nnM G ad L f) (hB : BBp sl pl oh dh w) : PMp l yX12_knownBy cX12_knownBy 4 .int 3 0 0 G [.ref (ad 0 0), .int i1] L f (fun r => bn 0 16383 r) := by
  refine PMi.of (post := fun r L1 f1 => (bn 0 16383 r) ∧ L1 = L ∧ f1 = f) (own := RX12) (by decide) rfl (Nat.le_of_ble_eq_true rfl) (fun sz p e s m args below meth c A ls hA1 hname S Y hl => ?_)
  have hx := S.hx
  have hb := S.hb
  have hl : lv_has ls 4 [(0, .ref (ad 0 0)), (1, .int i1)] := hl
  have J_8 : ∀ (n8 : Nat) (y8_2 y8_3 : Int32) (H : Heap) (locs : List Loc) (ls : Array Slot), (bn 0 16383 y8_2) → (bn 0 8 y8_3) → (((8 : Int) - y8_3.toInt).toNat = n8) → (DY G A s [] L f H locs) → (lv_has ls 4 [(0, .ref (ad 0 0)), (1, .int i1), (2, .int y8_2), (3, .int y8_3)]) → W p l e (rmD 3 0 0) s m args below meth c H locs (0) (0) (MQ below (va_Qi (fun r (u : List Nat × HF) => (fun r L1 f1 => (bn 0 16383 r) ∧ L1 = L ∧ f1 = f) r u.1 u.2) (fun u t => pOut G (va_A (va_pl L f) sz) u.1 u.2 t) (va_A (va_pl L f) sz)) args s 0 0 A) (F0 m 8 ls []) := by
    intro n8
    induction n8 using Nat.strongRecOn with
    | _ n8 ih8 =>
      intro y8_2 y8_3 H locs ls b_y8_2 b_y8_3 hm8 Y hl
      refine lv_iload_n hx hb dX12_knownBy_8 rfl (lv_at hl 3 rfl) ?_
      refine lv_aload_n hx hb dX12_knownBy_9 rfl (lv_at hl 0 rfl) ?_
      obtain ⟨v_6094, v_6096, v_6098, v_6100, v_6102, v_6104, v_6106, v_6108, v_6109, v_6111, v_6113, v_6115, v_6117, v_6119, v_6121, v_6123, v_6125, v_6127, p_ad_0_0, b_6095, b_6097, b_6099, b_6101, b_6103, b_6105, b_6107, b_6110, b_6112, b_6114, b_6116, b_6118, b_6120, b_6122, b_6124, b_6126, b_6128⟩ := opnM_0 (j := 0) I (by decide)
      have p_ad_0_0 : pt L f (ad 0 0) (.inr (12, [.ref (ad 1 0), .ref (ad 2 0), .ref (ad 3 0), .ref (ad 4 0), .int v_6094, .int v_6096, .int v_6098, .int v_6100, .int v_6102, .int v_6104, .int v_6106, .long v_6108, .int v_6109, .int v_6111, .int v_6113, .ref (ad 5 0), .ref (ad 6 0), .int v_6115, .int v_6117, .int v_6119, .int v_6121, .int v_6123, .ref (ad 7 0), .ref (ad 8 0), .ref (ad 9 0), .int v_6125, .ref (ad 10 0), .ref (ad 11 0), .ref (ad 12 0), .ref (ad 13 0), .int v_6127, .ref (ad 14 0)])) := p_ad_0_0
      refine pg_get S Y ok_X12 0 (by decide) kf12_7 (v := .ref (ad 1 0)) p_ad_0_0 rfl dX12_knownBy_10 ?_
      refine lv_bipush (v := 7) hx hb dX12_knownBy_13 (by decide) ?_
      obtain ⟨g_6129, p_ad_1_0, o_6130⟩ := I.opi (k := 1) (j := 0) (by decide) rfl
      have p_ad_1_0 : pt L f (ad 1 0) (.inl (G.2 0, 10568, .inl g_6129)) := p_ad_1_0
      obtain ⟨v_6131, ev_6131⟩ : ∃ z, z = g_6129 (7 : Int32).toNatClampNeg := ⟨_, rfl⟩
      refine pg_iald S Y (v := v_6131) p_ad_1_0 (by unfold vp_in; decide) ev_6131.symm dX12_knownBy_15 ?_
      have bv_6131 : bn 0 8 v_6131 := bn_eq ev_6131 (IA_7 o_6130)
      refine lv_icmp_ge (tgt := 62) hx hb dX12_knownBy_16 (by decide) (fun c_6132 => ?_) (fun c_6132 => ?_)
      · refine lv_iload_n hx hb dX12_knownBy_62 rfl (lv_at hl 2 rfl) ?_
        exact prI (post := fun r L1 f1 => (bn 0 16383 r) ∧ L1 = L ∧ f1 = f) S Y rfl (by decide) (by decide) hA1 ⟨bn_w b_y8_2 (by decide), rfl, rfl⟩ dX12_knownBy_63
      · have B_6133 : bn 1 8 v_6131 := bn_w (bn_gtl c_6132 bv_6131 b_y8_3) (by decide)
        have B_6134 : bn 0 7 y8_3 := bn_w (bn_gtr c_6132 bv_6131 b_y8_3) (by decide)
        refine lv_aload_n hx hb dX12_knownBy_19 rfl (lv_at hl 0 rfl) ?_
        refine pg_get S Y ok_X12 0 (by decide) kf12_7 (v := .ref (ad 1 0)) p_ad_0_0 rfl dX12_knownBy_20 ?_
        refine lv_sipush (v := 176) hx hb dX12_knownBy_23 (by decide) ?_
        refine lv_iconst (v := 2) hx hb dX12_knownBy_26 (by decide) ?_
        refine lv_iload_n hx hb dX12_knownBy_27 rfl (lv_at hl 3 rfl) ?_
        refine lv_imul hx hb dX12_knownBy_28 ?_
        refine lv_topi (fun x_6135 ex_6135 => ?_)
        refine lv_iadd hx hb dX12_knownBy_29 ?_
        refine lv_topi (fun x_6136 ex_6136 => ?_)
        obtain ⟨v_6137, ev_6137⟩ : ∃ z, z = g_6129 (x_6136 : Int32).toNatClampNeg := ⟨_, rfl⟩
        refine pg_iald S Y (v := v_6137) p_ad_1_0 (vp_bn (bn_eq ex_6136 (bn_add (show bn 176 176 (176 : Int32) from bn_k (by decide)) (bn_eq ex_6135 (bn_mul (show bn 2 2 (2 : Int32) from bn_k (by decide)) B_6134 (by decide))) (by decide))) (by decide)) ev_6137.symm dX12_knownBy_30 ?_
        refine lv_iload_n hx hb dX12_knownBy_31 rfl (lv_at hl 1 rfl) ?_
        refine lv_icmp_ne (tgt := 56) hx hb dX12_knownBy_32 (by decide) (fun c_6138 => ?_) (fun c_6138 => ?_)
        · obtain ⟨x_6139, ex_6139⟩ : ∃ z : Int32, z = y8_3 + 1 := ⟨_, rfl⟩
          refine lv_iinc (v := x_6139) (lv' := [(3, .int x_6139), (0, .ref (ad 0 0)), (1, .int i1), (2, .int y8_2)]) hx hb dX12_knownBy_56 hl (k := 3) rfl (by rw [ex_6139]; rfl) (by decide) rfl (fun ls hl => ?_)
          refine lv_goto (tgt := 8) hx hb dX12_knownBy_59 (by decide) ?_
          exact ih8 _ (by rw [← hm8]; exact ms_up (m := 1) ex_6139 (show bn 1 1 (1 : Int32) from bn_k (by decide)) B_6134 (bn_w (bn_eq ex_6139 (bn_add B_6134 (show bn 1 1 (1 : Int32) from bn_k (by decide)) (by decide))) (by decide) : bn 0 8 x_6139) (by decide)) y8_2 x_6139  _ _ _  (bn_w b_y8_2 (by decide)) (bn_w (bn_eq ex_6139 (bn_add B_6134 (show bn 1 1 (1 : Int32) from bn_k (by decide)) (by decide))) (by decide)) rfl Y (lv_sub hl [1, 2, 3, 0] rfl)
        · refine lv_iload_n hx hb dX12_knownBy_35 rfl (lv_at hl 2 rfl) ?_
          refine lv_aload_n hx hb dX12_knownBy_36 rfl (lv_at hl 0 rfl) ?_
          refine lv_aload_n hx hb dX12_knownBy_37 rfl (lv_at hl 0 rfl) ?_
          refine pg_get S Y ok_X12 0 (by decide) kf12_7 (v := .ref (ad 1 0)) p_ad_0_0 rfl dX12_knownBy_38 ?_
          refine lv_sipush (v := 176) hx hb dX12_knownBy_41 (by decide) ?_
          refine lv_iconst (v := 2) hx hb dX12_knownBy_44 (by decide) ?_
          refine lv_iload_n hx hb dX12_knownBy_45 rfl (lv_at hl 3 rfl) ?_
          refine lv_imul hx hb dX12_knownBy_46 ?_
          refine lv_topi (fun x_6140 ex_6140 => ?_)
          refine lv_iadd hx hb dX12_knownBy_47 ?_
          refine lv_topi (fun x_6141 ex_6141 => ?_)
          refine lv_iconst (v := 1) hx hb dX12_knownBy_48 (by decide) ?_
          refine lv_iadd hx hb dX12_knownBy_49 ?_
          refine lv_topi (fun x_6142 ex_6142 => ?_)
          have B_6143 : bn 177 191 x_6142 := bn_w (bn_eq ex_6142 (bn_add (bn_eq ex_6141 (bn_add (show bn 176 176 (176 : Int32) from bn_k (by decide)) (bn_eq ex_6140 (bn_mul (show bn 2 2 (2 : Int32) from bn_k (by decide)) B_6134 (by decide))) (by decide))) (show bn 1 1 (1 : Int32) from bn_k (by decide)) (by decide))) (by decide)
          obtain ⟨v_6144, ev_6144⟩ : ∃ z, z = g_6129 (x_6142 : Int32).toNatClampNeg := ⟨_, rfl⟩
          refine pg_iald S Y (v := v_6144) p_ad_1_0 (vp_bn B_6143 (by decide)) ev_6144.symm dX12_knownBy_50 ?_
          refine cVp (As := [.int v_6144]) (rest := [.int y8_2]) S Y (x_X12_legibleOn (l := l) I hB) cw_X12_legibleOn km12_265 p_ad_0_0 ok_X12.1 rfl rfl ⟨Nat.le_of_ble_eq_true rfl, Nat.le_of_ble_eq_true rfl⟩ hl.1 rfl (Nat.le_of_ble_eq_true rfl) ⟨Nat.le_of_ble_eq_true rfl, Nat.le_of_ble_eq_true rfl⟩ dX12_knownBy_51 (fun r_6145 H locs er_6145 Y => ?_)
          refine lv_ior hx hb dX12_knownBy_54 ?_
          refine lv_topi (fun x_6146 ex_6146 => ?_)
          refine lv_istore_n (lv' := [(2, .int x_6146), (0, .ref (ad 0 0)), (1, .int i1), (3, .int y8_3)]) hx hb dX12_knownBy_55 rfl hl (by decide) rfl (fun ls hl => ?_)
          obtain ⟨x_6147, ex_6147⟩ : ∃ z : Int32, z = y8_3 + 1 := ⟨_, rfl⟩
          refine lv_iinc (v := x_6147) (lv' := [(3, .int x_6147), (2, .int x_6146), (0, .ref (ad 0 0)), (1, .int i1)]) hx hb dX12_knownBy_56 hl (k := 3) rfl (by rw [ex_6147]; rfl) (by decide) rfl (fun ls hl => ?_)
          refine lv_goto (tgt := 8) hx hb dX12_knownBy_59 (by decide) ?_
          exact ih8 _ (by rw [← hm8]; exact ms_up (m := 1) ex_6147 (show bn 1 1 (1 : Int32) from bn_k (by decide)) B_6134 (bn_w (bn_eq ex_6147 (bn_add B_6134 (show bn 1 1 (1 : Int32) from bn_k (by decide)) (by decide))) (by decide) : bn 0 8 x_6147) (by decide)) x_6146 x_6147  _ _ _  (bn_w (bn_eq ex_6146 (bn_or (n := 14) (bn_w b_y8_2 (by decide) : bn 0 16383 y8_2) (bn_w er_6145 (by decide) : bn 0 16383 r_6145) (by decide) (by decide))) (by decide)) (bn_w (bn_eq ex_6147 (bn_add B_6134 (show bn 1 1 (1 : Int32) from bn_k (by decide)) (by decide))) (by decide)) rfl Y (lv_sub hl [2, 3, 1, 0] rfl)
  refine lv_aload_n hx hb dX12_knownBy_0 rfl (lv_at hl 0 rfl) ?_
  refine lv_iload_n hx hb dX12_knownBy_1 rfl (lv_at hl 1 rfl) ?_
  refine cVp (As := [.int i1]) (rest := []) S Y (x_X12_ownOf (l := l) I hB) cw_X12_ownOf km12_434 (I.opo (k := 0) (j := 0) (by decide) rfl).choose_spec.1 ok_X12.1 rfl rfl ⟨Nat.le_of_ble_eq_true rfl, Nat.le_of_ble_eq_true rfl⟩ hl.1 rfl (Nat.le_of_ble_eq_true rfl) ⟨Nat.le_of_ble_eq_true rfl, Nat.le_of_ble_eq_true rfl⟩ dX12_knownBy_2 (fun r_6148 H locs er_6148 Y => ?_)
  refine lv_istore_n (lv' := [(2, .int r_6148), (0, .ref (ad 0 0)), (1, .int i1)]) hx hb dX12_knownBy_5 rfl hl (by decide) rfl (fun ls hl => ?_)
  refine lv_iconst (v := 0) hx hb dX12_knownBy_6 (by decide) ?_
  refine lv_istore_n (lv' := [(3, .int 0), (2, .int r_6148), (0, .ref (ad 0 0)), (1, .int i1)]) hx hb dX12_knownBy_7 rfl hl (by decide) rfl (fun ls hl => ?_)
  exact J_8 _ r_6148 0  _ _ _  (bn_w er_6148 (by decide)) (bn_w (show bn 0 0 (0 : Int32) from bn_k (by decide)) (by decide)) rfl Y (lv_sub hl [2, 3, 1, 0] rfl)
set_option maxHeartbeats 4000000 in
set_option maxRecDepth 100000 in
theorem x_X12_workOf {l : Launch} {G : GG}  {L : List Nat} {f : HF} {ad : Nat → Nat → Nat} {sl : Int} {pl : Int} {oh : Int} {dh : Int} {w : Int × Int} {pi : (Nat → Int32) → Prop} {px : (Nat → Int32) → Prop} {pa : (Nat → Int32) → Prop} {i1 : Int32} (I : SH (spM (IA sl pl oh dh w) pi px pa) nnM G ad L f) (hB : BBp sl pl oh dh w) : PMp l yX12_workOf cX12_workOf 4 .int 1 0 0 G [.ref (ad 0 0), .int i1] L f (fun r => True) := by
  refine PMi.of (post := fun r L1 f1 => (True) ∧ L1 = L ∧ f1 = f) (own := RX12) (by decide) rfl (Nat.le_of_ble_eq_true rfl) (fun sz p e s m args below meth c A ls hA1 hname S Y hl => ?_)
  have hx := S.hx
  have hb := S.hb
  have hl : lv_has ls 4 [(0, .ref (ad 0 0)), (1, .int i1)] := hl
  have J_4 : ∀ (n4 : Nat) (y4_2 y4_3 : Int32) (H : Heap) (locs : List Loc) (ls : Array Slot), (bn 0 8 y4_3) → (((8 : Int) - y4_3.toInt).toNat = n4) → (DY G A s [] L f H locs) → (lv_has ls 4 [(0, .ref (ad 0 0)), (1, .int i1), (2, .int y4_2), (3, .int y4_3)]) → W p l e (rmD 1 0 0) s m args below meth c H locs (0) (0) (MQ below (va_Qi (fun r (u : List Nat × HF) => (fun r L1 f1 => (True) ∧ L1 = L ∧ f1 = f) r u.1 u.2) (fun u t => pOut G (va_A (va_pl L f) sz) u.1 u.2 t) (va_A (va_pl L f) sz)) args s 0 0 A) (F0 m 4 ls []) := by
    intro n4
    induction n4 using Nat.strongRecOn with
    | _ n4 ih4 =>
      intro y4_2 y4_3 H locs ls b_y4_3 hm4 Y hl
      refine lv_iload_n hx hb dX12_workOf_4 rfl (lv_at hl 3 rfl) ?_
      refine lv_aload_n hx hb dX12_workOf_5 rfl (lv_at hl 0 rfl) ?_
      obtain ⟨v_6669, v_6671, v_6673, v_6675, v_6677, v_6679, v_6681, v_6683, v_6684, v_6686, v_6688, v_6690, v_6692, v_6694, v_6696, v_6698, v_6700, v_6702, p_ad_0_0, b_6670, b_6672, b_6674, b_6676, b_6678, b_6680, b_6682, b_6685, b_6687, b_6689, b_6691, b_6693, b_6695, b_6697, b_6699, b_6701, b_6703⟩ := opnM_0 (j := 0) I (by decide)
      have p_ad_0_0 : pt L f (ad 0 0) (.inr (12, [.ref (ad 1 0), .ref (ad 2 0), .ref (ad 3 0), .ref (ad 4 0), .int v_6669, .int v_6671, .int v_6673, .int v_6675, .int v_6677, .int v_6679, .int v_6681, .long v_6683, .int v_6684, .int v_6686, .int v_6688, .ref (ad 5 0), .ref (ad 6 0), .int v_6690, .int v_6692, .int v_6694, .int v_6696, .int v_6698, .ref (ad 7 0), .ref (ad 8 0), .ref (ad 9 0), .int v_6700, .ref (ad 10 0), .ref (ad 11 0), .ref (ad 12 0), .ref (ad 13 0), .int v_6702, .ref (ad 14 0)])) := p_ad_0_0
      refine pg_get S Y ok_X12 0 (by decide) kf12_7 (v := .ref (ad 1 0)) p_ad_0_0 rfl dX12_workOf_6 ?_
      refine lv_bipush (v := 6) hx hb dX12_workOf_9 (by decide) ?_
      obtain ⟨g_6704, p_ad_1_0, o_6705⟩ := I.opi (k := 1) (j := 0) (by decide) rfl
      have p_ad_1_0 : pt L f (ad 1 0) (.inl (G.2 0, 10568, .inl g_6704)) := p_ad_1_0
      obtain ⟨v_6706, ev_6706⟩ : ∃ z, z = g_6704 (6 : Int32).toNatClampNeg := ⟨_, rfl⟩
      refine pg_iald S Y (v := v_6706) p_ad_1_0 (by unfold vp_in; decide) ev_6706.symm dX12_workOf_11 ?_
      have bv_6706 : bn 0 8 v_6706 := bn_eq ev_6706 (bn_w (a' := 0) (b' := 8) (IA_6 o_6705) (by have h9 := hB; unfold BBp at h9; omega))
      refine lv_icmp_ge (tgt := 48) hx hb dX12_workOf_12 (by decide) (fun c_6707 => ?_) (fun c_6707 => ?_)
      · refine lv_iload_n hx hb dX12_workOf_48 rfl (lv_at hl 2 rfl) ?_
        exact prI (post := fun r L1 f1 => (True) ∧ L1 = L ∧ f1 = f) S Y rfl (by decide) (by decide) hA1 ⟨trivial, rfl, rfl⟩ dX12_workOf_49
      · have B_6708 : bn 1 8 v_6706 := bn_w (bn_gtl c_6707 bv_6706 b_y4_3) (by decide)
        have B_6709 : bn 0 7 y4_3 := bn_w (bn_gtr c_6707 bv_6706 b_y4_3) (by decide)
        refine lv_iload_n hx hb dX12_workOf_15 rfl (lv_at hl 2 rfl) ?_
        refine lv_iload_n hx hb dX12_workOf_16 rfl (lv_at hl 1 rfl) ?_
        refine lv_iload_n hx hb dX12_workOf_17 rfl (lv_at hl 3 rfl) ?_
        refine cSp (As := [.int i1, .int y4_3]) (rest := [.int y4_2]) S Y (x_X12_has (l := l) ) cw_X12_has km12_244 rfl ⟨Nat.le_of_ble_eq_true rfl, Nat.le_of_ble_eq_true rfl⟩ hl.1 rfl (Nat.le_of_ble_eq_true rfl) ⟨Nat.le_of_ble_eq_true rfl, Nat.le_of_ble_eq_true rfl⟩ dX12_workOf_18 (fun r_6710 H locs er_6710 Y => ?_)
        refine lv_if_eq (tgt := 39) hx hb dX12_workOf_21 (by decide) (fun c_6711 => ?_) (fun c_6711 => ?_)
        · have B_6712 : bn 0 0 r_6710 := bn_w (bn_eq c_6711 (show bn 0 0 (0 : Int32) from bn_k (by decide))) (by decide)
          refine lv_iconst (v := 0) hx hb dX12_workOf_39 (by decide) ?_
          refine lv_iadd hx hb dX12_workOf_40 ?_
          refine lv_topi (fun x_6714 ex_6714 => ?_)
          refine lv_istore_n (lv' := [(2, .int x_6714), (0, .ref (ad 0 0)), (1, .int i1), (3, .int y4_3)]) hx hb dX12_workOf_41 rfl hl (by decide) rfl (fun ls hl => ?_)
          obtain ⟨x_6715, ex_6715⟩ : ∃ z : Int32, z = y4_3 + 1 := ⟨_, rfl⟩
          refine lv_iinc (v := x_6715) (lv' := [(3, .int x_6715), (2, .int x_6714), (0, .ref (ad 0 0)), (1, .int i1)]) hx hb dX12_workOf_42 hl (k := 3) rfl (by rw [ex_6715]; rfl) (by decide) rfl (fun ls hl => ?_)
          refine lv_goto (tgt := 4) hx hb dX12_workOf_45 (by decide) ?_
          exact ih4 _ (by rw [← hm4]; exact ms_up (m := 1) ex_6715 (show bn 1 1 (1 : Int32) from bn_k (by decide)) B_6709 (bn_w (bn_eq ex_6715 (bn_add B_6709 (show bn 1 1 (1 : Int32) from bn_k (by decide)) (by decide))) (by decide) : bn 0 8 x_6715) (by decide)) x_6714 x_6715  _ _ _  (bn_w (bn_eq ex_6715 (bn_add B_6709 (show bn 1 1 (1 : Int32) from bn_k (by decide)) (by decide))) (by decide)) rfl Y (lv_sub hl [2, 3, 1, 0] rfl)
        · have B_6713 : bn 1 1 r_6710 := bn_w (bn_nel c_6711 er_6710 (show bn 0 0 (0 : Int32) from bn_k (by decide))) (by decide)
          refine lv_aload_n hx hb dX12_workOf_24 rfl (lv_at hl 0 rfl) ?_
          refine pg_get S Y ok_X12 0 (by decide) kf12_7 (v := .ref (ad 1 0)) p_ad_0_0 rfl dX12_workOf_25 ?_
          refine lv_sipush (v := 160) hx hb dX12_workOf_28 (by decide) ?_
          refine lv_iconst (v := 2) hx hb dX12_workOf_31 (by decide) ?_
          refine lv_iload_n hx hb dX12_workOf_32 rfl (lv_at hl 3 rfl) ?_
          refine lv_imul hx hb dX12_workOf_33 ?_
          refine lv_topi (fun x_6716 ex_6716 => ?_)
          refine lv_iadd hx hb dX12_workOf_34 ?_
          refine lv_topi (fun x_6717 ex_6717 => ?_)
          obtain ⟨v_6718, ev_6718⟩ : ∃ z, z = g_6704 (x_6717 : Int32).toNatClampNeg := ⟨_, rfl⟩
          refine pg_iald S Y (v := v_6718) p_ad_1_0 (vp_bn (bn_eq ex_6717 (bn_add (show bn 160 160 (160 : Int32) from bn_k (by decide)) (bn_eq ex_6716 (bn_mul (show bn 2 2 (2 : Int32) from bn_k (by decide)) B_6709 (by decide))) (by decide))) (by decide)) ev_6718.symm dX12_workOf_35 ?_
          refine lv_goto (tgt := 40) hx hb dX12_workOf_36 (by decide) ?_
          refine lv_iadd hx hb dX12_workOf_40 ?_
          refine lv_topi (fun x_6719 ex_6719 => ?_)
          refine lv_istore_n (lv' := [(2, .int x_6719), (0, .ref (ad 0 0)), (1, .int i1), (3, .int y4_3)]) hx hb dX12_workOf_41 rfl hl (by decide) rfl (fun ls hl => ?_)
          obtain ⟨x_6720, ex_6720⟩ : ∃ z : Int32, z = y4_3 + 1 := ⟨_, rfl⟩
          refine lv_iinc (v := x_6720) (lv' := [(3, .int x_6720), (2, .int x_6719), (0, .ref (ad 0 0)), (1, .int i1)]) hx hb dX12_workOf_42 hl (k := 3) rfl (by rw [ex_6720]; rfl) (by decide) rfl (fun ls hl => ?_)
          refine lv_goto (tgt := 4) hx hb dX12_workOf_45 (by decide) ?_
          exact ih4 _ (by rw [← hm4]; exact ms_up (m := 1) ex_6720 (show bn 1 1 (1 : Int32) from bn_k (by decide)) B_6709 (bn_w (bn_eq ex_6720 (bn_add B_6709 (show bn 1 1 (1 : Int32) from bn_k (by decide)) (by decide))) (by decide) : bn 0 8 x_6720) (by decide)) x_6719 x_6720  _ _ _  (bn_w (bn_eq ex_6720 (bn_add B_6709 (show bn 1 1 (1 : Int32) from bn_k (by decide)) (by decide))) (by decide)) rfl Y (lv_sub hl [2, 3, 1, 0] rfl)
  refine lv_iconst (v := 0) hx hb dX12_workOf_0 (by decide) ?_
  refine lv_istore_n (lv' := [(2, .int 0), (0, .ref (ad 0 0)), (1, .int i1)]) hx hb dX12_workOf_1 rfl hl (by decide) rfl (fun ls hl => ?_)
  refine lv_iconst (v := 0) hx hb dX12_workOf_2 (by decide) ?_
  refine lv_istore_n (lv' := [(3, .int 0), (2, .int 0), (0, .ref (ad 0 0)), (1, .int i1)]) hx hb dX12_workOf_3 rfl hl (by decide) rfl (fun ls hl => ?_)
  exact J_4 _ 0 0  _ _ _  (bn_w (show bn 0 0 (0 : Int32) from bn_k (by decide)) (by decide)) rfl Y (lv_sub hl [2, 3, 1, 0] rfl)
set_option maxHeartbeats 4000000 in
set_option maxRecDepth 100000 in
theorem x_X12_isInTime {l : Launch} {G : GG}  {L : List Nat} {f : HF} {ad : Nat → Nat → Nat} {sl : Int} {pl : Int} {oh : Int} {dh : Int} {w : Int × Int} {pi : (Nat → Int32) → Prop} {px : (Nat → Int32) → Prop} {pa : (Nat → Int32) → Prop} {i1 : Int32} (I : SH (spM (IA sl pl oh dh w) pi px pa) nnM G ad L f) (hB : BBp sl pl oh dh w) : PMp l yX12_isInTime cX12_isInTime 6 .boolean 1 0 0 G [.ref (ad 0 0), .int i1] L f (fun r => bn 0 1 r) := by
  refine PMi.of (post := fun r L1 f1 => (bn 0 1 r) ∧ L1 = L ∧ f1 = f) (own := RX12) (by decide) rfl (Nat.le_of_ble_eq_true rfl) (fun sz p e s m args below meth c A ls hA1 hname S Y hl => ?_)
  have hx := S.hx
  have hb := S.hb
  have hl : lv_has ls 6 [(0, .ref (ad 0 0)), (1, .int i1)] := hl
  have J_2 : ∀ (n2 : Nat) (y2_2 : Int32) (H : Heap) (locs : List Loc) (ls : Array Slot), (bn 0 8 y2_2) → (((8 : Int) - y2_2.toInt).toNat = n2) → (DY G A s [] L f H locs) → (lv_has ls 6 [(0, .ref (ad 0 0)), (1, .int i1), (2, .int y2_2)]) → W p l e (rmD 1 0 0) s m args below meth c H locs (0) (0) (MQ below (va_Qi (fun r (u : List Nat × HF) => (fun r L1 f1 => (bn 0 1 r) ∧ L1 = L ∧ f1 = f) r u.1 u.2) (fun u t => pOut G (va_A (va_pl L f) sz) u.1 u.2 t) (va_A (va_pl L f) sz)) args s 0 0 A) (F0 m 2 ls []) := by
    intro n2
    induction n2 using Nat.strongRecOn with
    | _ n2 ih2 =>
      intro y2_2 H locs ls b_y2_2 hm2 Y hl
      have J_45 : ∀ (n45 : Nat) (y45_3 y45_4 y45_5 : Int32) (H : Heap) (locs : List Loc) (ls : Array Slot), (bn 0 8 y45_5) → (bn 0 7 y2_2) → (((8 : Int) - y45_5.toInt).toNat = n45) → (DY G A s [] L f H locs) → (lv_has ls 6 [(0, .ref (ad 0 0)), (1, .int i1), (2, .int y2_2), (3, .int y45_3), (4, .int y45_4), (5, .int y45_5)]) → W p l e (rmD 1 0 0) s m args below meth c H locs (0) (0) (MQ below (va_Qi (fun r (u : List Nat × HF) => (fun r L1 f1 => (bn 0 1 r) ∧ L1 = L ∧ f1 = f) r u.1 u.2) (fun u t => pOut G (va_A (va_pl L f) sz) u.1 u.2 t) (va_A (va_pl L f) sz)) args s 0 0 A) (F0 m 45 ls []) := by
        intro n45
        induction n45 using Nat.strongRecOn with
        | _ n45 ih45 =>
          intro y45_3 y45_4 y45_5 H locs ls b_y45_5 b45_y2_2 hm45 Y hl
          refine lv_iload hx hb dX12_isInTime_45 (lv_at hl 5 rfl) ?_
          refine lv_aload_n hx hb dX12_isInTime_47 rfl (lv_at hl 0 rfl) ?_
          obtain ⟨v_7891, v_7893, v_7895, v_7897, v_7899, v_7901, v_7903, v_7905, v_7906, v_7908, v_7910, v_7912, v_7914, v_7916, v_7918, v_7920, v_7922, v_7924, p_ad_0_0, b_7892, b_7894, b_7896, b_7898, b_7900, b_7902, b_7904, b_7907, b_7909, b_7911, b_7913, b_7915, b_7917, b_7919, b_7921, b_7923, b_7925⟩ := opnM_0 (j := 0) I (by decide)
          have p_ad_0_0 : pt L f (ad 0 0) (.inr (12, [.ref (ad 1 0), .ref (ad 2 0), .ref (ad 3 0), .ref (ad 4 0), .int v_7891, .int v_7893, .int v_7895, .int v_7897, .int v_7899, .int v_7901, .int v_7903, .long v_7905, .int v_7906, .int v_7908, .int v_7910, .ref (ad 5 0), .ref (ad 6 0), .int v_7912, .int v_7914, .int v_7916, .int v_7918, .int v_7920, .ref (ad 7 0), .ref (ad 8 0), .ref (ad 9 0), .int v_7922, .ref (ad 10 0), .ref (ad 11 0), .ref (ad 12 0), .ref (ad 13 0), .int v_7924, .ref (ad 14 0)])) := p_ad_0_0
          refine pg_get S Y ok_X12 0 (by decide) kf12_7 (v := .ref (ad 1 0)) p_ad_0_0 rfl dX12_isInTime_48 ?_
          refine lv_bipush (v := 6) hx hb dX12_isInTime_51 (by decide) ?_
          obtain ⟨g_7926, p_ad_1_0, o_7927⟩ := I.opi (k := 1) (j := 0) (by decide) rfl
          have p_ad_1_0 : pt L f (ad 1 0) (.inl (G.2 0, 10568, .inl g_7926)) := p_ad_1_0
          obtain ⟨v_7928, ev_7928⟩ : ∃ z, z = g_7926 (6 : Int32).toNatClampNeg := ⟨_, rfl⟩
          refine pg_iald S Y (v := v_7928) p_ad_1_0 (by unfold vp_in; decide) ev_7928.symm dX12_isInTime_53 ?_
          have bv_7928 : bn 0 8 v_7928 := bn_eq ev_7928 (bn_w (a' := 0) (b' := 8) (IA_6 o_7927) (by have h9 := hB; unfold BBp at h9; omega))
          refine lv_icmp_ge (tgt := 113) hx hb dX12_isInTime_54 (by decide) (fun c_7929 => ?_) (fun c_7929 => ?_)
          · refine lv_iload hx hb dX12_isInTime_113 (lv_at hl 4 rfl) ?_
            refine lv_iload_n hx hb dX12_isInTime_115 rfl (lv_at hl 3 rfl) ?_
            refine lv_icmp_le (tgt := 121) hx hb dX12_isInTime_116 (by decide) (fun c_7932 => ?_) (fun c_7932 => ?_)
            · obtain ⟨x_7935, ex_7935⟩ : ∃ z : Int32, z = y2_2 + 1 := ⟨_, rfl⟩
              refine lv_iinc (v := x_7935) (lv' := [(2, .int x_7935), (0, .ref (ad 0 0)), (1, .int i1), (3, .int y45_3), (4, .int y45_4), (5, .int y45_5)]) hx hb dX12_isInTime_121 hl (k := 2) rfl (by rw [ex_7935]; rfl) (by decide) rfl (fun ls hl => ?_)
              refine lv_goto (tgt := 2) hx hb dX12_isInTime_124 (by decide) ?_
              exact ih2 _ (by rw [← hm2]; exact ms_up (m := 1) ex_7935 (show bn 1 1 (1 : Int32) from bn_k (by decide)) b45_y2_2 (bn_w (bn_eq ex_7935 (bn_add b45_y2_2 (show bn 1 1 (1 : Int32) from bn_k (by decide)) (by decide))) (by decide) : bn 0 8 x_7935) (by decide)) x_7935  _ _ _  (bn_w (bn_eq ex_7935 (bn_add b45_y2_2 (show bn 1 1 (1 : Int32) from bn_k (by decide)) (by decide))) (by decide)) rfl Y (lv_sub hl [1, 2, 0] rfl)
            · have B_7933 : bn (-2147483647) 2147483647 y45_4 := bn_w (bn_gtl c_7932 (bn_any y45_4) (bn_any y45_3)) (by decide)
              have B_7934 : bn (-2147483648) 2147483646 y45_3 := bn_w (bn_gtr c_7932 (bn_any y45_4) (bn_any y45_3)) (by decide)
              refine lv_iconst (v := 0) hx hb dX12_isInTime_119 (by decide) ?_
              exact prI (post := fun r L1 f1 => (bn 0 1 r) ∧ L1 = L ∧ f1 = f) S Y rfl (by decide) (by decide) hA1 ⟨bn_w (show bn 0 0 (0 : Int32) from bn_k (by decide)) (by decide), rfl, rfl⟩ dX12_isInTime_120
          · have B_7930 : bn 1 8 v_7928 := bn_w (bn_gtl c_7929 bv_7928 b_y45_5) (by decide)
            have B_7931 : bn 0 7 y45_5 := bn_w (bn_gtr c_7929 bv_7928 b_y45_5) (by decide)
            refine lv_iload hx hb dX12_isInTime_57 (lv_at hl 4 rfl) ?_
            refine lv_iload_n hx hb dX12_isInTime_59 rfl (lv_at hl 1 rfl) ?_
            refine lv_iload hx hb dX12_isInTime_60 (lv_at hl 5 rfl) ?_
            refine cSp (As := [.int i1, .int y45_5]) (rest := [.int y45_4]) S Y (x_X12_has (l := l) ) cw_X12_has km12_244 rfl ⟨Nat.le_of_ble_eq_true rfl, Nat.le_of_ble_eq_true rfl⟩ hl.1 rfl (Nat.le_of_ble_eq_true rfl) ⟨Nat.le_of_ble_eq_true rfl, Nat.le_of_ble_eq_true rfl⟩ dX12_isInTime_62 (fun r_7936 H locs er_7936 Y => ?_)
            refine lv_if_eq (tgt := 103) hx hb dX12_isInTime_65 (by decide) (fun c_7937 => ?_) (fun c_7937 => ?_)
            · have B_7938 : bn 0 0 r_7936 := bn_w (bn_eq c_7937 (show bn 0 0 (0 : Int32) from bn_k (by decide))) (by decide)
              refine lv_iconst (v := 0) hx hb dX12_isInTime_103 (by decide) ?_
              refine lv_iadd hx hb dX12_isInTime_104 ?_
              refine lv_topi (fun x_7940 ex_7940 => ?_)
              refine lv_istore (lv' := [(4, .int x_7940), (0, .ref (ad 0 0)), (1, .int i1), (2, .int y2_2), (3, .int y45_3), (5, .int y45_5)]) hx hb dX12_isInTime_105 hl (by decide) rfl (fun ls hl => ?_)
              obtain ⟨x_7941, ex_7941⟩ : ∃ z : Int32, z = y45_5 + 1 := ⟨_, rfl⟩
              refine lv_iinc (v := x_7941) (lv' := [(5, .int x_7941), (4, .int x_7940), (0, .ref (ad 0 0)), (1, .int i1), (2, .int y2_2), (3, .int y45_3)]) hx hb dX12_isInTime_107 hl (k := 5) rfl (by rw [ex_7941]; rfl) (by decide) rfl (fun ls hl => ?_)
              refine lv_goto (tgt := 45) hx hb dX12_isInTime_110 (by decide) ?_
              exact ih45 _ (by rw [← hm45]; exact ms_up (m := 1) ex_7941 (show bn 1 1 (1 : Int32) from bn_k (by decide)) B_7931 (bn_w (bn_eq ex_7941 (bn_add B_7931 (show bn 1 1 (1 : Int32) from bn_k (by decide)) (by decide))) (by decide) : bn 0 8 x_7941) (by decide)) y45_3 x_7940 x_7941  _ _ _  (bn_w (bn_eq ex_7941 (bn_add B_7931 (show bn 1 1 (1 : Int32) from bn_k (by decide)) (by decide))) (by decide)) (bn_w b45_y2_2 (by decide)) rfl Y (lv_sub hl [2, 3, 4, 5, 1, 0] rfl)
            · have B_7939 : bn 1 1 r_7936 := bn_w (bn_nel c_7937 er_7936 (show bn 0 0 (0 : Int32) from bn_k (by decide))) (by decide)
              refine lv_aload_n hx hb dX12_isInTime_68 rfl (lv_at hl 0 rfl) ?_
              refine pg_get S Y ok_X12 0 (by decide) kf12_7 (v := .ref (ad 1 0)) p_ad_0_0 rfl dX12_isInTime_69 ?_
              refine lv_sipush (v := 160) hx hb dX12_isInTime_72 (by decide) ?_
              refine lv_iconst (v := 2) hx hb dX12_isInTime_75 (by decide) ?_
              refine lv_iload hx hb dX12_isInTime_76 (lv_at hl 5 rfl) ?_
              refine lv_imul hx hb dX12_isInTime_78 ?_
              refine lv_topi (fun x_7942 ex_7942 => ?_)
              refine lv_iadd hx hb dX12_isInTime_79 ?_
              refine lv_topi (fun x_7943 ex_7943 => ?_)
              refine lv_iconst (v := 1) hx hb dX12_isInTime_80 (by decide) ?_
              refine lv_iadd hx hb dX12_isInTime_81 ?_
              refine lv_topi (fun x_7944 ex_7944 => ?_)
              have B_7945 : bn 161 175 x_7944 := bn_w (bn_eq ex_7944 (bn_add (bn_eq ex_7943 (bn_add (show bn 160 160 (160 : Int32) from bn_k (by decide)) (bn_eq ex_7942 (bn_mul (show bn 2 2 (2 : Int32) from bn_k (by decide)) B_7931 (by decide))) (by decide))) (show bn 1 1 (1 : Int32) from bn_k (by decide)) (by decide))) (by decide)
              obtain ⟨v_7946, ev_7946⟩ : ∃ z, z = g_7926 (x_7944 : Int32).toNatClampNeg := ⟨_, rfl⟩
              refine pg_iald S Y (v := v_7946) p_ad_1_0 (vp_bn B_7945 (by decide)) ev_7946.symm dX12_isInTime_82 ?_
              refine lv_iload_n hx hb dX12_isInTime_83 rfl (lv_at hl 3 rfl) ?_
              refine lv_icmp_gt (tgt := 103) hx hb dX12_isInTime_84 (by decide) (fun c_7947 => ?_) (fun c_7947 => ?_)
              · have B_7948 : bn (-2147483648) 2147483646 y45_3 := bn_w (bn_ltl c_7947 (bn_any y45_3) (bn_any v_7946)) (by decide)
                have B_7949 : bn (-2147483647) 2147483647 v_7946 := bn_w (bn_ltr c_7947 (bn_any y45_3) (bn_any v_7946)) (by decide)
                refine lv_iconst (v := 0) hx hb dX12_isInTime_103 (by decide) ?_
                refine lv_iadd hx hb dX12_isInTime_104 ?_
                refine lv_topi (fun x_7950 ex_7950 => ?_)
                refine lv_istore (lv' := [(4, .int x_7950), (0, .ref (ad 0 0)), (1, .int i1), (2, .int y2_2), (3, .int y45_3), (5, .int y45_5)]) hx hb dX12_isInTime_105 hl (by decide) rfl (fun ls hl => ?_)
                obtain ⟨x_7951, ex_7951⟩ : ∃ z : Int32, z = y45_5 + 1 := ⟨_, rfl⟩
                refine lv_iinc (v := x_7951) (lv' := [(5, .int x_7951), (4, .int x_7950), (0, .ref (ad 0 0)), (1, .int i1), (2, .int y2_2), (3, .int y45_3)]) hx hb dX12_isInTime_107 hl (k := 5) rfl (by rw [ex_7951]; rfl) (by decide) rfl (fun ls hl => ?_)
                refine lv_goto (tgt := 45) hx hb dX12_isInTime_110 (by decide) ?_
                exact ih45 _ (by rw [← hm45]; exact ms_up (m := 1) ex_7951 (show bn 1 1 (1 : Int32) from bn_k (by decide)) B_7931 (bn_w (bn_eq ex_7951 (bn_add B_7931 (show bn 1 1 (1 : Int32) from bn_k (by decide)) (by decide))) (by decide) : bn 0 8 x_7951) (by decide)) y45_3 x_7950 x_7951  _ _ _  (bn_w (bn_eq ex_7951 (bn_add B_7931 (show bn 1 1 (1 : Int32) from bn_k (by decide)) (by decide))) (by decide)) (bn_w b45_y2_2 (by decide)) rfl Y (lv_sub hl [2, 3, 4, 5, 1, 0] rfl)
              · refine lv_aload_n hx hb dX12_isInTime_87 rfl (lv_at hl 0 rfl) ?_
                refine pg_get S Y ok_X12 0 (by decide) kf12_7 (v := .ref (ad 1 0)) p_ad_0_0 rfl dX12_isInTime_88 ?_
                refine lv_sipush (v := 160) hx hb dX12_isInTime_91 (by decide) ?_
                refine lv_iconst (v := 2) hx hb dX12_isInTime_94 (by decide) ?_
                refine lv_iload hx hb dX12_isInTime_95 (lv_at hl 5 rfl) ?_
                refine lv_imul hx hb dX12_isInTime_97 ?_
                refine lv_topi (fun x_7952 ex_7952 => ?_)
                refine lv_iadd hx hb dX12_isInTime_98 ?_
                refine lv_topi (fun x_7953 ex_7953 => ?_)
                obtain ⟨v_7954, ev_7954⟩ : ∃ z, z = g_7926 (x_7953 : Int32).toNatClampNeg := ⟨_, rfl⟩
                refine pg_iald S Y (v := v_7954) p_ad_1_0 (vp_bn (bn_eq ex_7953 (bn_add (show bn 160 160 (160 : Int32) from bn_k (by decide)) (bn_eq ex_7952 (bn_mul (show bn 2 2 (2 : Int32) from bn_k (by decide)) B_7931 (by decide))) (by decide))) (by decide)) ev_7954.symm dX12_isInTime_99 ?_
                refine lv_goto (tgt := 104) hx hb dX12_isInTime_100 (by decide) ?_
                refine lv_iadd hx hb dX12_isInTime_104 ?_
                refine lv_topi (fun x_7955 ex_7955 => ?_)
                refine lv_istore (lv' := [(4, .int x_7955), (0, .ref (ad 0 0)), (1, .int i1), (2, .int y2_2), (3, .int y45_3), (5, .int y45_5)]) hx hb dX12_isInTime_105 hl (by decide) rfl (fun ls hl => ?_)
                obtain ⟨x_7956, ex_7956⟩ : ∃ z : Int32, z = y45_5 + 1 := ⟨_, rfl⟩
                refine lv_iinc (v := x_7956) (lv' := [(5, .int x_7956), (4, .int x_7955), (0, .ref (ad 0 0)), (1, .int i1), (2, .int y2_2), (3, .int y45_3)]) hx hb dX12_isInTime_107 hl (k := 5) rfl (by rw [ex_7956]; rfl) (by decide) rfl (fun ls hl => ?_)
                refine lv_goto (tgt := 45) hx hb dX12_isInTime_110 (by decide) ?_
                exact ih45 _ (by rw [← hm45]; exact ms_up (m := 1) ex_7956 (show bn 1 1 (1 : Int32) from bn_k (by decide)) B_7931 (bn_w (bn_eq ex_7956 (bn_add B_7931 (show bn 1 1 (1 : Int32) from bn_k (by decide)) (by decide))) (by decide) : bn 0 8 x_7956) (by decide)) y45_3 x_7955 x_7956  _ _ _  (bn_w (bn_eq ex_7956 (bn_add B_7931 (show bn 1 1 (1 : Int32) from bn_k (by decide)) (by decide))) (by decide)) (bn_w b45_y2_2 (by decide)) rfl Y (lv_sub hl [2, 3, 4, 5, 1, 0] rfl)
      refine lv_iload_n hx hb dX12_isInTime_2 rfl (lv_at hl 2 rfl) ?_
      refine lv_aload_n hx hb dX12_isInTime_3 rfl (lv_at hl 0 rfl) ?_
      obtain ⟨v_7957, v_7959, v_7961, v_7963, v_7965, v_7967, v_7969, v_7971, v_7972, v_7974, v_7976, v_7978, v_7980, v_7982, v_7984, v_7986, v_7988, v_7990, p_ad_0_0, b_7958, b_7960, b_7962, b_7964, b_7966, b_7968, b_7970, b_7973, b_7975, b_7977, b_7979, b_7981, b_7983, b_7985, b_7987, b_7989, b_7991⟩ := opnM_0 (j := 0) I (by decide)
      have p_ad_0_0 : pt L f (ad 0 0) (.inr (12, [.ref (ad 1 0), .ref (ad 2 0), .ref (ad 3 0), .ref (ad 4 0), .int v_7957, .int v_7959, .int v_7961, .int v_7963, .int v_7965, .int v_7967, .int v_7969, .long v_7971, .int v_7972, .int v_7974, .int v_7976, .ref (ad 5 0), .ref (ad 6 0), .int v_7978, .int v_7980, .int v_7982, .int v_7984, .int v_7986, .ref (ad 7 0), .ref (ad 8 0), .ref (ad 9 0), .int v_7988, .ref (ad 10 0), .ref (ad 11 0), .ref (ad 12 0), .ref (ad 13 0), .int v_7990, .ref (ad 14 0)])) := p_ad_0_0
      refine pg_get S Y ok_X12 0 (by decide) kf12_7 (v := .ref (ad 1 0)) p_ad_0_0 rfl dX12_isInTime_4 ?_
      refine lv_bipush (v := 6) hx hb dX12_isInTime_7 (by decide) ?_
      obtain ⟨g_7992, p_ad_1_0, o_7993⟩ := I.opi (k := 1) (j := 0) (by decide) rfl
      have p_ad_1_0 : pt L f (ad 1 0) (.inl (G.2 0, 10568, .inl g_7992)) := p_ad_1_0
      obtain ⟨v_7994, ev_7994⟩ : ∃ z, z = g_7992 (6 : Int32).toNatClampNeg := ⟨_, rfl⟩
      refine pg_iald S Y (v := v_7994) p_ad_1_0 (by unfold vp_in; decide) ev_7994.symm dX12_isInTime_9 ?_
      have bv_7994 : bn 0 8 v_7994 := bn_eq ev_7994 (bn_w (a' := 0) (b' := 8) (IA_6 o_7993) (by have h9 := hB; unfold BBp at h9; omega))
      refine lv_icmp_ge (tgt := 127) hx hb dX12_isInTime_10 (by decide) (fun c_7995 => ?_) (fun c_7995 => ?_)
      · refine lv_iconst (v := 1) hx hb dX12_isInTime_127 (by decide) ?_
        exact prI (post := fun r L1 f1 => (bn 0 1 r) ∧ L1 = L ∧ f1 = f) S Y rfl (by decide) (by decide) hA1 ⟨bn_w (show bn 1 1 (1 : Int32) from bn_k (by decide)) (by decide), rfl, rfl⟩ dX12_isInTime_128
      · have B_7996 : bn 1 8 v_7994 := bn_w (bn_gtl c_7995 bv_7994 b_y2_2) (by decide)
        have B_7997 : bn 0 7 y2_2 := bn_w (bn_gtr c_7995 bv_7994 b_y2_2) (by decide)
        refine lv_iload_n hx hb dX12_isInTime_13 rfl (lv_at hl 1 rfl) ?_
        refine lv_iload_n hx hb dX12_isInTime_14 rfl (lv_at hl 2 rfl) ?_
        refine cSp (As := [.int i1, .int y2_2]) (rest := []) S Y (x_X12_has (l := l) ) cw_X12_has km12_244 rfl ⟨Nat.le_of_ble_eq_true rfl, Nat.le_of_ble_eq_true rfl⟩ hl.1 rfl (Nat.le_of_ble_eq_true rfl) ⟨Nat.le_of_ble_eq_true rfl, Nat.le_of_ble_eq_true rfl⟩ dX12_isInTime_15 (fun r_7998 H locs er_7998 Y => ?_)
        refine lv_if_ne (tgt := 24) hx hb dX12_isInTime_18 (by decide) (fun c_7999 => ?_) (fun c_7999 => ?_)
        · have B_8000 : bn 1 1 r_7998 := bn_w (bn_nel c_7999 er_7998 (show bn 0 0 (0 : Int32) from bn_k (by decide))) (by decide)
          refine lv_aload_n hx hb dX12_isInTime_24 rfl (lv_at hl 0 rfl) ?_
          refine pg_get S Y ok_X12 0 (by decide) kf12_7 (v := .ref (ad 1 0)) p_ad_0_0 rfl dX12_isInTime_25 ?_
          refine lv_sipush (v := 160) hx hb dX12_isInTime_28 (by decide) ?_
          refine lv_iconst (v := 2) hx hb dX12_isInTime_31 (by decide) ?_
          refine lv_iload_n hx hb dX12_isInTime_32 rfl (lv_at hl 2 rfl) ?_
          refine lv_imul hx hb dX12_isInTime_33 ?_
          refine lv_topi (fun x_8002 ex_8002 => ?_)
          refine lv_iadd hx hb dX12_isInTime_34 ?_
          refine lv_topi (fun x_8003 ex_8003 => ?_)
          refine lv_iconst (v := 1) hx hb dX12_isInTime_35 (by decide) ?_
          refine lv_iadd hx hb dX12_isInTime_36 ?_
          refine lv_topi (fun x_8004 ex_8004 => ?_)
          have B_8005 : bn 161 175 x_8004 := bn_w (bn_eq ex_8004 (bn_add (bn_eq ex_8003 (bn_add (show bn 160 160 (160 : Int32) from bn_k (by decide)) (bn_eq ex_8002 (bn_mul (show bn 2 2 (2 : Int32) from bn_k (by decide)) B_7997 (by decide))) (by decide))) (show bn 1 1 (1 : Int32) from bn_k (by decide)) (by decide))) (by decide)
          obtain ⟨v_8006, ev_8006⟩ : ∃ z, z = g_7992 (x_8004 : Int32).toNatClampNeg := ⟨_, rfl⟩
          refine pg_iald S Y (v := v_8006) p_ad_1_0 (vp_bn B_8005 (by decide)) ev_8006.symm dX12_isInTime_37 ?_
          refine lv_istore_n (lv' := [(3, .int v_8006), (0, .ref (ad 0 0)), (1, .int i1), (2, .int y2_2)]) hx hb dX12_isInTime_38 rfl hl (by decide) rfl (fun ls hl => ?_)
          refine lv_iconst (v := 0) hx hb dX12_isInTime_39 (by decide) ?_
          refine lv_istore (lv' := [(4, .int 0), (3, .int v_8006), (0, .ref (ad 0 0)), (1, .int i1), (2, .int y2_2)]) hx hb dX12_isInTime_40 hl (by decide) rfl (fun ls hl => ?_)
          refine lv_iconst (v := 0) hx hb dX12_isInTime_42 (by decide) ?_
          refine lv_istore (lv' := [(5, .int 0), (4, .int 0), (3, .int v_8006), (0, .ref (ad 0 0)), (1, .int i1), (2, .int y2_2)]) hx hb dX12_isInTime_43 hl (by decide) rfl (fun ls hl => ?_)
          exact J_45 _ v_8006 0 0  _ _ _  (bn_w (show bn 0 0 (0 : Int32) from bn_k (by decide)) (by decide)) (bn_w B_7997 (by decide)) rfl Y (lv_sub hl [3, 4, 5, 2, 1, 0] rfl)
        · have B_8001 : bn 0 0 r_7998 := bn_w (bn_eq c_7999 (show bn 0 0 (0 : Int32) from bn_k (by decide))) (by decide)
          refine lv_goto (tgt := 121) hx hb dX12_isInTime_21 (by decide) ?_
          obtain ⟨x_8007, ex_8007⟩ : ∃ z : Int32, z = y2_2 + 1 := ⟨_, rfl⟩
          refine lv_iinc (v := x_8007) (lv' := [(2, .int x_8007), (0, .ref (ad 0 0)), (1, .int i1)]) hx hb dX12_isInTime_121 hl (k := 2) rfl (by rw [ex_8007]; rfl) (by decide) rfl (fun ls hl => ?_)
          refine lv_goto (tgt := 2) hx hb dX12_isInTime_124 (by decide) ?_
          exact ih2 _ (by rw [← hm2]; exact ms_up (m := 1) ex_8007 (show bn 1 1 (1 : Int32) from bn_k (by decide)) B_7997 (bn_w (bn_eq ex_8007 (bn_add B_7997 (show bn 1 1 (1 : Int32) from bn_k (by decide)) (by decide))) (by decide) : bn 0 8 x_8007) (by decide)) x_8007  _ _ _  (bn_w (bn_eq ex_8007 (bn_add B_7997 (show bn 1 1 (1 : Int32) from bn_k (by decide)) (by decide))) (by decide)) rfl Y (lv_sub hl [1, 2, 0] rfl)
  refine lv_iconst (v := 0) hx hb dX12_isInTime_0 (by decide) ?_
  refine lv_istore_n (lv' := [(2, .int 0), (0, .ref (ad 0 0)), (1, .int i1)]) hx hb dX12_isInTime_1 rfl hl (by decide) rfl (fun ls hl => ?_)
  exact J_2 _ 0  _ _ _  (bn_w (show bn 0 0 (0 : Int32) from bn_k (by decide)) (by decide)) rfl Y (lv_sub hl [1, 2, 0] rfl)
set_option maxHeartbeats 4000000 in
set_option maxRecDepth 100000 in
theorem x_X12_isAtPeace {l : Launch} {G : GG}  {L : List Nat} {f : HF} {ad : Nat → Nat → Nat} {sl : Int} {pl : Int} {oh : Int} {dh : Int} {w : Int × Int} {pi : (Nat → Int32) → Prop} {px : (Nat → Int32) → Prop} {pa : (Nat → Int32) → Prop} {i1 : Int32} (I : SH (spM (IA sl pl oh dh w) pi px pa) nnM G ad L f) (hB : BBp sl pl oh dh w) : PMp l yX12_isAtPeace cX12_isAtPeace 3 .boolean 1 0 0 G [.ref (ad 0 0), .int i1] L f (fun r => bn 0 1 r) := by
  refine PMi.of (post := fun r L1 f1 => (bn 0 1 r) ∧ L1 = L ∧ f1 = f) (own := RX12) (by decide) rfl (Nat.le_of_ble_eq_true rfl) (fun sz p e s m args below meth c A ls hA1 hname S Y hl => ?_)
  have hx := S.hx
  have hb := S.hb
  have hl : lv_has ls 3 [(0, .ref (ad 0 0)), (1, .int i1)] := hl
  have J_2 : ∀ (n2 : Nat) (y2_2 : Int32) (H : Heap) (locs : List Loc) (ls : Array Slot), (bn 0 8 y2_2) → (((8 : Int) - y2_2.toInt).toNat = n2) → (DY G A s [] L f H locs) → (lv_has ls 3 [(0, .ref (ad 0 0)), (1, .int i1), (2, .int y2_2)]) → W p l e (rmD 1 0 0) s m args below meth c H locs (0) (0) (MQ below (va_Qi (fun r (u : List Nat × HF) => (fun r L1 f1 => (bn 0 1 r) ∧ L1 = L ∧ f1 = f) r u.1 u.2) (fun u t => pOut G (va_A (va_pl L f) sz) u.1 u.2 t) (va_A (va_pl L f) sz)) args s 0 0 A) (F0 m 2 ls []) := by
    intro n2
    induction n2 using Nat.strongRecOn with
    | _ n2 ih2 =>
      intro y2_2 H locs ls b_y2_2 hm2 Y hl
      refine lv_iload_n hx hb dX12_isAtPeace_2 rfl (lv_at hl 2 rfl) ?_
      refine lv_aload_n hx hb dX12_isAtPeace_3 rfl (lv_at hl 0 rfl) ?_
      obtain ⟨v_8598, v_8600, v_8602, v_8604, v_8606, v_8608, v_8610, v_8612, v_8613, v_8615, v_8617, v_8619, v_8621, v_8623, v_8625, v_8627, v_8629, v_8631, p_ad_0_0, b_8599, b_8601, b_8603, b_8605, b_8607, b_8609, b_8611, b_8614, b_8616, b_8618, b_8620, b_8622, b_8624, b_8626, b_8628, b_8630, b_8632⟩ := opnM_0 (j := 0) I (by decide)
      have p_ad_0_0 : pt L f (ad 0 0) (.inr (12, [.ref (ad 1 0), .ref (ad 2 0), .ref (ad 3 0), .ref (ad 4 0), .int v_8598, .int v_8600, .int v_8602, .int v_8604, .int v_8606, .int v_8608, .int v_8610, .long v_8612, .int v_8613, .int v_8615, .int v_8617, .ref (ad 5 0), .ref (ad 6 0), .int v_8619, .int v_8621, .int v_8623, .int v_8625, .int v_8627, .ref (ad 7 0), .ref (ad 8 0), .ref (ad 9 0), .int v_8629, .ref (ad 10 0), .ref (ad 11 0), .ref (ad 12 0), .ref (ad 13 0), .int v_8631, .ref (ad 14 0)])) := p_ad_0_0
      refine pg_get S Y ok_X12 0 (by decide) kf12_7 (v := .ref (ad 1 0)) p_ad_0_0 rfl dX12_isAtPeace_4 ?_
      refine lv_iconst (v := 5) hx hb dX12_isAtPeace_7 (by decide) ?_
      obtain ⟨g_8633, p_ad_1_0, o_8634⟩ := I.opi (k := 1) (j := 0) (by decide) rfl
      have p_ad_1_0 : pt L f (ad 1 0) (.inl (G.2 0, 10568, .inl g_8633)) := p_ad_1_0
      obtain ⟨v_8635, ev_8635⟩ : ∃ z, z = g_8633 (5 : Int32).toNatClampNeg := ⟨_, rfl⟩
      refine pg_iald S Y (v := v_8635) p_ad_1_0 (by unfold vp_in; decide) ev_8635.symm dX12_isAtPeace_8 ?_
      have bv_8635 : bn 0 8 v_8635 := bn_eq ev_8635 (IA_5 o_8634)
      refine lv_icmp_ge (tgt := 60) hx hb dX12_isAtPeace_9 (by decide) (fun c_8636 => ?_) (fun c_8636 => ?_)
      · refine lv_iconst (v := 1) hx hb dX12_isAtPeace_60 (by decide) ?_
        exact prI (post := fun r L1 f1 => (bn 0 1 r) ∧ L1 = L ∧ f1 = f) S Y rfl (by decide) (by decide) hA1 ⟨bn_w (show bn 1 1 (1 : Int32) from bn_k (by decide)) (by decide), rfl, rfl⟩ dX12_isAtPeace_61
      · have B_8637 : bn 1 8 v_8635 := bn_w (bn_gtl c_8636 bv_8635 b_y2_2) (by decide)
        have B_8638 : bn 0 7 y2_2 := bn_w (bn_gtr c_8636 bv_8635 b_y2_2) (by decide)
        refine lv_iload_n hx hb dX12_isAtPeace_12 rfl (lv_at hl 1 rfl) ?_
        refine lv_aload_n hx hb dX12_isAtPeace_13 rfl (lv_at hl 0 rfl) ?_
        refine pg_get S Y ok_X12 0 (by decide) kf12_7 (v := .ref (ad 1 0)) p_ad_0_0 rfl dX12_isAtPeace_14 ?_
        refine lv_sipush (v := 144) hx hb dX12_isAtPeace_17 (by decide) ?_
        refine lv_iconst (v := 2) hx hb dX12_isAtPeace_20 (by decide) ?_
        refine lv_iload_n hx hb dX12_isAtPeace_21 rfl (lv_at hl 2 rfl) ?_
        refine lv_imul hx hb dX12_isAtPeace_22 ?_
        refine lv_topi (fun x_8639 ex_8639 => ?_)
        refine lv_iadd hx hb dX12_isAtPeace_23 ?_
        refine lv_topi (fun x_8640 ex_8640 => ?_)
        obtain ⟨v_8641, ev_8641⟩ : ∃ z, z = g_8633 (x_8640 : Int32).toNatClampNeg := ⟨_, rfl⟩
        refine pg_iald S Y (v := v_8641) p_ad_1_0 (vp_bn (bn_eq ex_8640 (bn_add (show bn 144 144 (144 : Int32) from bn_k (by decide)) (bn_eq ex_8639 (bn_mul (show bn 2 2 (2 : Int32) from bn_k (by decide)) B_8638 (by decide))) (by decide))) (by decide)) ev_8641.symm dX12_isAtPeace_24 ?_
        refine cSp (As := [.int i1, .int v_8641]) (rest := []) S Y (x_X12_has (l := l) ) cw_X12_has km12_244 rfl ⟨Nat.le_of_ble_eq_true rfl, Nat.le_of_ble_eq_true rfl⟩ hl.1 rfl (Nat.le_of_ble_eq_true rfl) ⟨Nat.le_of_ble_eq_true rfl, Nat.le_of_ble_eq_true rfl⟩ dX12_isAtPeace_25 (fun r_8642 H locs er_8642 Y => ?_)
        refine lv_if_eq (tgt := 54) hx hb dX12_isAtPeace_28 (by decide) (fun c_8643 => ?_) (fun c_8643 => ?_)
        · have B_8644 : bn 0 0 r_8642 := bn_w (bn_eq c_8643 (show bn 0 0 (0 : Int32) from bn_k (by decide))) (by decide)
          obtain ⟨x_8646, ex_8646⟩ : ∃ z : Int32, z = y2_2 + 1 := ⟨_, rfl⟩
          refine lv_iinc (v := x_8646) (lv' := [(2, .int x_8646), (0, .ref (ad 0 0)), (1, .int i1)]) hx hb dX12_isAtPeace_54 hl (k := 2) rfl (by rw [ex_8646]; rfl) (by decide) rfl (fun ls hl => ?_)
          refine lv_goto (tgt := 2) hx hb dX12_isAtPeace_57 (by decide) ?_
          exact ih2 _ (by rw [← hm2]; exact ms_up (m := 1) ex_8646 (show bn 1 1 (1 : Int32) from bn_k (by decide)) B_8638 (bn_w (bn_eq ex_8646 (bn_add B_8638 (show bn 1 1 (1 : Int32) from bn_k (by decide)) (by decide))) (by decide) : bn 0 8 x_8646) (by decide)) x_8646  _ _ _  (bn_w (bn_eq ex_8646 (bn_add B_8638 (show bn 1 1 (1 : Int32) from bn_k (by decide)) (by decide))) (by decide)) rfl Y (lv_sub hl [1, 2, 0] rfl)
        · have B_8645 : bn 1 1 r_8642 := bn_w (bn_nel c_8643 er_8642 (show bn 0 0 (0 : Int32) from bn_k (by decide))) (by decide)
          refine lv_iload_n hx hb dX12_isAtPeace_31 rfl (lv_at hl 1 rfl) ?_
          refine lv_aload_n hx hb dX12_isAtPeace_32 rfl (lv_at hl 0 rfl) ?_
          refine pg_get S Y ok_X12 0 (by decide) kf12_7 (v := .ref (ad 1 0)) p_ad_0_0 rfl dX12_isAtPeace_33 ?_
          refine lv_sipush (v := 144) hx hb dX12_isAtPeace_36 (by decide) ?_
          refine lv_iconst (v := 2) hx hb dX12_isAtPeace_39 (by decide) ?_
          refine lv_iload_n hx hb dX12_isAtPeace_40 rfl (lv_at hl 2 rfl) ?_
          refine lv_imul hx hb dX12_isAtPeace_41 ?_
          refine lv_topi (fun x_8647 ex_8647 => ?_)
          refine lv_iadd hx hb dX12_isAtPeace_42 ?_
          refine lv_topi (fun x_8648 ex_8648 => ?_)
          refine lv_iconst (v := 1) hx hb dX12_isAtPeace_43 (by decide) ?_
          refine lv_iadd hx hb dX12_isAtPeace_44 ?_
          refine lv_topi (fun x_8649 ex_8649 => ?_)
          have B_8650 : bn 145 159 x_8649 := bn_w (bn_eq ex_8649 (bn_add (bn_eq ex_8648 (bn_add (show bn 144 144 (144 : Int32) from bn_k (by decide)) (bn_eq ex_8647 (bn_mul (show bn 2 2 (2 : Int32) from bn_k (by decide)) B_8638 (by decide))) (by decide))) (show bn 1 1 (1 : Int32) from bn_k (by decide)) (by decide))) (by decide)
          obtain ⟨v_8651, ev_8651⟩ : ∃ z, z = g_8633 (x_8649 : Int32).toNatClampNeg := ⟨_, rfl⟩
          refine pg_iald S Y (v := v_8651) p_ad_1_0 (vp_bn B_8650 (by decide)) ev_8651.symm dX12_isAtPeace_45 ?_
          refine cSp (As := [.int i1, .int v_8651]) (rest := []) S Y (x_X12_has (l := l) ) cw_X12_has km12_244 rfl ⟨Nat.le_of_ble_eq_true rfl, Nat.le_of_ble_eq_true rfl⟩ hl.1 rfl (Nat.le_of_ble_eq_true rfl) ⟨Nat.le_of_ble_eq_true rfl, Nat.le_of_ble_eq_true rfl⟩ dX12_isAtPeace_46 (fun r_8652 H locs er_8652 Y => ?_)
          refine lv_if_eq (tgt := 54) hx hb dX12_isAtPeace_49 (by decide) (fun c_8653 => ?_) (fun c_8653 => ?_)
          · have B_8654 : bn 0 0 r_8652 := bn_w (bn_eq c_8653 (show bn 0 0 (0 : Int32) from bn_k (by decide))) (by decide)
            obtain ⟨x_8656, ex_8656⟩ : ∃ z : Int32, z = y2_2 + 1 := ⟨_, rfl⟩
            refine lv_iinc (v := x_8656) (lv' := [(2, .int x_8656), (0, .ref (ad 0 0)), (1, .int i1)]) hx hb dX12_isAtPeace_54 hl (k := 2) rfl (by rw [ex_8656]; rfl) (by decide) rfl (fun ls hl => ?_)
            refine lv_goto (tgt := 2) hx hb dX12_isAtPeace_57 (by decide) ?_
            exact ih2 _ (by rw [← hm2]; exact ms_up (m := 1) ex_8656 (show bn 1 1 (1 : Int32) from bn_k (by decide)) B_8638 (bn_w (bn_eq ex_8656 (bn_add B_8638 (show bn 1 1 (1 : Int32) from bn_k (by decide)) (by decide))) (by decide) : bn 0 8 x_8656) (by decide)) x_8656  _ _ _  (bn_w (bn_eq ex_8656 (bn_add B_8638 (show bn 1 1 (1 : Int32) from bn_k (by decide)) (by decide))) (by decide)) rfl Y (lv_sub hl [1, 2, 0] rfl)
          · have B_8655 : bn 1 1 r_8652 := bn_w (bn_nel c_8653 er_8652 (show bn 0 0 (0 : Int32) from bn_k (by decide))) (by decide)
            refine lv_iconst (v := 0) hx hb dX12_isAtPeace_52 (by decide) ?_
            exact prI (post := fun r L1 f1 => (bn 0 1 r) ∧ L1 = L ∧ f1 = f) S Y rfl (by decide) (by decide) hA1 ⟨bn_w (show bn 0 0 (0 : Int32) from bn_k (by decide)) (by decide), rfl, rfl⟩ dX12_isAtPeace_53
  refine lv_iconst (v := 0) hx hb dX12_isAtPeace_0 (by decide) ?_
  refine lv_istore_n (lv' := [(2, .int 0), (0, .ref (ad 0 0)), (1, .int i1)]) hx hb dX12_isAtPeace_1 rfl hl (by decide) rfl (fun ls hl => ?_)
  exact J_2 _ 0  _ _ _  (bn_w (show bn 0 0 (0 : Int32) from bn_k (by decide)) (by decide)) rfl Y (lv_sub hl [1, 2, 0] rfl)
set_option maxHeartbeats 4000000 in
set_option maxRecDepth 100000 in
theorem x_X12_shown {l : Launch} {G : GG}  {L : List Nat} {f : HF} {ad : Nat → Nat → Nat} {sl : Int} {pl : Int} {oh : Int} {dh : Int} {w : Int × Int} {pi : (Nat → Int32) → Prop} {px : (Nat → Int32) → Prop} {pa : (Nat → Int32) → Prop} (I : SH (spM (IA sl pl oh dh w) pi px pa) nnM G ad L f) (hB : BBp sl pl oh dh w) : PMp l yX12_shown cX12_shown 1 .int 0 0 0 G [.ref (ad 0 0)] L f (fun r => bn 0 30 r) := by
  refine PMi.of (post := fun r L1 f1 => (bn 0 30 r) ∧ L1 = L ∧ f1 = f) (own := RX12) (by decide) rfl (Nat.le_of_ble_eq_true rfl) (fun sz p e s m args below meth c A ls hA1 hname S Y hl => ?_)
  have hx := S.hx
  have hb := S.hb
  have hl : lv_has ls 1 [(0, .ref (ad 0 0))] := hl
  refine lv_aload_n hx hb dX12_shown_0 rfl (lv_at hl 0 rfl) ?_
  obtain ⟨v_8739, v_8741, v_8743, v_8745, v_8747, v_8749, v_8751, v_8753, v_8754, v_8756, v_8758, v_8760, v_8762, v_8764, v_8766, v_8768, v_8770, v_8772, p_ad_0_0, b_8740, b_8742, b_8744, b_8746, b_8748, b_8750, b_8752, b_8755, b_8757, b_8759, b_8761, b_8763, b_8765, b_8767, b_8769, b_8771, b_8773⟩ := opnM_0 (j := 0) I (by decide)
  have p_ad_0_0 : pt L f (ad 0 0) (.inr (12, [.ref (ad 1 0), .ref (ad 2 0), .ref (ad 3 0), .ref (ad 4 0), .int v_8739, .int v_8741, .int v_8743, .int v_8745, .int v_8747, .int v_8749, .int v_8751, .long v_8753, .int v_8754, .int v_8756, .int v_8758, .ref (ad 5 0), .ref (ad 6 0), .int v_8760, .int v_8762, .int v_8764, .int v_8766, .int v_8768, .ref (ad 7 0), .ref (ad 8 0), .ref (ad 9 0), .int v_8770, .ref (ad 10 0), .ref (ad 11 0), .ref (ad 12 0), .ref (ad 13 0), .int v_8772, .ref (ad 14 0)])) := p_ad_0_0
  refine pg_get S Y ok_X12 0 (by decide) kf12_7 (v := .ref (ad 1 0)) p_ad_0_0 rfl dX12_shown_1 ?_
  refine lv_bipush (v := 14) hx hb dX12_shown_4 (by decide) ?_
  obtain ⟨g_8774, p_ad_1_0, o_8775⟩ := I.opi (k := 1) (j := 0) (by decide) rfl
  have p_ad_1_0 : pt L f (ad 1 0) (.inl (G.2 0, 10568, .inl g_8774)) := p_ad_1_0
  obtain ⟨v_8776, ev_8776⟩ : ∃ z, z = g_8774 (14 : Int32).toNatClampNeg := ⟨_, rfl⟩
  refine pg_iald S Y (v := v_8776) p_ad_1_0 (by unfold vp_in; decide) ev_8776.symm dX12_shown_6 ?_
  have bv_8776 : bn 0 60000 v_8776 := bn_eq ev_8776 (IA_14 o_8775 (by have h9 := hB; unfold BBp at h9; omega) (by have h9 := hB; unfold BBp at h9; omega))
  refine lv_bipush (v := 30) hx hb dX12_shown_7 (by decide) ?_
  refine lv_icmp_ge (tgt := 22) hx hb dX12_shown_9 (by decide) (fun c_8777 => ?_) (fun c_8777 => ?_)
  · have B_8778 : bn 30 60000 v_8776 := bn_w (bn_ler c_8777 (show bn 30 30 (30 : Int32) from bn_k (by decide)) bv_8776) (by decide)
    refine lv_bipush (v := 30) hx hb dX12_shown_22 (by decide) ?_
    exact prI (post := fun r L1 f1 => (bn 0 30 r) ∧ L1 = L ∧ f1 = f) S Y rfl (by decide) (by decide) hA1 ⟨bn_w (show bn 30 30 (30 : Int32) from bn_k (by decide)) (by decide), rfl, rfl⟩ dX12_shown_24
  · have B_8779 : bn 0 29 v_8776 := bn_w (bn_gtr c_8777 (show bn 30 30 (30 : Int32) from bn_k (by decide)) bv_8776) (by decide)
    refine lv_aload_n hx hb dX12_shown_12 rfl (lv_at hl 0 rfl) ?_
    refine pg_get S Y ok_X12 0 (by decide) kf12_7 (v := .ref (ad 1 0)) p_ad_0_0 rfl dX12_shown_13 ?_
    refine lv_bipush (v := 14) hx hb dX12_shown_16 (by decide) ?_
    refine pg_iald S Y (v := v_8776) p_ad_1_0 (by unfold vp_in; decide) ev_8776.symm dX12_shown_18 ?_
    refine lv_goto (tgt := 24) hx hb dX12_shown_19 (by decide) ?_
    exact prI (post := fun r L1 f1 => (bn 0 30 r) ∧ L1 = L ∧ f1 = f) S Y rfl (by decide) (by decide) hA1 ⟨bn_w B_8779 (by decide), rfl, rfl⟩ dX12_shown_24
