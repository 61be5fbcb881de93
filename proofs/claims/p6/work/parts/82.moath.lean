theorem dX12_put_0 : decode cX12_put 0 = .ok (.aload_n 0, 1) := by decide +kernel
theorem dX12_put_1 : decode cX12_put 1 = .ok (.getfield 7, 3) := by decide +kernel
theorem dX12_put_4 : decode cX12_put 4 = .ok (.bipush 16, 2) := by decide +kernel
theorem dX12_put_6 : decode cX12_put 6 = .ok (.bipush 7, 2) := by decide +kernel
theorem dX12_put_8 : decode cX12_put 8 = .ok (.iload_n 1, 1) := by decide +kernel
theorem dX12_put_9 : decode cX12_put 9 = .ok (.imul, 1) := by decide +kernel
theorem dX12_put_10 : decode cX12_put 10 = .ok (.iadd, 1) := by decide +kernel
theorem dX12_put_11 : decode cX12_put 11 = .ok (.iload_n 2, 1) := by decide +kernel
theorem dX12_put_12 : decode cX12_put 12 = .ok (.iadd, 1) := by decide +kernel
theorem dX12_put_13 : decode cX12_put 13 = .ok (.iload_n 3, 1) := by decide +kernel
theorem dX12_put_14 : decode cX12_put 14 = .ok (.iastore, 1) := by decide +kernel
theorem dX12_put_15 : decode cX12_put 15 = .ok (.return_, 1) := by decide +kernel
theorem dX12_isLegible_0 : decode cX12_isLegible 0 = .ok (.aload_n 0, 1) := by decide +kernel
theorem dX12_isLegible_1 : decode cX12_isLegible 1 = .ok (.iload_n 1, 1) := by decide +kernel
theorem dX12_isLegible_2 : decode cX12_isLegible 2 = .ok (.iconst 5, 1) := by decide +kernel
theorem dX12_isLegible_3 : decode cX12_isLegible 3 = .ok (.invokevirtual 73, 3) := by decide +kernel
theorem cw_X12_get : CWv yX12_get cX12_get 3 (some .int) 2 := ⟨⟨⟨List.mem_of_getElem? (i := 137) (by decide +kernel), by decide +kernel⟩, ⟨List.mem_of_getElem? (i := 1812) (by decide +kernel), by decide +kernel⟩, by decide +kernel⟩, ⟨List.mem_of_getElem? (i := 1811) (by decide +kernel), by decide +kernel⟩, ⟨List.mem_of_getElem? (i := 84) (by decide +kernel), by decide +kernel⟩⟩
theorem km12_73 : inW (Cond.methodLink RX12 73 yX12_get) := ⟨List.mem_of_getElem? (i := 1809) (by decide +kernel), by decide +kernel⟩
theorem dX12_isLegible_6 : decode cX12_isLegible 6 = .ok (.bipush 99, 2) := by decide +kernel
theorem dX12_isLegible_8 : decode cX12_isLegible 8 = .ok (.if_icmp .ge 17, 3) := by decide +kernel
theorem dX12_isLegible_25 : decode cX12_isLegible 25 = .ok (.iconst 0, 1) := by decide +kernel
theorem dX12_isLegible_26 : decode cX12_isLegible 26 = .ok (.ireturn, 1) := by decide +kernel
theorem dX12_isLegible_11 : decode cX12_isLegible 11 = .ok (.aload_n 0, 1) := by decide +kernel
theorem dX12_isLegible_12 : decode cX12_isLegible 12 = .ok (.iload_n 1, 1) := by decide +kernel
theorem dX12_isLegible_13 : decode cX12_isLegible 13 = .ok (.iconst 4, 1) := by decide +kernel
theorem dX12_isLegible_14 : decode cX12_isLegible 14 = .ok (.invokevirtual 73, 3) := by decide +kernel
theorem dX12_isLegible_17 : decode cX12_isLegible 17 = .ok (.iconst 2, 1) := by decide +kernel
theorem dX12_isLegible_18 : decode cX12_isLegible 18 = .ok (.if_icmp .eq 7, 3) := by decide +kernel
theorem dX12_isLegible_21 : decode cX12_isLegible 21 = .ok (.iconst 1, 1) := by decide +kernel
theorem dX12_isLegible_22 : decode cX12_isLegible 22 = .ok (.goto 4, 3) := by decide +kernel
theorem dX12_legibleOn_0 : decode cX12_legibleOn 0 = .ok (.iconst 0, 1) := by decide +kernel
theorem dX12_legibleOn_1 : decode cX12_legibleOn 1 = .ok (.istore_n 2, 1) := by decide +kernel
theorem dX12_legibleOn_2 : decode cX12_legibleOn 2 = .ok (.iconst 0, 1) := by decide +kernel
theorem dX12_legibleOn_3 : decode cX12_legibleOn 3 = .ok (.istore_n 3, 1) := by decide +kernel
theorem dX12_legibleOn_4 : decode cX12_legibleOn 4 = .ok (.iload_n 3, 1) := by decide +kernel
theorem dX12_legibleOn_5 : decode cX12_legibleOn 5 = .ok (.aload_n 0, 1) := by decide +kernel
theorem dX12_legibleOn_6 : decode cX12_legibleOn 6 = .ok (.getfield 7, 3) := by decide +kernel
theorem dX12_legibleOn_9 : decode cX12_legibleOn 9 = .ok (.bipush 13, 2) := by decide +kernel
theorem dX12_legibleOn_11 : decode cX12_legibleOn 11 = .ok (.iaload, 1) := by decide +kernel
theorem dX12_legibleOn_12 : decode cX12_legibleOn 12 = .ok (.if_icmp .ge 37, 3) := by decide +kernel
theorem dX12_legibleOn_49 : decode cX12_legibleOn 49 = .ok (.iload_n 2, 1) := by decide +kernel
theorem dX12_legibleOn_50 : decode cX12_legibleOn 50 = .ok (.ireturn, 1) := by decide +kernel
theorem dX12_legibleOn_15 : decode cX12_legibleOn 15 = .ok (.iload_n 2, 1) := by decide +kernel
theorem dX12_legibleOn_16 : decode cX12_legibleOn 16 = .ok (.aload_n 0, 1) := by decide +kernel
theorem dX12_legibleOn_17 : decode cX12_legibleOn 17 = .ok (.iload_n 3, 1) := by decide +kernel
theorem dX12_legibleOn_18 : decode cX12_legibleOn 18 = .ok (.iconst 1, 1) := by decide +kernel
theorem dX12_legibleOn_19 : decode cX12_legibleOn 19 = .ok (.invokevirtual 73, 3) := by decide +kernel
theorem dX12_legibleOn_22 : decode cX12_legibleOn 22 = .ok (.iload_n 1, 1) := by decide +kernel
theorem dX12_legibleOn_23 : decode cX12_legibleOn 23 = .ok (.if_icmp .ne 17, 3) := by decide +kernel
theorem dX12_legibleOn_40 : decode cX12_legibleOn 40 = .ok (.iconst 0, 1) := by decide +kernel
theorem dX12_legibleOn_41 : decode cX12_legibleOn 41 = .ok (.ior, 1) := by decide +kernel
theorem dX12_legibleOn_42 : decode cX12_legibleOn 42 = .ok (.istore_n 2, 1) := by decide +kernel
theorem dX12_legibleOn_43 : decode cX12_legibleOn 43 = .ok (.iinc 3 1, 3) := by decide +kernel
theorem dX12_legibleOn_46 : decode cX12_legibleOn 46 = .ok (.goto (-42), 3) := by decide +kernel
theorem dX12_legibleOn_26 : decode cX12_legibleOn 26 = .ok (.aload_n 0, 1) := by decide +kernel
theorem dX12_legibleOn_27 : decode cX12_legibleOn 27 = .ok (.iload_n 3, 1) := by decide +kernel
theorem dX12_legibleOn_28 : decode cX12_legibleOn 28 = .ok (.invokevirtual 77, 3) := by decide +kernel
theorem cw_X12_isLegible : CWv yX12_isLegible cX12_isLegible 2 (some .boolean) 1 := ⟨⟨⟨List.mem_of_getElem? (i := 137) (by decide +kernel), by decide +kernel⟩, ⟨List.mem_of_getElem? (i := 1864) (by decide +kernel), by decide +kernel⟩, by decide +kernel⟩, ⟨List.mem_of_getElem? (i := 1863) (by decide +kernel), by decide +kernel⟩, ⟨List.mem_of_getElem? (i := 95) (by decide +kernel), by decide +kernel⟩⟩
theorem km12_77 : inW (Cond.methodLink RX12 77 yX12_isLegible) := ⟨List.mem_of_getElem? (i := 1861) (by decide +kernel), by decide +kernel⟩
theorem dX12_legibleOn_31 : decode cX12_legibleOn 31 = .ok (.ifCond .eq 9, 3) := by decide +kernel
theorem dX12_legibleOn_34 : decode cX12_legibleOn 34 = .ok (.iconst 1, 1) := by decide +kernel
theorem dX12_legibleOn_35 : decode cX12_legibleOn 35 = .ok (.iload_n 3, 1) := by decide +kernel
theorem dX12_legibleOn_36 : decode cX12_legibleOn 36 = .ok (.ishl, 1) := by decide +kernel
theorem dX12_legibleOn_37 : decode cX12_legibleOn 37 = .ok (.goto 4, 3) := by decide +kernel
theorem dX12_legible_0 : decode cX12_legible 0 = .ok (.iconst 0, 1) := by decide +kernel
theorem dX12_legible_1 : decode cX12_legible 1 = .ok (.istore_n 1, 1) := by decide +kernel
theorem dX12_legible_2 : decode cX12_legible 2 = .ok (.iconst 0, 1) := by decide +kernel
theorem dX12_legible_3 : decode cX12_legible 3 = .ok (.istore_n 2, 1) := by decide +kernel
theorem dX12_legible_4 : decode cX12_legible 4 = .ok (.iload_n 2, 1) := by decide +kernel
theorem dX12_legible_5 : decode cX12_legible 5 = .ok (.aload_n 0, 1) := by decide +kernel
theorem dX12_legible_6 : decode cX12_legible 6 = .ok (.getfield 7, 3) := by decide +kernel
theorem dX12_legible_9 : decode cX12_legible 9 = .ok (.bipush 13, 2) := by decide +kernel
theorem dX12_legible_11 : decode cX12_legible 11 = .ok (.iaload, 1) := by decide +kernel
theorem dX12_legible_12 : decode cX12_legible 12 = .ok (.if_icmp .ge 27, 3) := by decide +kernel
theorem dX12_legible_39 : decode cX12_legible 39 = .ok (.iload_n 1, 1) := by decide +kernel
theorem dX12_legible_40 : decode cX12_legible 40 = .ok (.ireturn, 1) := by decide +kernel
theorem dX12_legible_15 : decode cX12_legible 15 = .ok (.iload_n 1, 1) := by decide +kernel
theorem dX12_legible_16 : decode cX12_legible 16 = .ok (.aload_n 0, 1) := by decide +kernel
theorem dX12_legible_17 : decode cX12_legible 17 = .ok (.iload_n 2, 1) := by decide +kernel
theorem dX12_legible_18 : decode cX12_legible 18 = .ok (.invokevirtual 77, 3) := by decide +kernel
theorem dX12_legible_21 : decode cX12_legible 21 = .ok (.ifCond .eq 9, 3) := by decide +kernel
theorem dX12_legible_30 : decode cX12_legible 30 = .ok (.iconst 0, 1) := by decide +kernel
theorem dX12_legible_31 : decode cX12_legible 31 = .ok (.ior, 1) := by decide +kernel
theorem dX12_legible_32 : decode cX12_legible 32 = .ok (.istore_n 1, 1) := by decide +kernel
theorem dX12_legible_33 : decode cX12_legible 33 = .ok (.iinc 2 1, 3) := by decide +kernel
theorem dX12_legible_36 : decode cX12_legible 36 = .ok (.goto (-32), 3) := by decide +kernel
theorem dX12_legible_24 : decode cX12_legible 24 = .ok (.iconst 1, 1) := by decide +kernel
theorem dX12_legible_25 : decode cX12_legible 25 = .ok (.iload_n 2, 1) := by decide +kernel
theorem dX12_legible_26 : decode cX12_legible 26 = .ok (.ishl, 1) := by decide +kernel
theorem dX12_legible_27 : decode cX12_legible 27 = .ok (.goto 4, 3) := by decide +kernel
theorem dX12_toughOf_0 : decode cX12_toughOf 0 = .ok (.aload_n 0, 1) := by decide +kernel
theorem dX12_toughOf_1 : decode cX12_toughOf 1 = .ok (.getfield 7, 3) := by decide +kernel
theorem dX12_toughOf_4 : decode cX12_toughOf 4 = .ok (.bipush 114, 2) := by decide +kernel
theorem dX12_toughOf_6 : decode cX12_toughOf 6 = .ok (.iconst 2, 1) := by decide +kernel
theorem dX12_toughOf_7 : decode cX12_toughOf 7 = .ok (.iload_n 1, 1) := by decide +kernel
theorem dX12_toughOf_8 : decode cX12_toughOf 8 = .ok (.imul, 1) := by decide +kernel
theorem dX12_toughOf_9 : decode cX12_toughOf 9 = .ok (.iadd, 1) := by decide +kernel
theorem dX12_toughOf_10 : decode cX12_toughOf 10 = .ok (.iaload, 1) := by decide +kernel
theorem dX12_toughOf_11 : decode cX12_toughOf 11 = .ok (.ireturn, 1) := by decide +kernel
theorem dX12_isLink_0 : decode cX12_isLink 0 = .ok (.aload_n 0, 1) := by decide +kernel
theorem dX12_isLink_1 : decode cX12_isLink 1 = .ok (.iload_n 1, 1) := by decide +kernel
theorem dX12_isLink_2 : decode cX12_isLink 2 = .ok (.iconst 2, 1) := by decide +kernel
theorem dX12_isLink_3 : decode cX12_isLink 3 = .ok (.invokevirtual 73, 3) := by decide +kernel
theorem dX12_isLink_6 : decode cX12_isLink 6 = .ok (.iconst 1, 1) := by decide +kernel
theorem dX12_isLink_7 : decode cX12_isLink 7 = .ok (.if_icmp .ne 24, 3) := by decide +kernel
theorem dX12_isLink_31 : decode cX12_isLink 31 = .ok (.iconst 0, 1) := by decide +kernel
theorem dX12_isLink_32 : decode cX12_isLink 32 = .ok (.ireturn, 1) := by decide +kernel
theorem dX12_isLink_10 : decode cX12_isLink 10 = .ok (.aload_n 0, 1) := by decide +kernel
theorem dX12_isLink_11 : decode cX12_isLink 11 = .ok (.iload_n 1, 1) := by decide +kernel
theorem dX12_isLink_12 : decode cX12_isLink 12 = .ok (.iconst 4, 1) := by decide +kernel
theorem dX12_isLink_13 : decode cX12_isLink 13 = .ok (.invokevirtual 73, 3) := by decide +kernel
theorem dX12_isLink_16 : decode cX12_isLink 16 = .ok (.ifCond .ne 15, 3) := by decide +kernel
theorem dX12_isLink_19 : decode cX12_isLink 19 = .ok (.aload_n 0, 1) := by decide +kernel
theorem dX12_isLink_20 : decode cX12_isLink 20 = .ok (.iload_n 1, 1) := by decide +kernel
theorem dX12_isLink_21 : decode cX12_isLink 21 = .ok (.invokevirtual 77, 3) := by decide +kernel
theorem dX12_isLink_24 : decode cX12_isLink 24 = .ok (.ifCond .eq 7, 3) := by decide +kernel
theorem dX12_isLink_27 : decode cX12_isLink 27 = .ok (.iconst 1, 1) := by decide +kernel
theorem dX12_isLink_28 : decode cX12_isLink 28 = .ok (.goto 4, 3) := by decide +kernel
theorem dX12_anew_0 : decode cX12_anew 0 = .ok (.aload_n 0, 1) := by decide +kernel
theorem dX12_anew_1 : decode cX12_anew 1 = .ok (.getfield 7, 3) := by decide +kernel
theorem dX12_anew_4 : decode cX12_anew 4 = .ok (.bipush 12, 2) := by decide +kernel
theorem dX12_anew_6 : decode cX12_anew 6 = .ok (.aload_n 0, 1) := by decide +kernel
theorem dX12_anew_7 : decode cX12_anew 7 = .ok (.getfield 7, 3) := by decide +kernel
theorem dX12_anew_10 : decode cX12_anew 10 = .ok (.bipush 12, 2) := by decide +kernel
theorem dX12_anew_12 : decode cX12_anew 12 = .ok (.iaload, 1) := by decide +kernel
theorem dX12_anew_13 : decode cX12_anew 13 = .ok (.i2l, 1) := by decide +kernel
theorem dX12_anew_14 : decode cX12_anew 14 = .ok (.ldc2_w 311, 3) := by decide +kernel
theorem kl12_311 : inW (Cond.constantLong RX12 311 (367)) := ⟨List.mem_of_getElem? (i := 1929) (by decide +kernel), by decide +kernel⟩
theorem dX12_anew_17 : decode cX12_anew 17 = .ok (.lmul, 1) := by decide +kernel
theorem dX12_anew_18 : decode cX12_anew 18 = .ok (.ldc2_w 313, 3) := by decide +kernel
theorem kl12_313 : inW (Cond.constantLong RX12 313 (241)) := ⟨List.mem_of_getElem? (i := 1930) (by decide +kernel), by decide +kernel⟩
theorem dX12_anew_21 : decode cX12_anew 21 = .ok (.ladd, 1) := by decide +kernel
theorem dX12_anew_22 : decode cX12_anew 22 = .ok (.ldc2_w 315, 3) := by decide +kernel
theorem kl12_315 : inW (Cond.constantLong RX12 315 (30449)) := ⟨List.mem_of_getElem? (i := 1931) (by decide +kernel), by decide +kernel⟩
theorem dX12_anew_25 : decode cX12_anew 25 = .ok (.lrem, 1) := by decide +kernel
theorem dX12_anew_26 : decode cX12_anew 26 = .ok (.l2i, 1) := by decide +kernel
theorem dX12_anew_27 : decode cX12_anew 27 = .ok (.iastore, 1) := by decide +kernel
theorem dX12_anew_28 : decode cX12_anew 28 = .ok (.return_, 1) := by decide +kernel
theorem dX12_netOf_0 : decode cX12_netOf 0 = .ok (.iconst 0, 1) := by decide +kernel
theorem dX12_netOf_1 : decode cX12_netOf 1 = .ok (.istore_n 2, 1) := by decide +kernel
theorem dX12_netOf_2 : decode cX12_netOf 2 = .ok (.iconst 0, 1) := by decide +kernel
theorem dX12_netOf_3 : decode cX12_netOf 3 = .ok (.istore_n 3, 1) := by decide +kernel
theorem dX12_netOf_4 : decode cX12_netOf 4 = .ok (.iload_n 3, 1) := by decide +kernel
theorem dX12_netOf_5 : decode cX12_netOf 5 = .ok (.aload_n 0, 1) := by decide +kernel
theorem dX12_netOf_6 : decode cX12_netOf 6 = .ok (.getfield 7, 3) := by decide +kernel
theorem dX12_netOf_9 : decode cX12_netOf 9 = .ok (.bipush 13, 2) := by decide +kernel
theorem dX12_netOf_11 : decode cX12_netOf 11 = .ok (.iaload, 1) := by decide +kernel
theorem dX12_netOf_12 : decode cX12_netOf 12 = .ok (.if_icmp .ge 76, 3) := by decide +kernel
theorem dX12_netOf_88 : decode cX12_netOf 88 = .ok (.iload_n 2, 1) := by decide +kernel
theorem dX12_netOf_89 : decode cX12_netOf 89 = .ok (.ireturn, 1) := by decide +kernel
theorem dX12_netOf_15 : decode cX12_netOf 15 = .ok (.aload_n 0, 1) := by decide +kernel
theorem dX12_netOf_16 : decode cX12_netOf 16 = .ok (.iload_n 3, 1) := by decide +kernel
theorem dX12_netOf_17 : decode cX12_netOf 17 = .ok (.iconst 2, 1) := by decide +kernel
theorem dX12_netOf_18 : decode cX12_netOf 18 = .ok (.invokevirtual 73, 3) := by decide +kernel
theorem dX12_netOf_21 : decode cX12_netOf 21 = .ok (.ifCond .eq 61, 3) := by decide +kernel
theorem dX12_netOf_82 : decode cX12_netOf 82 = .ok (.iinc 3 1, 3) := by decide +kernel
theorem dX12_netOf_85 : decode cX12_netOf 85 = .ok (.goto (-81), 3) := by decide +kernel
theorem dX12_netOf_24 : decode cX12_netOf 24 = .ok (.aload_n 0, 1) := by decide +kernel
theorem dX12_netOf_25 : decode cX12_netOf 25 = .ok (.iload_n 3, 1) := by decide +kernel
theorem dX12_netOf_26 : decode cX12_netOf 26 = .ok (.iconst 4, 1) := by decide +kernel
theorem dX12_netOf_27 : decode cX12_netOf 27 = .ok (.invokevirtual 73, 3) := by decide +kernel
theorem dX12_netOf_30 : decode cX12_netOf 30 = .ok (.ifCond .eq 6, 3) := by decide +kernel
theorem dX12_netOf_36 : decode cX12_netOf 36 = .ok (.iload_n 2, 1) := by decide +kernel
theorem dX12_netOf_37 : decode cX12_netOf 37 = .ok (.aload_n 0, 1) := by decide +kernel
theorem dX12_netOf_38 : decode cX12_netOf 38 = .ok (.iload_n 3, 1) := by decide +kernel
theorem dX12_netOf_39 : decode cX12_netOf 39 = .ok (.iconst 1, 1) := by decide +kernel
theorem dX12_netOf_40 : decode cX12_netOf 40 = .ok (.invokevirtual 73, 3) := by decide +kernel
theorem dX12_netOf_43 : decode cX12_netOf 43 = .ok (.iload_n 1, 1) := by decide +kernel
theorem dX12_netOf_44 : decode cX12_netOf 44 = .ok (.if_icmp .ne 12, 3) := by decide +kernel
theorem dX12_netOf_56 : decode cX12_netOf 56 = .ok (.iconst 0, 1) := by decide +kernel
theorem dX12_netOf_57 : decode cX12_netOf 57 = .ok (.iadd, 1) := by decide +kernel
theorem dX12_netOf_58 : decode cX12_netOf 58 = .ok (.istore_n 2, 1) := by decide +kernel
theorem dX12_netOf_59 : decode cX12_netOf 59 = .ok (.iload_n 2, 1) := by decide +kernel
theorem dX12_netOf_60 : decode cX12_netOf 60 = .ok (.aload_n 0, 1) := by decide +kernel
theorem dX12_netOf_61 : decode cX12_netOf 61 = .ok (.iload_n 3, 1) := by decide +kernel
theorem dX12_netOf_62 : decode cX12_netOf 62 = .ok (.iconst 0, 1) := by decide +kernel
theorem dX12_netOf_63 : decode cX12_netOf 63 = .ok (.invokevirtual 73, 3) := by decide +kernel
theorem dX12_netOf_66 : decode cX12_netOf 66 = .ok (.iload_n 1, 1) := by decide +kernel
theorem dX12_netOf_67 : decode cX12_netOf 67 = .ok (.if_icmp .ne 12, 3) := by decide +kernel
theorem dX12_netOf_79 : decode cX12_netOf 79 = .ok (.iconst 0, 1) := by decide +kernel
theorem dX12_netOf_80 : decode cX12_netOf 80 = .ok (.isub, 1) := by decide +kernel
theorem dX12_netOf_81 : decode cX12_netOf 81 = .ok (.istore_n 2, 1) := by decide +kernel
theorem dX12_netOf_70 : decode cX12_netOf 70 = .ok (.aload_n 0, 1) := by decide +kernel
theorem dX12_netOf_71 : decode cX12_netOf 71 = .ok (.iload_n 3, 1) := by decide +kernel
theorem dX12_netOf_72 : decode cX12_netOf 72 = .ok (.iconst 3, 1) := by decide +kernel
theorem dX12_netOf_73 : decode cX12_netOf 73 = .ok (.invokevirtual 73, 3) := by decide +kernel
theorem dX12_netOf_76 : decode cX12_netOf 76 = .ok (.goto 4, 3) := by decide +kernel
theorem dX12_netOf_47 : decode cX12_netOf 47 = .ok (.aload_n 0, 1) := by decide +kernel
theorem dX12_netOf_48 : decode cX12_netOf 48 = .ok (.iload_n 3, 1) := by decide +kernel
theorem dX12_netOf_49 : decode cX12_netOf 49 = .ok (.iconst 3, 1) := by decide +kernel
theorem dX12_netOf_50 : decode cX12_netOf 50 = .ok (.invokevirtual 73, 3) := by decide +kernel
theorem dX12_netOf_53 : decode cX12_netOf 53 = .ok (.goto 4, 3) := by decide +kernel
theorem dX12_netOf_33 : decode cX12_netOf 33 = .ok (.goto 49, 3) := by decide +kernel
theorem dX12_keptOnes_0 : decode cX12_keptOnes 0 = .ok (.iconst 0, 1) := by decide +kernel
theorem dX12_keptOnes_1 : decode cX12_keptOnes 1 = .ok (.istore_n 1, 1) := by decide +kernel
theorem dX12_keptOnes_2 : decode cX12_keptOnes 2 = .ok (.iconst 0, 1) := by decide +kernel
theorem dX12_keptOnes_3 : decode cX12_keptOnes 3 = .ok (.istore_n 2, 1) := by decide +kernel
theorem dX12_keptOnes_4 : decode cX12_keptOnes 4 = .ok (.iload_n 2, 1) := by decide +kernel
theorem dX12_keptOnes_5 : decode cX12_keptOnes 5 = .ok (.aload_n 0, 1) := by decide +kernel
theorem dX12_keptOnes_6 : decode cX12_keptOnes 6 = .ok (.getfield 7, 3) := by decide +kernel
theorem dX12_keptOnes_9 : decode cX12_keptOnes 9 = .ok (.bipush 13, 2) := by decide +kernel
theorem dX12_keptOnes_11 : decode cX12_keptOnes 11 = .ok (.iaload, 1) := by decide +kernel
theorem dX12_keptOnes_12 : decode cX12_keptOnes 12 = .ok (.if_icmp .ge 28, 3) := by decide +kernel
theorem dX12_keptOnes_40 : decode cX12_keptOnes 40 = .ok (.iload_n 1, 1) := by decide +kernel
theorem dX12_keptOnes_41 : decode cX12_keptOnes 41 = .ok (.ireturn, 1) := by decide +kernel
theorem dX12_keptOnes_15 : decode cX12_keptOnes 15 = .ok (.iload_n 1, 1) := by decide +kernel
theorem dX12_keptOnes_16 : decode cX12_keptOnes 16 = .ok (.aload_n 0, 1) := by decide +kernel
theorem dX12_keptOnes_17 : decode cX12_keptOnes 17 = .ok (.iload_n 2, 1) := by decide +kernel
theorem dX12_keptOnes_18 : decode cX12_keptOnes 18 = .ok (.iconst 4, 1) := by decide +kernel
theorem dX12_keptOnes_19 : decode cX12_keptOnes 19 = .ok (.invokevirtual 73, 3) := by decide +kernel
theorem dX12_keptOnes_22 : decode cX12_keptOnes 22 = .ok (.ifCond .ne 9, 3) := by decide +kernel
theorem dX12_keptOnes_31 : decode cX12_keptOnes 31 = .ok (.iconst 0, 1) := by decide +kernel
theorem dX12_keptOnes_32 : decode cX12_keptOnes 32 = .ok (.ior, 1) := by decide +kernel
theorem dX12_keptOnes_33 : decode cX12_keptOnes 33 = .ok (.istore_n 1, 1) := by decide +kernel
theorem dX12_keptOnes_34 : decode cX12_keptOnes 34 = .ok (.iinc 2 1, 3) := by decide +kernel
theorem dX12_keptOnes_37 : decode cX12_keptOnes 37 = .ok (.goto (-33), 3) := by decide +kernel
theorem dX12_keptOnes_25 : decode cX12_keptOnes 25 = .ok (.iconst 1, 1) := by decide +kernel
theorem dX12_keptOnes_26 : decode cX12_keptOnes 26 = .ok (.iload_n 2, 1) := by decide +kernel
theorem dX12_keptOnes_27 : decode cX12_keptOnes 27 = .ok (.ishl, 1) := by decide +kernel
theorem dX12_keptOnes_28 : decode cX12_keptOnes 28 = .ok (.goto 4, 3) := by decide +kernel
theorem dX12_ownOf_0 : decode cX12_ownOf 0 = .ok (.iconst 0, 1) := by decide +kernel
theorem dX12_ownOf_1 : decode cX12_ownOf 1 = .ok (.istore_n 2, 1) := by decide +kernel
theorem dX12_ownOf_2 : decode cX12_ownOf 2 = .ok (.iconst 0, 1) := by decide +kernel
theorem dX12_ownOf_3 : decode cX12_ownOf 3 = .ok (.istore_n 3, 1) := by decide +kernel
theorem dX12_ownOf_4 : decode cX12_ownOf 4 = .ok (.iload_n 3, 1) := by decide +kernel
theorem dX12_ownOf_5 : decode cX12_ownOf 5 = .ok (.aload_n 0, 1) := by decide +kernel
theorem dX12_ownOf_6 : decode cX12_ownOf 6 = .ok (.getfield 7, 3) := by decide +kernel
theorem dX12_ownOf_9 : decode cX12_ownOf 9 = .ok (.bipush 13, 2) := by decide +kernel
theorem dX12_ownOf_11 : decode cX12_ownOf 11 = .ok (.iaload, 1) := by decide +kernel
theorem dX12_ownOf_12 : decode cX12_ownOf 12 = .ok (.if_icmp .ge 47, 3) := by decide +kernel
theorem dX12_ownOf_59 : decode cX12_ownOf 59 = .ok (.iload_n 2, 1) := by decide +kernel
theorem dX12_ownOf_60 : decode cX12_ownOf 60 = .ok (.ireturn, 1) := by decide +kernel
theorem dX12_ownOf_15 : decode cX12_ownOf 15 = .ok (.iload_n 2, 1) := by decide +kernel
theorem dX12_ownOf_16 : decode cX12_ownOf 16 = .ok (.aload_n 0, 1) := by decide +kernel
theorem dX12_ownOf_17 : decode cX12_ownOf 17 = .ok (.iload_n 3, 1) := by decide +kernel
theorem dX12_ownOf_18 : decode cX12_ownOf 18 = .ok (.iconst 0, 1) := by decide +kernel
theorem dX12_ownOf_19 : decode cX12_ownOf 19 = .ok (.invokevirtual 73, 3) := by decide +kernel
theorem dX12_ownOf_22 : decode cX12_ownOf 22 = .ok (.iload_n 1, 1) := by decide +kernel
theorem dX12_ownOf_23 : decode cX12_ownOf 23 = .ok (.if_icmp .eq 13, 3) := by decide +kernel
theorem dX12_ownOf_36 : decode cX12_ownOf 36 = .ok (.aload_n 0, 1) := by decide +kernel
theorem dX12_ownOf_37 : decode cX12_ownOf 37 = .ok (.iload_n 3, 1) := by decide +kernel
theorem dX12_ownOf_38 : decode cX12_ownOf 38 = .ok (.invokevirtual 77, 3) := by decide +kernel
theorem dX12_ownOf_41 : decode cX12_ownOf 41 = .ok (.ifCond .eq 9, 3) := by decide +kernel
theorem dX12_ownOf_50 : decode cX12_ownOf 50 = .ok (.iconst 0, 1) := by decide +kernel
theorem dX12_ownOf_51 : decode cX12_ownOf 51 = .ok (.ior, 1) := by decide +kernel
theorem dX12_ownOf_52 : decode cX12_ownOf 52 = .ok (.istore_n 2, 1) := by decide +kernel
theorem dX12_ownOf_53 : decode cX12_ownOf 53 = .ok (.iinc 3 1, 3) := by decide +kernel
theorem dX12_ownOf_56 : decode cX12_ownOf 56 = .ok (.goto (-52), 3) := by decide +kernel
theorem dX12_ownOf_44 : decode cX12_ownOf 44 = .ok (.iconst 1, 1) := by decide +kernel
theorem dX12_ownOf_45 : decode cX12_ownOf 45 = .ok (.iload_n 3, 1) := by decide +kernel
theorem dX12_ownOf_46 : decode cX12_ownOf 46 = .ok (.ishl, 1) := by decide +kernel
theorem dX12_ownOf_47 : decode cX12_ownOf 47 = .ok (.goto 4, 3) := by decide +kernel
theorem dX12_ownOf_26 : decode cX12_ownOf 26 = .ok (.aload_n 0, 1) := by decide +kernel
theorem dX12_ownOf_27 : decode cX12_ownOf 27 = .ok (.iload_n 3, 1) := by decide +kernel
theorem dX12_ownOf_28 : decode cX12_ownOf 28 = .ok (.iconst 1, 1) := by decide +kernel
theorem dX12_ownOf_29 : decode cX12_ownOf 29 = .ok (.invokevirtual 73, 3) := by decide +kernel
theorem dX12_ownOf_32 : decode cX12_ownOf 32 = .ok (.iload_n 1, 1) := by decide +kernel
theorem dX12_ownOf_33 : decode cX12_ownOf 33 = .ok (.if_icmp .ne 17, 3) := by decide +kernel
theorem dX12_knownBy_0 : decode cX12_knownBy 0 = .ok (.aload_n 0, 1) := by decide +kernel
theorem dX12_knownBy_1 : decode cX12_knownBy 1 = .ok (.iload_n 1, 1) := by decide +kernel
theorem dX12_knownBy_2 : decode cX12_knownBy 2 = .ok (.invokevirtual 434, 3) := by decide +kernel
theorem cw_X12_ownOf : CWv yX12_ownOf cX12_ownOf 4 (some .int) 1 := ⟨⟨⟨List.mem_of_getElem? (i := 137) (by decide +kernel), by decide +kernel⟩, ⟨List.mem_of_getElem? (i := 2118) (by decide +kernel), by decide +kernel⟩, by decide +kernel⟩, ⟨List.mem_of_getElem? (i := 2117) (by decide +kernel), by decide +kernel⟩, ⟨List.mem_of_getElem? (i := 120) (by decide +kernel), by decide +kernel⟩⟩
theorem km12_434 : inW (Cond.methodLink RX12 434 yX12_ownOf) := ⟨List.mem_of_getElem? (i := 2115) (by decide +kernel), by decide +kernel⟩
theorem dX12_knownBy_5 : decode cX12_knownBy 5 = .ok (.istore_n 2, 1) := by decide +kernel
theorem dX12_knownBy_6 : decode cX12_knownBy 6 = .ok (.iconst 0, 1) := by decide +kernel
theorem dX12_knownBy_7 : decode cX12_knownBy 7 = .ok (.istore_n 3, 1) := by decide +kernel
theorem dX12_knownBy_8 : decode cX12_knownBy 8 = .ok (.iload_n 3, 1) := by decide +kernel
theorem dX12_knownBy_9 : decode cX12_knownBy 9 = .ok (.aload_n 0, 1) := by decide +kernel
theorem dX12_knownBy_10 : decode cX12_knownBy 10 = .ok (.getfield 7, 3) := by decide +kernel
theorem dX12_knownBy_13 : decode cX12_knownBy 13 = .ok (.bipush 7, 2) := by decide +kernel
theorem dX12_knownBy_15 : decode cX12_knownBy 15 = .ok (.iaload, 1) := by decide +kernel
theorem dX12_knownBy_16 : decode cX12_knownBy 16 = .ok (.if_icmp .ge 46, 3) := by decide +kernel
theorem dX12_knownBy_62 : decode cX12_knownBy 62 = .ok (.iload_n 2, 1) := by decide +kernel
theorem dX12_knownBy_63 : decode cX12_knownBy 63 = .ok (.ireturn, 1) := by decide +kernel
theorem dX12_knownBy_19 : decode cX12_knownBy 19 = .ok (.aload_n 0, 1) := by decide +kernel
theorem dX12_knownBy_20 : decode cX12_knownBy 20 = .ok (.getfield 7, 3) := by decide +kernel
theorem dX12_knownBy_23 : decode cX12_knownBy 23 = .ok (.sipush 176, 3) := by decide +kernel
theorem dX12_knownBy_26 : decode cX12_knownBy 26 = .ok (.iconst 2, 1) := by decide +kernel
theorem dX12_knownBy_27 : decode cX12_knownBy 27 = .ok (.iload_n 3, 1) := by decide +kernel
theorem dX12_knownBy_28 : decode cX12_knownBy 28 = .ok (.imul, 1) := by decide +kernel
theorem dX12_knownBy_29 : decode cX12_knownBy 29 = .ok (.iadd, 1) := by decide +kernel
theorem dX12_knownBy_30 : decode cX12_knownBy 30 = .ok (.iaload, 1) := by decide +kernel
theorem dX12_knownBy_31 : decode cX12_knownBy 31 = .ok (.iload_n 1, 1) := by decide +kernel
theorem dX12_knownBy_32 : decode cX12_knownBy 32 = .ok (.if_icmp .ne 24, 3) := by decide +kernel
theorem dX12_knownBy_56 : decode cX12_knownBy 56 = .ok (.iinc 3 1, 3) := by decide +kernel
theorem dX12_knownBy_59 : decode cX12_knownBy 59 = .ok (.goto (-51), 3) := by decide +kernel
theorem dX12_knownBy_35 : decode cX12_knownBy 35 = .ok (.iload_n 2, 1) := by decide +kernel
theorem dX12_knownBy_36 : decode cX12_knownBy 36 = .ok (.aload_n 0, 1) := by decide +kernel
theorem dX12_knownBy_37 : decode cX12_knownBy 37 = .ok (.aload_n 0, 1) := by decide +kernel
theorem dX12_knownBy_38 : decode cX12_knownBy 38 = .ok (.getfield 7, 3) := by decide +kernel
theorem dX12_knownBy_41 : decode cX12_knownBy 41 = .ok (.sipush 176, 3) := by decide +kernel
theorem dX12_knownBy_44 : decode cX12_knownBy 44 = .ok (.iconst 2, 1) := by decide +kernel
theorem dX12_knownBy_45 : decode cX12_knownBy 45 = .ok (.iload_n 3, 1) := by decide +kernel
theorem dX12_knownBy_46 : decode cX12_knownBy 46 = .ok (.imul, 1) := by decide +kernel
theorem dX12_knownBy_47 : decode cX12_knownBy 47 = .ok (.iadd, 1) := by decide +kernel
theorem dX12_knownBy_48 : decode cX12_knownBy 48 = .ok (.iconst 1, 1) := by decide +kernel
theorem dX12_knownBy_49 : decode cX12_knownBy 49 = .ok (.iadd, 1) := by decide +kernel
theorem dX12_knownBy_50 : decode cX12_knownBy 50 = .ok (.iaload, 1) := by decide +kernel
theorem dX12_knownBy_51 : decode cX12_knownBy 51 = .ok (.invokevirtual 265, 3) := by decide +kernel
theorem cw_X12_legibleOn : CWv yX12_legibleOn cX12_legibleOn 4 (some .int) 1 := ⟨⟨⟨List.mem_of_getElem? (i := 137) (by decide +kernel), by decide +kernel⟩, ⟨List.mem_of_getElem? (i := 1860) (by decide +kernel), by decide +kernel⟩, by decide +kernel⟩, ⟨List.mem_of_getElem? (i := 1859) (by decide +kernel), by decide +kernel⟩, ⟨List.mem_of_getElem? (i := 94) (by decide +kernel), by decide +kernel⟩⟩
theorem km12_265 : inW (Cond.methodLink RX12 265 yX12_legibleOn) := ⟨List.mem_of_getElem? (i := 1857) (by decide +kernel), by decide +kernel⟩
theorem dX12_knownBy_54 : decode cX12_knownBy 54 = .ok (.ior, 1) := by decide +kernel
theorem dX12_knownBy_55 : decode cX12_knownBy 55 = .ok (.istore_n 2, 1) := by decide +kernel
theorem dX12_workOf_0 : decode cX12_workOf 0 = .ok (.iconst 0, 1) := by decide +kernel
theorem dX12_workOf_1 : decode cX12_workOf 1 = .ok (.istore_n 2, 1) := by decide +kernel
theorem dX12_workOf_2 : decode cX12_workOf 2 = .ok (.iconst 0, 1) := by decide +kernel
theorem dX12_workOf_3 : decode cX12_workOf 3 = .ok (.istore_n 3, 1) := by decide +kernel
theorem dX12_workOf_4 : decode cX12_workOf 4 = .ok (.iload_n 3, 1) := by decide +kernel
theorem dX12_workOf_5 : decode cX12_workOf 5 = .ok (.aload_n 0, 1) := by decide +kernel
theorem dX12_workOf_6 : decode cX12_workOf 6 = .ok (.getfield 7, 3) := by decide +kernel
theorem dX12_workOf_9 : decode cX12_workOf 9 = .ok (.bipush 6, 2) := by decide +kernel
theorem dX12_workOf_11 : decode cX12_workOf 11 = .ok (.iaload, 1) := by decide +kernel
theorem dX12_workOf_12 : decode cX12_workOf 12 = .ok (.if_icmp .ge 36, 3) := by decide +kernel
theorem dX12_workOf_48 : decode cX12_workOf 48 = .ok (.iload_n 2, 1) := by decide +kernel
theorem dX12_workOf_49 : decode cX12_workOf 49 = .ok (.ireturn, 1) := by decide +kernel
theorem dX12_workOf_15 : decode cX12_workOf 15 = .ok (.iload_n 2, 1) := by decide +kernel
theorem dX12_workOf_16 : decode cX12_workOf 16 = .ok (.iload_n 1, 1) := by decide +kernel
theorem dX12_workOf_17 : decode cX12_workOf 17 = .ok (.iload_n 3, 1) := by decide +kernel
theorem dX12_workOf_18 : decode cX12_workOf 18 = .ok (.invokestatic 244, 3) := by decide +kernel
theorem cw_X12_has : CWs yX12_has cX12_has 2 (some .boolean) 2 := ⟨⟨⟨List.mem_of_getElem? (i := 137) (by decide +kernel), by decide +kernel⟩, ⟨List.mem_of_getElem? (i := 1673) (by decide +kernel), by decide +kernel⟩, by decide +kernel⟩, ⟨List.mem_of_getElem? (i := 1672) (by decide +kernel), by decide +kernel⟩⟩
theorem km12_244 : inW (Cond.methodLink RX12 244 yX12_has) := ⟨List.mem_of_getElem? (i := 1671) (by decide +kernel), by decide +kernel⟩
theorem dX12_workOf_21 : decode cX12_workOf 21 = .ok (.ifCond .eq 18, 3) := by decide +kernel
theorem dX12_workOf_39 : decode cX12_workOf 39 = .ok (.iconst 0, 1) := by decide +kernel
theorem dX12_workOf_40 : decode cX12_workOf 40 = .ok (.iadd, 1) := by decide +kernel
theorem dX12_workOf_41 : decode cX12_workOf 41 = .ok (.istore_n 2, 1) := by decide +kernel
theorem dX12_workOf_42 : decode cX12_workOf 42 = .ok (.iinc 3 1, 3) := by decide +kernel
theorem dX12_workOf_45 : decode cX12_workOf 45 = .ok (.goto (-41), 3) := by decide +kernel
theorem dX12_workOf_24 : decode cX12_workOf 24 = .ok (.aload_n 0, 1) := by decide +kernel
theorem dX12_workOf_25 : decode cX12_workOf 25 = .ok (.getfield 7, 3) := by decide +kernel
theorem dX12_workOf_28 : decode cX12_workOf 28 = .ok (.sipush 160, 3) := by decide +kernel
theorem dX12_workOf_31 : decode cX12_workOf 31 = .ok (.iconst 2, 1) := by decide +kernel
theorem dX12_workOf_32 : decode cX12_workOf 32 = .ok (.iload_n 3, 1) := by decide +kernel
theorem dX12_workOf_33 : decode cX12_workOf 33 = .ok (.imul, 1) := by decide +kernel
theorem dX12_workOf_34 : decode cX12_workOf 34 = .ok (.iadd, 1) := by decide +kernel
theorem dX12_workOf_35 : decode cX12_workOf 35 = .ok (.iaload, 1) := by decide +kernel
theorem dX12_workOf_36 : decode cX12_workOf 36 = .ok (.goto 4, 3) := by decide +kernel
theorem dX12_isInTime_0 : decode cX12_isInTime 0 = .ok (.iconst 0, 1) := by decide +kernel
theorem dX12_isInTime_1 : decode cX12_isInTime 1 = .ok (.istore_n 2, 1) := by decide +kernel
theorem dX12_isInTime_2 : decode cX12_isInTime 2 = .ok (.iload_n 2, 1) := by decide +kernel
theorem dX12_isInTime_3 : decode cX12_isInTime 3 = .ok (.aload_n 0, 1) := by decide +kernel
theorem dX12_isInTime_4 : decode cX12_isInTime 4 = .ok (.getfield 7, 3) := by decide +kernel
theorem dX12_isInTime_7 : decode cX12_isInTime 7 = .ok (.bipush 6, 2) := by decide +kernel
theorem dX12_isInTime_9 : decode cX12_isInTime 9 = .ok (.iaload, 1) := by decide +kernel
theorem dX12_isInTime_10 : decode cX12_isInTime 10 = .ok (.if_icmp .ge 117, 3) := by decide +kernel
theorem dX12_isInTime_127 : decode cX12_isInTime 127 = .ok (.iconst 1, 1) := by decide +kernel
theorem dX12_isInTime_128 : decode cX12_isInTime 128 = .ok (.ireturn, 1) := by decide +kernel
theorem dX12_isInTime_13 : decode cX12_isInTime 13 = .ok (.iload_n 1, 1) := by decide +kernel
theorem dX12_isInTime_14 : decode cX12_isInTime 14 = .ok (.iload_n 2, 1) := by decide +kernel
theorem dX12_isInTime_15 : decode cX12_isInTime 15 = .ok (.invokestatic 244, 3) := by decide +kernel
theorem dX12_isInTime_18 : decode cX12_isInTime 18 = .ok (.ifCond .ne 6, 3) := by decide +kernel
theorem dX12_isInTime_24 : decode cX12_isInTime 24 = .ok (.aload_n 0, 1) := by decide +kernel
theorem dX12_isInTime_25 : decode cX12_isInTime 25 = .ok (.getfield 7, 3) := by decide +kernel
theorem dX12_isInTime_28 : decode cX12_isInTime 28 = .ok (.sipush 160, 3) := by decide +kernel
theorem dX12_isInTime_31 : decode cX12_isInTime 31 = .ok (.iconst 2, 1) := by decide +kernel
theorem dX12_isInTime_32 : decode cX12_isInTime 32 = .ok (.iload_n 2, 1) := by decide +kernel
theorem dX12_isInTime_33 : decode cX12_isInTime 33 = .ok (.imul, 1) := by decide +kernel
theorem dX12_isInTime_34 : decode cX12_isInTime 34 = .ok (.iadd, 1) := by decide +kernel
theorem dX12_isInTime_35 : decode cX12_isInTime 35 = .ok (.iconst 1, 1) := by decide +kernel
theorem dX12_isInTime_36 : decode cX12_isInTime 36 = .ok (.iadd, 1) := by decide +kernel
theorem dX12_isInTime_37 : decode cX12_isInTime 37 = .ok (.iaload, 1) := by decide +kernel
theorem dX12_isInTime_38 : decode cX12_isInTime 38 = .ok (.istore_n 3, 1) := by decide +kernel
theorem dX12_isInTime_39 : decode cX12_isInTime 39 = .ok (.iconst 0, 1) := by decide +kernel
theorem dX12_isInTime_40 : decode cX12_isInTime 40 = .ok (.istore 4, 2) := by decide +kernel
theorem dX12_isInTime_42 : decode cX12_isInTime 42 = .ok (.iconst 0, 1) := by decide +kernel
theorem dX12_isInTime_43 : decode cX12_isInTime 43 = .ok (.istore 5, 2) := by decide +kernel
theorem dX12_isInTime_21 : decode cX12_isInTime 21 = .ok (.goto 100, 3) := by decide +kernel
theorem dX12_isInTime_121 : decode cX12_isInTime 121 = .ok (.iinc 2 1, 3) := by decide +kernel
theorem dX12_isInTime_124 : decode cX12_isInTime 124 = .ok (.goto (-122), 3) := by decide +kernel
theorem dX12_isInTime_45 : decode cX12_isInTime 45 = .ok (.iload 5, 2) := by decide +kernel
theorem dX12_isInTime_47 : decode cX12_isInTime 47 = .ok (.aload_n 0, 1) := by decide +kernel
theorem dX12_isInTime_48 : decode cX12_isInTime 48 = .ok (.getfield 7, 3) := by decide +kernel
theorem dX12_isInTime_51 : decode cX12_isInTime 51 = .ok (.bipush 6, 2) := by decide +kernel
theorem dX12_isInTime_53 : decode cX12_isInTime 53 = .ok (.iaload, 1) := by decide +kernel
theorem dX12_isInTime_54 : decode cX12_isInTime 54 = .ok (.if_icmp .ge 59, 3) := by decide +kernel
theorem dX12_isInTime_113 : decode cX12_isInTime 113 = .ok (.iload 4, 2) := by decide +kernel
theorem dX12_isInTime_115 : decode cX12_isInTime 115 = .ok (.iload_n 3, 1) := by decide +kernel
theorem dX12_isInTime_116 : decode cX12_isInTime 116 = .ok (.if_icmp .le 5, 3) := by decide +kernel
theorem dX12_isInTime_119 : decode cX12_isInTime 119 = .ok (.iconst 0, 1) := by decide +kernel
theorem dX12_isInTime_120 : decode cX12_isInTime 120 = .ok (.ireturn, 1) := by decide +kernel
theorem dX12_isInTime_57 : decode cX12_isInTime 57 = .ok (.iload 4, 2) := by decide +kernel
theorem dX12_isInTime_59 : decode cX12_isInTime 59 = .ok (.iload_n 1, 1) := by decide +kernel
theorem dX12_isInTime_60 : decode cX12_isInTime 60 = .ok (.iload 5, 2) := by decide +kernel
theorem dX12_isInTime_62 : decode cX12_isInTime 62 = .ok (.invokestatic 244, 3) := by decide +kernel
theorem dX12_isInTime_65 : decode cX12_isInTime 65 = .ok (.ifCond .eq 38, 3) := by decide +kernel
theorem dX12_isInTime_103 : decode cX12_isInTime 103 = .ok (.iconst 0, 1) := by decide +kernel
theorem dX12_isInTime_104 : decode cX12_isInTime 104 = .ok (.iadd, 1) := by decide +kernel
theorem dX12_isInTime_105 : decode cX12_isInTime 105 = .ok (.istore 4, 2) := by decide +kernel
theorem dX12_isInTime_107 : decode cX12_isInTime 107 = .ok (.iinc 5 1, 3) := by decide +kernel
theorem dX12_isInTime_110 : decode cX12_isInTime 110 = .ok (.goto (-65), 3) := by decide +kernel
theorem dX12_isInTime_68 : decode cX12_isInTime 68 = .ok (.aload_n 0, 1) := by decide +kernel
theorem dX12_isInTime_69 : decode cX12_isInTime 69 = .ok (.getfield 7, 3) := by decide +kernel
theorem dX12_isInTime_72 : decode cX12_isInTime 72 = .ok (.sipush 160, 3) := by decide +kernel
theorem dX12_isInTime_75 : decode cX12_isInTime 75 = .ok (.iconst 2, 1) := by decide +kernel
theorem dX12_isInTime_76 : decode cX12_isInTime 76 = .ok (.iload 5, 2) := by decide +kernel
theorem dX12_isInTime_78 : decode cX12_isInTime 78 = .ok (.imul, 1) := by decide +kernel
theorem dX12_isInTime_79 : decode cX12_isInTime 79 = .ok (.iadd, 1) := by decide +kernel
theorem dX12_isInTime_80 : decode cX12_isInTime 80 = .ok (.iconst 1, 1) := by decide +kernel
theorem dX12_isInTime_81 : decode cX12_isInTime 81 = .ok (.iadd, 1) := by decide +kernel
theorem dX12_isInTime_82 : decode cX12_isInTime 82 = .ok (.iaload, 1) := by decide +kernel
theorem dX12_isInTime_83 : decode cX12_isInTime 83 = .ok (.iload_n 3, 1) := by decide +kernel
theorem dX12_isInTime_84 : decode cX12_isInTime 84 = .ok (.if_icmp .gt 19, 3) := by decide +kernel
theorem dX12_isInTime_87 : decode cX12_isInTime 87 = .ok (.aload_n 0, 1) := by decide +kernel
theorem dX12_isInTime_88 : decode cX12_isInTime 88 = .ok (.getfield 7, 3) := by decide +kernel
theorem dX12_isInTime_91 : decode cX12_isInTime 91 = .ok (.sipush 160, 3) := by decide +kernel
theorem dX12_isInTime_94 : decode cX12_isInTime 94 = .ok (.iconst 2, 1) := by decide +kernel
theorem dX12_isInTime_95 : decode cX12_isInTime 95 = .ok (.iload 5, 2) := by decide +kernel
theorem dX12_isInTime_97 : decode cX12_isInTime 97 = .ok (.imul, 1) := by decide +kernel
theorem dX12_isInTime_98 : decode cX12_isInTime 98 = .ok (.iadd, 1) := by decide +kernel
theorem dX12_isInTime_99 : decode cX12_isInTime 99 = .ok (.iaload, 1) := by decide +kernel
theorem dX12_isInTime_100 : decode cX12_isInTime 100 = .ok (.goto 4, 3) := by decide +kernel
theorem dX12_isAtPeace_0 : decode cX12_isAtPeace 0 = .ok (.iconst 0, 1) := by decide +kernel
theorem dX12_isAtPeace_1 : decode cX12_isAtPeace 1 = .ok (.istore_n 2, 1) := by decide +kernel
theorem dX12_isAtPeace_2 : decode cX12_isAtPeace 2 = .ok (.iload_n 2, 1) := by decide +kernel
theorem dX12_isAtPeace_3 : decode cX12_isAtPeace 3 = .ok (.aload_n 0, 1) := by decide +kernel
theorem dX12_isAtPeace_4 : decode cX12_isAtPeace 4 = .ok (.getfield 7, 3) := by decide +kernel
theorem dX12_isAtPeace_7 : decode cX12_isAtPeace 7 = .ok (.iconst 5, 1) := by decide +kernel
theorem dX12_isAtPeace_8 : decode cX12_isAtPeace 8 = .ok (.iaload, 1) := by decide +kernel
theorem dX12_isAtPeace_9 : decode cX12_isAtPeace 9 = .ok (.if_icmp .ge 51, 3) := by decide +kernel
theorem dX12_isAtPeace_60 : decode cX12_isAtPeace 60 = .ok (.iconst 1, 1) := by decide +kernel
theorem dX12_isAtPeace_61 : decode cX12_isAtPeace 61 = .ok (.ireturn, 1) := by decide +kernel
theorem dX12_isAtPeace_12 : decode cX12_isAtPeace 12 = .ok (.iload_n 1, 1) := by decide +kernel
theorem dX12_isAtPeace_13 : decode cX12_isAtPeace 13 = .ok (.aload_n 0, 1) := by decide +kernel
theorem dX12_isAtPeace_14 : decode cX12_isAtPeace 14 = .ok (.getfield 7, 3) := by decide +kernel
theorem dX12_isAtPeace_17 : decode cX12_isAtPeace 17 = .ok (.sipush 144, 3) := by decide +kernel
theorem dX12_isAtPeace_20 : decode cX12_isAtPeace 20 = .ok (.iconst 2, 1) := by decide +kernel
theorem dX12_isAtPeace_21 : decode cX12_isAtPeace 21 = .ok (.iload_n 2, 1) := by decide +kernel
theorem dX12_isAtPeace_22 : decode cX12_isAtPeace 22 = .ok (.imul, 1) := by decide +kernel
theorem dX12_isAtPeace_23 : decode cX12_isAtPeace 23 = .ok (.iadd, 1) := by decide +kernel
theorem dX12_isAtPeace_24 : decode cX12_isAtPeace 24 = .ok (.iaload, 1) := by decide +kernel
theorem dX12_isAtPeace_25 : decode cX12_isAtPeace 25 = .ok (.invokestatic 244, 3) := by decide +kernel
theorem dX12_isAtPeace_28 : decode cX12_isAtPeace 28 = .ok (.ifCond .eq 26, 3) := by decide +kernel
theorem dX12_isAtPeace_54 : decode cX12_isAtPeace 54 = .ok (.iinc 2 1, 3) := by decide +kernel
theorem dX12_isAtPeace_57 : decode cX12_isAtPeace 57 = .ok (.goto (-55), 3) := by decide +kernel
theorem dX12_isAtPeace_31 : decode cX12_isAtPeace 31 = .ok (.iload_n 1, 1) := by decide +kernel
theorem dX12_isAtPeace_32 : decode cX12_isAtPeace 32 = .ok (.aload_n 0, 1) := by decide +kernel
theorem dX12_isAtPeace_33 : decode cX12_isAtPeace 33 = .ok (.getfield 7, 3) := by decide +kernel
theorem dX12_isAtPeace_36 : decode cX12_isAtPeace 36 = .ok (.sipush 144, 3) := by decide +kernel
theorem dX12_isAtPeace_39 : decode cX12_isAtPeace 39 = .ok (.iconst 2, 1) := by decide +kernel
theorem dX12_isAtPeace_40 : decode cX12_isAtPeace 40 = .ok (.iload_n 2, 1) := by decide +kernel
theorem dX12_isAtPeace_41 : decode cX12_isAtPeace 41 = .ok (.imul, 1) := by decide +kernel
theorem dX12_isAtPeace_42 : decode cX12_isAtPeace 42 = .ok (.iadd, 1) := by decide +kernel
theorem dX12_isAtPeace_43 : decode cX12_isAtPeace 43 = .ok (.iconst 1, 1) := by decide +kernel
theorem dX12_isAtPeace_44 : decode cX12_isAtPeace 44 = .ok (.iadd, 1) := by decide +kernel
theorem dX12_isAtPeace_45 : decode cX12_isAtPeace 45 = .ok (.iaload, 1) := by decide +kernel
theorem dX12_isAtPeace_46 : decode cX12_isAtPeace 46 = .ok (.invokestatic 244, 3) := by decide +kernel
theorem dX12_isAtPeace_49 : decode cX12_isAtPeace 49 = .ok (.ifCond .eq 5, 3) := by decide +kernel
theorem dX12_isAtPeace_52 : decode cX12_isAtPeace 52 = .ok (.iconst 0, 1) := by decide +kernel
theorem dX12_isAtPeace_53 : decode cX12_isAtPeace 53 = .ok (.ireturn, 1) := by decide +kernel
theorem dX12_shown_0 : decode cX12_shown 0 = .ok (.aload_n 0, 1) := by decide +kernel
theorem dX12_shown_1 : decode cX12_shown 1 = .ok (.getfield 7, 3) := by decide +kernel
theorem dX12_shown_4 : decode cX12_shown 4 = .ok (.bipush 14, 2) := by decide +kernel
theorem dX12_shown_6 : decode cX12_shown 6 = .ok (.iaload, 1) := by decide +kernel
theorem dX12_shown_7 : decode cX12_shown 7 = .ok (.bipush 30, 2) := by decide +kernel
theorem dX12_shown_9 : decode cX12_shown 9 = .ok (.if_icmp .ge 13, 3) := by decide +kernel
theorem dX12_shown_22 : decode cX12_shown 22 = .ok (.bipush 30, 2) := by decide +kernel
theorem dX12_shown_24 : decode cX12_shown 24 = .ok (.ireturn, 1) := by decide +kernel
theorem dX12_shown_12 : decode cX12_shown 12 = .ok (.aload_n 0, 1) := by decide +kernel
theorem dX12_shown_13 : decode cX12_shown 13 = .ok (.getfield 7, 3) := by decide +kernel
theorem dX12_shown_16 : decode cX12_shown 16 = .ok (.bipush 14, 2) := by decide +kernel
theorem dX12_shown_18 : decode cX12_shown 18 = .ok (.iaload, 1) := by decide +kernel
theorem dX12_shown_19 : decode cX12_shown 19 = .ok (.goto 5, 3) := by decide +kernel
theorem oa_ix {x x1 x0 o k : Int32} (e : x = x1 + k) (e1 : x1 = 16 + x0) (e0 : x0 = 7 * o) (ho : bn 0 13 o) (hk : bn 0 6 k) : x.toNatClampNeg = 16 + 7 * o.toNatClampNeg + k.toNatClampNeg := by
  have c7 : bn 7 7 (7 : Int32) := bn_k (by decide)
  have c16 : bn 16 16 (16 : Int32) := bn_k (by decide)
  obtain ⟨h1, h2⟩ := ho; obtain ⟨k1, k2⟩ := hk
  have t0 : x0.toInt = 7 * o.toInt := by rw [e0, ti_mul (by rw [show (7 : Int32).toInt = 7 from rfl]; omega) (by rw [show (7 : Int32).toInt = 7 from rfl]; omega)]; rfl
  have t1 : x1.toInt = 16 + 7 * o.toInt := by rw [e1, ti_add (by rw [show (16 : Int32).toInt = 16 from rfl]; omega) (by rw [show (16 : Int32).toInt = 16 from rfl]; omega), t0]; rfl
  have t2 : x.toInt = 16 + 7 * o.toInt + k.toInt := by rw [e, ti_add (by omega) (by omega), t1]
  have a1 : x.toNatClampNeg = x.toInt.toNat := rfl
  have a2 : o.toNatClampNeg = o.toInt.toNat := rfl
  have a3 : k.toNatClampNeg = k.toInt.toNat := rfl
  rw [a1, a2, a3]; omega
theorem tn1 {x : Int32} (h : bn 1 1 x) : x.toNatClampNeg = 1 := by
  obtain ⟨h1, h2⟩ := h
  have e : x.toNatClampNeg = x.toInt.toNat := rfl
  rw [e]; omega
set_option maxHeartbeats 4000000 in
set_option maxRecDepth 100000 in
theorem x_X12_getON {l : Launch} {G : GG}  {L : List Nat} {f : HF} {ad : Nat → Nat → Nat} {sl : Int} {pl : Int} {oh : Int} {dh : Int} {w : WW} {pi : PIT} {px : (Nat → Int32) → Prop} {pa : (Nat → Int32) → Prop} {i1 i2 : Int32} (I : SH (spM (IA sl pl oh dh w) pi px pa) nnM G ad L f) (hB : BBp sl pl oh dh w) (b_i1 : bn 0 13 i1) (b_i2 : bn 1 1 i2) : PMp l yX12_get cX12_get 3 .int 0 0 0 G [.ref (ad 0 0), .int i1, .int i2] L f (fun r => bn 0 5 r) := by
  refine PMi.of (post := fun r L1 f1 => (bn 0 5 r) ∧ L1 = L ∧ f1 = f) (own := RX12) (by decide) rfl (Nat.le_of_ble_eq_true rfl) (fun sz p e s m args below meth c A ls hA1 hname S Y hl => ?_)
  have hx := S.hx
  have hb := S.hb
  have hl : lv_has ls 3 [(0, .ref (ad 0 0)), (1, .int i1), (2, .int i2)] := hl
  have b_i2w : bn 0 6 i2 := bn_w b_i2 (by decide)
  refine lv_aload_n hx hb dX12_get_0 rfl (lv_at hl 0 rfl) ?_
  obtain ⟨v_820, v_822, v_824, v_826, v_828, v_830, v_832, v_834, v_835, v_837, v_839, v_841, v_843, v_845, v_847, v_849, v_851, v_853, p_ad_0_0, b_821, b_823, b_825, b_827, b_829, b_831, b_833, b_836, b_838, b_840, b_842, b_844, b_846, b_848, b_850, b_852, b_854⟩ := opnM_0 (j := 0) I (by decide)
  have p_ad_0_0 : pt L f (ad 0 0) (.inr (12, [.ref (ad 1 0), .ref (ad 2 0), .ref (ad 3 0), .ref (ad 4 0), .int v_820, .int v_822, .int v_824, .int v_826, .int v_828, .int v_830, .int v_832, .long v_834, .int v_835, .int v_837, .int v_839, .ref (ad 5 0), .ref (ad 6 0), .int v_841, .int v_843, .int v_845, .int v_847, .int v_849, .ref (ad 7 0), .ref (ad 8 0), .ref (ad 9 0), .int v_851, .ref (ad 10 0), .ref (ad 11 0), .ref (ad 12 0), .ref (ad 13 0), .int v_853, .ref (ad 14 0)])) := p_ad_0_0
  refine pg_get S Y ok_X12 0 (by decide) kf12_7 (v := .ref (ad 1 0)) p_ad_0_0 rfl dX12_get_1 ?_
  refine lv_bipush (v := 16) hx hb dX12_get_4 (by decide) ?_
  refine lv_bipush (v := 7) hx hb dX12_get_6 (by decide) ?_
  refine lv_iload_n hx hb dX12_get_8 rfl (lv_at hl 1 rfl) ?_
  refine lv_imul hx hb dX12_get_9 ?_
  refine lv_topi (fun x_855 ex_855 => ?_)
  refine lv_iadd hx hb dX12_get_10 ?_
  refine lv_topi (fun x_856 ex_856 => ?_)
  refine lv_iload_n hx hb dX12_get_11 rfl (lv_at hl 2 rfl) ?_
  refine lv_iadd hx hb dX12_get_12 ?_
  refine lv_topi (fun x_857 ex_857 => ?_)
  obtain ⟨g_858, p_ad_1_0, o_859⟩ := I.opi (k := 1) (j := 0) (by decide) rfl
  have p_ad_1_0 : pt L f (ad 1 0) (.inl (G.2 0, 10568, .inl g_858)) := p_ad_1_0
  obtain ⟨v_860, ev_860⟩ : ∃ z, z = g_858 (x_857 : Int32).toNatClampNeg := ⟨_, rfl⟩
  refine pg_iald S Y (v := v_860) p_ad_1_0 (vp_bn (bn_eq ex_857 (bn_add (bn_eq ex_856 (bn_add (show bn 16 16 (16 : Int32) from bn_k (by decide)) (bn_eq ex_855 (bn_mul (show bn 7 7 (7 : Int32) from bn_k (by decide)) b_i1 (by decide))) (by decide))) b_i2 (by decide))) (by decide)) ev_860.symm dX12_get_13 ?_
  have bv_860 : bn 0 5 v_860 := by rw [ev_860, oa_ix ex_857 ex_856 ex_855 b_i1 b_i2w, show i2.toNatClampNeg = 1 from tn1 b_i2, show 16 + 7 * i1.toNatClampNeg + 1 = 17 + 7 * i1.toNatClampNeg from by omega]; exact IA_on o_859 (tn_bn b_i1 (by decide))
  exact prI (post := fun r L1 f1 => (bn 0 5 r) ∧ L1 = L ∧ f1 = f) S Y rfl (by decide) (by decide) hA1 ⟨bn_w bv_860 (by decide), rfl, rfl⟩ dX12_get_14
theorem i2_1 {k : Int32} {n : Nat} (h : bn 0 6 k) (z : (16 + 7 * n + k.toNatClampNeg - 16) % 7 = 1) : k = 1 := by
  have h2 := tn_bn (n := 7) h (by decide)
  obtain ⟨h0, h1⟩ := h
  have e : k.toNatClampNeg = k.toInt.toNat := rfl
  apply Int32.toInt_inj.mp
  rw [show (1 : Int32).toInt = 1 from rfl]; omega
set_option maxHeartbeats 4000000 in
set_option maxRecDepth 100000 in
theorem x_X12_put {l : Launch} {G : GG}  {L : List Nat} {f : HF} {ad : Nat → Nat → Nat} {sl : Int} {pl : Int} {oh : Int} {dh : Int} {w : WW} {pi : PIT} {px : (Nat → Int32) → Prop} {pa : (Nat → Int32) → Prop} {i1 i2 i3 : Int32} (I : SH (spM (IA sl pl oh dh w) pi px pa) nnM G ad L f) (hB : BBp sl pl oh dh w) (b_i1 : bn 0 13 i1) (b_i2 : bn 0 6 i2) (hv : i2 = 1 → bn 0 5 i3) : PMv l yX12_put cX12_put 4 0 0 0 G [.ref (ad 0 0), .int i1, .int i2, .int i3] L f (fun L1 f1 => SH (spM (IA sl pl oh dh w) pi px pa) nnM G ad L1 f1) := by
  refine PMv.of (post := fun L1 f1 => SH (spM (IA sl pl oh dh w) pi px pa) nnM G ad L1 f1) (own := RX12) (by decide) rfl (Nat.le_of_ble_eq_true rfl) (fun sz p e s m args below meth c A ls hA1 hname S Y hl => ?_)
  have hx := S.hx
  have hb := S.hb
  have hl : lv_has ls 4 [(0, .ref (ad 0 0)), (1, .int i1), (2, .int i2), (3, .int i3)] := hl
  refine lv_aload_n hx hb dX12_put_0 rfl (lv_at hl 0 rfl) ?_
  obtain ⟨v_947, v_949, v_951, v_953, v_955, v_957, v_959, v_961, v_962, v_964, v_966, v_968, v_970, v_972, v_974, v_976, v_978, v_980, p_ad_0_0, b_948, b_950, b_952, b_954, b_956, b_958, b_960, b_963, b_965, b_967, b_969, b_971, b_973, b_975, b_977, b_979, b_981⟩ := opnM_0 (j := 0) I (by decide)
  have p_ad_0_0 : pt L f (ad 0 0) (.inr (12, [.ref (ad 1 0), .ref (ad 2 0), .ref (ad 3 0), .ref (ad 4 0), .int v_947, .int v_949, .int v_951, .int v_953, .int v_955, .int v_957, .int v_959, .long v_961, .int v_962, .int v_964, .int v_966, .ref (ad 5 0), .ref (ad 6 0), .int v_968, .int v_970, .int v_972, .int v_974, .int v_976, .ref (ad 7 0), .ref (ad 8 0), .ref (ad 9 0), .int v_978, .ref (ad 10 0), .ref (ad 11 0), .ref (ad 12 0), .ref (ad 13 0), .int v_980, .ref (ad 14 0)])) := p_ad_0_0
  refine pg_get S Y ok_X12 0 (by decide) kf12_7 (v := .ref (ad 1 0)) p_ad_0_0 rfl dX12_put_1 ?_
  refine lv_bipush (v := 16) hx hb dX12_put_4 (by decide) ?_
  refine lv_bipush (v := 7) hx hb dX12_put_6 (by decide) ?_
  refine lv_iload_n hx hb dX12_put_8 rfl (lv_at hl 1 rfl) ?_
  refine lv_imul hx hb dX12_put_9 ?_
  refine lv_topi (fun x_982 ex_982 => ?_)
  refine lv_iadd hx hb dX12_put_10 ?_
  refine lv_topi (fun x_983 ex_983 => ?_)
  refine lv_iload_n hx hb dX12_put_11 rfl (lv_at hl 2 rfl) ?_
  refine lv_iadd hx hb dX12_put_12 ?_
  refine lv_topi (fun x_984 ex_984 => ?_)
  refine lv_iload_n hx hb dX12_put_13 rfl (lv_at hl 3 rfl) ?_
  obtain ⟨g_985, p_ad_1_0, o_986⟩ := I.opi (k := 1) (j := 0) (by decide) rfl
  have p_ad_1_0 : pt L f (ad 1 0) (.inl (G.2 0, 10568, .inl g_985)) := p_ad_1_0
  refine pg_iast S Y p_ad_1_0 (vp_bn (bn_eq ex_984 (bn_add (bn_eq ex_983 (bn_add (show bn 16 16 (16 : Int32) from bn_k (by decide)) (bn_eq ex_982 (bn_mul (show bn 7 7 (7 : Int32) from bn_k (by decide)) b_i1 (by decide))) (by decide))) b_i2 (by decide))) (by decide)) dX12_put_14 (fun f_988 H locs ef_988 Y => ?_)
  obtain ⟨g_987, eg_987⟩ : ∃ z, z = upd (g_985) (x_984 : Int32).toNatClampNeg i3 := ⟨_, rfl⟩
  rw [← eg_987] at ef_988
  have p_ad_0_0 := p_ad_0_0.up ef_988 (I.ne (k := 0) (j := 0) (k' := 1) (j' := 0) (by decide) (by decide) (Or.inl (by decide)))
  have p_ad_1_0 := p_ad_1_0.me ef_988
  have o_989 : (IA sl pl oh dh w) g_987 := (by rw [eg_987, oa_ix ex_984 ex_983 ex_982 b_i1 b_i2]; exact IA_oa o_986 ⟨by omega, by have h1 := tn_bn (n := 14) b_i1 (by decide); have h2 := tn_bn (n := 7) b_i2 (by decide); omega⟩ (fun z => hv (i2_1 b_i2 z)))
  have I := I.up (k := 1) (j := 0) (by decide) ef_988 (okE_a (g := g_987) o_989)
  exact prV (post := fun L1 f1 => SH (spM (IA sl pl oh dh w) pi px pa) nnM G ad L1 f1) S Y (by decide) (by decide) hA1 I dX12_put_15
set_option maxHeartbeats 4000000 in
set_option maxRecDepth 100000 in
theorem x_X12_isLegible {l : Launch} {G : GG}  {L : List Nat} {f : HF} {ad : Nat → Nat → Nat} {sl : Int} {pl : Int} {oh : Int} {dh : Int} {w : WW} {pi : PIT} {px : (Nat → Int32) → Prop} {pa : (Nat → Int32) → Prop} {i1 : Int32} (I : SH (spM (IA sl pl oh dh w) pi px pa) nnM G ad L f) (hB : BBp sl pl oh dh w) (b_i1 : bn 0 13 i1) : PMp l yX12_isLegible cX12_isLegible 2 .boolean 1 0 0 G [.ref (ad 0 0), .int i1] L f (fun r => bn 0 1 r) := by
  refine PMi.of (post := fun r L1 f1 => (bn 0 1 r) ∧ L1 = L ∧ f1 = f) (own := RX12) (by decide) rfl (Nat.le_of_ble_eq_true rfl) (fun sz p e s m args below meth c A ls hA1 hname S Y hl => ?_)
  have hx := S.hx
  have hb := S.hb
  have hl : lv_has ls 2 [(0, .ref (ad 0 0)), (1, .int i1)] := hl
  refine lv_aload_n hx hb dX12_isLegible_0 rfl (lv_at hl 0 rfl) ?_
  refine lv_iload_n hx hb dX12_isLegible_1 rfl (lv_at hl 1 rfl) ?_
  refine lv_iconst (v := 5) hx hb dX12_isLegible_2 (by decide) ?_
  refine cVp (As := [.int i1, .int 5]) (rest := []) S Y (x_X12_get (l := l) I hB (bn_w b_i1 (by decide)) (bn_w (show bn 5 5 (5 : Int32) from bn_k (by decide)) (by decide))) cw_X12_get km12_73 (I.opo (k := 0) (j := 0) (by decide) rfl).choose_spec.1 ok_X12.1 rfl rfl ⟨Nat.le_of_ble_eq_true rfl, Nat.le_of_ble_eq_true rfl⟩ hl.1 rfl (Nat.le_of_ble_eq_true rfl) ⟨Nat.le_of_ble_eq_true rfl, Nat.le_of_ble_eq_true rfl⟩ dX12_isLegible_3 (fun r_1004 H locs er_1004 Y => ?_)
  refine lv_bipush (v := 99) hx hb dX12_isLegible_6 (by decide) ?_
  refine lv_icmp_ge (tgt := 25) hx hb dX12_isLegible_8 (by decide) (fun c_1005 => ?_) (fun c_1005 => ?_)
  · have B_1006 : bn 99 2147483647 r_1004 := bn_w (bn_ler c_1005 (show bn 99 99 (99 : Int32) from bn_k (by decide)) (bn_any r_1004)) (by decide)
    refine lv_iconst (v := 0) hx hb dX12_isLegible_25 (by decide) ?_
    exact prI (post := fun r L1 f1 => (bn 0 1 r) ∧ L1 = L ∧ f1 = f) S Y rfl (by decide) (by decide) hA1 ⟨bn_w (show bn 0 0 (0 : Int32) from bn_k (by decide)) (by decide), rfl, rfl⟩ dX12_isLegible_26
  · have B_1007 : bn (-2147483648) 98 r_1004 := bn_w (bn_gtr c_1005 (show bn 99 99 (99 : Int32) from bn_k (by decide)) (bn_any r_1004)) (by decide)
    refine lv_aload_n hx hb dX12_isLegible_11 rfl (lv_at hl 0 rfl) ?_
    refine lv_iload_n hx hb dX12_isLegible_12 rfl (lv_at hl 1 rfl) ?_
    refine lv_iconst (v := 4) hx hb dX12_isLegible_13 (by decide) ?_
    refine cVp (As := [.int i1, .int 4]) (rest := []) S Y (x_X12_get (l := l) I hB (bn_w b_i1 (by decide)) (bn_w (show bn 4 4 (4 : Int32) from bn_k (by decide)) (by decide))) cw_X12_get km12_73 (I.opo (k := 0) (j := 0) (by decide) rfl).choose_spec.1 ok_X12.1 rfl rfl ⟨Nat.le_of_ble_eq_true rfl, Nat.le_of_ble_eq_true rfl⟩ hl.1 rfl (Nat.le_of_ble_eq_true rfl) ⟨Nat.le_of_ble_eq_true rfl, Nat.le_of_ble_eq_true rfl⟩ dX12_isLegible_14 (fun r_1008 H locs er_1008 Y => ?_)
    refine lv_iconst (v := 2) hx hb dX12_isLegible_17 (by decide) ?_
    refine lv_icmp_eq (tgt := 25) hx hb dX12_isLegible_18 (by decide) (fun c_1009 => ?_) (fun c_1009 => ?_)
    · have B_1010 : bn 2 2 r_1008 := bn_w (bn_eq c_1009 (show bn 2 2 (2 : Int32) from bn_k (by decide))) (by decide)
      refine lv_iconst (v := 0) hx hb dX12_isLegible_25 (by decide) ?_
      exact prI (post := fun r L1 f1 => (bn 0 1 r) ∧ L1 = L ∧ f1 = f) S Y rfl (by decide) (by decide) hA1 ⟨bn_w (show bn 0 0 (0 : Int32) from bn_k (by decide)) (by decide), rfl, rfl⟩ dX12_isLegible_26
    · refine lv_iconst (v := 1) hx hb dX12_isLegible_21 (by decide) ?_
      refine lv_goto (tgt := 26) hx hb dX12_isLegible_22 (by decide) ?_
      exact prI (post := fun r L1 f1 => (bn 0 1 r) ∧ L1 = L ∧ f1 = f) S Y rfl (by decide) (by decide) hA1 ⟨bn_w (show bn 1 1 (1 : Int32) from bn_k (by decide)) (by decide), rfl, rfl⟩ dX12_isLegible_26
set_option maxHeartbeats 4000000 in
set_option maxRecDepth 100000 in
theorem x_X12_legibleOn {l : Launch} {G : GG}  {L : List Nat} {f : HF} {ad : Nat → Nat → Nat} {sl : Int} {pl : Int} {oh : Int} {dh : Int} {w : WW} {pi : PIT} {px : (Nat → Int32) → Prop} {pa : (Nat → Int32) → Prop} {i1 : Int32} (I : SH (spM (IA sl pl oh dh w) pi px pa) nnM G ad L f) (hB : BBp sl pl oh dh w) : PMp l yX12_legibleOn cX12_legibleOn 4 .int 2 0 0 G [.ref (ad 0 0), .int i1] L f (fun r => bn 0 16383 r) := by
  refine PMi.of (post := fun r L1 f1 => (bn 0 16383 r) ∧ L1 = L ∧ f1 = f) (own := RX12) (by decide) rfl (Nat.le_of_ble_eq_true rfl) (fun sz p e s m args below meth c A ls hA1 hname S Y hl => ?_)
  have hx := S.hx
  have hb := S.hb
  have hl : lv_has ls 4 [(0, .ref (ad 0 0)), (1, .int i1)] := hl
  have J_4 : ∀ (n4 : Nat) (y4_2 y4_3 : Int32) (H : Heap) (locs : List Loc) (ls : Array Slot), (bn 0 16383 y4_2) → (bn 0 14 y4_3) → (((14 : Int) - y4_3.toInt).toNat = n4) → (DY G A s [] L f H locs) → (lv_has ls 4 [(0, .ref (ad 0 0)), (1, .int i1), (2, .int y4_2), (3, .int y4_3)]) → W p l e (rmD 2 0 0) s m args below meth c H locs (0) (0) (MQ below (va_Qi (fun r (u : List Nat × HF) => (fun r L1 f1 => (bn 0 16383 r) ∧ L1 = L ∧ f1 = f) r u.1 u.2) (fun u t => pOut G (va_A (va_pl L f) sz) u.1 u.2 t) (va_A (va_pl L f) sz)) args s 0 0 A) (F0 m 4 ls []) := by
    intro n4
    induction n4 using Nat.strongRecOn with
    | _ n4 ih4 =>
      intro y4_2 y4_3 H locs ls b_y4_2 b_y4_3 hm4 Y hl
      refine lv_iload_n hx hb dX12_legibleOn_4 rfl (lv_at hl 3 rfl) ?_
      refine lv_aload_n hx hb dX12_legibleOn_5 rfl (lv_at hl 0 rfl) ?_
      obtain ⟨v_1767, v_1769, v_1771, v_1773, v_1775, v_1777, v_1779, v_1781, v_1782, v_1784, v_1786, v_1788, v_1790, v_1792, v_1794, v_1796, v_1798, v_1800, p_ad_0_0, b_1768, b_1770, b_1772, b_1774, b_1776, b_1778, b_1780, b_1783, b_1785, b_1787, b_1789, b_1791, b_1793, b_1795, b_1797, b_1799, b_1801⟩ := opnM_0 (j := 0) I (by decide)
      have p_ad_0_0 : pt L f (ad 0 0) (.inr (12, [.ref (ad 1 0), .ref (ad 2 0), .ref (ad 3 0), .ref (ad 4 0), .int v_1767, .int v_1769, .int v_1771, .int v_1773, .int v_1775, .int v_1777, .int v_1779, .long v_1781, .int v_1782, .int v_1784, .int v_1786, .ref (ad 5 0), .ref (ad 6 0), .int v_1788, .int v_1790, .int v_1792, .int v_1794, .int v_1796, .ref (ad 7 0), .ref (ad 8 0), .ref (ad 9 0), .int v_1798, .ref (ad 10 0), .ref (ad 11 0), .ref (ad 12 0), .ref (ad 13 0), .int v_1800, .ref (ad 14 0)])) := p_ad_0_0
      refine pg_get S Y ok_X12 0 (by decide) kf12_7 (v := .ref (ad 1 0)) p_ad_0_0 rfl dX12_legibleOn_6 ?_
      refine lv_bipush (v := 13) hx hb dX12_legibleOn_9 (by decide) ?_
      obtain ⟨g_1802, p_ad_1_0, o_1803⟩ := I.opi (k := 1) (j := 0) (by decide) rfl
      have p_ad_1_0 : pt L f (ad 1 0) (.inl (G.2 0, 10568, .inl g_1802)) := p_ad_1_0
      obtain ⟨v_1804, ev_1804⟩ : ∃ z, z = g_1802 (13 : Int32).toNatClampNeg := ⟨_, rfl⟩
      refine pg_iald S Y (v := v_1804) p_ad_1_0 (by unfold vp_in; decide) ev_1804.symm dX12_legibleOn_11 ?_
      have bv_1804 : bn 0 14 v_1804 := bn_eq ev_1804 (bn_w (a' := 0) (b' := 14) (IA_13 o_1803) ⟨by decide, by have h9 := hB; unfold BBp at h9; omega⟩)
      refine lv_icmp_ge (tgt := 49) hx hb dX12_legibleOn_12 (by decide) (fun c_1805 => ?_) (fun c_1805 => ?_)
      · refine lv_iload_n hx hb dX12_legibleOn_49 rfl (lv_at hl 2 rfl) ?_
        exact prI (post := fun r L1 f1 => (bn 0 16383 r) ∧ L1 = L ∧ f1 = f) S Y rfl (by decide) (by decide) hA1 ⟨bn_w b_y4_2 (by decide), rfl, rfl⟩ dX12_legibleOn_50
      · have B_1806 : bn 1 14 v_1804 := bn_w (bn_gtl c_1805 bv_1804 b_y4_3) (by decide)
        have B_1807 : bn 0 13 y4_3 := bn_w (bn_gtr c_1805 bv_1804 b_y4_3) (by decide)
        refine lv_iload_n hx hb dX12_legibleOn_15 rfl (lv_at hl 2 rfl) ?_
        refine lv_aload_n hx hb dX12_legibleOn_16 rfl (lv_at hl 0 rfl) ?_
        refine lv_iload_n hx hb dX12_legibleOn_17 rfl (lv_at hl 3 rfl) ?_
        refine lv_iconst (v := 1) hx hb dX12_legibleOn_18 (by decide) ?_
        refine cVp (As := [.int y4_3, .int 1]) (rest := [.int y4_2]) S Y (x_X12_getON (l := l) I hB (bn_w B_1807 (by decide)) (bn_w (show bn 1 1 (1 : Int32) from bn_k (by decide)) (by decide))) cw_X12_get km12_73 p_ad_0_0 ok_X12.1 rfl rfl ⟨Nat.le_of_ble_eq_true rfl, Nat.le_of_ble_eq_true rfl⟩ hl.1 rfl (Nat.le_of_ble_eq_true rfl) ⟨Nat.le_of_ble_eq_true rfl, Nat.le_of_ble_eq_true rfl⟩ dX12_legibleOn_19 (fun r_1808 H locs er_1808 Y => ?_)
        refine lv_iload_n hx hb dX12_legibleOn_22 rfl (lv_at hl 1 rfl) ?_
        refine lv_icmp_ne (tgt := 40) hx hb dX12_legibleOn_23 (by decide) (fun c_1809 => ?_) (fun c_1809 => ?_)
        · refine lv_iconst (v := 0) hx hb dX12_legibleOn_40 (by decide) ?_
          refine lv_ior hx hb dX12_legibleOn_41 ?_
          refine lv_topi (fun x_1810 ex_1810 => ?_)
          refine lv_istore_n (lv' := [(2, .int x_1810), (0, .ref (ad 0 0)), (1, .int i1), (3, .int y4_3)]) hx hb dX12_legibleOn_42 rfl hl (by decide) rfl (fun ls hl => ?_)
          obtain ⟨x_1811, ex_1811⟩ : ∃ z : Int32, z = y4_3 + 1 := ⟨_, rfl⟩
          refine lv_iinc (v := x_1811) (lv' := [(3, .int x_1811), (2, .int x_1810), (0, .ref (ad 0 0)), (1, .int i1)]) hx hb dX12_legibleOn_43 hl (k := 3) rfl (by rw [ex_1811]; rfl) (by decide) rfl (fun ls hl => ?_)
          refine lv_goto (tgt := 4) hx hb dX12_legibleOn_46 (by decide) ?_
          exact ih4 _ (by rw [← hm4]; exact ms_up (m := 1) ex_1811 (show bn 1 1 (1 : Int32) from bn_k (by decide)) B_1807 (bn_w (bn_eq ex_1811 (bn_add B_1807 (show bn 1 1 (1 : Int32) from bn_k (by decide)) (by decide))) (by decide) : bn 0 14 x_1811) (by decide)) x_1810 x_1811  _ _ _  (bn_w (bn_eq ex_1810 (bn_or (n := 14) (bn_w b_y4_2 (by decide) : bn 0 16383 y4_2) (bn_w (show bn 0 0 (0 : Int32) from bn_k (by decide)) (by decide) : bn 0 0 0) (by decide) (by decide))) (by decide)) (bn_w (bn_eq ex_1811 (bn_add B_1807 (show bn 1 1 (1 : Int32) from bn_k (by decide)) (by decide))) (by decide)) rfl Y (lv_sub hl [2, 3, 1, 0] rfl)
        · refine lv_aload_n hx hb dX12_legibleOn_26 rfl (lv_at hl 0 rfl) ?_
          refine lv_iload_n hx hb dX12_legibleOn_27 rfl (lv_at hl 3 rfl) ?_
          refine cVp (As := [.int y4_3]) (rest := [.int y4_2]) S Y (x_X12_isLegible (l := l) I hB (bn_w B_1807 (by decide))) cw_X12_isLegible km12_77 p_ad_0_0 ok_X12.1 rfl rfl ⟨Nat.le_of_ble_eq_true rfl, Nat.le_of_ble_eq_true rfl⟩ hl.1 rfl (Nat.le_of_ble_eq_true rfl) ⟨Nat.le_of_ble_eq_true rfl, Nat.le_of_ble_eq_true rfl⟩ dX12_legibleOn_28 (fun r_1812 H locs er_1812 Y => ?_)
          refine lv_if_eq (tgt := 40) hx hb dX12_legibleOn_31 (by decide) (fun c_1813 => ?_) (fun c_1813 => ?_)
          · have B_1814 : bn 0 0 r_1812 := bn_w (bn_eq c_1813 (show bn 0 0 (0 : Int32) from bn_k (by decide))) (by decide)
            refine lv_iconst (v := 0) hx hb dX12_legibleOn_40 (by decide) ?_
            refine lv_ior hx hb dX12_legibleOn_41 ?_
            refine lv_topi (fun x_1816 ex_1816 => ?_)
            refine lv_istore_n (lv' := [(2, .int x_1816), (0, .ref (ad 0 0)), (1, .int i1), (3, .int y4_3)]) hx hb dX12_legibleOn_42 rfl hl (by decide) rfl (fun ls hl => ?_)
            obtain ⟨x_1817, ex_1817⟩ : ∃ z : Int32, z = y4_3 + 1 := ⟨_, rfl⟩
            refine lv_iinc (v := x_1817) (lv' := [(3, .int x_1817), (2, .int x_1816), (0, .ref (ad 0 0)), (1, .int i1)]) hx hb dX12_legibleOn_43 hl (k := 3) rfl (by rw [ex_1817]; rfl) (by decide) rfl (fun ls hl => ?_)
            refine lv_goto (tgt := 4) hx hb dX12_legibleOn_46 (by decide) ?_
            exact ih4 _ (by rw [← hm4]; exact ms_up (m := 1) ex_1817 (show bn 1 1 (1 : Int32) from bn_k (by decide)) B_1807 (bn_w (bn_eq ex_1817 (bn_add B_1807 (show bn 1 1 (1 : Int32) from bn_k (by decide)) (by decide))) (by decide) : bn 0 14 x_1817) (by decide)) x_1816 x_1817  _ _ _  (bn_w (bn_eq ex_1816 (bn_or (n := 14) (bn_w b_y4_2 (by decide) : bn 0 16383 y4_2) (bn_w (show bn 0 0 (0 : Int32) from bn_k (by decide)) (by decide) : bn 0 0 0) (by decide) (by decide))) (by decide)) (bn_w (bn_eq ex_1817 (bn_add B_1807 (show bn 1 1 (1 : Int32) from bn_k (by decide)) (by decide))) (by decide)) rfl Y (lv_sub hl [2, 3, 1, 0] rfl)
          · have B_1815 : bn 1 1 r_1812 := bn_w (bn_nel c_1813 er_1812 (show bn 0 0 (0 : Int32) from bn_k (by decide))) (by decide)
            refine lv_iconst (v := 1) hx hb dX12_legibleOn_34 (by decide) ?_
            refine lv_iload_n hx hb dX12_legibleOn_35 rfl (lv_at hl 3 rfl) ?_
            refine lv_ishl hx hb dX12_legibleOn_36 ?_
            refine lv_topi (fun x_1818 ex_1818 => ?_)
            refine lv_goto (tgt := 41) hx hb dX12_legibleOn_37 (by decide) ?_
            refine lv_ior hx hb dX12_legibleOn_41 ?_
            refine lv_topi (fun x_1819 ex_1819 => ?_)
            refine lv_istore_n (lv' := [(2, .int x_1819), (0, .ref (ad 0 0)), (1, .int i1), (3, .int y4_3)]) hx hb dX12_legibleOn_42 rfl hl (by decide) rfl (fun ls hl => ?_)
            obtain ⟨x_1820, ex_1820⟩ : ∃ z : Int32, z = y4_3 + 1 := ⟨_, rfl⟩
            refine lv_iinc (v := x_1820) (lv' := [(3, .int x_1820), (2, .int x_1819), (0, .ref (ad 0 0)), (1, .int i1)]) hx hb dX12_legibleOn_43 hl (k := 3) rfl (by rw [ex_1820]; rfl) (by decide) rfl (fun ls hl => ?_)
            refine lv_goto (tgt := 4) hx hb dX12_legibleOn_46 (by decide) ?_
            exact ih4 _ (by rw [← hm4]; exact ms_up (m := 1) ex_1820 (show bn 1 1 (1 : Int32) from bn_k (by decide)) B_1807 (bn_w (bn_eq ex_1820 (bn_add B_1807 (show bn 1 1 (1 : Int32) from bn_k (by decide)) (by decide))) (by decide) : bn 0 14 x_1820) (by decide)) x_1819 x_1820  _ _ _  (bn_w (bn_eq ex_1819 (bn_or (n := 14) (bn_w b_y4_2 (by decide) : bn 0 16383 y4_2) (bn_w (bn_eq ex_1818 (bn_shl (n := 13) (bn_w B_1807 (by decide) : bn 0 13 y4_3) (by decide) (by decide))) (by decide) : bn 0 8192 x_1818) (by decide) (by decide))) (by decide)) (bn_w (bn_eq ex_1820 (bn_add B_1807 (show bn 1 1 (1 : Int32) from bn_k (by decide)) (by decide))) (by decide)) rfl Y (lv_sub hl [2, 3, 1, 0] rfl)
  refine lv_iconst (v := 0) hx hb dX12_legibleOn_0 (by decide) ?_
  refine lv_istore_n (lv' := [(2, .int 0), (0, .ref (ad 0 0)), (1, .int i1)]) hx hb dX12_legibleOn_1 rfl hl (by decide) rfl (fun ls hl => ?_)
  refine lv_iconst (v := 0) hx hb dX12_legibleOn_2 (by decide) ?_
  refine lv_istore_n (lv' := [(3, .int 0), (2, .int 0), (0, .ref (ad 0 0)), (1, .int i1)]) hx hb dX12_legibleOn_3 rfl hl (by decide) rfl (fun ls hl => ?_)
  exact J_4 _ 0 0  _ _ _  (bn_w (show bn 0 0 (0 : Int32) from bn_k (by decide)) (by decide)) (bn_w (show bn 0 0 (0 : Int32) from bn_k (by decide)) (by decide)) rfl Y (lv_sub hl [2, 3, 1, 0] rfl)
set_option maxHeartbeats 4000000 in
set_option maxRecDepth 100000 in
theorem x_X12_legible {l : Launch} {G : GG}  {L : List Nat} {f : HF} {ad : Nat → Nat → Nat} {sl : Int} {pl : Int} {oh : Int} {dh : Int} {w : WW} {pi : PIT} {px : (Nat → Int32) → Prop} {pa : (Nat → Int32) → Prop} (I : SH (spM (IA sl pl oh dh w) pi px pa) nnM G ad L f) (hB : BBp sl pl oh dh w) : PMp l yX12_legible cX12_legible 3 .int 2 0 0 G [.ref (ad 0 0)] L f (fun r => bn 0 16383 r) := by
  refine PMi.of (post := fun r L1 f1 => (bn 0 16383 r) ∧ L1 = L ∧ f1 = f) (own := RX12) (by decide) rfl (Nat.le_of_ble_eq_true rfl) (fun sz p e s m args below meth c A ls hA1 hname S Y hl => ?_)
  have hx := S.hx
  have hb := S.hb
  have hl : lv_has ls 3 [(0, .ref (ad 0 0))] := hl
  have J_4 : ∀ (n4 : Nat) (y4_1 y4_2 : Int32) (H : Heap) (locs : List Loc) (ls : Array Slot), (bn 0 16383 y4_1) → (bn 0 14 y4_2) → (((14 : Int) - y4_2.toInt).toNat = n4) → (DY G A s [] L f H locs) → (lv_has ls 3 [(0, .ref (ad 0 0)), (1, .int y4_1), (2, .int y4_2)]) → W p l e (rmD 2 0 0) s m args below meth c H locs (0) (0) (MQ below (va_Qi (fun r (u : List Nat × HF) => (fun r L1 f1 => (bn 0 16383 r) ∧ L1 = L ∧ f1 = f) r u.1 u.2) (fun u t => pOut G (va_A (va_pl L f) sz) u.1 u.2 t) (va_A (va_pl L f) sz)) args s 0 0 A) (F0 m 4 ls []) := by
    intro n4
    induction n4 using Nat.strongRecOn with
    | _ n4 ih4 =>
      intro y4_1 y4_2 H locs ls b_y4_1 b_y4_2 hm4 Y hl
      refine lv_iload_n hx hb dX12_legible_4 rfl (lv_at hl 2 rfl) ?_
      refine lv_aload_n hx hb dX12_legible_5 rfl (lv_at hl 0 rfl) ?_
      obtain ⟨v_2521, v_2523, v_2525, v_2527, v_2529, v_2531, v_2533, v_2535, v_2536, v_2538, v_2540, v_2542, v_2544, v_2546, v_2548, v_2550, v_2552, v_2554, p_ad_0_0, b_2522, b_2524, b_2526, b_2528, b_2530, b_2532, b_2534, b_2537, b_2539, b_2541, b_2543, b_2545, b_2547, b_2549, b_2551, b_2553, b_2555⟩ := opnM_0 (j := 0) I (by decide)
      have p_ad_0_0 : pt L f (ad 0 0) (.inr (12, [.ref (ad 1 0), .ref (ad 2 0), .ref (ad 3 0), .ref (ad 4 0), .int v_2521, .int v_2523, .int v_2525, .int v_2527, .int v_2529, .int v_2531, .int v_2533, .long v_2535, .int v_2536, .int v_2538, .int v_2540, .ref (ad 5 0), .ref (ad 6 0), .int v_2542, .int v_2544, .int v_2546, .int v_2548, .int v_2550, .ref (ad 7 0), .ref (ad 8 0), .ref (ad 9 0), .int v_2552, .ref (ad 10 0), .ref (ad 11 0), .ref (ad 12 0), .ref (ad 13 0), .int v_2554, .ref (ad 14 0)])) := p_ad_0_0
      refine pg_get S Y ok_X12 0 (by decide) kf12_7 (v := .ref (ad 1 0)) p_ad_0_0 rfl dX12_legible_6 ?_
      refine lv_bipush (v := 13) hx hb dX12_legible_9 (by decide) ?_
      obtain ⟨g_2556, p_ad_1_0, o_2557⟩ := I.opi (k := 1) (j := 0) (by decide) rfl
      have p_ad_1_0 : pt L f (ad 1 0) (.inl (G.2 0, 10568, .inl g_2556)) := p_ad_1_0
      obtain ⟨v_2558, ev_2558⟩ : ∃ z, z = g_2556 (13 : Int32).toNatClampNeg := ⟨_, rfl⟩
      refine pg_iald S Y (v := v_2558) p_ad_1_0 (by unfold vp_in; decide) ev_2558.symm dX12_legible_11 ?_
      have bv_2558 : bn 0 14 v_2558 := bn_eq ev_2558 (bn_w (a' := 0) (b' := 14) (IA_13 o_2557) ⟨by decide, by have h9 := hB; unfold BBp at h9; omega⟩)
      refine lv_icmp_ge (tgt := 39) hx hb dX12_legible_12 (by decide) (fun c_2559 => ?_) (fun c_2559 => ?_)
      · refine lv_iload_n hx hb dX12_legible_39 rfl (lv_at hl 1 rfl) ?_
        exact prI (post := fun r L1 f1 => (bn 0 16383 r) ∧ L1 = L ∧ f1 = f) S Y rfl (by decide) (by decide) hA1 ⟨bn_w b_y4_1 (by decide), rfl, rfl⟩ dX12_legible_40
      · have B_2560 : bn 1 14 v_2558 := bn_w (bn_gtl c_2559 bv_2558 b_y4_2) (by decide)
        have B_2561 : bn 0 13 y4_2 := bn_w (bn_gtr c_2559 bv_2558 b_y4_2) (by decide)
        refine lv_iload_n hx hb dX12_legible_15 rfl (lv_at hl 1 rfl) ?_
        refine lv_aload_n hx hb dX12_legible_16 rfl (lv_at hl 0 rfl) ?_
        refine lv_iload_n hx hb dX12_legible_17 rfl (lv_at hl 2 rfl) ?_
        refine cVp (As := [.int y4_2]) (rest := [.int y4_1]) S Y (x_X12_isLegible (l := l) I hB (bn_w B_2561 (by decide))) cw_X12_isLegible km12_77 p_ad_0_0 ok_X12.1 rfl rfl ⟨Nat.le_of_ble_eq_true rfl, Nat.le_of_ble_eq_true rfl⟩ hl.1 rfl (Nat.le_of_ble_eq_true rfl) ⟨Nat.le_of_ble_eq_true rfl, Nat.le_of_ble_eq_true rfl⟩ dX12_legible_18 (fun r_2562 H locs er_2562 Y => ?_)
        refine lv_if_eq (tgt := 30) hx hb dX12_legible_21 (by decide) (fun c_2563 => ?_) (fun c_2563 => ?_)
        · have B_2564 : bn 0 0 r_2562 := bn_w (bn_eq c_2563 (show bn 0 0 (0 : Int32) from bn_k (by decide))) (by decide)
          refine lv_iconst (v := 0) hx hb dX12_legible_30 (by decide) ?_
          refine lv_ior hx hb dX12_legible_31 ?_
          refine lv_topi (fun x_2566 ex_2566 => ?_)
          refine lv_istore_n (lv' := [(1, .int x_2566), (0, .ref (ad 0 0)), (2, .int y4_2)]) hx hb dX12_legible_32 rfl hl (by decide) rfl (fun ls hl => ?_)
          obtain ⟨x_2567, ex_2567⟩ : ∃ z : Int32, z = y4_2 + 1 := ⟨_, rfl⟩
          refine lv_iinc (v := x_2567) (lv' := [(2, .int x_2567), (1, .int x_2566), (0, .ref (ad 0 0))]) hx hb dX12_legible_33 hl (k := 2) rfl (by rw [ex_2567]; rfl) (by decide) rfl (fun ls hl => ?_)
          refine lv_goto (tgt := 4) hx hb dX12_legible_36 (by decide) ?_
          exact ih4 _ (by rw [← hm4]; exact ms_up (m := 1) ex_2567 (show bn 1 1 (1 : Int32) from bn_k (by decide)) B_2561 (bn_w (bn_eq ex_2567 (bn_add B_2561 (show bn 1 1 (1 : Int32) from bn_k (by decide)) (by decide))) (by decide) : bn 0 14 x_2567) (by decide)) x_2566 x_2567  _ _ _  (bn_w (bn_eq ex_2566 (bn_or (n := 14) (bn_w b_y4_1 (by decide) : bn 0 16383 y4_1) (bn_w (show bn 0 0 (0 : Int32) from bn_k (by decide)) (by decide) : bn 0 0 0) (by decide) (by decide))) (by decide)) (bn_w (bn_eq ex_2567 (bn_add B_2561 (show bn 1 1 (1 : Int32) from bn_k (by decide)) (by decide))) (by decide)) rfl Y (lv_sub hl [2, 1, 0] rfl)
        · have B_2565 : bn 1 1 r_2562 := bn_w (bn_nel c_2563 er_2562 (show bn 0 0 (0 : Int32) from bn_k (by decide))) (by decide)
          refine lv_iconst (v := 1) hx hb dX12_legible_24 (by decide) ?_
          refine lv_iload_n hx hb dX12_legible_25 rfl (lv_at hl 2 rfl) ?_
          refine lv_ishl hx hb dX12_legible_26 ?_
          refine lv_topi (fun x_2568 ex_2568 => ?_)
          refine lv_goto (tgt := 31) hx hb dX12_legible_27 (by decide) ?_
          refine lv_ior hx hb dX12_legible_31 ?_
          refine lv_topi (fun x_2569 ex_2569 => ?_)
          refine lv_istore_n (lv' := [(1, .int x_2569), (0, .ref (ad 0 0)), (2, .int y4_2)]) hx hb dX12_legible_32 rfl hl (by decide) rfl (fun ls hl => ?_)
          obtain ⟨x_2570, ex_2570⟩ : ∃ z : Int32, z = y4_2 + 1 := ⟨_, rfl⟩
          refine lv_iinc (v := x_2570) (lv' := [(2, .int x_2570), (1, .int x_2569), (0, .ref (ad 0 0))]) hx hb dX12_legible_33 hl (k := 2) rfl (by rw [ex_2570]; rfl) (by decide) rfl (fun ls hl => ?_)
          refine lv_goto (tgt := 4) hx hb dX12_legible_36 (by decide) ?_
          exact ih4 _ (by rw [← hm4]; exact ms_up (m := 1) ex_2570 (show bn 1 1 (1 : Int32) from bn_k (by decide)) B_2561 (bn_w (bn_eq ex_2570 (bn_add B_2561 (show bn 1 1 (1 : Int32) from bn_k (by decide)) (by decide))) (by decide) : bn 0 14 x_2570) (by decide)) x_2569 x_2570  _ _ _  (bn_w (bn_eq ex_2569 (bn_or (n := 14) (bn_w b_y4_1 (by decide) : bn 0 16383 y4_1) (bn_w (bn_eq ex_2568 (bn_shl (n := 13) (bn_w B_2561 (by decide) : bn 0 13 y4_2) (by decide) (by decide))) (by decide) : bn 0 8192 x_2568) (by decide) (by decide))) (by decide)) (bn_w (bn_eq ex_2570 (bn_add B_2561 (show bn 1 1 (1 : Int32) from bn_k (by decide)) (by decide))) (by decide)) rfl Y (lv_sub hl [2, 1, 0] rfl)
  refine lv_iconst (v := 0) hx hb dX12_legible_0 (by decide) ?_
  refine lv_istore_n (lv' := [(1, .int 0), (0, .ref (ad 0 0))]) hx hb dX12_legible_1 rfl hl (by decide) rfl (fun ls hl => ?_)
  refine lv_iconst (v := 0) hx hb dX12_legible_2 (by decide) ?_
  refine lv_istore_n (lv' := [(2, .int 0), (1, .int 0), (0, .ref (ad 0 0))]) hx hb dX12_legible_3 rfl hl (by decide) rfl (fun ls hl => ?_)
  exact J_4 _ 0 0  _ _ _  (bn_w (show bn 0 0 (0 : Int32) from bn_k (by decide)) (by decide)) (bn_w (show bn 0 0 (0 : Int32) from bn_k (by decide)) (by decide)) rfl Y (lv_sub hl [2, 1, 0] rfl)
set_option maxHeartbeats 4000000 in
set_option maxRecDepth 100000 in
theorem x_X12_toughOf {l : Launch} {G : GG}  {L : List Nat} {f : HF} {ad : Nat → Nat → Nat} {sl : Int} {pl : Int} {oh : Int} {dh : Int} {w : WW} {pi : PIT} {px : (Nat → Int32) → Prop} {pa : (Nat → Int32) → Prop} {i1 : Int32} (I : SH (spM (IA sl pl oh dh w) pi px pa) nnM G ad L f) (hB : BBp sl pl oh dh w) (b_i1 : bn 0 5 i1) : PMp l yX12_toughOf cX12_toughOf 2 .int 0 0 0 G [.ref (ad 0 0), .int i1] L f (fun r => True) := by
  refine PMi.of (post := fun r L1 f1 => (True) ∧ L1 = L ∧ f1 = f) (own := RX12) (by decide) rfl (Nat.le_of_ble_eq_true rfl) (fun sz p e s m args below meth c A ls hA1 hname S Y hl => ?_)
  have hx := S.hx
  have hb := S.hb
  have hl : lv_has ls 2 [(0, .ref (ad 0 0)), (1, .int i1)] := hl
  refine lv_aload_n hx hb dX12_toughOf_0 rfl (lv_at hl 0 rfl) ?_
  obtain ⟨v_2651, v_2653, v_2655, v_2657, v_2659, v_2661, v_2663, v_2665, v_2666, v_2668, v_2670, v_2672, v_2674, v_2676, v_2678, v_2680, v_2682, v_2684, p_ad_0_0, b_2652, b_2654, b_2656, b_2658, b_2660, b_2662, b_2664, b_2667, b_2669, b_2671, b_2673, b_2675, b_2677, b_2679, b_2681, b_2683, b_2685⟩ := opnM_0 (j := 0) I (by decide)
  have p_ad_0_0 : pt L f (ad 0 0) (.inr (12, [.ref (ad 1 0), .ref (ad 2 0), .ref (ad 3 0), .ref (ad 4 0), .int v_2651, .int v_2653, .int v_2655, .int v_2657, .int v_2659, .int v_2661, .int v_2663, .long v_2665, .int v_2666, .int v_2668, .int v_2670, .ref (ad 5 0), .ref (ad 6 0), .int v_2672, .int v_2674, .int v_2676, .int v_2678, .int v_2680, .ref (ad 7 0), .ref (ad 8 0), .ref (ad 9 0), .int v_2682, .ref (ad 10 0), .ref (ad 11 0), .ref (ad 12 0), .ref (ad 13 0), .int v_2684, .ref (ad 14 0)])) := p_ad_0_0
  refine pg_get S Y ok_X12 0 (by decide) kf12_7 (v := .ref (ad 1 0)) p_ad_0_0 rfl dX12_toughOf_1 ?_
  refine lv_bipush (v := 114) hx hb dX12_toughOf_4 (by decide) ?_
  refine lv_iconst (v := 2) hx hb dX12_toughOf_6 (by decide) ?_
  refine lv_iload_n hx hb dX12_toughOf_7 rfl (lv_at hl 1 rfl) ?_
  refine lv_imul hx hb dX12_toughOf_8 ?_
  refine lv_topi (fun x_2686 ex_2686 => ?_)
  refine lv_iadd hx hb dX12_toughOf_9 ?_
  refine lv_topi (fun x_2687 ex_2687 => ?_)
  obtain ⟨g_2688, p_ad_1_0, o_2689⟩ := I.opi (k := 1) (j := 0) (by decide) rfl
  have p_ad_1_0 : pt L f (ad 1 0) (.inl (G.2 0, 10568, .inl g_2688)) := p_ad_1_0
  obtain ⟨v_2690, ev_2690⟩ : ∃ z, z = g_2688 (x_2687 : Int32).toNatClampNeg := ⟨_, rfl⟩
  refine pg_iald S Y (v := v_2690) p_ad_1_0 (vp_bn (bn_eq ex_2687 (bn_add (show bn 114 114 (114 : Int32) from bn_k (by decide)) (bn_eq ex_2686 (bn_mul (show bn 2 2 (2 : Int32) from bn_k (by decide)) b_i1 (by decide))) (by decide))) (by decide)) ev_2690.symm dX12_toughOf_10 ?_
  exact prI (post := fun r L1 f1 => (True) ∧ L1 = L ∧ f1 = f) S Y rfl (by decide) (by decide) hA1 ⟨trivial, rfl, rfl⟩ dX12_toughOf_11
set_option maxHeartbeats 4000000 in
set_option maxRecDepth 100000 in
theorem x_X12_isLink {l : Launch} {G : GG}  {L : List Nat} {f : HF} {ad : Nat → Nat → Nat} {sl : Int} {pl : Int} {oh : Int} {dh : Int} {w : WW} {pi : PIT} {px : (Nat → Int32) → Prop} {pa : (Nat → Int32) → Prop} {i1 : Int32} (I : SH (spM (IA sl pl oh dh w) pi px pa) nnM G ad L f) (hB : BBp sl pl oh dh w) (b_i1 : bn 0 13 i1) : PMp l yX12_isLink cX12_isLink 2 .boolean 2 0 0 G [.ref (ad 0 0), .int i1] L f (fun r => bn 0 1 r) := by
  refine PMi.of (post := fun r L1 f1 => (bn 0 1 r) ∧ L1 = L ∧ f1 = f) (own := RX12) (by decide) rfl (Nat.le_of_ble_eq_true rfl) (fun sz p e s m args below meth c A ls hA1 hname S Y hl => ?_)
  have hx := S.hx
  have hb := S.hb
  have hl : lv_has ls 2 [(0, .ref (ad 0 0)), (1, .int i1)] := hl
  refine lv_aload_n hx hb dX12_isLink_0 rfl (lv_at hl 0 rfl) ?_
  refine lv_iload_n hx hb dX12_isLink_1 rfl (lv_at hl 1 rfl) ?_
  refine lv_iconst (v := 2) hx hb dX12_isLink_2 (by decide) ?_
  refine cVp (As := [.int i1, .int 2]) (rest := []) S Y (x_X12_get (l := l) I hB (bn_w b_i1 (by decide)) (bn_w (show bn 2 2 (2 : Int32) from bn_k (by decide)) (by decide))) cw_X12_get km12_73 (I.opo (k := 0) (j := 0) (by decide) rfl).choose_spec.1 ok_X12.1 rfl rfl ⟨Nat.le_of_ble_eq_true rfl, Nat.le_of_ble_eq_true rfl⟩ hl.1 rfl (Nat.le_of_ble_eq_true rfl) ⟨Nat.le_of_ble_eq_true rfl, Nat.le_of_ble_eq_true rfl⟩ dX12_isLink_3 (fun r_2711 H locs er_2711 Y => ?_)
  refine lv_iconst (v := 1) hx hb dX12_isLink_6 (by decide) ?_
  refine lv_icmp_ne (tgt := 31) hx hb dX12_isLink_7 (by decide) (fun c_2712 => ?_) (fun c_2712 => ?_)
  · refine lv_iconst (v := 0) hx hb dX12_isLink_31 (by decide) ?_
    exact prI (post := fun r L1 f1 => (bn 0 1 r) ∧ L1 = L ∧ f1 = f) S Y rfl (by decide) (by decide) hA1 ⟨bn_w (show bn 0 0 (0 : Int32) from bn_k (by decide)) (by decide), rfl, rfl⟩ dX12_isLink_32
  · have B_2713 : bn 1 1 r_2711 := bn_w (bn_eq c_2712 (show bn 1 1 (1 : Int32) from bn_k (by decide))) (by decide)
    refine lv_aload_n hx hb dX12_isLink_10 rfl (lv_at hl 0 rfl) ?_
    refine lv_iload_n hx hb dX12_isLink_11 rfl (lv_at hl 1 rfl) ?_
    refine lv_iconst (v := 4) hx hb dX12_isLink_12 (by decide) ?_
    refine cVp (As := [.int i1, .int 4]) (rest := []) S Y (x_X12_get (l := l) I hB (bn_w b_i1 (by decide)) (bn_w (show bn 4 4 (4 : Int32) from bn_k (by decide)) (by decide))) cw_X12_get km12_73 (I.opo (k := 0) (j := 0) (by decide) rfl).choose_spec.1 ok_X12.1 rfl rfl ⟨Nat.le_of_ble_eq_true rfl, Nat.le_of_ble_eq_true rfl⟩ hl.1 rfl (Nat.le_of_ble_eq_true rfl) ⟨Nat.le_of_ble_eq_true rfl, Nat.le_of_ble_eq_true rfl⟩ dX12_isLink_13 (fun r_2714 H locs er_2714 Y => ?_)
    refine lv_if_ne (tgt := 31) hx hb dX12_isLink_16 (by decide) (fun c_2715 => ?_) (fun c_2715 => ?_)
    · refine lv_iconst (v := 0) hx hb dX12_isLink_31 (by decide) ?_
      exact prI (post := fun r L1 f1 => (bn 0 1 r) ∧ L1 = L ∧ f1 = f) S Y rfl (by decide) (by decide) hA1 ⟨bn_w (show bn 0 0 (0 : Int32) from bn_k (by decide)) (by decide), rfl, rfl⟩ dX12_isLink_32
    · have B_2716 : bn 0 0 r_2714 := bn_w (bn_eq c_2715 (show bn 0 0 (0 : Int32) from bn_k (by decide))) (by decide)
      refine lv_aload_n hx hb dX12_isLink_19 rfl (lv_at hl 0 rfl) ?_
      refine lv_iload_n hx hb dX12_isLink_20 rfl (lv_at hl 1 rfl) ?_
      refine cVp (As := [.int i1]) (rest := []) S Y (x_X12_isLegible (l := l) I hB (bn_w b_i1 (by decide))) cw_X12_isLegible km12_77 (I.opo (k := 0) (j := 0) (by decide) rfl).choose_spec.1 ok_X12.1 rfl rfl ⟨Nat.le_of_ble_eq_true rfl, Nat.le_of_ble_eq_true rfl⟩ hl.1 rfl (Nat.le_of_ble_eq_true rfl) ⟨Nat.le_of_ble_eq_true rfl, Nat.le_of_ble_eq_true rfl⟩ dX12_isLink_21 (fun r_2717 H locs er_2717 Y => ?_)
      refine lv_if_eq (tgt := 31) hx hb dX12_isLink_24 (by decide) (fun c_2718 => ?_) (fun c_2718 => ?_)
      · have B_2719 : bn 0 0 r_2717 := bn_w (bn_eq c_2718 (show bn 0 0 (0 : Int32) from bn_k (by decide))) (by decide)
        refine lv_iconst (v := 0) hx hb dX12_isLink_31 (by decide) ?_
        exact prI (post := fun r L1 f1 => (bn 0 1 r) ∧ L1 = L ∧ f1 = f) S Y rfl (by decide) (by decide) hA1 ⟨bn_w (show bn 0 0 (0 : Int32) from bn_k (by decide)) (by decide), rfl, rfl⟩ dX12_isLink_32
      · have B_2720 : bn 1 1 r_2717 := bn_w (bn_nel c_2718 er_2717 (show bn 0 0 (0 : Int32) from bn_k (by decide))) (by decide)
        refine lv_iconst (v := 1) hx hb dX12_isLink_27 (by decide) ?_
        refine lv_goto (tgt := 32) hx hb dX12_isLink_28 (by decide) ?_
        exact prI (post := fun r L1 f1 => (bn 0 1 r) ∧ L1 = L ∧ f1 = f) S Y rfl (by decide) (by decide) hA1 ⟨bn_w (show bn 1 1 (1 : Int32) from bn_k (by decide)) (by decide), rfl, rfl⟩ dX12_isLink_32
theorem anew_ok {v r : Int32} (h : bn 0 30448 v) (e : r = ((v.toInt64 * 367 + 241) - (v.toInt64 * 367 + 241) / 30449 * 30449).toInt32) : bn 0 30448 r := by
  obtain ⟨h1, h2⟩ := h
  have ev : v = nI v.toInt.toNat := by
    apply Int32.toInt_inj.mp
    rw [nI_toInt (by omega)]; omega
  have e1 : v.toInt64 * 367 + 241 = lN (v.toInt.toNat * 367 + 241) := by
    rw [ev, nI_l (by omega), show (367 : Int64) = lN 367 from rfl, show (241 : Int64) = lN 241 from rfl, lN_mul, lN_add, ← ev]
  rw [e1, show (30449 : Int64) = lN 30449 from rfl, pk_lRem (by omega) (by decide) (by decide), lN_i] at e
  have hlt : (v.toInt.toNat * 367 + 241) % 30449 < 30449 := Nat.mod_lt _ (by decide)
  have e3 : r.toInt = ((v.toInt.toNat * 367 + 241) % 30449 : Nat) := by rw [e]; exact nI_toInt (by omega)
  exact ⟨by omega, by omega⟩
set_option maxHeartbeats 4000000 in
set_option maxRecDepth 100000 in
theorem x_X12_anew {l : Launch} {G : GG}  {L : List Nat} {f : HF} {ad : Nat → Nat → Nat} {sl : Int} {pl : Int} {oh : Int} {dh : Int} {w : WW} {pi : PIT} {px : (Nat → Int32) → Prop} {pa : (Nat → Int32) → Prop} (I : SH (spM (IA sl pl oh dh w) pi px pa) nnM G ad L f) (hB : BBp sl pl oh dh w) : PMv l yX12_anew cX12_anew 1 0 0 0 G [.ref (ad 0 0)] L f (fun L1 f1 => SH (spM (IA sl pl oh dh w) pi px pa) nnM G ad L1 f1) := by
  refine PMv.of (post := fun L1 f1 => SH (spM (IA sl pl oh dh w) pi px pa) nnM G ad L1 f1) (own := RX12) (by decide) rfl (Nat.le_of_ble_eq_true rfl) (fun sz p e s m args below meth c A ls hA1 hname S Y hl => ?_)
  have hx := S.hx
  have hb := S.hb
  have hl : lv_has ls 1 [(0, .ref (ad 0 0))] := hl
  refine lv_aload_n hx hb dX12_anew_0 rfl (lv_at hl 0 rfl) ?_
  obtain ⟨v_2815, v_2817, v_2819, v_2821, v_2823, v_2825, v_2827, v_2829, v_2830, v_2832, v_2834, v_2836, v_2838, v_2840, v_2842, v_2844, v_2846, v_2848, p_ad_0_0, b_2816, b_2818, b_2820, b_2822, b_2824, b_2826, b_2828, b_2831, b_2833, b_2835, b_2837, b_2839, b_2841, b_2843, b_2845, b_2847, b_2849⟩ := opnM_0 (j := 0) I (by decide)
  have p_ad_0_0 : pt L f (ad 0 0) (.inr (12, [.ref (ad 1 0), .ref (ad 2 0), .ref (ad 3 0), .ref (ad 4 0), .int v_2815, .int v_2817, .int v_2819, .int v_2821, .int v_2823, .int v_2825, .int v_2827, .long v_2829, .int v_2830, .int v_2832, .int v_2834, .ref (ad 5 0), .ref (ad 6 0), .int v_2836, .int v_2838, .int v_2840, .int v_2842, .int v_2844, .ref (ad 7 0), .ref (ad 8 0), .ref (ad 9 0), .int v_2846, .ref (ad 10 0), .ref (ad 11 0), .ref (ad 12 0), .ref (ad 13 0), .int v_2848, .ref (ad 14 0)])) := p_ad_0_0
  refine pg_get S Y ok_X12 0 (by decide) kf12_7 (v := .ref (ad 1 0)) p_ad_0_0 rfl dX12_anew_1 ?_
  refine lv_bipush (v := 12) hx hb dX12_anew_4 (by decide) ?_
  refine lv_aload_n hx hb dX12_anew_6 rfl (lv_at hl 0 rfl) ?_
  refine pg_get S Y ok_X12 0 (by decide) kf12_7 (v := .ref (ad 1 0)) p_ad_0_0 rfl dX12_anew_7 ?_
  refine lv_bipush (v := 12) hx hb dX12_anew_10 (by decide) ?_
  obtain ⟨g_2850, p_ad_1_0, o_2851⟩ := I.opi (k := 1) (j := 0) (by decide) rfl
  have p_ad_1_0 : pt L f (ad 1 0) (.inl (G.2 0, 10568, .inl g_2850)) := p_ad_1_0
  obtain ⟨v_2852, ev_2852⟩ : ∃ z, z = g_2850 (12 : Int32).toNatClampNeg := ⟨_, rfl⟩
  refine pg_iald S Y (v := v_2852) p_ad_1_0 (by unfold vp_in; decide) ev_2852.symm dX12_anew_12 ?_
  have bv_2852 : bn 0 30448 v_2852 := bn_eq ev_2852 (IA_12 o_2851)
  refine lv_i2l hx hb dX12_anew_13 rfl ?_
  refine lv_topl (fun x_2853 ex_2853 => ?_)
  refine lv_ldc2 (v := 367) hx hb S.ow (S.w kl12_311) dX12_anew_14 ?_
  refine lv_lmul hx hb dX12_anew_17 ?_
  refine lv_topl (fun x_2854 ex_2854 => ?_)
  refine lv_ldc2 (v := 241) hx hb S.ow (S.w kl12_313) dX12_anew_18 ?_
  refine lv_ladd hx hb dX12_anew_21 ?_
  refine lv_topl (fun x_2855 ex_2855 => ?_)
  refine lv_ldc2 (v := 30449) hx hb S.ow (S.w kl12_315) dX12_anew_22 ?_
  refine lv_lrem hx hb dX12_anew_25 (by decide) ?_
  refine lv_topl (fun x_2856 ex_2856 => ?_)
  refine lv_l2i hx hb dX12_anew_26 rfl ?_
  refine lv_topi (fun x_2857 ex_2857 => ?_)
  refine pg_iast S Y p_ad_1_0 (by unfold vp_in; decide) dX12_anew_27 (fun f_2859 H locs ef_2859 Y => ?_)
  obtain ⟨g_2858, eg_2858⟩ : ∃ z, z = upd (g_2850) (12 : Int32).toNatClampNeg x_2857 := ⟨_, rfl⟩
  rw [← eg_2858] at ef_2859
  have p_ad_0_0 := p_ad_0_0.up ef_2859 (I.ne (k := 0) (j := 0) (k' := 1) (j' := 0) (by decide) (by decide) (Or.inl (by decide)))
  have p_ad_1_0 := p_ad_1_0.me ef_2859
  have o_2860 : (IA sl pl oh dh w) g_2858 := (by rw [eg_2858]; exact (IA_dr o_2851 (anew_ok bv_2852 (by rw [ex_2857, ex_2856, ex_2855, ex_2854, ex_2853]))))
  have I := I.up (k := 1) (j := 0) (by decide) ef_2859 (okE_a (g := g_2858) o_2860)
  have q_2861 : g_2858 (12 : Int32).toNatClampNeg = x_2857 := by rw [eg_2858]; exact pk_us
  exact prV (post := fun L1 f1 => SH (spM (IA sl pl oh dh w) pi px pa) nnM G ad L1 f1) S Y (by decide) (by decide) hA1 I dX12_anew_28
set_option maxHeartbeats 4000000 in
set_option maxRecDepth 100000 in
theorem x_X12_netOf {l : Launch} {G : GG}  {L : List Nat} {f : HF} {ad : Nat → Nat → Nat} {sl : Int} {pl : Int} {oh : Int} {dh : Int} {w : WW} {pi : PIT} {px : (Nat → Int32) → Prop} {pa : (Nat → Int32) → Prop} {i1 : Int32} (I : SH (spM (IA sl pl oh dh w) pi px pa) nnM G ad L f) (hB : BBp sl pl oh dh w) : PMp l yX12_netOf cX12_netOf 4 .int 1 0 0 G [.ref (ad 0 0), .int i1] L f (fun r => True) := by
  refine PMi.of (post := fun r L1 f1 => (True) ∧ L1 = L ∧ f1 = f) (own := RX12) (by decide) rfl (Nat.le_of_ble_eq_true rfl) (fun sz p e s m args below meth c A ls hA1 hname S Y hl => ?_)
  have hx := S.hx
  have hb := S.hb
  have hl : lv_has ls 4 [(0, .ref (ad 0 0)), (1, .int i1)] := hl
  have J_4 : ∀ (n4 : Nat) (y4_2 y4_3 : Int32) (H : Heap) (locs : List Loc) (ls : Array Slot), (bn 0 14 y4_3) → (((14 : Int) - y4_3.toInt).toNat = n4) → (DY G A s [] L f H locs) → (lv_has ls 4 [(0, .ref (ad 0 0)), (1, .int i1), (2, .int y4_2), (3, .int y4_3)]) → W p l e (rmD 1 0 0) s m args below meth c H locs (0) (0) (MQ below (va_Qi (fun r (u : List Nat × HF) => (fun r L1 f1 => (True) ∧ L1 = L ∧ f1 = f) r u.1 u.2) (fun u t => pOut G (va_A (va_pl L f) sz) u.1 u.2 t) (va_A (va_pl L f) sz)) args s 0 0 A) (F0 m 4 ls []) := by
    intro n4
    induction n4 using Nat.strongRecOn with
    | _ n4 ih4 =>
      intro y4_2 y4_3 H locs ls b_y4_3 hm4 Y hl
      refine lv_iload_n hx hb dX12_netOf_4 rfl (lv_at hl 3 rfl) ?_
      refine lv_aload_n hx hb dX12_netOf_5 rfl (lv_at hl 0 rfl) ?_
      obtain ⟨v_3814, v_3816, v_3818, v_3820, v_3822, v_3824, v_3826, v_3828, v_3829, v_3831, v_3833, v_3835, v_3837, v_3839, v_3841, v_3843, v_3845, v_3847, p_ad_0_0, b_3815, b_3817, b_3819, b_3821, b_3823, b_3825, b_3827, b_3830, b_3832, b_3834, b_3836, b_3838, b_3840, b_3842, b_3844, b_3846, b_3848⟩ := opnM_0 (j := 0) I (by decide)
      have p_ad_0_0 : pt L f (ad 0 0) (.inr (12, [.ref (ad 1 0), .ref (ad 2 0), .ref (ad 3 0), .ref (ad 4 0), .int v_3814, .int v_3816, .int v_3818, .int v_3820, .int v_3822, .int v_3824, .int v_3826, .long v_3828, .int v_3829, .int v_3831, .int v_3833, .ref (ad 5 0), .ref (ad 6 0), .int v_3835, .int v_3837, .int v_3839, .int v_3841, .int v_3843, .ref (ad 7 0), .ref (ad 8 0), .ref (ad 9 0), .int v_3845, .ref (ad 10 0), .ref (ad 11 0), .ref (ad 12 0), .ref (ad 13 0), .int v_3847, .ref (ad 14 0)])) := p_ad_0_0
      refine pg_get S Y ok_X12 0 (by decide) kf12_7 (v := .ref (ad 1 0)) p_ad_0_0 rfl dX12_netOf_6 ?_
      refine lv_bipush (v := 13) hx hb dX12_netOf_9 (by decide) ?_
      obtain ⟨g_3849, p_ad_1_0, o_3850⟩ := I.opi (k := 1) (j := 0) (by decide) rfl
      have p_ad_1_0 : pt L f (ad 1 0) (.inl (G.2 0, 10568, .inl g_3849)) := p_ad_1_0
      obtain ⟨v_3851, ev_3851⟩ : ∃ z, z = g_3849 (13 : Int32).toNatClampNeg := ⟨_, rfl⟩
      refine pg_iald S Y (v := v_3851) p_ad_1_0 (by unfold vp_in; decide) ev_3851.symm dX12_netOf_11 ?_
      have bv_3851 : bn 0 14 v_3851 := bn_eq ev_3851 (bn_w (a' := 0) (b' := 14) (IA_13 o_3850) ⟨by decide, by have h9 := hB; unfold BBp at h9; omega⟩)
      refine lv_icmp_ge (tgt := 88) hx hb dX12_netOf_12 (by decide) (fun c_3852 => ?_) (fun c_3852 => ?_)
      · refine lv_iload_n hx hb dX12_netOf_88 rfl (lv_at hl 2 rfl) ?_
        exact prI (post := fun r L1 f1 => (True) ∧ L1 = L ∧ f1 = f) S Y rfl (by decide) (by decide) hA1 ⟨trivial, rfl, rfl⟩ dX12_netOf_89
      · have B_3853 : bn 1 14 v_3851 := bn_w (bn_gtl c_3852 bv_3851 b_y4_3) (by decide)
        have B_3854 : bn 0 13 y4_3 := bn_w (bn_gtr c_3852 bv_3851 b_y4_3) (by decide)
        refine lv_aload_n hx hb dX12_netOf_15 rfl (lv_at hl 0 rfl) ?_
        refine lv_iload_n hx hb dX12_netOf_16 rfl (lv_at hl 3 rfl) ?_
        refine lv_iconst (v := 2) hx hb dX12_netOf_17 (by decide) ?_
        refine cVp (As := [.int y4_3, .int 2]) (rest := []) S Y (x_X12_get (l := l) I hB (bn_w B_3854 (by decide)) (bn_w (show bn 2 2 (2 : Int32) from bn_k (by decide)) (by decide))) cw_X12_get km12_73 p_ad_0_0 ok_X12.1 rfl rfl ⟨Nat.le_of_ble_eq_true rfl, Nat.le_of_ble_eq_true rfl⟩ hl.1 rfl (Nat.le_of_ble_eq_true rfl) ⟨Nat.le_of_ble_eq_true rfl, Nat.le_of_ble_eq_true rfl⟩ dX12_netOf_18 (fun r_3855 H locs er_3855 Y => ?_)
        refine lv_if_eq (tgt := 82) hx hb dX12_netOf_21 (by decide) (fun c_3856 => ?_) (fun c_3856 => ?_)
        · have B_3857 : bn 0 0 r_3855 := bn_w (bn_eq c_3856 (show bn 0 0 (0 : Int32) from bn_k (by decide))) (by decide)
          obtain ⟨x_3858, ex_3858⟩ : ∃ z : Int32, z = y4_3 + 1 := ⟨_, rfl⟩
          refine lv_iinc (v := x_3858) (lv' := [(3, .int x_3858), (0, .ref (ad 0 0)), (1, .int i1), (2, .int y4_2)]) hx hb dX12_netOf_82 hl (k := 3) rfl (by rw [ex_3858]; rfl) (by decide) rfl (fun ls hl => ?_)
          refine lv_goto (tgt := 4) hx hb dX12_netOf_85 (by decide) ?_
          exact ih4 _ (by rw [← hm4]; exact ms_up (m := 1) ex_3858 (show bn 1 1 (1 : Int32) from bn_k (by decide)) B_3854 (bn_w (bn_eq ex_3858 (bn_add B_3854 (show bn 1 1 (1 : Int32) from bn_k (by decide)) (by decide))) (by decide) : bn 0 14 x_3858) (by decide)) y4_2 x_3858  _ _ _  (bn_w (bn_eq ex_3858 (bn_add B_3854 (show bn 1 1 (1 : Int32) from bn_k (by decide)) (by decide))) (by decide)) rfl Y (lv_sub hl [1, 2, 3, 0] rfl)
        · refine lv_aload_n hx hb dX12_netOf_24 rfl (lv_at hl 0 rfl) ?_
          refine lv_iload_n hx hb dX12_netOf_25 rfl (lv_at hl 3 rfl) ?_
          refine lv_iconst (v := 4) hx hb dX12_netOf_26 (by decide) ?_
          refine cVp (As := [.int y4_3, .int 4]) (rest := []) S Y (x_X12_get (l := l) I hB (bn_w B_3854 (by decide)) (bn_w (show bn 4 4 (4 : Int32) from bn_k (by decide)) (by decide))) cw_X12_get km12_73 p_ad_0_0 ok_X12.1 rfl rfl ⟨Nat.le_of_ble_eq_true rfl, Nat.le_of_ble_eq_true rfl⟩ hl.1 rfl (Nat.le_of_ble_eq_true rfl) ⟨Nat.le_of_ble_eq_true rfl, Nat.le_of_ble_eq_true rfl⟩ dX12_netOf_27 (fun r_3859 H locs er_3859 Y => ?_)
          refine lv_if_eq (tgt := 36) hx hb dX12_netOf_30 (by decide) (fun c_3860 => ?_) (fun c_3860 => ?_)
          · have B_3861 : bn 0 0 r_3859 := bn_w (bn_eq c_3860 (show bn 0 0 (0 : Int32) from bn_k (by decide))) (by decide)
            refine lv_iload_n hx hb dX12_netOf_36 rfl (lv_at hl 2 rfl) ?_
            refine lv_aload_n hx hb dX12_netOf_37 rfl (lv_at hl 0 rfl) ?_
            refine lv_iload_n hx hb dX12_netOf_38 rfl (lv_at hl 3 rfl) ?_
            refine lv_iconst (v := 1) hx hb dX12_netOf_39 (by decide) ?_
            refine cVp (As := [.int y4_3, .int 1]) (rest := [.int y4_2]) S Y (x_X12_getON (l := l) I hB (bn_w B_3854 (by decide)) (bn_w (show bn 1 1 (1 : Int32) from bn_k (by decide)) (by decide))) cw_X12_get km12_73 p_ad_0_0 ok_X12.1 rfl rfl ⟨Nat.le_of_ble_eq_true rfl, Nat.le_of_ble_eq_true rfl⟩ hl.1 rfl (Nat.le_of_ble_eq_true rfl) ⟨Nat.le_of_ble_eq_true rfl, Nat.le_of_ble_eq_true rfl⟩ dX12_netOf_40 (fun r_3862 H locs er_3862 Y => ?_)
            refine lv_iload_n hx hb dX12_netOf_43 rfl (lv_at hl 1 rfl) ?_
            refine lv_icmp_ne (tgt := 56) hx hb dX12_netOf_44 (by decide) (fun c_3863 => ?_) (fun c_3863 => ?_)
            · refine lv_iconst (v := 0) hx hb dX12_netOf_56 (by decide) ?_
              refine lv_iadd hx hb dX12_netOf_57 ?_
              refine lv_topi (fun x_3864 ex_3864 => ?_)
              refine lv_istore_n (lv' := [(2, .int x_3864), (0, .ref (ad 0 0)), (1, .int i1), (3, .int y4_3)]) hx hb dX12_netOf_58 rfl hl (by decide) rfl (fun ls hl => ?_)
              refine lv_iload_n hx hb dX12_netOf_59 rfl (lv_at hl 0 rfl) ?_
              refine lv_aload_n hx hb dX12_netOf_60 rfl (lv_at hl 1 rfl) ?_
              refine lv_iload_n hx hb dX12_netOf_61 rfl (lv_at hl 3 rfl) ?_
              refine lv_iconst (v := 0) hx hb dX12_netOf_62 (by decide) ?_
              refine cVp (As := [.int y4_3, .int 0]) (rest := [.int x_3864]) S Y (x_X12_get (l := l) I hB (bn_w B_3854 (by decide)) (bn_w (show bn 0 0 (0 : Int32) from bn_k (by decide)) (by decide))) cw_X12_get km12_73 p_ad_0_0 ok_X12.1 rfl rfl ⟨Nat.le_of_ble_eq_true rfl, Nat.le_of_ble_eq_true rfl⟩ hl.1 rfl (Nat.le_of_ble_eq_true rfl) ⟨Nat.le_of_ble_eq_true rfl, Nat.le_of_ble_eq_true rfl⟩ dX12_netOf_63 (fun r_3865 H locs er_3865 Y => ?_)
              refine lv_iload_n hx hb dX12_netOf_66 rfl (lv_at hl 2 rfl) ?_
              refine lv_icmp_ne (tgt := 79) hx hb dX12_netOf_67 (by decide) (fun c_3866 => ?_) (fun c_3866 => ?_)
              · refine lv_iconst (v := 0) hx hb dX12_netOf_79 (by decide) ?_
                refine lv_isub hx hb dX12_netOf_80 ?_
                refine lv_topi (fun x_3867 ex_3867 => ?_)
                refine lv_istore_n (lv' := [(2, .int x_3867), (0, .ref (ad 0 0)), (1, .int i1), (3, .int y4_3)]) hx hb dX12_netOf_81 rfl hl (by decide) rfl (fun ls hl => ?_)
                obtain ⟨x_3868, ex_3868⟩ : ∃ z : Int32, z = y4_3 + 1 := ⟨_, rfl⟩
                refine lv_iinc (v := x_3868) (lv' := [(3, .int x_3868), (2, .int x_3867), (0, .ref (ad 0 0)), (1, .int i1)]) hx hb dX12_netOf_82 hl (k := 3) rfl (by rw [ex_3868]; rfl) (by decide) rfl (fun ls hl => ?_)
                refine lv_goto (tgt := 4) hx hb dX12_netOf_85 (by decide) ?_
                exact ih4 _ (by rw [← hm4]; exact ms_up (m := 1) ex_3868 (show bn 1 1 (1 : Int32) from bn_k (by decide)) B_3854 (bn_w (bn_eq ex_3868 (bn_add B_3854 (show bn 1 1 (1 : Int32) from bn_k (by decide)) (by decide))) (by decide) : bn 0 14 x_3868) (by decide)) x_3867 x_3868  _ _ _  (bn_w (bn_eq ex_3868 (bn_add B_3854 (show bn 1 1 (1 : Int32) from bn_k (by decide)) (by decide))) (by decide)) rfl Y (lv_sub hl [2, 3, 1, 0] rfl)
              · refine lv_aload_n hx hb dX12_netOf_70 rfl (lv_at hl 1 rfl) ?_
                refine lv_iload_n hx hb dX12_netOf_71 rfl (lv_at hl 3 rfl) ?_
                refine lv_iconst (v := 3) hx hb dX12_netOf_72 (by decide) ?_
                refine cVp (As := [.int y4_3, .int 3]) (rest := [.int x_3864]) S Y (x_X12_get (l := l) I hB (bn_w B_3854 (by decide)) (bn_w (show bn 3 3 (3 : Int32) from bn_k (by decide)) (by decide))) cw_X12_get km12_73 p_ad_0_0 ok_X12.1 rfl rfl ⟨Nat.le_of_ble_eq_true rfl, Nat.le_of_ble_eq_true rfl⟩ hl.1 rfl (Nat.le_of_ble_eq_true rfl) ⟨Nat.le_of_ble_eq_true rfl, Nat.le_of_ble_eq_true rfl⟩ dX12_netOf_73 (fun r_3869 H locs er_3869 Y => ?_)
                refine lv_goto (tgt := 80) hx hb dX12_netOf_76 (by decide) ?_
                refine lv_isub hx hb dX12_netOf_80 ?_
                refine lv_topi (fun x_3870 ex_3870 => ?_)
                refine lv_istore_n (lv' := [(2, .int x_3870), (0, .ref (ad 0 0)), (1, .int i1), (3, .int y4_3)]) hx hb dX12_netOf_81 rfl hl (by decide) rfl (fun ls hl => ?_)
                obtain ⟨x_3871, ex_3871⟩ : ∃ z : Int32, z = y4_3 + 1 := ⟨_, rfl⟩
                refine lv_iinc (v := x_3871) (lv' := [(3, .int x_3871), (2, .int x_3870), (0, .ref (ad 0 0)), (1, .int i1)]) hx hb dX12_netOf_82 hl (k := 3) rfl (by rw [ex_3871]; rfl) (by decide) rfl (fun ls hl => ?_)
                refine lv_goto (tgt := 4) hx hb dX12_netOf_85 (by decide) ?_
                exact ih4 _ (by rw [← hm4]; exact ms_up (m := 1) ex_3871 (show bn 1 1 (1 : Int32) from bn_k (by decide)) B_3854 (bn_w (bn_eq ex_3871 (bn_add B_3854 (show bn 1 1 (1 : Int32) from bn_k (by decide)) (by decide))) (by decide) : bn 0 14 x_3871) (by decide)) x_3870 x_3871  _ _ _  (bn_w (bn_eq ex_3871 (bn_add B_3854 (show bn 1 1 (1 : Int32) from bn_k (by decide)) (by decide))) (by decide)) rfl Y (lv_sub hl [2, 3, 1, 0] rfl)
            · refine lv_aload_n hx hb dX12_netOf_47 rfl (lv_at hl 0 rfl) ?_
              refine lv_iload_n hx hb dX12_netOf_48 rfl (lv_at hl 3 rfl) ?_
              refine lv_iconst (v := 3) hx hb dX12_netOf_49 (by decide) ?_
              refine cVp (As := [.int y4_3, .int 3]) (rest := [.int y4_2]) S Y (x_X12_get (l := l) I hB (bn_w B_3854 (by decide)) (bn_w (show bn 3 3 (3 : Int32) from bn_k (by decide)) (by decide))) cw_X12_get km12_73 p_ad_0_0 ok_X12.1 rfl rfl ⟨Nat.le_of_ble_eq_true rfl, Nat.le_of_ble_eq_true rfl⟩ hl.1 rfl (Nat.le_of_ble_eq_true rfl) ⟨Nat.le_of_ble_eq_true rfl, Nat.le_of_ble_eq_true rfl⟩ dX12_netOf_50 (fun r_3872 H locs er_3872 Y => ?_)
              refine lv_goto (tgt := 57) hx hb dX12_netOf_53 (by decide) ?_
              refine lv_iadd hx hb dX12_netOf_57 ?_
              refine lv_topi (fun x_3873 ex_3873 => ?_)
              refine lv_istore_n (lv' := [(2, .int x_3873), (0, .ref (ad 0 0)), (1, .int i1), (3, .int y4_3)]) hx hb dX12_netOf_58 rfl hl (by decide) rfl (fun ls hl => ?_)
              refine lv_iload_n hx hb dX12_netOf_59 rfl (lv_at hl 0 rfl) ?_
              refine lv_aload_n hx hb dX12_netOf_60 rfl (lv_at hl 1 rfl) ?_
              refine lv_iload_n hx hb dX12_netOf_61 rfl (lv_at hl 3 rfl) ?_
              refine lv_iconst (v := 0) hx hb dX12_netOf_62 (by decide) ?_
              refine cVp (As := [.int y4_3, .int 0]) (rest := [.int x_3873]) S Y (x_X12_get (l := l) I hB (bn_w B_3854 (by decide)) (bn_w (show bn 0 0 (0 : Int32) from bn_k (by decide)) (by decide))) cw_X12_get km12_73 p_ad_0_0 ok_X12.1 rfl rfl ⟨Nat.le_of_ble_eq_true rfl, Nat.le_of_ble_eq_true rfl⟩ hl.1 rfl (Nat.le_of_ble_eq_true rfl) ⟨Nat.le_of_ble_eq_true rfl, Nat.le_of_ble_eq_true rfl⟩ dX12_netOf_63 (fun r_3874 H locs er_3874 Y => ?_)
              refine lv_iload_n hx hb dX12_netOf_66 rfl (lv_at hl 2 rfl) ?_
              refine lv_icmp_ne (tgt := 79) hx hb dX12_netOf_67 (by decide) (fun c_3875 => ?_) (fun c_3875 => ?_)
              · refine lv_iconst (v := 0) hx hb dX12_netOf_79 (by decide) ?_
                refine lv_isub hx hb dX12_netOf_80 ?_
                refine lv_topi (fun x_3876 ex_3876 => ?_)
                refine lv_istore_n (lv' := [(2, .int x_3876), (0, .ref (ad 0 0)), (1, .int i1), (3, .int y4_3)]) hx hb dX12_netOf_81 rfl hl (by decide) rfl (fun ls hl => ?_)
                obtain ⟨x_3877, ex_3877⟩ : ∃ z : Int32, z = y4_3 + 1 := ⟨_, rfl⟩
                refine lv_iinc (v := x_3877) (lv' := [(3, .int x_3877), (2, .int x_3876), (0, .ref (ad 0 0)), (1, .int i1)]) hx hb dX12_netOf_82 hl (k := 3) rfl (by rw [ex_3877]; rfl) (by decide) rfl (fun ls hl => ?_)
                refine lv_goto (tgt := 4) hx hb dX12_netOf_85 (by decide) ?_
                exact ih4 _ (by rw [← hm4]; exact ms_up (m := 1) ex_3877 (show bn 1 1 (1 : Int32) from bn_k (by decide)) B_3854 (bn_w (bn_eq ex_3877 (bn_add B_3854 (show bn 1 1 (1 : Int32) from bn_k (by decide)) (by decide))) (by decide) : bn 0 14 x_3877) (by decide)) x_3876 x_3877  _ _ _  (bn_w (bn_eq ex_3877 (bn_add B_3854 (show bn 1 1 (1 : Int32) from bn_k (by decide)) (by decide))) (by decide)) rfl Y (lv_sub hl [2, 3, 1, 0] rfl)
              · refine lv_aload_n hx hb dX12_netOf_70 rfl (lv_at hl 1 rfl) ?_
                refine lv_iload_n hx hb dX12_netOf_71 rfl (lv_at hl 3 rfl) ?_
                refine lv_iconst (v := 3) hx hb dX12_netOf_72 (by decide) ?_
                refine cVp (As := [.int y4_3, .int 3]) (rest := [.int x_3873]) S Y (x_X12_get (l := l) I hB (bn_w B_3854 (by decide)) (bn_w (show bn 3 3 (3 : Int32) from bn_k (by decide)) (by decide))) cw_X12_get km12_73 p_ad_0_0 ok_X12.1 rfl rfl ⟨Nat.le_of_ble_eq_true rfl, Nat.le_of_ble_eq_true rfl⟩ hl.1 rfl (Nat.le_of_ble_eq_true rfl) ⟨Nat.le_of_ble_eq_true rfl, Nat.le_of_ble_eq_true rfl⟩ dX12_netOf_73 (fun r_3878 H locs er_3878 Y => ?_)
                refine lv_goto (tgt := 80) hx hb dX12_netOf_76 (by decide) ?_
                refine lv_isub hx hb dX12_netOf_80 ?_
                refine lv_topi (fun x_3879 ex_3879 => ?_)
                refine lv_istore_n (lv' := [(2, .int x_3879), (0, .ref (ad 0 0)), (1, .int i1), (3, .int y4_3)]) hx hb dX12_netOf_81 rfl hl (by decide) rfl (fun ls hl => ?_)
                obtain ⟨x_3880, ex_3880⟩ : ∃ z : Int32, z = y4_3 + 1 := ⟨_, rfl⟩
                refine lv_iinc (v := x_3880) (lv' := [(3, .int x_3880), (2, .int x_3879), (0, .ref (ad 0 0)), (1, .int i1)]) hx hb dX12_netOf_82 hl (k := 3) rfl (by rw [ex_3880]; rfl) (by decide) rfl (fun ls hl => ?_)
                refine lv_goto (tgt := 4) hx hb dX12_netOf_85 (by decide) ?_
                exact ih4 _ (by rw [← hm4]; exact ms_up (m := 1) ex_3880 (show bn 1 1 (1 : Int32) from bn_k (by decide)) B_3854 (bn_w (bn_eq ex_3880 (bn_add B_3854 (show bn 1 1 (1 : Int32) from bn_k (by decide)) (by decide))) (by decide) : bn 0 14 x_3880) (by decide)) x_3879 x_3880  _ _ _  (bn_w (bn_eq ex_3880 (bn_add B_3854 (show bn 1 1 (1 : Int32) from bn_k (by decide)) (by decide))) (by decide)) rfl Y (lv_sub hl [2, 3, 1, 0] rfl)
          · refine lv_goto (tgt := 82) hx hb dX12_netOf_33 (by decide) ?_
            obtain ⟨x_3881, ex_3881⟩ : ∃ z : Int32, z = y4_3 + 1 := ⟨_, rfl⟩
            refine lv_iinc (v := x_3881) (lv' := [(3, .int x_3881), (0, .ref (ad 0 0)), (1, .int i1), (2, .int y4_2)]) hx hb dX12_netOf_82 hl (k := 3) rfl (by rw [ex_3881]; rfl) (by decide) rfl (fun ls hl => ?_)
            refine lv_goto (tgt := 4) hx hb dX12_netOf_85 (by decide) ?_
            exact ih4 _ (by rw [← hm4]; exact ms_up (m := 1) ex_3881 (show bn 1 1 (1 : Int32) from bn_k (by decide)) B_3854 (bn_w (bn_eq ex_3881 (bn_add B_3854 (show bn 1 1 (1 : Int32) from bn_k (by decide)) (by decide))) (by decide) : bn 0 14 x_3881) (by decide)) y4_2 x_3881  _ _ _  (bn_w (bn_eq ex_3881 (bn_add B_3854 (show bn 1 1 (1 : Int32) from bn_k (by decide)) (by decide))) (by decide)) rfl Y (lv_sub hl [1, 2, 3, 0] rfl)
  refine lv_iconst (v := 0) hx hb dX12_netOf_0 (by decide) ?_
  refine lv_istore_n (lv' := [(2, .int 0), (0, .ref (ad 0 0)), (1, .int i1)]) hx hb dX12_netOf_1 rfl hl (by decide) rfl (fun ls hl => ?_)
  refine lv_iconst (v := 0) hx hb dX12_netOf_2 (by decide) ?_
  refine lv_istore_n (lv' := [(3, .int 0), (2, .int 0), (0, .ref (ad 0 0)), (1, .int i1)]) hx hb dX12_netOf_3 rfl hl (by decide) rfl (fun ls hl => ?_)
  exact J_4 _ 0 0  _ _ _  (bn_w (show bn 0 0 (0 : Int32) from bn_k (by decide)) (by decide)) rfl Y (lv_sub hl [2, 3, 1, 0] rfl)
set_option maxHeartbeats 4000000 in
set_option maxRecDepth 100000 in
theorem x_X12_keptOnes {l : Launch} {G : GG}  {L : List Nat} {f : HF} {ad : Nat → Nat → Nat} {sl : Int} {pl : Int} {oh : Int} {dh : Int} {w : WW} {pi : PIT} {px : (Nat → Int32) → Prop} {pa : (Nat → Int32) → Prop} (I : SH (spM (IA sl pl oh dh w) pi px pa) nnM G ad L f) (hB : BBp sl pl oh dh w) : PMp l yX12_keptOnes cX12_keptOnes 3 .int 1 0 0 G [.ref (ad 0 0)] L f (fun r => bn 0 16383 r) := by
  refine PMi.of (post := fun r L1 f1 => (bn 0 16383 r) ∧ L1 = L ∧ f1 = f) (own := RX12) (by decide) rfl (Nat.le_of_ble_eq_true rfl) (fun sz p e s m args below meth c A ls hA1 hname S Y hl => ?_)
  have hx := S.hx
  have hb := S.hb
  have hl : lv_has ls 3 [(0, .ref (ad 0 0))] := hl
  have J_4 : ∀ (n4 : Nat) (y4_1 y4_2 : Int32) (H : Heap) (locs : List Loc) (ls : Array Slot), (bn 0 16383 y4_1) → (bn 0 14 y4_2) → (((14 : Int) - y4_2.toInt).toNat = n4) → (DY G A s [] L f H locs) → (lv_has ls 3 [(0, .ref (ad 0 0)), (1, .int y4_1), (2, .int y4_2)]) → W p l e (rmD 1 0 0) s m args below meth c H locs (0) (0) (MQ below (va_Qi (fun r (u : List Nat × HF) => (fun r L1 f1 => (bn 0 16383 r) ∧ L1 = L ∧ f1 = f) r u.1 u.2) (fun u t => pOut G (va_A (va_pl L f) sz) u.1 u.2 t) (va_A (va_pl L f) sz)) args s 0 0 A) (F0 m 4 ls []) := by
    intro n4
    induction n4 using Nat.strongRecOn with
    | _ n4 ih4 =>
      intro y4_1 y4_2 H locs ls b_y4_1 b_y4_2 hm4 Y hl
      refine lv_iload_n hx hb dX12_keptOnes_4 rfl (lv_at hl 2 rfl) ?_
      refine lv_aload_n hx hb dX12_keptOnes_5 rfl (lv_at hl 0 rfl) ?_
      obtain ⟨v_4568, v_4570, v_4572, v_4574, v_4576, v_4578, v_4580, v_4582, v_4583, v_4585, v_4587, v_4589, v_4591, v_4593, v_4595, v_4597, v_4599, v_4601, p_ad_0_0, b_4569, b_4571, b_4573, b_4575, b_4577, b_4579, b_4581, b_4584, b_4586, b_4588, b_4590, b_4592, b_4594, b_4596, b_4598, b_4600, b_4602⟩ := opnM_0 (j := 0) I (by decide)
      have p_ad_0_0 : pt L f (ad 0 0) (.inr (12, [.ref (ad 1 0), .ref (ad 2 0), .ref (ad 3 0), .ref (ad 4 0), .int v_4568, .int v_4570, .int v_4572, .int v_4574, .int v_4576, .int v_4578, .int v_4580, .long v_4582, .int v_4583, .int v_4585, .int v_4587, .ref (ad 5 0), .ref (ad 6 0), .int v_4589, .int v_4591, .int v_4593, .int v_4595, .int v_4597, .ref (ad 7 0), .ref (ad 8 0), .ref (ad 9 0), .int v_4599, .ref (ad 10 0), .ref (ad 11 0), .ref (ad 12 0), .ref (ad 13 0), .int v_4601, .ref (ad 14 0)])) := p_ad_0_0
      refine pg_get S Y ok_X12 0 (by decide) kf12_7 (v := .ref (ad 1 0)) p_ad_0_0 rfl dX12_keptOnes_6 ?_
      refine lv_bipush (v := 13) hx hb dX12_keptOnes_9 (by decide) ?_
      obtain ⟨g_4603, p_ad_1_0, o_4604⟩ := I.opi (k := 1) (j := 0) (by decide) rfl
      have p_ad_1_0 : pt L f (ad 1 0) (.inl (G.2 0, 10568, .inl g_4603)) := p_ad_1_0
      obtain ⟨v_4605, ev_4605⟩ : ∃ z, z = g_4603 (13 : Int32).toNatClampNeg := ⟨_, rfl⟩
      refine pg_iald S Y (v := v_4605) p_ad_1_0 (by unfold vp_in; decide) ev_4605.symm dX12_keptOnes_11 ?_
      have bv_4605 : bn 0 14 v_4605 := bn_eq ev_4605 (bn_w (a' := 0) (b' := 14) (IA_13 o_4604) ⟨by decide, by have h9 := hB; unfold BBp at h9; omega⟩)
      refine lv_icmp_ge (tgt := 40) hx hb dX12_keptOnes_12 (by decide) (fun c_4606 => ?_) (fun c_4606 => ?_)
      · refine lv_iload_n hx hb dX12_keptOnes_40 rfl (lv_at hl 1 rfl) ?_
        exact prI (post := fun r L1 f1 => (bn 0 16383 r) ∧ L1 = L ∧ f1 = f) S Y rfl (by decide) (by decide) hA1 ⟨bn_w b_y4_1 (by decide), rfl, rfl⟩ dX12_keptOnes_41
      · have B_4607 : bn 1 14 v_4605 := bn_w (bn_gtl c_4606 bv_4605 b_y4_2) (by decide)
        have B_4608 : bn 0 13 y4_2 := bn_w (bn_gtr c_4606 bv_4605 b_y4_2) (by decide)
        refine lv_iload_n hx hb dX12_keptOnes_15 rfl (lv_at hl 1 rfl) ?_
        refine lv_aload_n hx hb dX12_keptOnes_16 rfl (lv_at hl 0 rfl) ?_
        refine lv_iload_n hx hb dX12_keptOnes_17 rfl (lv_at hl 2 rfl) ?_
        refine lv_iconst (v := 4) hx hb dX12_keptOnes_18 (by decide) ?_
        refine cVp (As := [.int y4_2, .int 4]) (rest := [.int y4_1]) S Y (x_X12_get (l := l) I hB (bn_w B_4608 (by decide)) (bn_w (show bn 4 4 (4 : Int32) from bn_k (by decide)) (by decide))) cw_X12_get km12_73 p_ad_0_0 ok_X12.1 rfl rfl ⟨Nat.le_of_ble_eq_true rfl, Nat.le_of_ble_eq_true rfl⟩ hl.1 rfl (Nat.le_of_ble_eq_true rfl) ⟨Nat.le_of_ble_eq_true rfl, Nat.le_of_ble_eq_true rfl⟩ dX12_keptOnes_19 (fun r_4609 H locs er_4609 Y => ?_)
        refine lv_if_ne (tgt := 31) hx hb dX12_keptOnes_22 (by decide) (fun c_4610 => ?_) (fun c_4610 => ?_)
        · refine lv_iconst (v := 0) hx hb dX12_keptOnes_31 (by decide) ?_
          refine lv_ior hx hb dX12_keptOnes_32 ?_
          refine lv_topi (fun x_4612 ex_4612 => ?_)
          refine lv_istore_n (lv' := [(1, .int x_4612), (0, .ref (ad 0 0)), (2, .int y4_2)]) hx hb dX12_keptOnes_33 rfl hl (by decide) rfl (fun ls hl => ?_)
          obtain ⟨x_4613, ex_4613⟩ : ∃ z : Int32, z = y4_2 + 1 := ⟨_, rfl⟩
          refine lv_iinc (v := x_4613) (lv' := [(2, .int x_4613), (1, .int x_4612), (0, .ref (ad 0 0))]) hx hb dX12_keptOnes_34 hl (k := 2) rfl (by rw [ex_4613]; rfl) (by decide) rfl (fun ls hl => ?_)
          refine lv_goto (tgt := 4) hx hb dX12_keptOnes_37 (by decide) ?_
          exact ih4 _ (by rw [← hm4]; exact ms_up (m := 1) ex_4613 (show bn 1 1 (1 : Int32) from bn_k (by decide)) B_4608 (bn_w (bn_eq ex_4613 (bn_add B_4608 (show bn 1 1 (1 : Int32) from bn_k (by decide)) (by decide))) (by decide) : bn 0 14 x_4613) (by decide)) x_4612 x_4613  _ _ _  (bn_w (bn_eq ex_4612 (bn_or (n := 14) (bn_w b_y4_1 (by decide) : bn 0 16383 y4_1) (bn_w (show bn 0 0 (0 : Int32) from bn_k (by decide)) (by decide) : bn 0 0 0) (by decide) (by decide))) (by decide)) (bn_w (bn_eq ex_4613 (bn_add B_4608 (show bn 1 1 (1 : Int32) from bn_k (by decide)) (by decide))) (by decide)) rfl Y (lv_sub hl [2, 1, 0] rfl)
        · have B_4611 : bn 0 0 r_4609 := bn_w (bn_eq c_4610 (show bn 0 0 (0 : Int32) from bn_k (by decide))) (by decide)
          refine lv_iconst (v := 1) hx hb dX12_keptOnes_25 (by decide) ?_
          refine lv_iload_n hx hb dX12_keptOnes_26 rfl (lv_at hl 2 rfl) ?_
          refine lv_ishl hx hb dX12_keptOnes_27 ?_
          refine lv_topi (fun x_4614 ex_4614 => ?_)
          refine lv_goto (tgt := 32) hx hb dX12_keptOnes_28 (by decide) ?_
          refine lv_ior hx hb dX12_keptOnes_32 ?_
          refine lv_topi (fun x_4615 ex_4615 => ?_)
          refine lv_istore_n (lv' := [(1, .int x_4615), (0, .ref (ad 0 0)), (2, .int y4_2)]) hx hb dX12_keptOnes_33 rfl hl (by decide) rfl (fun ls hl => ?_)
          obtain ⟨x_4616, ex_4616⟩ : ∃ z : Int32, z = y4_2 + 1 := ⟨_, rfl⟩
          refine lv_iinc (v := x_4616) (lv' := [(2, .int x_4616), (1, .int x_4615), (0, .ref (ad 0 0))]) hx hb dX12_keptOnes_34 hl (k := 2) rfl (by rw [ex_4616]; rfl) (by decide) rfl (fun ls hl => ?_)
          refine lv_goto (tgt := 4) hx hb dX12_keptOnes_37 (by decide) ?_
          exact ih4 _ (by rw [← hm4]; exact ms_up (m := 1) ex_4616 (show bn 1 1 (1 : Int32) from bn_k (by decide)) B_4608 (bn_w (bn_eq ex_4616 (bn_add B_4608 (show bn 1 1 (1 : Int32) from bn_k (by decide)) (by decide))) (by decide) : bn 0 14 x_4616) (by decide)) x_4615 x_4616  _ _ _  (bn_w (bn_eq ex_4615 (bn_or (n := 14) (bn_w b_y4_1 (by decide) : bn 0 16383 y4_1) (bn_w (bn_eq ex_4614 (bn_shl (n := 13) (bn_w B_4608 (by decide) : bn 0 13 y4_2) (by decide) (by decide))) (by decide) : bn 0 8192 x_4614) (by decide) (by decide))) (by decide)) (bn_w (bn_eq ex_4616 (bn_add B_4608 (show bn 1 1 (1 : Int32) from bn_k (by decide)) (by decide))) (by decide)) rfl Y (lv_sub hl [2, 1, 0] rfl)
  refine lv_iconst (v := 0) hx hb dX12_keptOnes_0 (by decide) ?_
  refine lv_istore_n (lv' := [(1, .int 0), (0, .ref (ad 0 0))]) hx hb dX12_keptOnes_1 rfl hl (by decide) rfl (fun ls hl => ?_)
  refine lv_iconst (v := 0) hx hb dX12_keptOnes_2 (by decide) ?_
  refine lv_istore_n (lv' := [(2, .int 0), (1, .int 0), (0, .ref (ad 0 0))]) hx hb dX12_keptOnes_3 rfl hl (by decide) rfl (fun ls hl => ?_)
  exact J_4 _ 0 0  _ _ _  (bn_w (show bn 0 0 (0 : Int32) from bn_k (by decide)) (by decide)) (bn_w (show bn 0 0 (0 : Int32) from bn_k (by decide)) (by decide)) rfl Y (lv_sub hl [2, 1, 0] rfl)
set_option maxHeartbeats 4000000 in
set_option maxRecDepth 100000 in
theorem x_X12_ownOf {l : Launch} {G : GG}  {L : List Nat} {f : HF} {ad : Nat → Nat → Nat} {sl : Int} {pl : Int} {oh : Int} {dh : Int} {w : WW} {pi : PIT} {px : (Nat → Int32) → Prop} {pa : (Nat → Int32) → Prop} {i1 : Int32} (I : SH (spM (IA sl pl oh dh w) pi px pa) nnM G ad L f) (hB : BBp sl pl oh dh w) : PMp l yX12_ownOf cX12_ownOf 4 .int 2 0 0 G [.ref (ad 0 0), .int i1] L f (fun r => bn 0 16383 r) := by
  refine PMi.of (post := fun r L1 f1 => (bn 0 16383 r) ∧ L1 = L ∧ f1 = f) (own := RX12) (by decide) rfl (Nat.le_of_ble_eq_true rfl) (fun sz p e s m args below meth c A ls hA1 hname S Y hl => ?_)
  have hx := S.hx
  have hb := S.hb
  have hl : lv_has ls 4 [(0, .ref (ad 0 0)), (1, .int i1)] := hl
  have J_4 : ∀ (n4 : Nat) (y4_2 y4_3 : Int32) (H : Heap) (locs : List Loc) (ls : Array Slot), (bn 0 16383 y4_2) → (bn 0 14 y4_3) → (((14 : Int) - y4_3.toInt).toNat = n4) → (DY G A s [] L f H locs) → (lv_has ls 4 [(0, .ref (ad 0 0)), (1, .int i1), (2, .int y4_2), (3, .int y4_3)]) → W p l e (rmD 2 0 0) s m args below meth c H locs (0) (0) (MQ below (va_Qi (fun r (u : List Nat × HF) => (fun r L1 f1 => (bn 0 16383 r) ∧ L1 = L ∧ f1 = f) r u.1 u.2) (fun u t => pOut G (va_A (va_pl L f) sz) u.1 u.2 t) (va_A (va_pl L f) sz)) args s 0 0 A) (F0 m 4 ls []) := by
    intro n4
    induction n4 using Nat.strongRecOn with
    | _ n4 ih4 =>
      intro y4_2 y4_3 H locs ls b_y4_2 b_y4_3 hm4 Y hl
      refine lv_iload_n hx hb dX12_ownOf_4 rfl (lv_at hl 3 rfl) ?_
      refine lv_aload_n hx hb dX12_ownOf_5 rfl (lv_at hl 0 rfl) ?_
      obtain ⟨v_5527, v_5529, v_5531, v_5533, v_5535, v_5537, v_5539, v_5541, v_5542, v_5544, v_5546, v_5548, v_5550, v_5552, v_5554, v_5556, v_5558, v_5560, p_ad_0_0, b_5528, b_5530, b_5532, b_5534, b_5536, b_5538, b_5540, b_5543, b_5545, b_5547, b_5549, b_5551, b_5553, b_5555, b_5557, b_5559, b_5561⟩ := opnM_0 (j := 0) I (by decide)
      have p_ad_0_0 : pt L f (ad 0 0) (.inr (12, [.ref (ad 1 0), .ref (ad 2 0), .ref (ad 3 0), .ref (ad 4 0), .int v_5527, .int v_5529, .int v_5531, .int v_5533, .int v_5535, .int v_5537, .int v_5539, .long v_5541, .int v_5542, .int v_5544, .int v_5546, .ref (ad 5 0), .ref (ad 6 0), .int v_5548, .int v_5550, .int v_5552, .int v_5554, .int v_5556, .ref (ad 7 0), .ref (ad 8 0), .ref (ad 9 0), .int v_5558, .ref (ad 10 0), .ref (ad 11 0), .ref (ad 12 0), .ref (ad 13 0), .int v_5560, .ref (ad 14 0)])) := p_ad_0_0
      refine pg_get S Y ok_X12 0 (by decide) kf12_7 (v := .ref (ad 1 0)) p_ad_0_0 rfl dX12_ownOf_6 ?_
      refine lv_bipush (v := 13) hx hb dX12_ownOf_9 (by decide) ?_
      obtain ⟨g_5562, p_ad_1_0, o_5563⟩ := I.opi (k := 1) (j := 0) (by decide) rfl
      have p_ad_1_0 : pt L f (ad 1 0) (.inl (G.2 0, 10568, .inl g_5562)) := p_ad_1_0
      obtain ⟨v_5564, ev_5564⟩ : ∃ z, z = g_5562 (13 : Int32).toNatClampNeg := ⟨_, rfl⟩
      refine pg_iald S Y (v := v_5564) p_ad_1_0 (by unfold vp_in; decide) ev_5564.symm dX12_ownOf_11 ?_
      have bv_5564 : bn 0 14 v_5564 := bn_eq ev_5564 (bn_w (a' := 0) (b' := 14) (IA_13 o_5563) ⟨by decide, by have h9 := hB; unfold BBp at h9; omega⟩)
      refine lv_icmp_ge (tgt := 59) hx hb dX12_ownOf_12 (by decide) (fun c_5565 => ?_) (fun c_5565 => ?_)
      · refine lv_iload_n hx hb dX12_ownOf_59 rfl (lv_at hl 2 rfl) ?_
        exact prI (post := fun r L1 f1 => (bn 0 16383 r) ∧ L1 = L ∧ f1 = f) S Y rfl (by decide) (by decide) hA1 ⟨bn_w b_y4_2 (by decide), rfl, rfl⟩ dX12_ownOf_60
      · have B_5566 : bn 1 14 v_5564 := bn_w (bn_gtl c_5565 bv_5564 b_y4_3) (by decide)
        have B_5567 : bn 0 13 y4_3 := bn_w (bn_gtr c_5565 bv_5564 b_y4_3) (by decide)
        refine lv_iload_n hx hb dX12_ownOf_15 rfl (lv_at hl 2 rfl) ?_
        refine lv_aload_n hx hb dX12_ownOf_16 rfl (lv_at hl 0 rfl) ?_
        refine lv_iload_n hx hb dX12_ownOf_17 rfl (lv_at hl 3 rfl) ?_
        refine lv_iconst (v := 0) hx hb dX12_ownOf_18 (by decide) ?_
        refine cVp (As := [.int y4_3, .int 0]) (rest := [.int y4_2]) S Y (x_X12_get (l := l) I hB (bn_w B_5567 (by decide)) (bn_w (show bn 0 0 (0 : Int32) from bn_k (by decide)) (by decide))) cw_X12_get km12_73 p_ad_0_0 ok_X12.1 rfl rfl ⟨Nat.le_of_ble_eq_true rfl, Nat.le_of_ble_eq_true rfl⟩ hl.1 rfl (Nat.le_of_ble_eq_true rfl) ⟨Nat.le_of_ble_eq_true rfl, Nat.le_of_ble_eq_true rfl⟩ dX12_ownOf_19 (fun r_5568 H locs er_5568 Y => ?_)
        refine lv_iload_n hx hb dX12_ownOf_22 rfl (lv_at hl 1 rfl) ?_
        refine lv_icmp_eq (tgt := 36) hx hb dX12_ownOf_23 (by decide) (fun c_5569 => ?_) (fun c_5569 => ?_)
        · refine lv_aload_n hx hb dX12_ownOf_36 rfl (lv_at hl 0 rfl) ?_
          refine lv_iload_n hx hb dX12_ownOf_37 rfl (lv_at hl 3 rfl) ?_
          refine cVp (As := [.int y4_3]) (rest := [.int y4_2]) S Y (x_X12_isLegible (l := l) I hB (bn_w B_5567 (by decide))) cw_X12_isLegible km12_77 p_ad_0_0 ok_X12.1 rfl rfl ⟨Nat.le_of_ble_eq_true rfl, Nat.le_of_ble_eq_true rfl⟩ hl.1 rfl (Nat.le_of_ble_eq_true rfl) ⟨Nat.le_of_ble_eq_true rfl, Nat.le_of_ble_eq_true rfl⟩ dX12_ownOf_38 (fun r_5570 H locs er_5570 Y => ?_)
          refine lv_if_eq (tgt := 50) hx hb dX12_ownOf_41 (by decide) (fun c_5571 => ?_) (fun c_5571 => ?_)
          · have B_5572 : bn 0 0 r_5570 := bn_w (bn_eq c_5571 (show bn 0 0 (0 : Int32) from bn_k (by decide))) (by decide)
            refine lv_iconst (v := 0) hx hb dX12_ownOf_50 (by decide) ?_
            refine lv_ior hx hb dX12_ownOf_51 ?_
            refine lv_topi (fun x_5574 ex_5574 => ?_)
            refine lv_istore_n (lv' := [(2, .int x_5574), (0, .ref (ad 0 0)), (1, .int i1), (3, .int y4_3)]) hx hb dX12_ownOf_52 rfl hl (by decide) rfl (fun ls hl => ?_)
            obtain ⟨x_5575, ex_5575⟩ : ∃ z : Int32, z = y4_3 + 1 := ⟨_, rfl⟩
            refine lv_iinc (v := x_5575) (lv' := [(3, .int x_5575), (2, .int x_5574), (0, .ref (ad 0 0)), (1, .int i1)]) hx hb dX12_ownOf_53 hl (k := 3) rfl (by rw [ex_5575]; rfl) (by decide) rfl (fun ls hl => ?_)
            refine lv_goto (tgt := 4) hx hb dX12_ownOf_56 (by decide) ?_
            exact ih4 _ (by rw [← hm4]; exact ms_up (m := 1) ex_5575 (show bn 1 1 (1 : Int32) from bn_k (by decide)) B_5567 (bn_w (bn_eq ex_5575 (bn_add B_5567 (show bn 1 1 (1 : Int32) from bn_k (by decide)) (by decide))) (by decide) : bn 0 14 x_5575) (by decide)) x_5574 x_5575  _ _ _  (bn_w (bn_eq ex_5574 (bn_or (n := 14) (bn_w b_y4_2 (by decide) : bn 0 16383 y4_2) (bn_w (show bn 0 0 (0 : Int32) from bn_k (by decide)) (by decide) : bn 0 0 0) (by decide) (by decide))) (by decide)) (bn_w (bn_eq ex_5575 (bn_add B_5567 (show bn 1 1 (1 : Int32) from bn_k (by decide)) (by decide))) (by decide)) rfl Y (lv_sub hl [2, 3, 1, 0] rfl)
          · have B_5573 : bn 1 1 r_5570 := bn_w (bn_nel c_5571 er_5570 (show bn 0 0 (0 : Int32) from bn_k (by decide))) (by decide)
            refine lv_iconst (v := 1) hx hb dX12_ownOf_44 (by decide) ?_
            refine lv_iload_n hx hb dX12_ownOf_45 rfl (lv_at hl 3 rfl) ?_
            refine lv_ishl hx hb dX12_ownOf_46 ?_
            refine lv_topi (fun x_5576 ex_5576 => ?_)
            refine lv_goto (tgt := 51) hx hb dX12_ownOf_47 (by decide) ?_
            refine lv_ior hx hb dX12_ownOf_51 ?_
            refine lv_topi (fun x_5577 ex_5577 => ?_)
            refine lv_istore_n (lv' := [(2, .int x_5577), (0, .ref (ad 0 0)), (1, .int i1), (3, .int y4_3)]) hx hb dX12_ownOf_52 rfl hl (by decide) rfl (fun ls hl => ?_)
            obtain ⟨x_5578, ex_5578⟩ : ∃ z : Int32, z = y4_3 + 1 := ⟨_, rfl⟩
            refine lv_iinc (v := x_5578) (lv' := [(3, .int x_5578), (2, .int x_5577), (0, .ref (ad 0 0)), (1, .int i1)]) hx hb dX12_ownOf_53 hl (k := 3) rfl (by rw [ex_5578]; rfl) (by decide) rfl (fun ls hl => ?_)
            refine lv_goto (tgt := 4) hx hb dX12_ownOf_56 (by decide) ?_
            exact ih4 _ (by rw [← hm4]; exact ms_up (m := 1) ex_5578 (show bn 1 1 (1 : Int32) from bn_k (by decide)) B_5567 (bn_w (bn_eq ex_5578 (bn_add B_5567 (show bn 1 1 (1 : Int32) from bn_k (by decide)) (by decide))) (by decide) : bn 0 14 x_5578) (by decide)) x_5577 x_5578  _ _ _  (bn_w (bn_eq ex_5577 (bn_or (n := 14) (bn_w b_y4_2 (by decide) : bn 0 16383 y4_2) (bn_w (bn_eq ex_5576 (bn_shl (n := 13) (bn_w B_5567 (by decide) : bn 0 13 y4_3) (by decide) (by decide))) (by decide) : bn 0 8192 x_5576) (by decide) (by decide))) (by decide)) (bn_w (bn_eq ex_5578 (bn_add B_5567 (show bn 1 1 (1 : Int32) from bn_k (by decide)) (by decide))) (by decide)) rfl Y (lv_sub hl [2, 3, 1, 0] rfl)
        · refine lv_aload_n hx hb dX12_ownOf_26 rfl (lv_at hl 0 rfl) ?_
          refine lv_iload_n hx hb dX12_ownOf_27 rfl (lv_at hl 3 rfl) ?_
          refine lv_iconst (v := 1) hx hb dX12_ownOf_28 (by decide) ?_
          refine cVp (As := [.int y4_3, .int 1]) (rest := [.int y4_2]) S Y (x_X12_getON (l := l) I hB (bn_w B_5567 (by decide)) (bn_w (show bn 1 1 (1 : Int32) from bn_k (by decide)) (by decide))) cw_X12_get km12_73 p_ad_0_0 ok_X12.1 rfl rfl ⟨Nat.le_of_ble_eq_true rfl, Nat.le_of_ble_eq_true rfl⟩ hl.1 rfl (Nat.le_of_ble_eq_true rfl) ⟨Nat.le_of_ble_eq_true rfl, Nat.le_of_ble_eq_true rfl⟩ dX12_ownOf_29 (fun r_5579 H locs er_5579 Y => ?_)
          refine lv_iload_n hx hb dX12_ownOf_32 rfl (lv_at hl 1 rfl) ?_
          refine lv_icmp_ne (tgt := 50) hx hb dX12_ownOf_33 (by decide) (fun c_5580 => ?_) (fun c_5580 => ?_)
          · refine lv_iconst (v := 0) hx hb dX12_ownOf_50 (by decide) ?_
            refine lv_ior hx hb dX12_ownOf_51 ?_
            refine lv_topi (fun x_5581 ex_5581 => ?_)
            refine lv_istore_n (lv' := [(2, .int x_5581), (0, .ref (ad 0 0)), (1, .int i1), (3, .int y4_3)]) hx hb dX12_ownOf_52 rfl hl (by decide) rfl (fun ls hl => ?_)
            obtain ⟨x_5582, ex_5582⟩ : ∃ z : Int32, z = y4_3 + 1 := ⟨_, rfl⟩
            refine lv_iinc (v := x_5582) (lv' := [(3, .int x_5582), (2, .int x_5581), (0, .ref (ad 0 0)), (1, .int i1)]) hx hb dX12_ownOf_53 hl (k := 3) rfl (by rw [ex_5582]; rfl) (by decide) rfl (fun ls hl => ?_)
            refine lv_goto (tgt := 4) hx hb dX12_ownOf_56 (by decide) ?_
            exact ih4 _ (by rw [← hm4]; exact ms_up (m := 1) ex_5582 (show bn 1 1 (1 : Int32) from bn_k (by decide)) B_5567 (bn_w (bn_eq ex_5582 (bn_add B_5567 (show bn 1 1 (1 : Int32) from bn_k (by decide)) (by decide))) (by decide) : bn 0 14 x_5582) (by decide)) x_5581 x_5582  _ _ _  (bn_w (bn_eq ex_5581 (bn_or (n := 14) (bn_w b_y4_2 (by decide) : bn 0 16383 y4_2) (bn_w (show bn 0 0 (0 : Int32) from bn_k (by decide)) (by decide) : bn 0 0 0) (by decide) (by decide))) (by decide)) (bn_w (bn_eq ex_5582 (bn_add B_5567 (show bn 1 1 (1 : Int32) from bn_k (by decide)) (by decide))) (by decide)) rfl Y (lv_sub hl [2, 3, 1, 0] rfl)
          · refine lv_aload_n hx hb dX12_ownOf_36 rfl (lv_at hl 0 rfl) ?_
            refine lv_iload_n hx hb dX12_ownOf_37 rfl (lv_at hl 3 rfl) ?_
            refine cVp (As := [.int y4_3]) (rest := [.int y4_2]) S Y (x_X12_isLegible (l := l) I hB (bn_w B_5567 (by decide))) cw_X12_isLegible km12_77 p_ad_0_0 ok_X12.1 rfl rfl ⟨Nat.le_of_ble_eq_true rfl, Nat.le_of_ble_eq_true rfl⟩ hl.1 rfl (Nat.le_of_ble_eq_true rfl) ⟨Nat.le_of_ble_eq_true rfl, Nat.le_of_ble_eq_true rfl⟩ dX12_ownOf_38 (fun r_5583 H locs er_5583 Y => ?_)
            refine lv_if_eq (tgt := 50) hx hb dX12_ownOf_41 (by decide) (fun c_5584 => ?_) (fun c_5584 => ?_)
            · have B_5585 : bn 0 0 r_5583 := bn_w (bn_eq c_5584 (show bn 0 0 (0 : Int32) from bn_k (by decide))) (by decide)
              refine lv_iconst (v := 0) hx hb dX12_ownOf_50 (by decide) ?_
              refine lv_ior hx hb dX12_ownOf_51 ?_
              refine lv_topi (fun x_5587 ex_5587 => ?_)
              refine lv_istore_n (lv' := [(2, .int x_5587), (0, .ref (ad 0 0)), (1, .int i1), (3, .int y4_3)]) hx hb dX12_ownOf_52 rfl hl (by decide) rfl (fun ls hl => ?_)
              obtain ⟨x_5588, ex_5588⟩ : ∃ z : Int32, z = y4_3 + 1 := ⟨_, rfl⟩
              refine lv_iinc (v := x_5588) (lv' := [(3, .int x_5588), (2, .int x_5587), (0, .ref (ad 0 0)), (1, .int i1)]) hx hb dX12_ownOf_53 hl (k := 3) rfl (by rw [ex_5588]; rfl) (by decide) rfl (fun ls hl => ?_)
              refine lv_goto (tgt := 4) hx hb dX12_ownOf_56 (by decide) ?_
              exact ih4 _ (by rw [← hm4]; exact ms_up (m := 1) ex_5588 (show bn 1 1 (1 : Int32) from bn_k (by decide)) B_5567 (bn_w (bn_eq ex_5588 (bn_add B_5567 (show bn 1 1 (1 : Int32) from bn_k (by decide)) (by decide))) (by decide) : bn 0 14 x_5588) (by decide)) x_5587 x_5588  _ _ _  (bn_w (bn_eq ex_5587 (bn_or (n := 14) (bn_w b_y4_2 (by decide) : bn 0 16383 y4_2) (bn_w (show bn 0 0 (0 : Int32) from bn_k (by decide)) (by decide) : bn 0 0 0) (by decide) (by decide))) (by decide)) (bn_w (bn_eq ex_5588 (bn_add B_5567 (show bn 1 1 (1 : Int32) from bn_k (by decide)) (by decide))) (by decide)) rfl Y (lv_sub hl [2, 3, 1, 0] rfl)
            · have B_5586 : bn 1 1 r_5583 := bn_w (bn_nel c_5584 er_5583 (show bn 0 0 (0 : Int32) from bn_k (by decide))) (by decide)
              refine lv_iconst (v := 1) hx hb dX12_ownOf_44 (by decide) ?_
              refine lv_iload_n hx hb dX12_ownOf_45 rfl (lv_at hl 3 rfl) ?_
              refine lv_ishl hx hb dX12_ownOf_46 ?_
              refine lv_topi (fun x_5589 ex_5589 => ?_)
              refine lv_goto (tgt := 51) hx hb dX12_ownOf_47 (by decide) ?_
              refine lv_ior hx hb dX12_ownOf_51 ?_
              refine lv_topi (fun x_5590 ex_5590 => ?_)
              refine lv_istore_n (lv' := [(2, .int x_5590), (0, .ref (ad 0 0)), (1, .int i1), (3, .int y4_3)]) hx hb dX12_ownOf_52 rfl hl (by decide) rfl (fun ls hl => ?_)
              obtain ⟨x_5591, ex_5591⟩ : ∃ z : Int32, z = y4_3 + 1 := ⟨_, rfl⟩
              refine lv_iinc (v := x_5591) (lv' := [(3, .int x_5591), (2, .int x_5590), (0, .ref (ad 0 0)), (1, .int i1)]) hx hb dX12_ownOf_53 hl (k := 3) rfl (by rw [ex_5591]; rfl) (by decide) rfl (fun ls hl => ?_)
              refine lv_goto (tgt := 4) hx hb dX12_ownOf_56 (by decide) ?_
              exact ih4 _ (by rw [← hm4]; exact ms_up (m := 1) ex_5591 (show bn 1 1 (1 : Int32) from bn_k (by decide)) B_5567 (bn_w (bn_eq ex_5591 (bn_add B_5567 (show bn 1 1 (1 : Int32) from bn_k (by decide)) (by decide))) (by decide) : bn 0 14 x_5591) (by decide)) x_5590 x_5591  _ _ _  (bn_w (bn_eq ex_5590 (bn_or (n := 14) (bn_w b_y4_2 (by decide) : bn 0 16383 y4_2) (bn_w (bn_eq ex_5589 (bn_shl (n := 13) (bn_w B_5567 (by decide) : bn 0 13 y4_3) (by decide) (by decide))) (by decide) : bn 0 8192 x_5589) (by decide) (by decide))) (by decide)) (bn_w (bn_eq ex_5591 (bn_add B_5567 (show bn 1 1 (1 : Int32) from bn_k (by decide)) (by decide))) (by decide)) rfl Y (lv_sub hl [2, 3, 1, 0] rfl)
  refine lv_iconst (v := 0) hx hb dX12_ownOf_0 (by decide) ?_
  refine lv_istore_n (lv' := [(2, .int 0), (0, .ref (ad 0 0)), (1, .int i1)]) hx hb dX12_ownOf_1 rfl hl (by decide) rfl (fun ls hl => ?_)
  refine lv_iconst (v := 0) hx hb dX12_ownOf_2 (by decide) ?_
  refine lv_istore_n (lv' := [(3, .int 0), (2, .int 0), (0, .ref (ad 0 0)), (1, .int i1)]) hx hb dX12_ownOf_3 rfl hl (by decide) rfl (fun ls hl => ?_)
  exact J_4 _ 0 0  _ _ _  (bn_w (show bn 0 0 (0 : Int32) from bn_k (by decide)) (by decide)) (bn_w (show bn 0 0 (0 : Int32) from bn_k (by decide)) (by decide)) rfl Y (lv_sub hl [2, 3, 1, 0] rfl)
set_option maxHeartbeats 4000000 in
set_option maxRecDepth 100000 in
theorem x_X12_knownBy {l : Launch} {G : GG}  {L : List Nat} {f : HF} {ad : Nat → Nat → Nat} {sl : Int} {pl : Int} {oh : Int} {dh : Int} {w : WW} {pi : PIT} {px : (Nat → Int32) → Prop} {pa : (Nat → Int32) → Prop} {i1 : Int32} (I : SH (spM (IA sl pl oh dh w) pi px pa) nnM G ad L f) (hB : BBp sl pl oh dh w) : PMp l yX12_knownBy cX12_knownBy 4 .int 3 0 0 G [.ref (ad 0 0), .int i1] L f (fun r => bn 0 16383 r) := by
  refine PMi.of (post := fun r L1 f1 => (bn 0 16383 r) ∧ L1 = L ∧ f1 = f) (own := RX12) (by decide) rfl (Nat.le_of_ble_eq_true rfl) (fun sz p e s m args below meth c A ls hA1 hname S Y hl => ?_)
  have hx := S.hx
  have hb := S.hb
  have hl : lv_has ls 4 [(0, .ref (ad 0 0)), (1, .int i1)] := hl
  have J_8 : ∀ (n8 : Nat) (y8_2 y8_3 : Int32) (H : Heap) (locs : List Loc) (ls : Array Slot), (bn 0 16383 y8_2) → (bn 0 8 y8_3) → (((8 : Int) - y8_3.toInt).toNat = n8) → (DY G A s [] L f H locs) → (lv_has ls 4 [(0, .ref (ad 0 0)), (1, .int i1), (2, .int y8_2), (3, .int y8_3)]) → W p l e (rmD 3 0 0) s m args below meth c H locs (0) (0) (MQ below (va_Qi (fun r (u : List Nat × HF) => (fun r L1 f1 => (bn 0 16383 r) ∧ L1 = L ∧ f1 = f) r u.1 u.2) (fun u t => pOut G (va_A (va_pl L f) sz) u.1 u.2 t) (va_A (va_pl L f) sz)) args s 0 0 A) (F0 m 8 ls []) := by
    intro n8
    induction n8 using Nat.strongRecOn with
    | _ n8 ih8 =>
      intro y8_2 y8_3 H locs ls b_y8_2 b_y8_3 hm8 Y hl
      refine lv_iload_n hx hb dX12_knownBy_8 rfl (lv_at hl 3 rfl) ?_
      refine lv_aload_n hx hb dX12_knownBy_9 rfl (lv_at hl 0 rfl) ?_
      obtain ⟨v_6134, v_6136, v_6138, v_6140, v_6142, v_6144, v_6146, v_6148, v_6149, v_6151, v_6153, v_6155, v_6157, v_6159, v_6161, v_6163, v_6165, v_6167, p_ad_0_0, b_6135, b_6137, b_6139, b_6141, b_6143, b_6145, b_6147, b_6150, b_6152, b_6154, b_6156, b_6158, b_6160, b_6162, b_6164, b_6166, b_6168⟩ := opnM_0 (j := 0) I (by decide)
      have p_ad_0_0 : pt L f (ad 0 0) (.inr (12, [.ref (ad 1 0), .ref (ad 2 0), .ref (ad 3 0), .ref (ad 4 0), .int v_6134, .int v_6136, .int v_6138, .int v_6140, .int v_6142, .int v_6144, .int v_6146, .long v_6148, .int v_6149, .int v_6151, .int v_6153, .ref (ad 5 0), .ref (ad 6 0), .int v_6155, .int v_6157, .int v_6159, .int v_6161, .int v_6163, .ref (ad 7 0), .ref (ad 8 0), .ref (ad 9 0), .int v_6165, .ref (ad 10 0), .ref (ad 11 0), .ref (ad 12 0), .ref (ad 13 0), .int v_6167, .ref (ad 14 0)])) := p_ad_0_0
      refine pg_get S Y ok_X12 0 (by decide) kf12_7 (v := .ref (ad 1 0)) p_ad_0_0 rfl dX12_knownBy_10 ?_
      refine lv_bipush (v := 7) hx hb dX12_knownBy_13 (by decide) ?_
      obtain ⟨g_6169, p_ad_1_0, o_6170⟩ := I.opi (k := 1) (j := 0) (by decide) rfl
      have p_ad_1_0 : pt L f (ad 1 0) (.inl (G.2 0, 10568, .inl g_6169)) := p_ad_1_0
      obtain ⟨v_6171, ev_6171⟩ : ∃ z, z = g_6169 (7 : Int32).toNatClampNeg := ⟨_, rfl⟩
      refine pg_iald S Y (v := v_6171) p_ad_1_0 (by unfold vp_in; decide) ev_6171.symm dX12_knownBy_15 ?_
      have bv_6171 : bn 0 8 v_6171 := bn_eq ev_6171 (IA_7 o_6170)
      refine lv_icmp_ge (tgt := 62) hx hb dX12_knownBy_16 (by decide) (fun c_6172 => ?_) (fun c_6172 => ?_)
      · refine lv_iload_n hx hb dX12_knownBy_62 rfl (lv_at hl 2 rfl) ?_
        exact prI (post := fun r L1 f1 => (bn 0 16383 r) ∧ L1 = L ∧ f1 = f) S Y rfl (by decide) (by decide) hA1 ⟨bn_w b_y8_2 (by decide), rfl, rfl⟩ dX12_knownBy_63
      · have B_6173 : bn 1 8 v_6171 := bn_w (bn_gtl c_6172 bv_6171 b_y8_3) (by decide)
        have B_6174 : bn 0 7 y8_3 := bn_w (bn_gtr c_6172 bv_6171 b_y8_3) (by decide)
        refine lv_aload_n hx hb dX12_knownBy_19 rfl (lv_at hl 0 rfl) ?_
        refine pg_get S Y ok_X12 0 (by decide) kf12_7 (v := .ref (ad 1 0)) p_ad_0_0 rfl dX12_knownBy_20 ?_
        refine lv_sipush (v := 176) hx hb dX12_knownBy_23 (by decide) ?_
        refine lv_iconst (v := 2) hx hb dX12_knownBy_26 (by decide) ?_
        refine lv_iload_n hx hb dX12_knownBy_27 rfl (lv_at hl 3 rfl) ?_
        refine lv_imul hx hb dX12_knownBy_28 ?_
        refine lv_topi (fun x_6175 ex_6175 => ?_)
        refine lv_iadd hx hb dX12_knownBy_29 ?_
        refine lv_topi (fun x_6176 ex_6176 => ?_)
        obtain ⟨v_6177, ev_6177⟩ : ∃ z, z = g_6169 (x_6176 : Int32).toNatClampNeg := ⟨_, rfl⟩
        refine pg_iald S Y (v := v_6177) p_ad_1_0 (vp_bn (bn_eq ex_6176 (bn_add (show bn 176 176 (176 : Int32) from bn_k (by decide)) (bn_eq ex_6175 (bn_mul (show bn 2 2 (2 : Int32) from bn_k (by decide)) B_6174 (by decide))) (by decide))) (by decide)) ev_6177.symm dX12_knownBy_30 ?_
        refine lv_iload_n hx hb dX12_knownBy_31 rfl (lv_at hl 1 rfl) ?_
        refine lv_icmp_ne (tgt := 56) hx hb dX12_knownBy_32 (by decide) (fun c_6178 => ?_) (fun c_6178 => ?_)
        · obtain ⟨x_6179, ex_6179⟩ : ∃ z : Int32, z = y8_3 + 1 := ⟨_, rfl⟩
          refine lv_iinc (v := x_6179) (lv' := [(3, .int x_6179), (0, .ref (ad 0 0)), (1, .int i1), (2, .int y8_2)]) hx hb dX12_knownBy_56 hl (k := 3) rfl (by rw [ex_6179]; rfl) (by decide) rfl (fun ls hl => ?_)
          refine lv_goto (tgt := 8) hx hb dX12_knownBy_59 (by decide) ?_
          exact ih8 _ (by rw [← hm8]; exact ms_up (m := 1) ex_6179 (show bn 1 1 (1 : Int32) from bn_k (by decide)) B_6174 (bn_w (bn_eq ex_6179 (bn_add B_6174 (show bn 1 1 (1 : Int32) from bn_k (by decide)) (by decide))) (by decide) : bn 0 8 x_6179) (by decide)) y8_2 x_6179  _ _ _  (bn_w b_y8_2 (by decide)) (bn_w (bn_eq ex_6179 (bn_add B_6174 (show bn 1 1 (1 : Int32) from bn_k (by decide)) (by decide))) (by decide)) rfl Y (lv_sub hl [1, 2, 3, 0] rfl)
        · refine lv_iload_n hx hb dX12_knownBy_35 rfl (lv_at hl 2 rfl) ?_
          refine lv_aload_n hx hb dX12_knownBy_36 rfl (lv_at hl 0 rfl) ?_
          refine lv_aload_n hx hb dX12_knownBy_37 rfl (lv_at hl 0 rfl) ?_
          refine pg_get S Y ok_X12 0 (by decide) kf12_7 (v := .ref (ad 1 0)) p_ad_0_0 rfl dX12_knownBy_38 ?_
          refine lv_sipush (v := 176) hx hb dX12_knownBy_41 (by decide) ?_
          refine lv_iconst (v := 2) hx hb dX12_knownBy_44 (by decide) ?_
          refine lv_iload_n hx hb dX12_knownBy_45 rfl (lv_at hl 3 rfl) ?_
          refine lv_imul hx hb dX12_knownBy_46 ?_
          refine lv_topi (fun x_6180 ex_6180 => ?_)
          refine lv_iadd hx hb dX12_knownBy_47 ?_
          refine lv_topi (fun x_6181 ex_6181 => ?_)
          refine lv_iconst (v := 1) hx hb dX12_knownBy_48 (by decide) ?_
          refine lv_iadd hx hb dX12_knownBy_49 ?_
          refine lv_topi (fun x_6182 ex_6182 => ?_)
          have B_6183 : bn 177 191 x_6182 := bn_w (bn_eq ex_6182 (bn_add (bn_eq ex_6181 (bn_add (show bn 176 176 (176 : Int32) from bn_k (by decide)) (bn_eq ex_6180 (bn_mul (show bn 2 2 (2 : Int32) from bn_k (by decide)) B_6174 (by decide))) (by decide))) (show bn 1 1 (1 : Int32) from bn_k (by decide)) (by decide))) (by decide)
          obtain ⟨v_6184, ev_6184⟩ : ∃ z, z = g_6169 (x_6182 : Int32).toNatClampNeg := ⟨_, rfl⟩
          refine pg_iald S Y (v := v_6184) p_ad_1_0 (vp_bn B_6183 (by decide)) ev_6184.symm dX12_knownBy_50 ?_
          refine cVp (As := [.int v_6184]) (rest := [.int y8_2]) S Y (x_X12_legibleOn (l := l) I hB) cw_X12_legibleOn km12_265 p_ad_0_0 ok_X12.1 rfl rfl ⟨Nat.le_of_ble_eq_true rfl, Nat.le_of_ble_eq_true rfl⟩ hl.1 rfl (Nat.le_of_ble_eq_true rfl) ⟨Nat.le_of_ble_eq_true rfl, Nat.le_of_ble_eq_true rfl⟩ dX12_knownBy_51 (fun r_6185 H locs er_6185 Y => ?_)
          refine lv_ior hx hb dX12_knownBy_54 ?_
          refine lv_topi (fun x_6186 ex_6186 => ?_)
          refine lv_istore_n (lv' := [(2, .int x_6186), (0, .ref (ad 0 0)), (1, .int i1), (3, .int y8_3)]) hx hb dX12_knownBy_55 rfl hl (by decide) rfl (fun ls hl => ?_)
          obtain ⟨x_6187, ex_6187⟩ : ∃ z : Int32, z = y8_3 + 1 := ⟨_, rfl⟩
          refine lv_iinc (v := x_6187) (lv' := [(3, .int x_6187), (2, .int x_6186), (0, .ref (ad 0 0)), (1, .int i1)]) hx hb dX12_knownBy_56 hl (k := 3) rfl (by rw [ex_6187]; rfl) (by decide) rfl (fun ls hl => ?_)
          refine lv_goto (tgt := 8) hx hb dX12_knownBy_59 (by decide) ?_
          exact ih8 _ (by rw [← hm8]; exact ms_up (m := 1) ex_6187 (show bn 1 1 (1 : Int32) from bn_k (by decide)) B_6174 (bn_w (bn_eq ex_6187 (bn_add B_6174 (show bn 1 1 (1 : Int32) from bn_k (by decide)) (by decide))) (by decide) : bn 0 8 x_6187) (by decide)) x_6186 x_6187  _ _ _  (bn_w (bn_eq ex_6186 (bn_or (n := 14) (bn_w b_y8_2 (by decide) : bn 0 16383 y8_2) (bn_w er_6185 (by decide) : bn 0 16383 r_6185) (by decide) (by decide))) (by decide)) (bn_w (bn_eq ex_6187 (bn_add B_6174 (show bn 1 1 (1 : Int32) from bn_k (by decide)) (by decide))) (by decide)) rfl Y (lv_sub hl [2, 3, 1, 0] rfl)
  refine lv_aload_n hx hb dX12_knownBy_0 rfl (lv_at hl 0 rfl) ?_
  refine lv_iload_n hx hb dX12_knownBy_1 rfl (lv_at hl 1 rfl) ?_
  refine cVp (As := [.int i1]) (rest := []) S Y (x_X12_ownOf (l := l) I hB) cw_X12_ownOf km12_434 (I.opo (k := 0) (j := 0) (by decide) rfl).choose_spec.1 ok_X12.1 rfl rfl ⟨Nat.le_of_ble_eq_true rfl, Nat.le_of_ble_eq_true rfl⟩ hl.1 rfl (Nat.le_of_ble_eq_true rfl) ⟨Nat.le_of_ble_eq_true rfl, Nat.le_of_ble_eq_true rfl⟩ dX12_knownBy_2 (fun r_6188 H locs er_6188 Y => ?_)
  refine lv_istore_n (lv' := [(2, .int r_6188), (0, .ref (ad 0 0)), (1, .int i1)]) hx hb dX12_knownBy_5 rfl hl (by decide) rfl (fun ls hl => ?_)
  refine lv_iconst (v := 0) hx hb dX12_knownBy_6 (by decide) ?_
  refine lv_istore_n (lv' := [(3, .int 0), (2, .int r_6188), (0, .ref (ad 0 0)), (1, .int i1)]) hx hb dX12_knownBy_7 rfl hl (by decide) rfl (fun ls hl => ?_)
  exact J_8 _ r_6188 0  _ _ _  (bn_w er_6188 (by decide)) (bn_w (show bn 0 0 (0 : Int32) from bn_k (by decide)) (by decide)) rfl Y (lv_sub hl [2, 3, 1, 0] rfl)
set_option maxHeartbeats 4000000 in
set_option maxRecDepth 100000 in
theorem x_X12_workOf {l : Launch} {G : GG}  {L : List Nat} {f : HF} {ad : Nat → Nat → Nat} {sl : Int} {pl : Int} {oh : Int} {dh : Int} {w : WW} {pi : PIT} {px : (Nat → Int32) → Prop} {pa : (Nat → Int32) → Prop} {i1 : Int32} (I : SH (spM (IA sl pl oh dh w) pi px pa) nnM G ad L f) (hB : BBp sl pl oh dh w) : PMp l yX12_workOf cX12_workOf 4 .int 1 0 0 G [.ref (ad 0 0), .int i1] L f (fun r => True) := by
  refine PMi.of (post := fun r L1 f1 => (True) ∧ L1 = L ∧ f1 = f) (own := RX12) (by decide) rfl (Nat.le_of_ble_eq_true rfl) (fun sz p e s m args below meth c A ls hA1 hname S Y hl => ?_)
  have hx := S.hx
  have hb := S.hb
  have hl : lv_has ls 4 [(0, .ref (ad 0 0)), (1, .int i1)] := hl
  have J_4 : ∀ (n4 : Nat) (y4_2 y4_3 : Int32) (H : Heap) (locs : List Loc) (ls : Array Slot), (bn 0 8 y4_3) → (((8 : Int) - y4_3.toInt).toNat = n4) → (DY G A s [] L f H locs) → (lv_has ls 4 [(0, .ref (ad 0 0)), (1, .int i1), (2, .int y4_2), (3, .int y4_3)]) → W p l e (rmD 1 0 0) s m args below meth c H locs (0) (0) (MQ below (va_Qi (fun r (u : List Nat × HF) => (fun r L1 f1 => (True) ∧ L1 = L ∧ f1 = f) r u.1 u.2) (fun u t => pOut G (va_A (va_pl L f) sz) u.1 u.2 t) (va_A (va_pl L f) sz)) args s 0 0 A) (F0 m 4 ls []) := by
    intro n4
    induction n4 using Nat.strongRecOn with
    | _ n4 ih4 =>
      intro y4_2 y4_3 H locs ls b_y4_3 hm4 Y hl
      refine lv_iload_n hx hb dX12_workOf_4 rfl (lv_at hl 3 rfl) ?_
      refine lv_aload_n hx hb dX12_workOf_5 rfl (lv_at hl 0 rfl) ?_
      obtain ⟨v_6709, v_6711, v_6713, v_6715, v_6717, v_6719, v_6721, v_6723, v_6724, v_6726, v_6728, v_6730, v_6732, v_6734, v_6736, v_6738, v_6740, v_6742, p_ad_0_0, b_6710, b_6712, b_6714, b_6716, b_6718, b_6720, b_6722, b_6725, b_6727, b_6729, b_6731, b_6733, b_6735, b_6737, b_6739, b_6741, b_6743⟩ := opnM_0 (j := 0) I (by decide)
      have p_ad_0_0 : pt L f (ad 0 0) (.inr (12, [.ref (ad 1 0), .ref (ad 2 0), .ref (ad 3 0), .ref (ad 4 0), .int v_6709, .int v_6711, .int v_6713, .int v_6715, .int v_6717, .int v_6719, .int v_6721, .long v_6723, .int v_6724, .int v_6726, .int v_6728, .ref (ad 5 0), .ref (ad 6 0), .int v_6730, .int v_6732, .int v_6734, .int v_6736, .int v_6738, .ref (ad 7 0), .ref (ad 8 0), .ref (ad 9 0), .int v_6740, .ref (ad 10 0), .ref (ad 11 0), .ref (ad 12 0), .ref (ad 13 0), .int v_6742, .ref (ad 14 0)])) := p_ad_0_0
      refine pg_get S Y ok_X12 0 (by decide) kf12_7 (v := .ref (ad 1 0)) p_ad_0_0 rfl dX12_workOf_6 ?_
      refine lv_bipush (v := 6) hx hb dX12_workOf_9 (by decide) ?_
      obtain ⟨g_6744, p_ad_1_0, o_6745⟩ := I.opi (k := 1) (j := 0) (by decide) rfl
      have p_ad_1_0 : pt L f (ad 1 0) (.inl (G.2 0, 10568, .inl g_6744)) := p_ad_1_0
      obtain ⟨v_6746, ev_6746⟩ : ∃ z, z = g_6744 (6 : Int32).toNatClampNeg := ⟨_, rfl⟩
      refine pg_iald S Y (v := v_6746) p_ad_1_0 (by unfold vp_in; decide) ev_6746.symm dX12_workOf_11 ?_
      have bv_6746 : bn 0 8 v_6746 := bn_eq ev_6746 (bn_w (a' := 0) (b' := 8) (IA_6 o_6745) (by have h9 := hB; unfold BBp at h9; omega))
      refine lv_icmp_ge (tgt := 48) hx hb dX12_workOf_12 (by decide) (fun c_6747 => ?_) (fun c_6747 => ?_)
      · refine lv_iload_n hx hb dX12_workOf_48 rfl (lv_at hl 2 rfl) ?_
        exact prI (post := fun r L1 f1 => (True) ∧ L1 = L ∧ f1 = f) S Y rfl (by decide) (by decide) hA1 ⟨trivial, rfl, rfl⟩ dX12_workOf_49
      · have B_6748 : bn 1 8 v_6746 := bn_w (bn_gtl c_6747 bv_6746 b_y4_3) (by decide)
        have B_6749 : bn 0 7 y4_3 := bn_w (bn_gtr c_6747 bv_6746 b_y4_3) (by decide)
        refine lv_iload_n hx hb dX12_workOf_15 rfl (lv_at hl 2 rfl) ?_
        refine lv_iload_n hx hb dX12_workOf_16 rfl (lv_at hl 1 rfl) ?_
        refine lv_iload_n hx hb dX12_workOf_17 rfl (lv_at hl 3 rfl) ?_
        refine cSp (As := [.int i1, .int y4_3]) (rest := [.int y4_2]) S Y (x_X12_has (l := l) ) cw_X12_has km12_244 rfl ⟨Nat.le_of_ble_eq_true rfl, Nat.le_of_ble_eq_true rfl⟩ hl.1 rfl (Nat.le_of_ble_eq_true rfl) ⟨Nat.le_of_ble_eq_true rfl, Nat.le_of_ble_eq_true rfl⟩ dX12_workOf_18 (fun r_6750 H locs er_6750 Y => ?_)
        refine lv_if_eq (tgt := 39) hx hb dX12_workOf_21 (by decide) (fun c_6751 => ?_) (fun c_6751 => ?_)
        · have B_6752 : bn 0 0 r_6750 := bn_w (bn_eq c_6751 (show bn 0 0 (0 : Int32) from bn_k (by decide))) (by decide)
          refine lv_iconst (v := 0) hx hb dX12_workOf_39 (by decide) ?_
          refine lv_iadd hx hb dX12_workOf_40 ?_
          refine lv_topi (fun x_6754 ex_6754 => ?_)
          refine lv_istore_n (lv' := [(2, .int x_6754), (0, .ref (ad 0 0)), (1, .int i1), (3, .int y4_3)]) hx hb dX12_workOf_41 rfl hl (by decide) rfl (fun ls hl => ?_)
          obtain ⟨x_6755, ex_6755⟩ : ∃ z : Int32, z = y4_3 + 1 := ⟨_, rfl⟩
          refine lv_iinc (v := x_6755) (lv' := [(3, .int x_6755), (2, .int x_6754), (0, .ref (ad 0 0)), (1, .int i1)]) hx hb dX12_workOf_42 hl (k := 3) rfl (by rw [ex_6755]; rfl) (by decide) rfl (fun ls hl => ?_)
          refine lv_goto (tgt := 4) hx hb dX12_workOf_45 (by decide) ?_
          exact ih4 _ (by rw [← hm4]; exact ms_up (m := 1) ex_6755 (show bn 1 1 (1 : Int32) from bn_k (by decide)) B_6749 (bn_w (bn_eq ex_6755 (bn_add B_6749 (show bn 1 1 (1 : Int32) from bn_k (by decide)) (by decide))) (by decide) : bn 0 8 x_6755) (by decide)) x_6754 x_6755  _ _ _  (bn_w (bn_eq ex_6755 (bn_add B_6749 (show bn 1 1 (1 : Int32) from bn_k (by decide)) (by decide))) (by decide)) rfl Y (lv_sub hl [2, 3, 1, 0] rfl)
        · have B_6753 : bn 1 1 r_6750 := bn_w (bn_nel c_6751 er_6750 (show bn 0 0 (0 : Int32) from bn_k (by decide))) (by decide)
          refine lv_aload_n hx hb dX12_workOf_24 rfl (lv_at hl 0 rfl) ?_
          refine pg_get S Y ok_X12 0 (by decide) kf12_7 (v := .ref (ad 1 0)) p_ad_0_0 rfl dX12_workOf_25 ?_
          refine lv_sipush (v := 160) hx hb dX12_workOf_28 (by decide) ?_
          refine lv_iconst (v := 2) hx hb dX12_workOf_31 (by decide) ?_
          refine lv_iload_n hx hb dX12_workOf_32 rfl (lv_at hl 3 rfl) ?_
          refine lv_imul hx hb dX12_workOf_33 ?_
          refine lv_topi (fun x_6756 ex_6756 => ?_)
          refine lv_iadd hx hb dX12_workOf_34 ?_
          refine lv_topi (fun x_6757 ex_6757 => ?_)
          obtain ⟨v_6758, ev_6758⟩ : ∃ z, z = g_6744 (x_6757 : Int32).toNatClampNeg := ⟨_, rfl⟩
          refine pg_iald S Y (v := v_6758) p_ad_1_0 (vp_bn (bn_eq ex_6757 (bn_add (show bn 160 160 (160 : Int32) from bn_k (by decide)) (bn_eq ex_6756 (bn_mul (show bn 2 2 (2 : Int32) from bn_k (by decide)) B_6749 (by decide))) (by decide))) (by decide)) ev_6758.symm dX12_workOf_35 ?_
          refine lv_goto (tgt := 40) hx hb dX12_workOf_36 (by decide) ?_
          refine lv_iadd hx hb dX12_workOf_40 ?_
          refine lv_topi (fun x_6759 ex_6759 => ?_)
          refine lv_istore_n (lv' := [(2, .int x_6759), (0, .ref (ad 0 0)), (1, .int i1), (3, .int y4_3)]) hx hb dX12_workOf_41 rfl hl (by decide) rfl (fun ls hl => ?_)
          obtain ⟨x_6760, ex_6760⟩ : ∃ z : Int32, z = y4_3 + 1 := ⟨_, rfl⟩
          refine lv_iinc (v := x_6760) (lv' := [(3, .int x_6760), (2, .int x_6759), (0, .ref (ad 0 0)), (1, .int i1)]) hx hb dX12_workOf_42 hl (k := 3) rfl (by rw [ex_6760]; rfl) (by decide) rfl (fun ls hl => ?_)
          refine lv_goto (tgt := 4) hx hb dX12_workOf_45 (by decide) ?_
          exact ih4 _ (by rw [← hm4]; exact ms_up (m := 1) ex_6760 (show bn 1 1 (1 : Int32) from bn_k (by decide)) B_6749 (bn_w (bn_eq ex_6760 (bn_add B_6749 (show bn 1 1 (1 : Int32) from bn_k (by decide)) (by decide))) (by decide) : bn 0 8 x_6760) (by decide)) x_6759 x_6760  _ _ _  (bn_w (bn_eq ex_6760 (bn_add B_6749 (show bn 1 1 (1 : Int32) from bn_k (by decide)) (by decide))) (by decide)) rfl Y (lv_sub hl [2, 3, 1, 0] rfl)
  refine lv_iconst (v := 0) hx hb dX12_workOf_0 (by decide) ?_
  refine lv_istore_n (lv' := [(2, .int 0), (0, .ref (ad 0 0)), (1, .int i1)]) hx hb dX12_workOf_1 rfl hl (by decide) rfl (fun ls hl => ?_)
  refine lv_iconst (v := 0) hx hb dX12_workOf_2 (by decide) ?_
  refine lv_istore_n (lv' := [(3, .int 0), (2, .int 0), (0, .ref (ad 0 0)), (1, .int i1)]) hx hb dX12_workOf_3 rfl hl (by decide) rfl (fun ls hl => ?_)
  exact J_4 _ 0 0  _ _ _  (bn_w (show bn 0 0 (0 : Int32) from bn_k (by decide)) (by decide)) rfl Y (lv_sub hl [2, 3, 1, 0] rfl)
set_option maxHeartbeats 4000000 in
set_option maxRecDepth 100000 in
theorem x_X12_isInTime {l : Launch} {G : GG}  {L : List Nat} {f : HF} {ad : Nat → Nat → Nat} {sl : Int} {pl : Int} {oh : Int} {dh : Int} {w : WW} {pi : PIT} {px : (Nat → Int32) → Prop} {pa : (Nat → Int32) → Prop} {i1 : Int32} (I : SH (spM (IA sl pl oh dh w) pi px pa) nnM G ad L f) (hB : BBp sl pl oh dh w) : PMp l yX12_isInTime cX12_isInTime 6 .boolean 1 0 0 G [.ref (ad 0 0), .int i1] L f (fun r => bn 0 1 r) := by
  refine PMi.of (post := fun r L1 f1 => (bn 0 1 r) ∧ L1 = L ∧ f1 = f) (own := RX12) (by decide) rfl (Nat.le_of_ble_eq_true rfl) (fun sz p e s m args below meth c A ls hA1 hname S Y hl => ?_)
  have hx := S.hx
  have hb := S.hb
  have hl : lv_has ls 6 [(0, .ref (ad 0 0)), (1, .int i1)] := hl
  have J_2 : ∀ (n2 : Nat) (y2_2 : Int32) (H : Heap) (locs : List Loc) (ls : Array Slot), (bn 0 8 y2_2) → (((8 : Int) - y2_2.toInt).toNat = n2) → (DY G A s [] L f H locs) → (lv_has ls 6 [(0, .ref (ad 0 0)), (1, .int i1), (2, .int y2_2)]) → W p l e (rmD 1 0 0) s m args below meth c H locs (0) (0) (MQ below (va_Qi (fun r (u : List Nat × HF) => (fun r L1 f1 => (bn 0 1 r) ∧ L1 = L ∧ f1 = f) r u.1 u.2) (fun u t => pOut G (va_A (va_pl L f) sz) u.1 u.2 t) (va_A (va_pl L f) sz)) args s 0 0 A) (F0 m 2 ls []) := by
    intro n2
    induction n2 using Nat.strongRecOn with
    | _ n2 ih2 =>
      intro y2_2 H locs ls b_y2_2 hm2 Y hl
      have J_45 : ∀ (n45 : Nat) (y45_3 y45_4 y45_5 : Int32) (H : Heap) (locs : List Loc) (ls : Array Slot), (bn 0 8 y45_5) → (bn 0 7 y2_2) → (((8 : Int) - y45_5.toInt).toNat = n45) → (DY G A s [] L f H locs) → (lv_has ls 6 [(0, .ref (ad 0 0)), (1, .int i1), (2, .int y2_2), (3, .int y45_3), (4, .int y45_4), (5, .int y45_5)]) → W p l e (rmD 1 0 0) s m args below meth c H locs (0) (0) (MQ below (va_Qi (fun r (u : List Nat × HF) => (fun r L1 f1 => (bn 0 1 r) ∧ L1 = L ∧ f1 = f) r u.1 u.2) (fun u t => pOut G (va_A (va_pl L f) sz) u.1 u.2 t) (va_A (va_pl L f) sz)) args s 0 0 A) (F0 m 45 ls []) := by
        intro n45
        induction n45 using Nat.strongRecOn with
        | _ n45 ih45 =>
          intro y45_3 y45_4 y45_5 H locs ls b_y45_5 b45_y2_2 hm45 Y hl
          refine lv_iload hx hb dX12_isInTime_45 (lv_at hl 5 rfl) ?_
          refine lv_aload_n hx hb dX12_isInTime_47 rfl (lv_at hl 0 rfl) ?_
          obtain ⟨v_7931, v_7933, v_7935, v_7937, v_7939, v_7941, v_7943, v_7945, v_7946, v_7948, v_7950, v_7952, v_7954, v_7956, v_7958, v_7960, v_7962, v_7964, p_ad_0_0, b_7932, b_7934, b_7936, b_7938, b_7940, b_7942, b_7944, b_7947, b_7949, b_7951, b_7953, b_7955, b_7957, b_7959, b_7961, b_7963, b_7965⟩ := opnM_0 (j := 0) I (by decide)
          have p_ad_0_0 : pt L f (ad 0 0) (.inr (12, [.ref (ad 1 0), .ref (ad 2 0), .ref (ad 3 0), .ref (ad 4 0), .int v_7931, .int v_7933, .int v_7935, .int v_7937, .int v_7939, .int v_7941, .int v_7943, .long v_7945, .int v_7946, .int v_7948, .int v_7950, .ref (ad 5 0), .ref (ad 6 0), .int v_7952, .int v_7954, .int v_7956, .int v_7958, .int v_7960, .ref (ad 7 0), .ref (ad 8 0), .ref (ad 9 0), .int v_7962, .ref (ad 10 0), .ref (ad 11 0), .ref (ad 12 0), .ref (ad 13 0), .int v_7964, .ref (ad 14 0)])) := p_ad_0_0
          refine pg_get S Y ok_X12 0 (by decide) kf12_7 (v := .ref (ad 1 0)) p_ad_0_0 rfl dX12_isInTime_48 ?_
          refine lv_bipush (v := 6) hx hb dX12_isInTime_51 (by decide) ?_
          obtain ⟨g_7966, p_ad_1_0, o_7967⟩ := I.opi (k := 1) (j := 0) (by decide) rfl
          have p_ad_1_0 : pt L f (ad 1 0) (.inl (G.2 0, 10568, .inl g_7966)) := p_ad_1_0
          obtain ⟨v_7968, ev_7968⟩ : ∃ z, z = g_7966 (6 : Int32).toNatClampNeg := ⟨_, rfl⟩
          refine pg_iald S Y (v := v_7968) p_ad_1_0 (by unfold vp_in; decide) ev_7968.symm dX12_isInTime_53 ?_
          have bv_7968 : bn 0 8 v_7968 := bn_eq ev_7968 (bn_w (a' := 0) (b' := 8) (IA_6 o_7967) (by have h9 := hB; unfold BBp at h9; omega))
          refine lv_icmp_ge (tgt := 113) hx hb dX12_isInTime_54 (by decide) (fun c_7969 => ?_) (fun c_7969 => ?_)
          · refine lv_iload hx hb dX12_isInTime_113 (lv_at hl 4 rfl) ?_
            refine lv_iload_n hx hb dX12_isInTime_115 rfl (lv_at hl 3 rfl) ?_
            refine lv_icmp_le (tgt := 121) hx hb dX12_isInTime_116 (by decide) (fun c_7972 => ?_) (fun c_7972 => ?_)
            · obtain ⟨x_7975, ex_7975⟩ : ∃ z : Int32, z = y2_2 + 1 := ⟨_, rfl⟩
              refine lv_iinc (v := x_7975) (lv' := [(2, .int x_7975), (0, .ref (ad 0 0)), (1, .int i1), (3, .int y45_3), (4, .int y45_4), (5, .int y45_5)]) hx hb dX12_isInTime_121 hl (k := 2) rfl (by rw [ex_7975]; rfl) (by decide) rfl (fun ls hl => ?_)
              refine lv_goto (tgt := 2) hx hb dX12_isInTime_124 (by decide) ?_
              exact ih2 _ (by rw [← hm2]; exact ms_up (m := 1) ex_7975 (show bn 1 1 (1 : Int32) from bn_k (by decide)) b45_y2_2 (bn_w (bn_eq ex_7975 (bn_add b45_y2_2 (show bn 1 1 (1 : Int32) from bn_k (by decide)) (by decide))) (by decide) : bn 0 8 x_7975) (by decide)) x_7975  _ _ _  (bn_w (bn_eq ex_7975 (bn_add b45_y2_2 (show bn 1 1 (1 : Int32) from bn_k (by decide)) (by decide))) (by decide)) rfl Y (lv_sub hl [1, 2, 0] rfl)
            · have B_7973 : bn (-2147483647) 2147483647 y45_4 := bn_w (bn_gtl c_7972 (bn_any y45_4) (bn_any y45_3)) (by decide)
              have B_7974 : bn (-2147483648) 2147483646 y45_3 := bn_w (bn_gtr c_7972 (bn_any y45_4) (bn_any y45_3)) (by decide)
              refine lv_iconst (v := 0) hx hb dX12_isInTime_119 (by decide) ?_
              exact prI (post := fun r L1 f1 => (bn 0 1 r) ∧ L1 = L ∧ f1 = f) S Y rfl (by decide) (by decide) hA1 ⟨bn_w (show bn 0 0 (0 : Int32) from bn_k (by decide)) (by decide), rfl, rfl⟩ dX12_isInTime_120
          · have B_7970 : bn 1 8 v_7968 := bn_w (bn_gtl c_7969 bv_7968 b_y45_5) (by decide)
            have B_7971 : bn 0 7 y45_5 := bn_w (bn_gtr c_7969 bv_7968 b_y45_5) (by decide)
            refine lv_iload hx hb dX12_isInTime_57 (lv_at hl 4 rfl) ?_
            refine lv_iload_n hx hb dX12_isInTime_59 rfl (lv_at hl 1 rfl) ?_
            refine lv_iload hx hb dX12_isInTime_60 (lv_at hl 5 rfl) ?_
            refine cSp (As := [.int i1, .int y45_5]) (rest := [.int y45_4]) S Y (x_X12_has (l := l) ) cw_X12_has km12_244 rfl ⟨Nat.le_of_ble_eq_true rfl, Nat.le_of_ble_eq_true rfl⟩ hl.1 rfl (Nat.le_of_ble_eq_true rfl) ⟨Nat.le_of_ble_eq_true rfl, Nat.le_of_ble_eq_true rfl⟩ dX12_isInTime_62 (fun r_7976 H locs er_7976 Y => ?_)
            refine lv_if_eq (tgt := 103) hx hb dX12_isInTime_65 (by decide) (fun c_7977 => ?_) (fun c_7977 => ?_)
            · have B_7978 : bn 0 0 r_7976 := bn_w (bn_eq c_7977 (show bn 0 0 (0 : Int32) from bn_k (by decide))) (by decide)
              refine lv_iconst (v := 0) hx hb dX12_isInTime_103 (by decide) ?_
              refine lv_iadd hx hb dX12_isInTime_104 ?_
              refine lv_topi (fun x_7980 ex_7980 => ?_)
              refine lv_istore (lv' := [(4, .int x_7980), (0, .ref (ad 0 0)), (1, .int i1), (2, .int y2_2), (3, .int y45_3), (5, .int y45_5)]) hx hb dX12_isInTime_105 hl (by decide) rfl (fun ls hl => ?_)
              obtain ⟨x_7981, ex_7981⟩ : ∃ z : Int32, z = y45_5 + 1 := ⟨_, rfl⟩
              refine lv_iinc (v := x_7981) (lv' := [(5, .int x_7981), (4, .int x_7980), (0, .ref (ad 0 0)), (1, .int i1), (2, .int y2_2), (3, .int y45_3)]) hx hb dX12_isInTime_107 hl (k := 5) rfl (by rw [ex_7981]; rfl) (by decide) rfl (fun ls hl => ?_)
              refine lv_goto (tgt := 45) hx hb dX12_isInTime_110 (by decide) ?_
              exact ih45 _ (by rw [← hm45]; exact ms_up (m := 1) ex_7981 (show bn 1 1 (1 : Int32) from bn_k (by decide)) B_7971 (bn_w (bn_eq ex_7981 (bn_add B_7971 (show bn 1 1 (1 : Int32) from bn_k (by decide)) (by decide))) (by decide) : bn 0 8 x_7981) (by decide)) y45_3 x_7980 x_7981  _ _ _  (bn_w (bn_eq ex_7981 (bn_add B_7971 (show bn 1 1 (1 : Int32) from bn_k (by decide)) (by decide))) (by decide)) (bn_w b45_y2_2 (by decide)) rfl Y (lv_sub hl [2, 3, 4, 5, 1, 0] rfl)
            · have B_7979 : bn 1 1 r_7976 := bn_w (bn_nel c_7977 er_7976 (show bn 0 0 (0 : Int32) from bn_k (by decide))) (by decide)
              refine lv_aload_n hx hb dX12_isInTime_68 rfl (lv_at hl 0 rfl) ?_
              refine pg_get S Y ok_X12 0 (by decide) kf12_7 (v := .ref (ad 1 0)) p_ad_0_0 rfl dX12_isInTime_69 ?_
              refine lv_sipush (v := 160) hx hb dX12_isInTime_72 (by decide) ?_
              refine lv_iconst (v := 2) hx hb dX12_isInTime_75 (by decide) ?_
              refine lv_iload hx hb dX12_isInTime_76 (lv_at hl 5 rfl) ?_
              refine lv_imul hx hb dX12_isInTime_78 ?_
              refine lv_topi (fun x_7982 ex_7982 => ?_)
              refine lv_iadd hx hb dX12_isInTime_79 ?_
              refine lv_topi (fun x_7983 ex_7983 => ?_)
              refine lv_iconst (v := 1) hx hb dX12_isInTime_80 (by decide) ?_
              refine lv_iadd hx hb dX12_isInTime_81 ?_
              refine lv_topi (fun x_7984 ex_7984 => ?_)
              have B_7985 : bn 161 175 x_7984 := bn_w (bn_eq ex_7984 (bn_add (bn_eq ex_7983 (bn_add (show bn 160 160 (160 : Int32) from bn_k (by decide)) (bn_eq ex_7982 (bn_mul (show bn 2 2 (2 : Int32) from bn_k (by decide)) B_7971 (by decide))) (by decide))) (show bn 1 1 (1 : Int32) from bn_k (by decide)) (by decide))) (by decide)
              obtain ⟨v_7986, ev_7986⟩ : ∃ z, z = g_7966 (x_7984 : Int32).toNatClampNeg := ⟨_, rfl⟩
              refine pg_iald S Y (v := v_7986) p_ad_1_0 (vp_bn B_7985 (by decide)) ev_7986.symm dX12_isInTime_82 ?_
              refine lv_iload_n hx hb dX12_isInTime_83 rfl (lv_at hl 3 rfl) ?_
              refine lv_icmp_gt (tgt := 103) hx hb dX12_isInTime_84 (by decide) (fun c_7987 => ?_) (fun c_7987 => ?_)
              · have B_7988 : bn (-2147483648) 2147483646 y45_3 := bn_w (bn_ltl c_7987 (bn_any y45_3) (bn_any v_7986)) (by decide)
                have B_7989 : bn (-2147483647) 2147483647 v_7986 := bn_w (bn_ltr c_7987 (bn_any y45_3) (bn_any v_7986)) (by decide)
                refine lv_iconst (v := 0) hx hb dX12_isInTime_103 (by decide) ?_
                refine lv_iadd hx hb dX12_isInTime_104 ?_
                refine lv_topi (fun x_7990 ex_7990 => ?_)
                refine lv_istore (lv' := [(4, .int x_7990), (0, .ref (ad 0 0)), (1, .int i1), (2, .int y2_2), (3, .int y45_3), (5, .int y45_5)]) hx hb dX12_isInTime_105 hl (by decide) rfl (fun ls hl => ?_)
                obtain ⟨x_7991, ex_7991⟩ : ∃ z : Int32, z = y45_5 + 1 := ⟨_, rfl⟩
                refine lv_iinc (v := x_7991) (lv' := [(5, .int x_7991), (4, .int x_7990), (0, .ref (ad 0 0)), (1, .int i1), (2, .int y2_2), (3, .int y45_3)]) hx hb dX12_isInTime_107 hl (k := 5) rfl (by rw [ex_7991]; rfl) (by decide) rfl (fun ls hl => ?_)
                refine lv_goto (tgt := 45) hx hb dX12_isInTime_110 (by decide) ?_
                exact ih45 _ (by rw [← hm45]; exact ms_up (m := 1) ex_7991 (show bn 1 1 (1 : Int32) from bn_k (by decide)) B_7971 (bn_w (bn_eq ex_7991 (bn_add B_7971 (show bn 1 1 (1 : Int32) from bn_k (by decide)) (by decide))) (by decide) : bn 0 8 x_7991) (by decide)) y45_3 x_7990 x_7991  _ _ _  (bn_w (bn_eq ex_7991 (bn_add B_7971 (show bn 1 1 (1 : Int32) from bn_k (by decide)) (by decide))) (by decide)) (bn_w b45_y2_2 (by decide)) rfl Y (lv_sub hl [2, 3, 4, 5, 1, 0] rfl)
              · refine lv_aload_n hx hb dX12_isInTime_87 rfl (lv_at hl 0 rfl) ?_
                refine pg_get S Y ok_X12 0 (by decide) kf12_7 (v := .ref (ad 1 0)) p_ad_0_0 rfl dX12_isInTime_88 ?_
                refine lv_sipush (v := 160) hx hb dX12_isInTime_91 (by decide) ?_
                refine lv_iconst (v := 2) hx hb dX12_isInTime_94 (by decide) ?_
                refine lv_iload hx hb dX12_isInTime_95 (lv_at hl 5 rfl) ?_
                refine lv_imul hx hb dX12_isInTime_97 ?_
                refine lv_topi (fun x_7992 ex_7992 => ?_)
                refine lv_iadd hx hb dX12_isInTime_98 ?_
                refine lv_topi (fun x_7993 ex_7993 => ?_)
                obtain ⟨v_7994, ev_7994⟩ : ∃ z, z = g_7966 (x_7993 : Int32).toNatClampNeg := ⟨_, rfl⟩
                refine pg_iald S Y (v := v_7994) p_ad_1_0 (vp_bn (bn_eq ex_7993 (bn_add (show bn 160 160 (160 : Int32) from bn_k (by decide)) (bn_eq ex_7992 (bn_mul (show bn 2 2 (2 : Int32) from bn_k (by decide)) B_7971 (by decide))) (by decide))) (by decide)) ev_7994.symm dX12_isInTime_99 ?_
                refine lv_goto (tgt := 104) hx hb dX12_isInTime_100 (by decide) ?_
                refine lv_iadd hx hb dX12_isInTime_104 ?_
                refine lv_topi (fun x_7995 ex_7995 => ?_)
                refine lv_istore (lv' := [(4, .int x_7995), (0, .ref (ad 0 0)), (1, .int i1), (2, .int y2_2), (3, .int y45_3), (5, .int y45_5)]) hx hb dX12_isInTime_105 hl (by decide) rfl (fun ls hl => ?_)
                obtain ⟨x_7996, ex_7996⟩ : ∃ z : Int32, z = y45_5 + 1 := ⟨_, rfl⟩
                refine lv_iinc (v := x_7996) (lv' := [(5, .int x_7996), (4, .int x_7995), (0, .ref (ad 0 0)), (1, .int i1), (2, .int y2_2), (3, .int y45_3)]) hx hb dX12_isInTime_107 hl (k := 5) rfl (by rw [ex_7996]; rfl) (by decide) rfl (fun ls hl => ?_)
                refine lv_goto (tgt := 45) hx hb dX12_isInTime_110 (by decide) ?_
                exact ih45 _ (by rw [← hm45]; exact ms_up (m := 1) ex_7996 (show bn 1 1 (1 : Int32) from bn_k (by decide)) B_7971 (bn_w (bn_eq ex_7996 (bn_add B_7971 (show bn 1 1 (1 : Int32) from bn_k (by decide)) (by decide))) (by decide) : bn 0 8 x_7996) (by decide)) y45_3 x_7995 x_7996  _ _ _  (bn_w (bn_eq ex_7996 (bn_add B_7971 (show bn 1 1 (1 : Int32) from bn_k (by decide)) (by decide))) (by decide)) (bn_w b45_y2_2 (by decide)) rfl Y (lv_sub hl [2, 3, 4, 5, 1, 0] rfl)
      refine lv_iload_n hx hb dX12_isInTime_2 rfl (lv_at hl 2 rfl) ?_
      refine lv_aload_n hx hb dX12_isInTime_3 rfl (lv_at hl 0 rfl) ?_
      obtain ⟨v_7997, v_7999, v_8001, v_8003, v_8005, v_8007, v_8009, v_8011, v_8012, v_8014, v_8016, v_8018, v_8020, v_8022, v_8024, v_8026, v_8028, v_8030, p_ad_0_0, b_7998, b_8000, b_8002, b_8004, b_8006, b_8008, b_8010, b_8013, b_8015, b_8017, b_8019, b_8021, b_8023, b_8025, b_8027, b_8029, b_8031⟩ := opnM_0 (j := 0) I (by decide)
      have p_ad_0_0 : pt L f (ad 0 0) (.inr (12, [.ref (ad 1 0), .ref (ad 2 0), .ref (ad 3 0), .ref (ad 4 0), .int v_7997, .int v_7999, .int v_8001, .int v_8003, .int v_8005, .int v_8007, .int v_8009, .long v_8011, .int v_8012, .int v_8014, .int v_8016, .ref (ad 5 0), .ref (ad 6 0), .int v_8018, .int v_8020, .int v_8022, .int v_8024, .int v_8026, .ref (ad 7 0), .ref (ad 8 0), .ref (ad 9 0), .int v_8028, .ref (ad 10 0), .ref (ad 11 0), .ref (ad 12 0), .ref (ad 13 0), .int v_8030, .ref (ad 14 0)])) := p_ad_0_0
      refine pg_get S Y ok_X12 0 (by decide) kf12_7 (v := .ref (ad 1 0)) p_ad_0_0 rfl dX12_isInTime_4 ?_
      refine lv_bipush (v := 6) hx hb dX12_isInTime_7 (by decide) ?_
      obtain ⟨g_8032, p_ad_1_0, o_8033⟩ := I.opi (k := 1) (j := 0) (by decide) rfl
      have p_ad_1_0 : pt L f (ad 1 0) (.inl (G.2 0, 10568, .inl g_8032)) := p_ad_1_0
      obtain ⟨v_8034, ev_8034⟩ : ∃ z, z = g_8032 (6 : Int32).toNatClampNeg := ⟨_, rfl⟩
      refine pg_iald S Y (v := v_8034) p_ad_1_0 (by unfold vp_in; decide) ev_8034.symm dX12_isInTime_9 ?_
      have bv_8034 : bn 0 8 v_8034 := bn_eq ev_8034 (bn_w (a' := 0) (b' := 8) (IA_6 o_8033) (by have h9 := hB; unfold BBp at h9; omega))
      refine lv_icmp_ge (tgt := 127) hx hb dX12_isInTime_10 (by decide) (fun c_8035 => ?_) (fun c_8035 => ?_)
      · refine lv_iconst (v := 1) hx hb dX12_isInTime_127 (by decide) ?_
        exact prI (post := fun r L1 f1 => (bn 0 1 r) ∧ L1 = L ∧ f1 = f) S Y rfl (by decide) (by decide) hA1 ⟨bn_w (show bn 1 1 (1 : Int32) from bn_k (by decide)) (by decide), rfl, rfl⟩ dX12_isInTime_128
      · have B_8036 : bn 1 8 v_8034 := bn_w (bn_gtl c_8035 bv_8034 b_y2_2) (by decide)
        have B_8037 : bn 0 7 y2_2 := bn_w (bn_gtr c_8035 bv_8034 b_y2_2) (by decide)
        refine lv_iload_n hx hb dX12_isInTime_13 rfl (lv_at hl 1 rfl) ?_
        refine lv_iload_n hx hb dX12_isInTime_14 rfl (lv_at hl 2 rfl) ?_
        refine cSp (As := [.int i1, .int y2_2]) (rest := []) S Y (x_X12_has (l := l) ) cw_X12_has km12_244 rfl ⟨Nat.le_of_ble_eq_true rfl, Nat.le_of_ble_eq_true rfl⟩ hl.1 rfl (Nat.le_of_ble_eq_true rfl) ⟨Nat.le_of_ble_eq_true rfl, Nat.le_of_ble_eq_true rfl⟩ dX12_isInTime_15 (fun r_8038 H locs er_8038 Y => ?_)
        refine lv_if_ne (tgt := 24) hx hb dX12_isInTime_18 (by decide) (fun c_8039 => ?_) (fun c_8039 => ?_)
        · have B_8040 : bn 1 1 r_8038 := bn_w (bn_nel c_8039 er_8038 (show bn 0 0 (0 : Int32) from bn_k (by decide))) (by decide)
          refine lv_aload_n hx hb dX12_isInTime_24 rfl (lv_at hl 0 rfl) ?_
          refine pg_get S Y ok_X12 0 (by decide) kf12_7 (v := .ref (ad 1 0)) p_ad_0_0 rfl dX12_isInTime_25 ?_
          refine lv_sipush (v := 160) hx hb dX12_isInTime_28 (by decide) ?_
          refine lv_iconst (v := 2) hx hb dX12_isInTime_31 (by decide) ?_
          refine lv_iload_n hx hb dX12_isInTime_32 rfl (lv_at hl 2 rfl) ?_
          refine lv_imul hx hb dX12_isInTime_33 ?_
          refine lv_topi (fun x_8042 ex_8042 => ?_)
          refine lv_iadd hx hb dX12_isInTime_34 ?_
          refine lv_topi (fun x_8043 ex_8043 => ?_)
          refine lv_iconst (v := 1) hx hb dX12_isInTime_35 (by decide) ?_
          refine lv_iadd hx hb dX12_isInTime_36 ?_
          refine lv_topi (fun x_8044 ex_8044 => ?_)
          have B_8045 : bn 161 175 x_8044 := bn_w (bn_eq ex_8044 (bn_add (bn_eq ex_8043 (bn_add (show bn 160 160 (160 : Int32) from bn_k (by decide)) (bn_eq ex_8042 (bn_mul (show bn 2 2 (2 : Int32) from bn_k (by decide)) B_8037 (by decide))) (by decide))) (show bn 1 1 (1 : Int32) from bn_k (by decide)) (by decide))) (by decide)
          obtain ⟨v_8046, ev_8046⟩ : ∃ z, z = g_8032 (x_8044 : Int32).toNatClampNeg := ⟨_, rfl⟩
          refine pg_iald S Y (v := v_8046) p_ad_1_0 (vp_bn B_8045 (by decide)) ev_8046.symm dX12_isInTime_37 ?_
          refine lv_istore_n (lv' := [(3, .int v_8046), (0, .ref (ad 0 0)), (1, .int i1), (2, .int y2_2)]) hx hb dX12_isInTime_38 rfl hl (by decide) rfl (fun ls hl => ?_)
          refine lv_iconst (v := 0) hx hb dX12_isInTime_39 (by decide) ?_
          refine lv_istore (lv' := [(4, .int 0), (3, .int v_8046), (0, .ref (ad 0 0)), (1, .int i1), (2, .int y2_2)]) hx hb dX12_isInTime_40 hl (by decide) rfl (fun ls hl => ?_)
          refine lv_iconst (v := 0) hx hb dX12_isInTime_42 (by decide) ?_
          refine lv_istore (lv' := [(5, .int 0), (4, .int 0), (3, .int v_8046), (0, .ref (ad 0 0)), (1, .int i1), (2, .int y2_2)]) hx hb dX12_isInTime_43 hl (by decide) rfl (fun ls hl => ?_)
          exact J_45 _ v_8046 0 0  _ _ _  (bn_w (show bn 0 0 (0 : Int32) from bn_k (by decide)) (by decide)) (bn_w B_8037 (by decide)) rfl Y (lv_sub hl [3, 4, 5, 2, 1, 0] rfl)
        · have B_8041 : bn 0 0 r_8038 := bn_w (bn_eq c_8039 (show bn 0 0 (0 : Int32) from bn_k (by decide))) (by decide)
          refine lv_goto (tgt := 121) hx hb dX12_isInTime_21 (by decide) ?_
          obtain ⟨x_8047, ex_8047⟩ : ∃ z : Int32, z = y2_2 + 1 := ⟨_, rfl⟩
          refine lv_iinc (v := x_8047) (lv' := [(2, .int x_8047), (0, .ref (ad 0 0)), (1, .int i1)]) hx hb dX12_isInTime_121 hl (k := 2) rfl (by rw [ex_8047]; rfl) (by decide) rfl (fun ls hl => ?_)
          refine lv_goto (tgt := 2) hx hb dX12_isInTime_124 (by decide) ?_
          exact ih2 _ (by rw [← hm2]; exact ms_up (m := 1) ex_8047 (show bn 1 1 (1 : Int32) from bn_k (by decide)) B_8037 (bn_w (bn_eq ex_8047 (bn_add B_8037 (show bn 1 1 (1 : Int32) from bn_k (by decide)) (by decide))) (by decide) : bn 0 8 x_8047) (by decide)) x_8047  _ _ _  (bn_w (bn_eq ex_8047 (bn_add B_8037 (show bn 1 1 (1 : Int32) from bn_k (by decide)) (by decide))) (by decide)) rfl Y (lv_sub hl [1, 2, 0] rfl)
  refine lv_iconst (v := 0) hx hb dX12_isInTime_0 (by decide) ?_
  refine lv_istore_n (lv' := [(2, .int 0), (0, .ref (ad 0 0)), (1, .int i1)]) hx hb dX12_isInTime_1 rfl hl (by decide) rfl (fun ls hl => ?_)
  exact J_2 _ 0  _ _ _  (bn_w (show bn 0 0 (0 : Int32) from bn_k (by decide)) (by decide)) rfl Y (lv_sub hl [1, 2, 0] rfl)
set_option maxHeartbeats 4000000 in
set_option maxRecDepth 100000 in
theorem x_X12_isAtPeace {l : Launch} {G : GG}  {L : List Nat} {f : HF} {ad : Nat → Nat → Nat} {sl : Int} {pl : Int} {oh : Int} {dh : Int} {w : WW} {pi : PIT} {px : (Nat → Int32) → Prop} {pa : (Nat → Int32) → Prop} {i1 : Int32} (I : SH (spM (IA sl pl oh dh w) pi px pa) nnM G ad L f) (hB : BBp sl pl oh dh w) : PMp l yX12_isAtPeace cX12_isAtPeace 3 .boolean 1 0 0 G [.ref (ad 0 0), .int i1] L f (fun r => bn 0 1 r) := by
  refine PMi.of (post := fun r L1 f1 => (bn 0 1 r) ∧ L1 = L ∧ f1 = f) (own := RX12) (by decide) rfl (Nat.le_of_ble_eq_true rfl) (fun sz p e s m args below meth c A ls hA1 hname S Y hl => ?_)
  have hx := S.hx
  have hb := S.hb
  have hl : lv_has ls 3 [(0, .ref (ad 0 0)), (1, .int i1)] := hl
  have J_2 : ∀ (n2 : Nat) (y2_2 : Int32) (H : Heap) (locs : List Loc) (ls : Array Slot), (bn 0 8 y2_2) → (((8 : Int) - y2_2.toInt).toNat = n2) → (DY G A s [] L f H locs) → (lv_has ls 3 [(0, .ref (ad 0 0)), (1, .int i1), (2, .int y2_2)]) → W p l e (rmD 1 0 0) s m args below meth c H locs (0) (0) (MQ below (va_Qi (fun r (u : List Nat × HF) => (fun r L1 f1 => (bn 0 1 r) ∧ L1 = L ∧ f1 = f) r u.1 u.2) (fun u t => pOut G (va_A (va_pl L f) sz) u.1 u.2 t) (va_A (va_pl L f) sz)) args s 0 0 A) (F0 m 2 ls []) := by
    intro n2
    induction n2 using Nat.strongRecOn with
    | _ n2 ih2 =>
      intro y2_2 H locs ls b_y2_2 hm2 Y hl
      refine lv_iload_n hx hb dX12_isAtPeace_2 rfl (lv_at hl 2 rfl) ?_
      refine lv_aload_n hx hb dX12_isAtPeace_3 rfl (lv_at hl 0 rfl) ?_
      obtain ⟨v_8638, v_8640, v_8642, v_8644, v_8646, v_8648, v_8650, v_8652, v_8653, v_8655, v_8657, v_8659, v_8661, v_8663, v_8665, v_8667, v_8669, v_8671, p_ad_0_0, b_8639, b_8641, b_8643, b_8645, b_8647, b_8649, b_8651, b_8654, b_8656, b_8658, b_8660, b_8662, b_8664, b_8666, b_8668, b_8670, b_8672⟩ := opnM_0 (j := 0) I (by decide)
      have p_ad_0_0 : pt L f (ad 0 0) (.inr (12, [.ref (ad 1 0), .ref (ad 2 0), .ref (ad 3 0), .ref (ad 4 0), .int v_8638, .int v_8640, .int v_8642, .int v_8644, .int v_8646, .int v_8648, .int v_8650, .long v_8652, .int v_8653, .int v_8655, .int v_8657, .ref (ad 5 0), .ref (ad 6 0), .int v_8659, .int v_8661, .int v_8663, .int v_8665, .int v_8667, .ref (ad 7 0), .ref (ad 8 0), .ref (ad 9 0), .int v_8669, .ref (ad 10 0), .ref (ad 11 0), .ref (ad 12 0), .ref (ad 13 0), .int v_8671, .ref (ad 14 0)])) := p_ad_0_0
      refine pg_get S Y ok_X12 0 (by decide) kf12_7 (v := .ref (ad 1 0)) p_ad_0_0 rfl dX12_isAtPeace_4 ?_
      refine lv_iconst (v := 5) hx hb dX12_isAtPeace_7 (by decide) ?_
      obtain ⟨g_8673, p_ad_1_0, o_8674⟩ := I.opi (k := 1) (j := 0) (by decide) rfl
      have p_ad_1_0 : pt L f (ad 1 0) (.inl (G.2 0, 10568, .inl g_8673)) := p_ad_1_0
      obtain ⟨v_8675, ev_8675⟩ : ∃ z, z = g_8673 (5 : Int32).toNatClampNeg := ⟨_, rfl⟩
      refine pg_iald S Y (v := v_8675) p_ad_1_0 (by unfold vp_in; decide) ev_8675.symm dX12_isAtPeace_8 ?_
      have bv_8675 : bn 0 8 v_8675 := bn_eq ev_8675 (IA_5 o_8674)
      refine lv_icmp_ge (tgt := 60) hx hb dX12_isAtPeace_9 (by decide) (fun c_8676 => ?_) (fun c_8676 => ?_)
      · refine lv_iconst (v := 1) hx hb dX12_isAtPeace_60 (by decide) ?_
        exact prI (post := fun r L1 f1 => (bn 0 1 r) ∧ L1 = L ∧ f1 = f) S Y rfl (by decide) (by decide) hA1 ⟨bn_w (show bn 1 1 (1 : Int32) from bn_k (by decide)) (by decide), rfl, rfl⟩ dX12_isAtPeace_61
      · have B_8677 : bn 1 8 v_8675 := bn_w (bn_gtl c_8676 bv_8675 b_y2_2) (by decide)
        have B_8678 : bn 0 7 y2_2 := bn_w (bn_gtr c_8676 bv_8675 b_y2_2) (by decide)
        refine lv_iload_n hx hb dX12_isAtPeace_12 rfl (lv_at hl 1 rfl) ?_
        refine lv_aload_n hx hb dX12_isAtPeace_13 rfl (lv_at hl 0 rfl) ?_
        refine pg_get S Y ok_X12 0 (by decide) kf12_7 (v := .ref (ad 1 0)) p_ad_0_0 rfl dX12_isAtPeace_14 ?_
        refine lv_sipush (v := 144) hx hb dX12_isAtPeace_17 (by decide) ?_
        refine lv_iconst (v := 2) hx hb dX12_isAtPeace_20 (by decide) ?_
        refine lv_iload_n hx hb dX12_isAtPeace_21 rfl (lv_at hl 2 rfl) ?_
        refine lv_imul hx hb dX12_isAtPeace_22 ?_
        refine lv_topi (fun x_8679 ex_8679 => ?_)
        refine lv_iadd hx hb dX12_isAtPeace_23 ?_
        refine lv_topi (fun x_8680 ex_8680 => ?_)
        obtain ⟨v_8681, ev_8681⟩ : ∃ z, z = g_8673 (x_8680 : Int32).toNatClampNeg := ⟨_, rfl⟩
        refine pg_iald S Y (v := v_8681) p_ad_1_0 (vp_bn (bn_eq ex_8680 (bn_add (show bn 144 144 (144 : Int32) from bn_k (by decide)) (bn_eq ex_8679 (bn_mul (show bn 2 2 (2 : Int32) from bn_k (by decide)) B_8678 (by decide))) (by decide))) (by decide)) ev_8681.symm dX12_isAtPeace_24 ?_
        refine cSp (As := [.int i1, .int v_8681]) (rest := []) S Y (x_X12_has (l := l) ) cw_X12_has km12_244 rfl ⟨Nat.le_of_ble_eq_true rfl, Nat.le_of_ble_eq_true rfl⟩ hl.1 rfl (Nat.le_of_ble_eq_true rfl) ⟨Nat.le_of_ble_eq_true rfl, Nat.le_of_ble_eq_true rfl⟩ dX12_isAtPeace_25 (fun r_8682 H locs er_8682 Y => ?_)
        refine lv_if_eq (tgt := 54) hx hb dX12_isAtPeace_28 (by decide) (fun c_8683 => ?_) (fun c_8683 => ?_)
        · have B_8684 : bn 0 0 r_8682 := bn_w (bn_eq c_8683 (show bn 0 0 (0 : Int32) from bn_k (by decide))) (by decide)
          obtain ⟨x_8686, ex_8686⟩ : ∃ z : Int32, z = y2_2 + 1 := ⟨_, rfl⟩
          refine lv_iinc (v := x_8686) (lv' := [(2, .int x_8686), (0, .ref (ad 0 0)), (1, .int i1)]) hx hb dX12_isAtPeace_54 hl (k := 2) rfl (by rw [ex_8686]; rfl) (by decide) rfl (fun ls hl => ?_)
          refine lv_goto (tgt := 2) hx hb dX12_isAtPeace_57 (by decide) ?_
          exact ih2 _ (by rw [← hm2]; exact ms_up (m := 1) ex_8686 (show bn 1 1 (1 : Int32) from bn_k (by decide)) B_8678 (bn_w (bn_eq ex_8686 (bn_add B_8678 (show bn 1 1 (1 : Int32) from bn_k (by decide)) (by decide))) (by decide) : bn 0 8 x_8686) (by decide)) x_8686  _ _ _  (bn_w (bn_eq ex_8686 (bn_add B_8678 (show bn 1 1 (1 : Int32) from bn_k (by decide)) (by decide))) (by decide)) rfl Y (lv_sub hl [1, 2, 0] rfl)
        · have B_8685 : bn 1 1 r_8682 := bn_w (bn_nel c_8683 er_8682 (show bn 0 0 (0 : Int32) from bn_k (by decide))) (by decide)
          refine lv_iload_n hx hb dX12_isAtPeace_31 rfl (lv_at hl 1 rfl) ?_
          refine lv_aload_n hx hb dX12_isAtPeace_32 rfl (lv_at hl 0 rfl) ?_
          refine pg_get S Y ok_X12 0 (by decide) kf12_7 (v := .ref (ad 1 0)) p_ad_0_0 rfl dX12_isAtPeace_33 ?_
          refine lv_sipush (v := 144) hx hb dX12_isAtPeace_36 (by decide) ?_
          refine lv_iconst (v := 2) hx hb dX12_isAtPeace_39 (by decide) ?_
          refine lv_iload_n hx hb dX12_isAtPeace_40 rfl (lv_at hl 2 rfl) ?_
          refine lv_imul hx hb dX12_isAtPeace_41 ?_
          refine lv_topi (fun x_8687 ex_8687 => ?_)
          refine lv_iadd hx hb dX12_isAtPeace_42 ?_
          refine lv_topi (fun x_8688 ex_8688 => ?_)
          refine lv_iconst (v := 1) hx hb dX12_isAtPeace_43 (by decide) ?_
          refine lv_iadd hx hb dX12_isAtPeace_44 ?_
          refine lv_topi (fun x_8689 ex_8689 => ?_)
          have B_8690 : bn 145 159 x_8689 := bn_w (bn_eq ex_8689 (bn_add (bn_eq ex_8688 (bn_add (show bn 144 144 (144 : Int32) from bn_k (by decide)) (bn_eq ex_8687 (bn_mul (show bn 2 2 (2 : Int32) from bn_k (by decide)) B_8678 (by decide))) (by decide))) (show bn 1 1 (1 : Int32) from bn_k (by decide)) (by decide))) (by decide)
          obtain ⟨v_8691, ev_8691⟩ : ∃ z, z = g_8673 (x_8689 : Int32).toNatClampNeg := ⟨_, rfl⟩
          refine pg_iald S Y (v := v_8691) p_ad_1_0 (vp_bn B_8690 (by decide)) ev_8691.symm dX12_isAtPeace_45 ?_
          refine cSp (As := [.int i1, .int v_8691]) (rest := []) S Y (x_X12_has (l := l) ) cw_X12_has km12_244 rfl ⟨Nat.le_of_ble_eq_true rfl, Nat.le_of_ble_eq_true rfl⟩ hl.1 rfl (Nat.le_of_ble_eq_true rfl) ⟨Nat.le_of_ble_eq_true rfl, Nat.le_of_ble_eq_true rfl⟩ dX12_isAtPeace_46 (fun r_8692 H locs er_8692 Y => ?_)
          refine lv_if_eq (tgt := 54) hx hb dX12_isAtPeace_49 (by decide) (fun c_8693 => ?_) (fun c_8693 => ?_)
          · have B_8694 : bn 0 0 r_8692 := bn_w (bn_eq c_8693 (show bn 0 0 (0 : Int32) from bn_k (by decide))) (by decide)
            obtain ⟨x_8696, ex_8696⟩ : ∃ z : Int32, z = y2_2 + 1 := ⟨_, rfl⟩
            refine lv_iinc (v := x_8696) (lv' := [(2, .int x_8696), (0, .ref (ad 0 0)), (1, .int i1)]) hx hb dX12_isAtPeace_54 hl (k := 2) rfl (by rw [ex_8696]; rfl) (by decide) rfl (fun ls hl => ?_)
            refine lv_goto (tgt := 2) hx hb dX12_isAtPeace_57 (by decide) ?_
            exact ih2 _ (by rw [← hm2]; exact ms_up (m := 1) ex_8696 (show bn 1 1 (1 : Int32) from bn_k (by decide)) B_8678 (bn_w (bn_eq ex_8696 (bn_add B_8678 (show bn 1 1 (1 : Int32) from bn_k (by decide)) (by decide))) (by decide) : bn 0 8 x_8696) (by decide)) x_8696  _ _ _  (bn_w (bn_eq ex_8696 (bn_add B_8678 (show bn 1 1 (1 : Int32) from bn_k (by decide)) (by decide))) (by decide)) rfl Y (lv_sub hl [1, 2, 0] rfl)
          · have B_8695 : bn 1 1 r_8692 := bn_w (bn_nel c_8693 er_8692 (show bn 0 0 (0 : Int32) from bn_k (by decide))) (by decide)
            refine lv_iconst (v := 0) hx hb dX12_isAtPeace_52 (by decide) ?_
            exact prI (post := fun r L1 f1 => (bn 0 1 r) ∧ L1 = L ∧ f1 = f) S Y rfl (by decide) (by decide) hA1 ⟨bn_w (show bn 0 0 (0 : Int32) from bn_k (by decide)) (by decide), rfl, rfl⟩ dX12_isAtPeace_53
  refine lv_iconst (v := 0) hx hb dX12_isAtPeace_0 (by decide) ?_
  refine lv_istore_n (lv' := [(2, .int 0), (0, .ref (ad 0 0)), (1, .int i1)]) hx hb dX12_isAtPeace_1 rfl hl (by decide) rfl (fun ls hl => ?_)
  exact J_2 _ 0  _ _ _  (bn_w (show bn 0 0 (0 : Int32) from bn_k (by decide)) (by decide)) rfl Y (lv_sub hl [1, 2, 0] rfl)
set_option maxHeartbeats 4000000 in
set_option maxRecDepth 100000 in
theorem x_X12_shown {l : Launch} {G : GG}  {L : List Nat} {f : HF} {ad : Nat → Nat → Nat} {sl : Int} {pl : Int} {oh : Int} {dh : Int} {w : WW} {pi : PIT} {px : (Nat → Int32) → Prop} {pa : (Nat → Int32) → Prop} (I : SH (spM (IA sl pl oh dh w) pi px pa) nnM G ad L f) (hB : BBp sl pl oh dh w) : PMp l yX12_shown cX12_shown 1 .int 0 0 0 G [.ref (ad 0 0)] L f (fun r => bn 0 30 r) := by
  refine PMi.of (post := fun r L1 f1 => (bn 0 30 r) ∧ L1 = L ∧ f1 = f) (own := RX12) (by decide) rfl (Nat.le_of_ble_eq_true rfl) (fun sz p e s m args below meth c A ls hA1 hname S Y hl => ?_)
  have hx := S.hx
  have hb := S.hb
  have hl : lv_has ls 1 [(0, .ref (ad 0 0))] := hl
  refine lv_aload_n hx hb dX12_shown_0 rfl (lv_at hl 0 rfl) ?_
  obtain ⟨v_8779, v_8781, v_8783, v_8785, v_8787, v_8789, v_8791, v_8793, v_8794, v_8796, v_8798, v_8800, v_8802, v_8804, v_8806, v_8808, v_8810, v_8812, p_ad_0_0, b_8780, b_8782, b_8784, b_8786, b_8788, b_8790, b_8792, b_8795, b_8797, b_8799, b_8801, b_8803, b_8805, b_8807, b_8809, b_8811, b_8813⟩ := opnM_0 (j := 0) I (by decide)
  have p_ad_0_0 : pt L f (ad 0 0) (.inr (12, [.ref (ad 1 0), .ref (ad 2 0), .ref (ad 3 0), .ref (ad 4 0), .int v_8779, .int v_8781, .int v_8783, .int v_8785, .int v_8787, .int v_8789, .int v_8791, .long v_8793, .int v_8794, .int v_8796, .int v_8798, .ref (ad 5 0), .ref (ad 6 0), .int v_8800, .int v_8802, .int v_8804, .int v_8806, .int v_8808, .ref (ad 7 0), .ref (ad 8 0), .ref (ad 9 0), .int v_8810, .ref (ad 10 0), .ref (ad 11 0), .ref (ad 12 0), .ref (ad 13 0), .int v_8812, .ref (ad 14 0)])) := p_ad_0_0
  refine pg_get S Y ok_X12 0 (by decide) kf12_7 (v := .ref (ad 1 0)) p_ad_0_0 rfl dX12_shown_1 ?_
  refine lv_bipush (v := 14) hx hb dX12_shown_4 (by decide) ?_
  obtain ⟨g_8814, p_ad_1_0, o_8815⟩ := I.opi (k := 1) (j := 0) (by decide) rfl
  have p_ad_1_0 : pt L f (ad 1 0) (.inl (G.2 0, 10568, .inl g_8814)) := p_ad_1_0
  obtain ⟨v_8816, ev_8816⟩ : ∃ z, z = g_8814 (14 : Int32).toNatClampNeg := ⟨_, rfl⟩
  refine pg_iald S Y (v := v_8816) p_ad_1_0 (by unfold vp_in; decide) ev_8816.symm dX12_shown_6 ?_
  have bv_8816 : bn 0 60000 v_8816 := bn_eq ev_8816 (IA_14 o_8815 (by have h9 := hB; unfold BBp at h9; omega) (by have h9 := hB; unfold BBp at h9; omega))
  refine lv_bipush (v := 30) hx hb dX12_shown_7 (by decide) ?_
  refine lv_icmp_ge (tgt := 22) hx hb dX12_shown_9 (by decide) (fun c_8817 => ?_) (fun c_8817 => ?_)
  · have B_8818 : bn 30 60000 v_8816 := bn_w (bn_ler c_8817 (show bn 30 30 (30 : Int32) from bn_k (by decide)) bv_8816) (by decide)
    refine lv_bipush (v := 30) hx hb dX12_shown_22 (by decide) ?_
    exact prI (post := fun r L1 f1 => (bn 0 30 r) ∧ L1 = L ∧ f1 = f) S Y rfl (by decide) (by decide) hA1 ⟨bn_w (show bn 30 30 (30 : Int32) from bn_k (by decide)) (by decide), rfl, rfl⟩ dX12_shown_24
  · have B_8819 : bn 0 29 v_8816 := bn_w (bn_gtr c_8817 (show bn 30 30 (30 : Int32) from bn_k (by decide)) bv_8816) (by decide)
    refine lv_aload_n hx hb dX12_shown_12 rfl (lv_at hl 0 rfl) ?_
    refine pg_get S Y ok_X12 0 (by decide) kf12_7 (v := .ref (ad 1 0)) p_ad_0_0 rfl dX12_shown_13 ?_
    refine lv_bipush (v := 14) hx hb dX12_shown_16 (by decide) ?_
    refine pg_iald S Y (v := v_8816) p_ad_1_0 (by unfold vp_in; decide) ev_8816.symm dX12_shown_18 ?_
    refine lv_goto (tgt := 24) hx hb dX12_shown_19 (by decide) ?_
    exact prI (post := fun r L1 f1 => (bn 0 30 r) ∧ L1 = L ∧ f1 = f) S Y rfl (by decide) (by decide) hA1 ⟨bn_w B_8819 (by decide), rfl, rfl⟩ dX12_shown_24
