theorem dX0_net_0 : decode cX0_net 0 = .ok (.aload_n 0, 1) := by decide +kernel
theorem dX0_net_1 : decode cX0_net 1 = .ok (.getfield 18, 3) := by decide +kernel
theorem ok_X0 : clOK 0 RX0 TX0 3 tyX0 := ⟨rfl, fun w h => ⟨(show ∀ w ∈ u_ws RX0 TX0 3, w ∈ lw_tbl by decide +kernel) w h, (show ∀ w ∈ u_ws RX0 TX0 3, gw w = true by decide +kernel) w h⟩, tyX0_ok, nmX0⟩
theorem kf0_18 : inW (Cond.fieldLink RX0 18 "KneeOaths$Choices" "world" "LKneeOaths$World;") := ⟨List.mem_of_getElem? (i := 495) (by decide +kernel), by decide +kernel⟩
theorem dX0_net_4 : decode cX0_net 4 = .ok (.getfield 22, 3) := by decide +kernel
theorem kf0_22 : inW (Cond.fieldLinkNest RX0 22 "KneeOaths$World" "now" "LKneeOaths$Ledger;" "KneeOaths") := ⟨List.mem_of_getElem? (i := 266) (by decide +kernel), by decide +kernel⟩
theorem dX0_net_7 : decode cX0_net 7 = .ok (.astore_n 2, 1) := by decide +kernel
theorem dX0_net_8 : decode cX0_net 8 = .ok (.iconst 0, 1) := by decide +kernel
theorem dX0_net_9 : decode cX0_net 9 = .ok (.istore_n 3, 1) := by decide +kernel
theorem dX0_net_10 : decode cX0_net 10 = .ok (.iconst 0, 1) := by decide +kernel
theorem dX0_net_11 : decode cX0_net 11 = .ok (.istore 4, 2) := by decide +kernel
theorem dX0_net_13 : decode cX0_net 13 = .ok (.iload 4, 2) := by decide +kernel
theorem dX0_net_15 : decode cX0_net 15 = .ok (.aload_n 2, 1) := by decide +kernel
theorem dX0_net_16 : decode cX0_net 16 = .ok (.getfield 28, 3) := by decide +kernel
theorem kf0_28 : inW (Cond.fieldLinkNest RX0 28 "KneeOaths$Ledger" "oathCount" "I" "KneeOaths") := ⟨List.mem_of_getElem? (i := 161) (by decide +kernel), by decide +kernel⟩
theorem dX0_net_19 : decode cX0_net 19 = .ok (.if_icmp .ge 80, 3) := by decide +kernel
theorem dX0_net_99 : decode cX0_net 99 = .ok (.iload_n 3, 1) := by decide +kernel
theorem dX0_net_100 : decode cX0_net 100 = .ok (.ireturn, 1) := by decide +kernel
theorem dX0_net_22 : decode cX0_net 22 = .ok (.aload_n 2, 1) := by decide +kernel
theorem dX0_net_23 : decode cX0_net 23 = .ok (.iload 4, 2) := by decide +kernel
theorem dX0_net_25 : decode cX0_net 25 = .ok (.iconst 4, 1) := by decide +kernel
theorem dX0_net_26 : decode cX0_net 26 = .ok (.invokevirtual 34, 3) := by decide +kernel
theorem km0_34 : inW (Cond.methodLink RX0 34 yX4_get) := ⟨List.mem_of_getElem? (i := 1154) (by decide +kernel), by decide +kernel⟩
theorem dX0_net_29 : decode cX0_net 29 = .ok (.ifCond .ne 64, 3) := by decide +kernel
theorem dX0_net_93 : decode cX0_net 93 = .ok (.iinc 4 1, 3) := by decide +kernel
theorem dX0_net_96 : decode cX0_net 96 = .ok (.goto (-83), 3) := by decide +kernel
theorem dX0_net_32 : decode cX0_net 32 = .ok (.aload_n 2, 1) := by decide +kernel
theorem dX0_net_33 : decode cX0_net 33 = .ok (.iload 4, 2) := by decide +kernel
theorem dX0_net_35 : decode cX0_net 35 = .ok (.iconst 2, 1) := by decide +kernel
theorem dX0_net_36 : decode cX0_net 36 = .ok (.invokevirtual 34, 3) := by decide +kernel
theorem dX0_net_39 : decode cX0_net 39 = .ok (.iconst 1, 1) := by decide +kernel
theorem dX0_net_40 : decode cX0_net 40 = .ok (.if_icmp .ne 53, 3) := by decide +kernel
theorem dX0_net_43 : decode cX0_net 43 = .ok (.iload_n 3, 1) := by decide +kernel
theorem dX0_net_44 : decode cX0_net 44 = .ok (.aload_n 2, 1) := by decide +kernel
theorem dX0_net_45 : decode cX0_net 45 = .ok (.iload 4, 2) := by decide +kernel
theorem dX0_net_47 : decode cX0_net 47 = .ok (.iconst 1, 1) := by decide +kernel
theorem dX0_net_48 : decode cX0_net 48 = .ok (.invokevirtual 34, 3) := by decide +kernel
theorem dX0_net_51 : decode cX0_net 51 = .ok (.iload_n 1, 1) := by decide +kernel
theorem dX0_net_52 : decode cX0_net 52 = .ok (.if_icmp .ne 13, 3) := by decide +kernel
theorem dX0_net_65 : decode cX0_net 65 = .ok (.iconst 0, 1) := by decide +kernel
theorem dX0_net_66 : decode cX0_net 66 = .ok (.iadd, 1) := by decide +kernel
theorem dX0_net_67 : decode cX0_net 67 = .ok (.istore_n 3, 1) := by decide +kernel
theorem dX0_net_68 : decode cX0_net 68 = .ok (.iload_n 3, 1) := by decide +kernel
theorem dX0_net_69 : decode cX0_net 69 = .ok (.aload_n 2, 1) := by decide +kernel
theorem dX0_net_70 : decode cX0_net 70 = .ok (.iload 4, 2) := by decide +kernel
theorem dX0_net_72 : decode cX0_net 72 = .ok (.iconst 0, 1) := by decide +kernel
theorem dX0_net_73 : decode cX0_net 73 = .ok (.invokevirtual 34, 3) := by decide +kernel
theorem dX0_net_76 : decode cX0_net 76 = .ok (.iload_n 1, 1) := by decide +kernel
theorem dX0_net_77 : decode cX0_net 77 = .ok (.if_icmp .ne 13, 3) := by decide +kernel
theorem dX0_net_90 : decode cX0_net 90 = .ok (.iconst 0, 1) := by decide +kernel
theorem dX0_net_91 : decode cX0_net 91 = .ok (.isub, 1) := by decide +kernel
theorem dX0_net_92 : decode cX0_net 92 = .ok (.istore_n 3, 1) := by decide +kernel
theorem dX0_net_80 : decode cX0_net 80 = .ok (.aload_n 2, 1) := by decide +kernel
theorem dX0_net_81 : decode cX0_net 81 = .ok (.iload 4, 2) := by decide +kernel
theorem dX0_net_83 : decode cX0_net 83 = .ok (.iconst 3, 1) := by decide +kernel
theorem dX0_net_84 : decode cX0_net 84 = .ok (.invokevirtual 34, 3) := by decide +kernel
theorem dX0_net_87 : decode cX0_net 87 = .ok (.goto 4, 3) := by decide +kernel
theorem dX0_net_55 : decode cX0_net 55 = .ok (.aload_n 2, 1) := by decide +kernel
theorem dX0_net_56 : decode cX0_net 56 = .ok (.iload 4, 2) := by decide +kernel
theorem dX0_net_58 : decode cX0_net 58 = .ok (.iconst 3, 1) := by decide +kernel
theorem dX0_net_59 : decode cX0_net 59 = .ok (.invokevirtual 34, 3) := by decide +kernel
theorem dX0_net_62 : decode cX0_net 62 = .ok (.goto 4, 3) := by decide +kernel
theorem dX0_gatherClashes_0 : decode cX0_gatherClashes 0 = .ok (.iconst 0, 1) := by decide +kernel
theorem dX0_gatherClashes_1 : decode cX0_gatherClashes 1 = .ok (.istore_n 1, 1) := by decide +kernel
theorem dX0_gatherClashes_2 : decode cX0_gatherClashes 2 = .ok (.iconst 0, 1) := by decide +kernel
theorem dX0_gatherClashes_3 : decode cX0_gatherClashes 3 = .ok (.istore_n 2, 1) := by decide +kernel
theorem dX0_gatherClashes_4 : decode cX0_gatherClashes 4 = .ok (.iload_n 2, 1) := by decide +kernel
theorem dX0_gatherClashes_5 : decode cX0_gatherClashes 5 = .ok (.aload_n 0, 1) := by decide +kernel
theorem dX0_gatherClashes_6 : decode cX0_gatherClashes 6 = .ok (.getfield 18, 3) := by decide +kernel
theorem dX0_gatherClashes_9 : decode cX0_gatherClashes 9 = .ok (.getfield 52, 3) := by decide +kernel
theorem kf0_52 : inW (Cond.fieldLinkNest RX0 52 "KneeOaths$World" "clashes" "LKneeOaths$Told;" "KneeOaths") := ⟨List.mem_of_getElem? (i := 277) (by decide +kernel), by decide +kernel⟩
theorem dX0_gatherClashes_12 : decode cX0_gatherClashes 12 = .ok (.getfield 56, 3) := by decide +kernel
theorem kf0_56 : inW (Cond.fieldLinkNest RX0 56 "KneeOaths$Told" "count" "I" "KneeOaths") := ⟨List.mem_of_getElem? (i := 221) (by decide +kernel), by decide +kernel⟩
theorem dX0_gatherClashes_15 : decode cX0_gatherClashes 15 = .ok (.if_icmp .ge 90, 3) := by decide +kernel
theorem dX0_gatherClashes_105 : decode cX0_gatherClashes 105 = .ok (.iload_n 1, 1) := by decide +kernel
theorem dX0_gatherClashes_106 : decode cX0_gatherClashes 106 = .ok (.ireturn, 1) := by decide +kernel
theorem dX0_gatherClashes_18 : decode cX0_gatherClashes 18 = .ok (.iload_n 2, 1) := by decide +kernel
theorem dX0_gatherClashes_19 : decode cX0_gatherClashes 19 = .ok (.bipush 8, 2) := by decide +kernel
theorem dX0_gatherClashes_21 : decode cX0_gatherClashes 21 = .ok (.if_icmp .ge 84, 3) := by decide +kernel
theorem dX0_gatherClashes_24 : decode cX0_gatherClashes 24 = .ok (.aload_n 0, 1) := by decide +kernel
theorem dX0_gatherClashes_25 : decode cX0_gatherClashes 25 = .ok (.getfield 18, 3) := by decide +kernel
theorem dX0_gatherClashes_28 : decode cX0_gatherClashes 28 = .ok (.getfield 52, 3) := by decide +kernel
theorem dX0_gatherClashes_31 : decode cX0_gatherClashes 31 = .ok (.iload_n 2, 1) := by decide +kernel
theorem dX0_gatherClashes_32 : decode cX0_gatherClashes 32 = .ok (.iconst 0, 1) := by decide +kernel
theorem dX0_gatherClashes_33 : decode cX0_gatherClashes 33 = .ok (.invokevirtual 61, 3) := by decide +kernel
theorem km0_61 : inW (Cond.methodLink RX0 61 yX9_get) := ⟨List.mem_of_getElem? (i := 1310) (by decide +kernel), by decide +kernel⟩
theorem dX0_gatherClashes_36 : decode cX0_gatherClashes 36 = .ok (.istore_n 3, 1) := by decide +kernel
theorem dX0_gatherClashes_37 : decode cX0_gatherClashes 37 = .ok (.aload_n 0, 1) := by decide +kernel
theorem dX0_gatherClashes_38 : decode cX0_gatherClashes 38 = .ok (.getfield 18, 3) := by decide +kernel
theorem dX0_gatherClashes_41 : decode cX0_gatherClashes 41 = .ok (.getfield 52, 3) := by decide +kernel
theorem dX0_gatherClashes_44 : decode cX0_gatherClashes 44 = .ok (.iload_n 2, 1) := by decide +kernel
theorem dX0_gatherClashes_45 : decode cX0_gatherClashes 45 = .ok (.iconst 1, 1) := by decide +kernel
theorem dX0_gatherClashes_46 : decode cX0_gatherClashes 46 = .ok (.invokevirtual 61, 3) := by decide +kernel
theorem dX0_gatherClashes_49 : decode cX0_gatherClashes 49 = .ok (.istore 4, 2) := by decide +kernel
theorem dX0_gatherClashes_51 : decode cX0_gatherClashes 51 = .ok (.aload_n 0, 1) := by decide +kernel
theorem dX0_gatherClashes_52 : decode cX0_gatherClashes 52 = .ok (.getfield 18, 3) := by decide +kernel
theorem dX0_gatherClashes_55 : decode cX0_gatherClashes 55 = .ok (.getfield 22, 3) := by decide +kernel
theorem dX0_gatherClashes_58 : decode cX0_gatherClashes 58 = .ok (.iload_n 3, 1) := by decide +kernel
theorem dX0_gatherClashes_59 : decode cX0_gatherClashes 59 = .ok (.iconst 4, 1) := by decide +kernel
theorem dX0_gatherClashes_60 : decode cX0_gatherClashes 60 = .ok (.invokevirtual 34, 3) := by decide +kernel
theorem dX0_gatherClashes_63 : decode cX0_gatherClashes 63 = .ok (.ifCond .ne 36, 3) := by decide +kernel
theorem dX0_gatherClashes_99 : decode cX0_gatherClashes 99 = .ok (.iinc 2 1, 3) := by decide +kernel
theorem dX0_gatherClashes_102 : decode cX0_gatherClashes 102 = .ok (.goto (-98), 3) := by decide +kernel
theorem dX0_gatherClashes_66 : decode cX0_gatherClashes 66 = .ok (.aload_n 0, 1) := by decide +kernel
theorem dX0_gatherClashes_67 : decode cX0_gatherClashes 67 = .ok (.getfield 18, 3) := by decide +kernel
theorem dX0_gatherClashes_70 : decode cX0_gatherClashes 70 = .ok (.getfield 22, 3) := by decide +kernel
theorem dX0_gatherClashes_73 : decode cX0_gatherClashes 73 = .ok (.iload 4, 2) := by decide +kernel
theorem dX0_gatherClashes_75 : decode cX0_gatherClashes 75 = .ok (.iconst 4, 1) := by decide +kernel
theorem dX0_gatherClashes_76 : decode cX0_gatherClashes 76 = .ok (.invokevirtual 34, 3) := by decide +kernel
theorem dX0_gatherClashes_79 : decode cX0_gatherClashes 79 = .ok (.ifCond .ne 20, 3) := by decide +kernel
theorem dX0_gatherClashes_82 : decode cX0_gatherClashes 82 = .ok (.aload_n 0, 1) := by decide +kernel
theorem dX0_gatherClashes_83 : decode cX0_gatherClashes 83 = .ok (.getfield 9, 3) := by decide +kernel
theorem kf0_9 : inW (Cond.fieldLink RX0 9 "KneeOaths$Choices" "pairs" "[I") := ⟨List.mem_of_getElem? (i := 496) (by decide +kernel), by decide +kernel⟩
theorem dX0_gatherClashes_86 : decode cX0_gatherClashes 86 = .ok (.iload_n 1, 1) := by decide +kernel
theorem dX0_gatherClashes_87 : decode cX0_gatherClashes 87 = .ok (.iconst 1, 1) := by decide +kernel
theorem dX0_gatherClashes_88 : decode cX0_gatherClashes 88 = .ok (.iload_n 3, 1) := by decide +kernel
theorem dX0_gatherClashes_89 : decode cX0_gatherClashes 89 = .ok (.ishl, 1) := by decide +kernel
theorem dX0_gatherClashes_90 : decode cX0_gatherClashes 90 = .ok (.iconst 1, 1) := by decide +kernel
theorem dX0_gatherClashes_91 : decode cX0_gatherClashes 91 = .ok (.iload 4, 2) := by decide +kernel
theorem dX0_gatherClashes_93 : decode cX0_gatherClashes 93 = .ok (.ishl, 1) := by decide +kernel
theorem dX0_gatherClashes_94 : decode cX0_gatherClashes 94 = .ok (.ior, 1) := by decide +kernel
theorem dX0_gatherClashes_95 : decode cX0_gatherClashes 95 = .ok (.iastore, 1) := by decide +kernel
theorem dX0_gatherClashes_96 : decode cX0_gatherClashes 96 = .ok (.iinc 1 1, 3) := by decide +kernel
theorem dX0_partsClashes_0 : decode cX0_partsClashes 0 = .ok (.iconst 0, 1) := by decide +kernel
theorem dX0_partsClashes_1 : decode cX0_partsClashes 1 = .ok (.istore_n 3, 1) := by decide +kernel
theorem dX0_partsClashes_2 : decode cX0_partsClashes 2 = .ok (.iload_n 3, 1) := by decide +kernel
theorem dX0_partsClashes_3 : decode cX0_partsClashes 3 = .ok (.iload_n 2, 1) := by decide +kernel
theorem dX0_partsClashes_4 : decode cX0_partsClashes 4 = .ok (.if_icmp .ge 22, 3) := by decide +kernel
theorem dX0_partsClashes_26 : decode cX0_partsClashes 26 = .ok (.iconst 1, 1) := by decide +kernel
theorem dX0_partsClashes_27 : decode cX0_partsClashes 27 = .ok (.ireturn, 1) := by decide +kernel
theorem dX0_partsClashes_7 : decode cX0_partsClashes 7 = .ok (.iload_n 1, 1) := by decide +kernel
theorem dX0_partsClashes_8 : decode cX0_partsClashes 8 = .ok (.aload_n 0, 1) := by decide +kernel
theorem dX0_partsClashes_9 : decode cX0_partsClashes 9 = .ok (.getfield 9, 3) := by decide +kernel
theorem dX0_partsClashes_12 : decode cX0_partsClashes 12 = .ok (.iload_n 3, 1) := by decide +kernel
theorem dX0_partsClashes_13 : decode cX0_partsClashes 13 = .ok (.iaload, 1) := by decide +kernel
theorem dX0_partsClashes_14 : decode cX0_partsClashes 14 = .ok (.iand, 1) := by decide +kernel
theorem dX0_partsClashes_15 : decode cX0_partsClashes 15 = .ok (.ifCond .ne 5, 3) := by decide +kernel
theorem dX0_partsClashes_20 : decode cX0_partsClashes 20 = .ok (.iinc 3 1, 3) := by decide +kernel
theorem dX0_partsClashes_23 : decode cX0_partsClashes 23 = .ok (.goto (-21), 3) := by decide +kernel
theorem dX0_partsClashes_18 : decode cX0_partsClashes 18 = .ok (.iconst 0, 1) := by decide +kernel
theorem dX0_partsClashes_19 : decode cX0_partsClashes 19 = .ok (.ireturn, 1) := by decide +kernel
theorem dX0_fewestReleased_0 : decode cX0_fewestReleased 0 = .ok (.aload_n 0, 1) := by decide +kernel
theorem dX0_fewestReleased_1 : decode cX0_fewestReleased 1 = .ok (.invokevirtual 38, 3) := by decide +kernel
theorem cw_X0_gatherClashes : CWv yX0_gatherClashes cX0_gatherClashes 5 (some .int) 0 := ⟨⟨⟨List.mem_of_getElem? (i := 136) (by decide +kernel), by decide +kernel⟩, ⟨List.mem_of_getElem? (i := 1309) (by decide +kernel), by decide +kernel⟩, by decide +kernel⟩, ⟨List.mem_of_getElem? (i := 1308) (by decide +kernel), by decide +kernel⟩, ⟨List.mem_of_getElem? (i := 40) (by decide +kernel), by decide +kernel⟩⟩
theorem km0_38 : inW (Cond.methodLink RX0 38 yX0_gatherClashes) := ⟨List.mem_of_getElem? (i := 1306) (by decide +kernel), by decide +kernel⟩
theorem dX0_fewestReleased_4 : decode cX0_fewestReleased 4 = .ok (.istore_n 1, 1) := by decide +kernel
theorem dX0_fewestReleased_5 : decode cX0_fewestReleased 5 = .ok (.iconst 0, 1) := by decide +kernel
theorem dX0_fewestReleased_6 : decode cX0_fewestReleased 6 = .ok (.istore_n 2, 1) := by decide +kernel
theorem dX0_fewestReleased_7 : decode cX0_fewestReleased 7 = .ok (.iconst 0, 1) := by decide +kernel
theorem dX0_fewestReleased_8 : decode cX0_fewestReleased 8 = .ok (.istore_n 3, 1) := by decide +kernel
theorem dX0_fewestReleased_9 : decode cX0_fewestReleased 9 = .ok (.iload_n 3, 1) := by decide +kernel
theorem dX0_fewestReleased_10 : decode cX0_fewestReleased 10 = .ok (.iload_n 1, 1) := by decide +kernel
theorem dX0_fewestReleased_11 : decode cX0_fewestReleased 11 = .ok (.if_icmp .ge 18, 3) := by decide +kernel
theorem dX0_fewestReleased_29 : decode cX0_fewestReleased 29 = .ok (.iload_n 2, 1) := by decide +kernel
theorem dX0_fewestReleased_30 : decode cX0_fewestReleased 30 = .ok (.istore_n 3, 1) := by decide +kernel
theorem dX0_fewestReleased_31 : decode cX0_fewestReleased 31 = .ok (.iconst 0, 1) := by decide +kernel
theorem dX0_fewestReleased_32 : decode cX0_fewestReleased 32 = .ok (.istore 4, 2) := by decide +kernel
theorem dX0_fewestReleased_14 : decode cX0_fewestReleased 14 = .ok (.iload_n 2, 1) := by decide +kernel
theorem dX0_fewestReleased_15 : decode cX0_fewestReleased 15 = .ok (.aload_n 0, 1) := by decide +kernel
theorem dX0_fewestReleased_16 : decode cX0_fewestReleased 16 = .ok (.getfield 9, 3) := by decide +kernel
theorem dX0_fewestReleased_19 : decode cX0_fewestReleased 19 = .ok (.iload_n 3, 1) := by decide +kernel
theorem dX0_fewestReleased_20 : decode cX0_fewestReleased 20 = .ok (.iaload, 1) := by decide +kernel
theorem dX0_fewestReleased_21 : decode cX0_fewestReleased 21 = .ok (.ior, 1) := by decide +kernel
theorem dX0_fewestReleased_22 : decode cX0_fewestReleased 22 = .ok (.istore_n 2, 1) := by decide +kernel
theorem dX0_fewestReleased_23 : decode cX0_fewestReleased 23 = .ok (.iinc 3 1, 3) := by decide +kernel
theorem dX0_fewestReleased_26 : decode cX0_fewestReleased 26 = .ok (.goto (-17), 3) := by decide +kernel
theorem dX0_fewestReleased_34 : decode cX0_fewestReleased 34 = .ok (.iload 4, 2) := by decide +kernel
theorem dX0_fewestReleased_36 : decode cX0_fewestReleased 36 = .ok (.iload_n 2, 1) := by decide +kernel
theorem dX0_fewestReleased_37 : decode cX0_fewestReleased 37 = .ok (.if_icmp .ge 43, 3) := by decide +kernel
theorem dX0_fewestReleased_80 : decode cX0_fewestReleased 80 = .ok (.iload_n 3, 1) := by decide +kernel
theorem dX0_fewestReleased_81 : decode cX0_fewestReleased 81 = .ok (.ireturn, 1) := by decide +kernel
theorem dX0_fewestReleased_40 : decode cX0_fewestReleased 40 = .ok (.iload 4, 2) := by decide +kernel
theorem dX0_fewestReleased_42 : decode cX0_fewestReleased 42 = .ok (.iload_n 2, 1) := by decide +kernel
theorem dX0_fewestReleased_43 : decode cX0_fewestReleased 43 = .ok (.iconst (-1), 1) := by decide +kernel
theorem dX0_fewestReleased_44 : decode cX0_fewestReleased 44 = .ok (.ixor, 1) := by decide +kernel
theorem dX0_fewestReleased_45 : decode cX0_fewestReleased 45 = .ok (.iand, 1) := by decide +kernel
theorem dX0_fewestReleased_46 : decode cX0_fewestReleased 46 = .ok (.ifCond .ne 28, 3) := by decide +kernel
theorem dX0_fewestReleased_74 : decode cX0_fewestReleased 74 = .ok (.iinc 4 1, 3) := by decide +kernel
theorem dX0_fewestReleased_77 : decode cX0_fewestReleased 77 = .ok (.goto (-43), 3) := by decide +kernel
theorem dX0_fewestReleased_49 : decode cX0_fewestReleased 49 = .ok (.iload 4, 2) := by decide +kernel
theorem dX0_fewestReleased_51 : decode cX0_fewestReleased 51 = .ok (.invokestatic 42, 3) := by decide +kernel
theorem km0_42 : inW (Cond.methodLink RX0 42 yJ6_bitCount_0f7a4) := ⟨List.mem_of_getElem? (i := 1311) (by decide +kernel), by decide +kernel⟩
theorem dX0_fewestReleased_54 : decode cX0_fewestReleased 54 = .ok (.iload_n 3, 1) := by decide +kernel
theorem dX0_fewestReleased_55 : decode cX0_fewestReleased 55 = .ok (.invokestatic 42, 3) := by decide +kernel
theorem dX0_fewestReleased_58 : decode cX0_fewestReleased 58 = .ok (.if_icmp .ge 16, 3) := by decide +kernel
theorem dX0_fewestReleased_61 : decode cX0_fewestReleased 61 = .ok (.aload_n 0, 1) := by decide +kernel
theorem dX0_fewestReleased_62 : decode cX0_fewestReleased 62 = .ok (.iload 4, 2) := by decide +kernel
theorem dX0_fewestReleased_64 : decode cX0_fewestReleased 64 = .ok (.iload_n 1, 1) := by decide +kernel
theorem dX0_fewestReleased_65 : decode cX0_fewestReleased 65 = .ok (.invokevirtual 48, 3) := by decide +kernel
theorem cw_X0_partsClashes : CWv yX0_partsClashes cX0_partsClashes 4 (some .boolean) 2 := ⟨⟨⟨List.mem_of_getElem? (i := 136) (by decide +kernel), by decide +kernel⟩, ⟨List.mem_of_getElem? (i := 1315) (by decide +kernel), by decide +kernel⟩, by decide +kernel⟩, ⟨List.mem_of_getElem? (i := 1314) (by decide +kernel), by decide +kernel⟩, ⟨List.mem_of_getElem? (i := 41) (by decide +kernel), by decide +kernel⟩⟩
theorem km0_48 : inW (Cond.methodLink RX0 48 yX0_partsClashes) := ⟨List.mem_of_getElem? (i := 1312) (by decide +kernel), by decide +kernel⟩
theorem dX0_fewestReleased_68 : decode cX0_fewestReleased 68 = .ok (.ifCond .eq 6, 3) := by decide +kernel
theorem dX0_fewestReleased_71 : decode cX0_fewestReleased 71 = .ok (.iload 4, 2) := by decide +kernel
theorem dX0_fewestReleased_73 : decode cX0_fewestReleased 73 = .ok (.istore_n 3, 1) := by decide +kernel
theorem dX0_workOf_0 : decode cX0_workOf 0 = .ok (.iconst 0, 1) := by decide +kernel
theorem dX0_workOf_1 : decode cX0_workOf 1 = .ok (.istore_n 3, 1) := by decide +kernel
theorem dX0_workOf_2 : decode cX0_workOf 2 = .ok (.iconst 0, 1) := by decide +kernel
theorem dX0_workOf_3 : decode cX0_workOf 3 = .ok (.istore 4, 2) := by decide +kernel
theorem dX0_workOf_5 : decode cX0_workOf 5 = .ok (.iload 4, 2) := by decide +kernel
theorem dX0_workOf_7 : decode cX0_workOf 7 = .ok (.aload_n 0, 1) := by decide +kernel
theorem dX0_workOf_8 : decode cX0_workOf 8 = .ok (.getfield 18, 3) := by decide +kernel
theorem dX0_workOf_11 : decode cX0_workOf 11 = .ok (.getfield 62, 3) := by decide +kernel
theorem kf0_62 : inW (Cond.fieldLinkNest RX0 62 "KneeOaths$World" "words" "LKneeOaths$Told;" "KneeOaths") := ⟨List.mem_of_getElem? (i := 280) (by decide +kernel), by decide +kernel⟩
theorem dX0_workOf_14 : decode cX0_workOf 14 = .ok (.getfield 56, 3) := by decide +kernel
theorem dX0_workOf_17 : decode cX0_workOf 17 = .ok (.if_icmp .ge 51, 3) := by decide +kernel
theorem dX0_workOf_68 : decode cX0_workOf 68 = .ok (.iload_n 3, 1) := by decide +kernel
theorem dX0_workOf_69 : decode cX0_workOf 69 = .ok (.ireturn, 1) := by decide +kernel
theorem dX0_workOf_20 : decode cX0_workOf 20 = .ok (.iload_n 1, 1) := by decide +kernel
theorem dX0_workOf_21 : decode cX0_workOf 21 = .ok (.iload 4, 2) := by decide +kernel
theorem dX0_workOf_23 : decode cX0_workOf 23 = .ok (.ishr, 1) := by decide +kernel
theorem dX0_workOf_24 : decode cX0_workOf 24 = .ok (.iconst 1, 1) := by decide +kernel
theorem dX0_workOf_25 : decode cX0_workOf 25 = .ok (.iand, 1) := by decide +kernel
theorem dX0_workOf_26 : decode cX0_workOf 26 = .ok (.ifCond .eq 36, 3) := by decide +kernel
theorem dX0_workOf_62 : decode cX0_workOf 62 = .ok (.iinc 4 1, 3) := by decide +kernel
theorem dX0_workOf_65 : decode cX0_workOf 65 = .ok (.goto (-60), 3) := by decide +kernel
theorem dX0_workOf_29 : decode cX0_workOf 29 = .ok (.aload_n 0, 1) := by decide +kernel
theorem dX0_workOf_30 : decode cX0_workOf 30 = .ok (.getfield 18, 3) := by decide +kernel
theorem dX0_workOf_33 : decode cX0_workOf 33 = .ok (.getfield 62, 3) := by decide +kernel
theorem dX0_workOf_36 : decode cX0_workOf 36 = .ok (.iload 4, 2) := by decide +kernel
theorem dX0_workOf_38 : decode cX0_workOf 38 = .ok (.iconst 1, 1) := by decide +kernel
theorem dX0_workOf_39 : decode cX0_workOf 39 = .ok (.invokevirtual 61, 3) := by decide +kernel
theorem dX0_workOf_42 : decode cX0_workOf 42 = .ok (.iload_n 2, 1) := by decide +kernel
theorem dX0_workOf_43 : decode cX0_workOf 43 = .ok (.if_icmp .gt 19, 3) := by decide +kernel
theorem dX0_workOf_46 : decode cX0_workOf 46 = .ok (.iload_n 3, 1) := by decide +kernel
theorem dX0_workOf_47 : decode cX0_workOf 47 = .ok (.aload_n 0, 1) := by decide +kernel
theorem dX0_workOf_48 : decode cX0_workOf 48 = .ok (.getfield 18, 3) := by decide +kernel
theorem dX0_workOf_51 : decode cX0_workOf 51 = .ok (.getfield 62, 3) := by decide +kernel
theorem dX0_workOf_54 : decode cX0_workOf 54 = .ok (.iload 4, 2) := by decide +kernel
theorem dX0_workOf_56 : decode cX0_workOf 56 = .ok (.iconst 0, 1) := by decide +kernel
theorem dX0_workOf_57 : decode cX0_workOf 57 = .ok (.invokevirtual 61, 3) := by decide +kernel
theorem dX0_workOf_60 : decode cX0_workOf 60 = .ok (.iadd, 1) := by decide +kernel
theorem dX0_workOf_61 : decode cX0_workOf 61 = .ok (.istore_n 3, 1) := by decide +kernel
theorem dX0_isInTime_0 : decode cX0_isInTime 0 = .ok (.iconst 0, 1) := by decide +kernel
theorem dX0_isInTime_1 : decode cX0_isInTime 1 = .ok (.istore_n 2, 1) := by decide +kernel
theorem dX0_isInTime_2 : decode cX0_isInTime 2 = .ok (.iload_n 2, 1) := by decide +kernel
theorem dX0_isInTime_3 : decode cX0_isInTime 3 = .ok (.aload_n 0, 1) := by decide +kernel
theorem dX0_isInTime_4 : decode cX0_isInTime 4 = .ok (.getfield 18, 3) := by decide +kernel
theorem dX0_isInTime_7 : decode cX0_isInTime 7 = .ok (.getfield 62, 3) := by decide +kernel
theorem dX0_isInTime_10 : decode cX0_isInTime 10 = .ok (.getfield 56, 3) := by decide +kernel
theorem dX0_isInTime_13 : decode cX0_isInTime 13 = .ok (.if_icmp .ge 42, 3) := by decide +kernel
theorem dX0_isInTime_55 : decode cX0_isInTime 55 = .ok (.iconst 1, 1) := by decide +kernel
theorem dX0_isInTime_56 : decode cX0_isInTime 56 = .ok (.ireturn, 1) := by decide +kernel
theorem dX0_isInTime_16 : decode cX0_isInTime 16 = .ok (.aload_n 0, 1) := by decide +kernel
theorem dX0_isInTime_17 : decode cX0_isInTime 17 = .ok (.getfield 18, 3) := by decide +kernel
theorem dX0_isInTime_20 : decode cX0_isInTime 20 = .ok (.getfield 62, 3) := by decide +kernel
theorem dX0_isInTime_23 : decode cX0_isInTime 23 = .ok (.iload_n 2, 1) := by decide +kernel
theorem dX0_isInTime_24 : decode cX0_isInTime 24 = .ok (.iconst 1, 1) := by decide +kernel
theorem dX0_isInTime_25 : decode cX0_isInTime 25 = .ok (.invokevirtual 61, 3) := by decide +kernel
theorem dX0_isInTime_28 : decode cX0_isInTime 28 = .ok (.istore_n 3, 1) := by decide +kernel
theorem dX0_isInTime_29 : decode cX0_isInTime 29 = .ok (.iload_n 1, 1) := by decide +kernel
theorem dX0_isInTime_30 : decode cX0_isInTime 30 = .ok (.iload_n 2, 1) := by decide +kernel
theorem dX0_isInTime_31 : decode cX0_isInTime 31 = .ok (.ishr, 1) := by decide +kernel
theorem dX0_isInTime_32 : decode cX0_isInTime 32 = .ok (.iconst 1, 1) := by decide +kernel
theorem dX0_isInTime_33 : decode cX0_isInTime 33 = .ok (.iand, 1) := by decide +kernel
theorem dX0_isInTime_34 : decode cX0_isInTime 34 = .ok (.ifCond .eq 15, 3) := by decide +kernel
theorem dX0_isInTime_49 : decode cX0_isInTime 49 = .ok (.iinc 2 1, 3) := by decide +kernel
theorem dX0_isInTime_52 : decode cX0_isInTime 52 = .ok (.goto (-50), 3) := by decide +kernel
theorem dX0_isInTime_37 : decode cX0_isInTime 37 = .ok (.aload_n 0, 1) := by decide +kernel
theorem dX0_isInTime_38 : decode cX0_isInTime 38 = .ok (.iload_n 1, 1) := by decide +kernel
theorem dX0_isInTime_39 : decode cX0_isInTime 39 = .ok (.iload_n 3, 1) := by decide +kernel
theorem dX0_isInTime_40 : decode cX0_isInTime 40 = .ok (.invokevirtual 69, 3) := by decide +kernel
theorem cw_X0_workOf : CWv yX0_workOf cX0_workOf 5 (some .int) 2 := ⟨⟨⟨List.mem_of_getElem? (i := 136) (by decide +kernel), by decide +kernel⟩, ⟨List.mem_of_getElem? (i := 1343) (by decide +kernel), by decide +kernel⟩, by decide +kernel⟩, ⟨List.mem_of_getElem? (i := 1341) (by decide +kernel), by decide +kernel⟩, ⟨List.mem_of_getElem? (i := 1342) (by decide +kernel), by decide +kernel⟩⟩
theorem km0_69 : inW (Cond.methodLink RX0 69 yX0_workOf) := ⟨List.mem_of_getElem? (i := 1340) (by decide +kernel), by decide +kernel⟩
theorem dX0_isInTime_43 : decode cX0_isInTime 43 = .ok (.iload_n 3, 1) := by decide +kernel
theorem dX0_isInTime_44 : decode cX0_isInTime 44 = .ok (.if_icmp .le 5, 3) := by decide +kernel
theorem dX0_isInTime_47 : decode cX0_isInTime 47 = .ok (.iconst 0, 1) := by decide +kernel
theorem dX0_isInTime_48 : decode cX0_isInTime 48 = .ok (.ireturn, 1) := by decide +kernel
theorem dX0_mostInTime_0 : decode cX0_mostInTime 0 = .ok (.iconst 0, 1) := by decide +kernel
theorem dX0_mostInTime_1 : decode cX0_mostInTime 1 = .ok (.istore_n 1, 1) := by decide +kernel
theorem dX0_mostInTime_2 : decode cX0_mostInTime 2 = .ok (.iconst 1, 1) := by decide +kernel
theorem dX0_mostInTime_3 : decode cX0_mostInTime 3 = .ok (.istore_n 2, 1) := by decide +kernel
theorem dX0_mostInTime_4 : decode cX0_mostInTime 4 = .ok (.iload_n 2, 1) := by decide +kernel
theorem dX0_mostInTime_5 : decode cX0_mostInTime 5 = .ok (.iconst 1, 1) := by decide +kernel
theorem dX0_mostInTime_6 : decode cX0_mostInTime 6 = .ok (.aload_n 0, 1) := by decide +kernel
theorem dX0_mostInTime_7 : decode cX0_mostInTime 7 = .ok (.getfield 18, 3) := by decide +kernel
theorem dX0_mostInTime_10 : decode cX0_mostInTime 10 = .ok (.getfield 62, 3) := by decide +kernel
theorem dX0_mostInTime_13 : decode cX0_mostInTime 13 = .ok (.getfield 56, 3) := by decide +kernel
theorem dX0_mostInTime_16 : decode cX0_mostInTime 16 = .ok (.ishl, 1) := by decide +kernel
theorem dX0_mostInTime_17 : decode cX0_mostInTime 17 = .ok (.if_icmp .ge 30, 3) := by decide +kernel
theorem dX0_mostInTime_47 : decode cX0_mostInTime 47 = .ok (.iload_n 1, 1) := by decide +kernel
theorem dX0_mostInTime_48 : decode cX0_mostInTime 48 = .ok (.ireturn, 1) := by decide +kernel
theorem dX0_mostInTime_20 : decode cX0_mostInTime 20 = .ok (.iload_n 2, 1) := by decide +kernel
theorem dX0_mostInTime_21 : decode cX0_mostInTime 21 = .ok (.invokestatic 42, 3) := by decide +kernel
theorem dX0_mostInTime_24 : decode cX0_mostInTime 24 = .ok (.iload_n 1, 1) := by decide +kernel
theorem dX0_mostInTime_25 : decode cX0_mostInTime 25 = .ok (.invokestatic 42, 3) := by decide +kernel
theorem dX0_mostInTime_28 : decode cX0_mostInTime 28 = .ok (.if_icmp .le 13, 3) := by decide +kernel
theorem dX0_mostInTime_41 : decode cX0_mostInTime 41 = .ok (.iinc 2 1, 3) := by decide +kernel
theorem dX0_mostInTime_44 : decode cX0_mostInTime 44 = .ok (.goto (-40), 3) := by decide +kernel
theorem dX0_mostInTime_31 : decode cX0_mostInTime 31 = .ok (.aload_n 0, 1) := by decide +kernel
theorem dX0_mostInTime_32 : decode cX0_mostInTime 32 = .ok (.iload_n 2, 1) := by decide +kernel
theorem dX0_mostInTime_33 : decode cX0_mostInTime 33 = .ok (.invokevirtual 65, 3) := by decide +kernel
theorem cw_X0_isInTime : CWv yX0_isInTime cX0_isInTime 4 (some .boolean) 1 := ⟨⟨⟨List.mem_of_getElem? (i := 136) (by decide +kernel), by decide +kernel⟩, ⟨List.mem_of_getElem? (i := 1339) (by decide +kernel), by decide +kernel⟩, by decide +kernel⟩, ⟨List.mem_of_getElem? (i := 1338) (by decide +kernel), by decide +kernel⟩, ⟨List.mem_of_getElem? (i := 42) (by decide +kernel), by decide +kernel⟩⟩
theorem km0_65 : inW (Cond.methodLink RX0 65 yX0_isInTime) := ⟨List.mem_of_getElem? (i := 1336) (by decide +kernel), by decide +kernel⟩
theorem dX0_mostInTime_36 : decode cX0_mostInTime 36 = .ok (.ifCond .eq 5, 3) := by decide +kernel
theorem dX0_mostInTime_39 : decode cX0_mostInTime 39 = .ok (.iload_n 2, 1) := by decide +kernel
theorem dX0_mostInTime_40 : decode cX0_mostInTime 40 = .ok (.istore_n 1, 1) := by decide +kernel
theorem dX0_seesAll_0 : decode cX0_seesAll 0 = .ok (.aload_n 0, 1) := by decide +kernel
theorem dX0_seesAll_1 : decode cX0_seesAll 1 = .ok (.getfield 18, 3) := by decide +kernel
theorem dX0_seesAll_4 : decode cX0_seesAll 4 = .ok (.getfield 22, 3) := by decide +kernel
theorem dX0_seesAll_7 : decode cX0_seesAll 7 = .ok (.astore_n 2, 1) := by decide +kernel
theorem dX0_seesAll_8 : decode cX0_seesAll 8 = .ok (.iconst 0, 1) := by decide +kernel
theorem dX0_seesAll_9 : decode cX0_seesAll 9 = .ok (.istore_n 3, 1) := by decide +kernel
theorem dX0_seesAll_10 : decode cX0_seesAll 10 = .ok (.iload_n 3, 1) := by decide +kernel
theorem dX0_seesAll_11 : decode cX0_seesAll 11 = .ok (.aload_n 2, 1) := by decide +kernel
theorem dX0_seesAll_12 : decode cX0_seesAll 12 = .ok (.getfield 28, 3) := by decide +kernel
theorem dX0_seesAll_15 : decode cX0_seesAll 15 = .ok (.if_icmp .ge 45, 3) := by decide +kernel
theorem dX0_seesAll_60 : decode cX0_seesAll 60 = .ok (.iconst 1, 1) := by decide +kernel
theorem dX0_seesAll_61 : decode cX0_seesAll 61 = .ok (.ireturn, 1) := by decide +kernel
theorem dX0_seesAll_18 : decode cX0_seesAll 18 = .ok (.iconst 1, 1) := by decide +kernel
theorem dX0_seesAll_19 : decode cX0_seesAll 19 = .ok (.aload_n 2, 1) := by decide +kernel
theorem dX0_seesAll_20 : decode cX0_seesAll 20 = .ok (.iload_n 3, 1) := by decide +kernel
theorem dX0_seesAll_21 : decode cX0_seesAll 21 = .ok (.iconst 0, 1) := by decide +kernel
theorem dX0_seesAll_22 : decode cX0_seesAll 22 = .ok (.invokevirtual 34, 3) := by decide +kernel
theorem dX0_seesAll_25 : decode cX0_seesAll 25 = .ok (.ishl, 1) := by decide +kernel
theorem dX0_seesAll_26 : decode cX0_seesAll 26 = .ok (.iconst 1, 1) := by decide +kernel
theorem dX0_seesAll_27 : decode cX0_seesAll 27 = .ok (.aload_n 2, 1) := by decide +kernel
theorem dX0_seesAll_28 : decode cX0_seesAll 28 = .ok (.iload_n 3, 1) := by decide +kernel
theorem dX0_seesAll_29 : decode cX0_seesAll 29 = .ok (.iconst 1, 1) := by decide +kernel
theorem dX0_seesAll_30 : decode cX0_seesAll 30 = .ok (.invokevirtual 34, 3) := by decide +kernel
theorem dX0_seesAll_33 : decode cX0_seesAll 33 = .ok (.ishl, 1) := by decide +kernel
theorem dX0_seesAll_34 : decode cX0_seesAll 34 = .ok (.ior, 1) := by decide +kernel
theorem dX0_seesAll_35 : decode cX0_seesAll 35 = .ok (.istore 4, 2) := by decide +kernel
theorem dX0_seesAll_37 : decode cX0_seesAll 37 = .ok (.aload_n 2, 1) := by decide +kernel
theorem dX0_seesAll_38 : decode cX0_seesAll 38 = .ok (.iload_n 3, 1) := by decide +kernel
theorem dX0_seesAll_39 : decode cX0_seesAll 39 = .ok (.invokevirtual 78, 3) := by decide +kernel
theorem km0_78 : inW (Cond.methodLink RX0 78 yX4_legible) := ⟨List.mem_of_getElem? (i := 1378) (by decide +kernel), by decide +kernel⟩
theorem dX0_seesAll_42 : decode cX0_seesAll 42 = .ok (.ifCond .eq 12, 3) := by decide +kernel
theorem dX0_seesAll_54 : decode cX0_seesAll 54 = .ok (.iinc 3 1, 3) := by decide +kernel
theorem dX0_seesAll_57 : decode cX0_seesAll 57 = .ok (.goto (-47), 3) := by decide +kernel
theorem dX0_seesAll_45 : decode cX0_seesAll 45 = .ok (.iload_n 1, 1) := by decide +kernel
theorem dX0_seesAll_46 : decode cX0_seesAll 46 = .ok (.iload 4, 2) := by decide +kernel
theorem dX0_seesAll_48 : decode cX0_seesAll 48 = .ok (.iand, 1) := by decide +kernel
theorem dX0_seesAll_49 : decode cX0_seesAll 49 = .ok (.ifCond .ne 5, 3) := by decide +kernel
theorem dX0_seesAll_52 : decode cX0_seesAll 52 = .ok (.iconst 0, 1) := by decide +kernel
theorem dX0_seesAll_53 : decode cX0_seesAll 53 = .ok (.ireturn, 1) := by decide +kernel
theorem dX0_fewestAsked_0 : decode cX0_fewestAsked 0 = .ok (.iconst 1, 1) := by decide +kernel
theorem dX0_fewestAsked_1 : decode cX0_fewestAsked 1 = .ok (.aload_n 0, 1) := by decide +kernel
theorem dX0_fewestAsked_2 : decode cX0_fewestAsked 2 = .ok (.getfield 18, 3) := by decide +kernel
theorem dX0_fewestAsked_5 : decode cX0_fewestAsked 5 = .ok (.getfield 72, 3) := by decide +kernel
theorem kf0_72 : inW (Cond.fieldLinkNest RX0 72 "KneeOaths$World" "people" "I" "KneeOaths") := ⟨List.mem_of_getElem? (i := 290) (by decide +kernel), by decide +kernel⟩
theorem dX0_fewestAsked_8 : decode cX0_fewestAsked 8 = .ok (.ishl, 1) := by decide +kernel
theorem dX0_fewestAsked_9 : decode cX0_fewestAsked 9 = .ok (.iconst 1, 1) := by decide +kernel
theorem dX0_fewestAsked_10 : decode cX0_fewestAsked 10 = .ok (.isub, 1) := by decide +kernel
theorem dX0_fewestAsked_11 : decode cX0_fewestAsked 11 = .ok (.istore_n 1, 1) := by decide +kernel
theorem dX0_fewestAsked_12 : decode cX0_fewestAsked 12 = .ok (.iconst 0, 1) := by decide +kernel
theorem dX0_fewestAsked_13 : decode cX0_fewestAsked 13 = .ok (.istore_n 2, 1) := by decide +kernel
theorem dX0_fewestAsked_14 : decode cX0_fewestAsked 14 = .ok (.iload_n 2, 1) := by decide +kernel
theorem dX0_fewestAsked_15 : decode cX0_fewestAsked 15 = .ok (.iconst 1, 1) := by decide +kernel
theorem dX0_fewestAsked_16 : decode cX0_fewestAsked 16 = .ok (.aload_n 0, 1) := by decide +kernel
theorem dX0_fewestAsked_17 : decode cX0_fewestAsked 17 = .ok (.getfield 18, 3) := by decide +kernel
theorem dX0_fewestAsked_20 : decode cX0_fewestAsked 20 = .ok (.getfield 72, 3) := by decide +kernel
theorem dX0_fewestAsked_23 : decode cX0_fewestAsked 23 = .ok (.ishl, 1) := by decide +kernel
theorem dX0_fewestAsked_24 : decode cX0_fewestAsked 24 = .ok (.if_icmp .ge 30, 3) := by decide +kernel
theorem dX0_fewestAsked_27 : decode cX0_fewestAsked 27 = .ok (.iload_n 2, 1) := by decide +kernel
theorem dX0_fewestAsked_28 : decode cX0_fewestAsked 28 = .ok (.invokestatic 42, 3) := by decide +kernel
theorem dX0_fewestAsked_31 : decode cX0_fewestAsked 31 = .ok (.iload_n 1, 1) := by decide +kernel
theorem dX0_fewestAsked_32 : decode cX0_fewestAsked 32 = .ok (.invokestatic 42, 3) := by decide +kernel
theorem dX0_fewestAsked_35 : decode cX0_fewestAsked 35 = .ok (.if_icmp .ge 13, 3) := by decide +kernel
theorem dX0_fewestAsked_48 : decode cX0_fewestAsked 48 = .ok (.iinc 2 1, 3) := by decide +kernel
theorem dX0_fewestAsked_51 : decode cX0_fewestAsked 51 = .ok (.goto (-37), 3) := by decide +kernel
theorem dX0_fewestAsked_38 : decode cX0_fewestAsked 38 = .ok (.aload_n 0, 1) := by decide +kernel
theorem dX0_fewestAsked_39 : decode cX0_fewestAsked 39 = .ok (.iload_n 2, 1) := by decide +kernel
theorem dX0_fewestAsked_40 : decode cX0_fewestAsked 40 = .ok (.invokevirtual 75, 3) := by decide +kernel
theorem cw_X0_seesAll : CWv yX0_seesAll cX0_seesAll 5 (some .boolean) 1 := ⟨⟨⟨List.mem_of_getElem? (i := 136) (by decide +kernel), by decide +kernel⟩, ⟨List.mem_of_getElem? (i := 1377) (by decide +kernel), by decide +kernel⟩, by decide +kernel⟩, ⟨List.mem_of_getElem? (i := 1376) (by decide +kernel), by decide +kernel⟩, ⟨List.mem_of_getElem? (i := 45) (by decide +kernel), by decide +kernel⟩⟩
theorem km0_75 : inW (Cond.methodLink RX0 75 yX0_seesAll) := ⟨List.mem_of_getElem? (i := 1374) (by decide +kernel), by decide +kernel⟩
theorem dX0_fewestAsked_43 : decode cX0_fewestAsked 43 = .ok (.ifCond .eq 5, 3) := by decide +kernel
theorem dX0_fewestAsked_46 : decode cX0_fewestAsked 46 = .ok (.iload_n 2, 1) := by decide +kernel
theorem dX0_fewestAsked_47 : decode cX0_fewestAsked 47 = .ok (.istore_n 1, 1) := by decide +kernel
theorem dX0_fewestAsked_54 : decode cX0_fewestAsked 54 = .ok (.iload_n 1, 1) := by decide +kernel
theorem dX0_fewestAsked_55 : decode cX0_fewestAsked 55 = .ok (.ireturn, 1) := by decide +kernel
theorem dX0_wordsOf_0 : decode cX0_wordsOf 0 = .ok (.aload_n 0, 1) := by decide +kernel
theorem dX0_wordsOf_1 : decode cX0_wordsOf 1 = .ok (.getfield 18, 3) := by decide +kernel
theorem dX0_wordsOf_4 : decode cX0_wordsOf 4 = .ok (.getfield 22, 3) := by decide +kernel
theorem dX0_wordsOf_7 : decode cX0_wordsOf 7 = .ok (.astore_n 2, 1) := by decide +kernel
theorem dX0_wordsOf_8 : decode cX0_wordsOf 8 = .ok (.iconst 1, 1) := by decide +kernel
theorem dX0_wordsOf_9 : decode cX0_wordsOf 9 = .ok (.iload_n 1, 1) := by decide +kernel
theorem dX0_wordsOf_10 : decode cX0_wordsOf 10 = .ok (.ishl, 1) := by decide +kernel
theorem dX0_wordsOf_11 : decode cX0_wordsOf 11 = .ok (.istore_n 3, 1) := by decide +kernel
theorem dX0_wordsOf_12 : decode cX0_wordsOf 12 = .ok (.iconst 0, 1) := by decide +kernel
theorem dX0_wordsOf_13 : decode cX0_wordsOf 13 = .ok (.istore 4, 2) := by decide +kernel
theorem dX0_wordsOf_15 : decode cX0_wordsOf 15 = .ok (.iload 4, 2) := by decide +kernel
theorem dX0_wordsOf_17 : decode cX0_wordsOf 17 = .ok (.aload_n 0, 1) := by decide +kernel
theorem dX0_wordsOf_18 : decode cX0_wordsOf 18 = .ok (.getfield 18, 3) := by decide +kernel
theorem dX0_wordsOf_21 : decode cX0_wordsOf 21 = .ok (.getfield 81, 3) := by decide +kernel
theorem kf0_81 : inW (Cond.fieldLinkNest RX0 81 "KneeOaths$World" "sights" "LKneeOaths$Told;" "KneeOaths") := ⟨List.mem_of_getElem? (i := 283) (by decide +kernel), by decide +kernel⟩
theorem dX0_wordsOf_24 : decode cX0_wordsOf 24 = .ok (.getfield 56, 3) := by decide +kernel
theorem dX0_wordsOf_27 : decode cX0_wordsOf 27 = .ok (.if_icmp .ge 44, 3) := by decide +kernel
theorem dX0_wordsOf_71 : decode cX0_wordsOf 71 = .ok (.iconst 0, 1) := by decide +kernel
theorem dX0_wordsOf_72 : decode cX0_wordsOf 72 = .ok (.istore 4, 2) := by decide +kernel
theorem dX0_wordsOf_74 : decode cX0_wordsOf 74 = .ok (.iconst 0, 1) := by decide +kernel
theorem dX0_wordsOf_75 : decode cX0_wordsOf 75 = .ok (.istore 5, 2) := by decide +kernel
theorem dX0_wordsOf_30 : decode cX0_wordsOf 30 = .ok (.aload_n 0, 1) := by decide +kernel
theorem dX0_wordsOf_31 : decode cX0_wordsOf 31 = .ok (.getfield 18, 3) := by decide +kernel
theorem dX0_wordsOf_34 : decode cX0_wordsOf 34 = .ok (.getfield 81, 3) := by decide +kernel
theorem dX0_wordsOf_37 : decode cX0_wordsOf 37 = .ok (.iload 4, 2) := by decide +kernel
theorem dX0_wordsOf_39 : decode cX0_wordsOf 39 = .ok (.iconst 0, 1) := by decide +kernel
theorem dX0_wordsOf_40 : decode cX0_wordsOf 40 = .ok (.invokevirtual 61, 3) := by decide +kernel
theorem dX0_wordsOf_43 : decode cX0_wordsOf 43 = .ok (.iload_n 1, 1) := by decide +kernel
theorem dX0_wordsOf_44 : decode cX0_wordsOf 44 = .ok (.if_icmp .ne 21, 3) := by decide +kernel
theorem dX0_wordsOf_65 : decode cX0_wordsOf 65 = .ok (.iinc 4 1, 3) := by decide +kernel
theorem dX0_wordsOf_68 : decode cX0_wordsOf 68 = .ok (.goto (-53), 3) := by decide +kernel
theorem dX0_wordsOf_47 : decode cX0_wordsOf 47 = .ok (.iload_n 3, 1) := by decide +kernel
theorem dX0_wordsOf_48 : decode cX0_wordsOf 48 = .ok (.iconst 1, 1) := by decide +kernel
theorem dX0_wordsOf_49 : decode cX0_wordsOf 49 = .ok (.aload_n 0, 1) := by decide +kernel
theorem dX0_wordsOf_50 : decode cX0_wordsOf 50 = .ok (.getfield 18, 3) := by decide +kernel
theorem dX0_wordsOf_53 : decode cX0_wordsOf 53 = .ok (.getfield 81, 3) := by decide +kernel
theorem dX0_wordsOf_56 : decode cX0_wordsOf 56 = .ok (.iload 4, 2) := by decide +kernel
theorem dX0_wordsOf_58 : decode cX0_wordsOf 58 = .ok (.iconst 1, 1) := by decide +kernel
theorem dX0_wordsOf_59 : decode cX0_wordsOf 59 = .ok (.invokevirtual 61, 3) := by decide +kernel
theorem dX0_wordsOf_62 : decode cX0_wordsOf 62 = .ok (.ishl, 1) := by decide +kernel
theorem dX0_wordsOf_63 : decode cX0_wordsOf 63 = .ok (.ior, 1) := by decide +kernel
theorem dX0_wordsOf_64 : decode cX0_wordsOf 64 = .ok (.istore_n 3, 1) := by decide +kernel
theorem dX0_wordsOf_77 : decode cX0_wordsOf 77 = .ok (.iload 5, 2) := by decide +kernel
theorem dX0_wordsOf_79 : decode cX0_wordsOf 79 = .ok (.aload_n 2, 1) := by decide +kernel
theorem dX0_wordsOf_80 : decode cX0_wordsOf 80 = .ok (.getfield 28, 3) := by decide +kernel
theorem dX0_wordsOf_83 : decode cX0_wordsOf 83 = .ok (.if_icmp .ge 64, 3) := by decide +kernel
theorem dX0_wordsOf_147 : decode cX0_wordsOf 147 = .ok (.iload 4, 2) := by decide +kernel
theorem dX0_wordsOf_149 : decode cX0_wordsOf 149 = .ok (.ireturn, 1) := by decide +kernel
theorem dX0_wordsOf_86 : decode cX0_wordsOf 86 = .ok (.iload_n 3, 1) := by decide +kernel
theorem dX0_wordsOf_87 : decode cX0_wordsOf 87 = .ok (.aload_n 2, 1) := by decide +kernel
theorem dX0_wordsOf_88 : decode cX0_wordsOf 88 = .ok (.iload 5, 2) := by decide +kernel
theorem dX0_wordsOf_90 : decode cX0_wordsOf 90 = .ok (.iconst 1, 1) := by decide +kernel
theorem dX0_wordsOf_91 : decode cX0_wordsOf 91 = .ok (.invokevirtual 34, 3) := by decide +kernel
theorem dX0_wordsOf_94 : decode cX0_wordsOf 94 = .ok (.ishr, 1) := by decide +kernel
theorem dX0_wordsOf_95 : decode cX0_wordsOf 95 = .ok (.iconst 1, 1) := by decide +kernel
theorem dX0_wordsOf_96 : decode cX0_wordsOf 96 = .ok (.iand, 1) := by decide +kernel
theorem dX0_wordsOf_97 : decode cX0_wordsOf 97 = .ok (.ifCond .ne 14, 3) := by decide +kernel
theorem dX0_wordsOf_111 : decode cX0_wordsOf 111 = .ok (.iconst 1, 1) := by decide +kernel
theorem dX0_wordsOf_112 : decode cX0_wordsOf 112 = .ok (.goto 4, 3) := by decide +kernel
theorem dX0_wordsOf_116 : decode cX0_wordsOf 116 = .ok (.istore 6, 2) := by decide +kernel
theorem dX0_wordsOf_118 : decode cX0_wordsOf 118 = .ok (.iload 6, 2) := by decide +kernel
theorem dX0_wordsOf_120 : decode cX0_wordsOf 120 = .ok (.ifCond .eq 21, 3) := by decide +kernel
theorem dX0_wordsOf_123 : decode cX0_wordsOf 123 = .ok (.aload_n 2, 1) := by decide +kernel
theorem dX0_wordsOf_124 : decode cX0_wordsOf 124 = .ok (.iload 5, 2) := by decide +kernel
theorem dX0_wordsOf_126 : decode cX0_wordsOf 126 = .ok (.invokevirtual 78, 3) := by decide +kernel
theorem dX0_wordsOf_129 : decode cX0_wordsOf 129 = .ok (.ifCond .eq 12, 3) := by decide +kernel
theorem dX0_wordsOf_141 : decode cX0_wordsOf 141 = .ok (.iinc 5 1, 3) := by decide +kernel
theorem dX0_wordsOf_144 : decode cX0_wordsOf 144 = .ok (.goto (-67), 3) := by decide +kernel
theorem dX0_wordsOf_132 : decode cX0_wordsOf 132 = .ok (.iload 4, 2) := by decide +kernel
theorem dX0_wordsOf_134 : decode cX0_wordsOf 134 = .ok (.iconst 1, 1) := by decide +kernel
theorem dX0_wordsOf_135 : decode cX0_wordsOf 135 = .ok (.iload 5, 2) := by decide +kernel
theorem dX0_wordsOf_137 : decode cX0_wordsOf 137 = .ok (.ishl, 1) := by decide +kernel
theorem dX0_wordsOf_138 : decode cX0_wordsOf 138 = .ok (.ior, 1) := by decide +kernel
theorem dX0_wordsOf_139 : decode cX0_wordsOf 139 = .ok (.istore 4, 2) := by decide +kernel
theorem dX0_wordsOf_100 : decode cX0_wordsOf 100 = .ok (.aload_n 2, 1) := by decide +kernel
theorem dX0_wordsOf_101 : decode cX0_wordsOf 101 = .ok (.iload 5, 2) := by decide +kernel
theorem dX0_wordsOf_103 : decode cX0_wordsOf 103 = .ok (.iconst 0, 1) := by decide +kernel
theorem dX0_wordsOf_104 : decode cX0_wordsOf 104 = .ok (.invokevirtual 34, 3) := by decide +kernel
theorem dX0_wordsOf_107 : decode cX0_wordsOf 107 = .ok (.iload_n 1, 1) := by decide +kernel
theorem dX0_wordsOf_108 : decode cX0_wordsOf 108 = .ok (.if_icmp .ne 7, 3) := by decide +kernel
theorem dX0_wordsOf_115 : decode cX0_wordsOf 115 = .ok (.iconst 0, 1) := by decide +kernel
theorem dX0_knownTo_0 : decode cX0_knownTo 0 = .ok (.iconst 0, 1) := by decide +kernel
theorem dX0_knownTo_1 : decode cX0_knownTo 1 = .ok (.istore_n 2, 1) := by decide +kernel
theorem dX0_knownTo_2 : decode cX0_knownTo 2 = .ok (.iconst 0, 1) := by decide +kernel
theorem dX0_knownTo_3 : decode cX0_knownTo 3 = .ok (.istore_n 3, 1) := by decide +kernel
theorem dX0_knownTo_4 : decode cX0_knownTo 4 = .ok (.iload_n 3, 1) := by decide +kernel
theorem dX0_knownTo_5 : decode cX0_knownTo 5 = .ok (.bipush 6, 2) := by decide +kernel
theorem dX0_knownTo_7 : decode cX0_knownTo 7 = .ok (.if_icmp .ge 30, 3) := by decide +kernel
theorem dX0_knownTo_10 : decode cX0_knownTo 10 = .ok (.iload_n 2, 1) := by decide +kernel
theorem dX0_knownTo_11 : decode cX0_knownTo 11 = .ok (.iload_n 1, 1) := by decide +kernel
theorem dX0_knownTo_12 : decode cX0_knownTo 12 = .ok (.iload_n 3, 1) := by decide +kernel
theorem dX0_knownTo_13 : decode cX0_knownTo 13 = .ok (.ishr, 1) := by decide +kernel
theorem dX0_knownTo_14 : decode cX0_knownTo 14 = .ok (.iconst 1, 1) := by decide +kernel
theorem dX0_knownTo_15 : decode cX0_knownTo 15 = .ok (.iand, 1) := by decide +kernel
theorem dX0_knownTo_16 : decode cX0_knownTo 16 = .ok (.ifCond .eq 12, 3) := by decide +kernel
theorem dX0_knownTo_28 : decode cX0_knownTo 28 = .ok (.iconst 0, 1) := by decide +kernel
theorem dX0_knownTo_29 : decode cX0_knownTo 29 = .ok (.ior, 1) := by decide +kernel
theorem dX0_knownTo_30 : decode cX0_knownTo 30 = .ok (.istore_n 2, 1) := by decide +kernel
theorem dX0_knownTo_31 : decode cX0_knownTo 31 = .ok (.iinc 3 1, 3) := by decide +kernel
theorem dX0_knownTo_34 : decode cX0_knownTo 34 = .ok (.goto (-30), 3) := by decide +kernel
theorem dX0_knownTo_19 : decode cX0_knownTo 19 = .ok (.aload_n 0, 1) := by decide +kernel
theorem dX0_knownTo_20 : decode cX0_knownTo 20 = .ok (.getfield 15, 3) := by decide +kernel
theorem kf0_15 : inW (Cond.fieldLink RX0 15 "KneeOaths$Choices" "knowledge" "[I") := ⟨List.mem_of_getElem? (i := 497) (by decide +kernel), by decide +kernel⟩
theorem dX0_knownTo_23 : decode cX0_knownTo 23 = .ok (.iload_n 3, 1) := by decide +kernel
theorem dX0_knownTo_24 : decode cX0_knownTo 24 = .ok (.iaload, 1) := by decide +kernel
theorem dX0_knownTo_25 : decode cX0_knownTo 25 = .ok (.goto 4, 3) := by decide +kernel
theorem dX0_knownTo_37 : decode cX0_knownTo 37 = .ok (.iload_n 2, 1) := by decide +kernel
theorem dX0_knownTo_38 : decode cX0_knownTo 38 = .ok (.ireturn, 1) := by decide +kernel
theorem dX0_fewestKnowing_0 : decode cX0_fewestKnowing 0 = .ok (.iconst 0, 1) := by decide +kernel
theorem dX0_fewestKnowing_1 : decode cX0_fewestKnowing 1 = .ok (.istore_n 1, 1) := by decide +kernel
theorem dX0_fewestKnowing_2 : decode cX0_fewestKnowing 2 = .ok (.iconst 0, 1) := by decide +kernel
theorem dX0_fewestKnowing_3 : decode cX0_fewestKnowing 3 = .ok (.istore_n 2, 1) := by decide +kernel
theorem dX0_fewestKnowing_4 : decode cX0_fewestKnowing 4 = .ok (.iload_n 2, 1) := by decide +kernel
theorem dX0_fewestKnowing_5 : decode cX0_fewestKnowing 5 = .ok (.aload_n 0, 1) := by decide +kernel
theorem dX0_fewestKnowing_6 : decode cX0_fewestKnowing 6 = .ok (.getfield 18, 3) := by decide +kernel
theorem dX0_fewestKnowing_9 : decode cX0_fewestKnowing 9 = .ok (.getfield 72, 3) := by decide +kernel
theorem dX0_fewestKnowing_12 : decode cX0_fewestKnowing 12 = .ok (.if_icmp .ge 35, 3) := by decide +kernel
theorem dX0_fewestKnowing_47 : decode cX0_fewestKnowing 47 = .ok (.iconst 1, 1) := by decide +kernel
theorem dX0_fewestKnowing_48 : decode cX0_fewestKnowing 48 = .ok (.aload_n 0, 1) := by decide +kernel
theorem dX0_fewestKnowing_49 : decode cX0_fewestKnowing 49 = .ok (.getfield 18, 3) := by decide +kernel
theorem dX0_fewestKnowing_52 : decode cX0_fewestKnowing 52 = .ok (.getfield 72, 3) := by decide +kernel
theorem dX0_fewestKnowing_55 : decode cX0_fewestKnowing 55 = .ok (.ishl, 1) := by decide +kernel
theorem dX0_fewestKnowing_56 : decode cX0_fewestKnowing 56 = .ok (.iconst 1, 1) := by decide +kernel
theorem dX0_fewestKnowing_57 : decode cX0_fewestKnowing 57 = .ok (.isub, 1) := by decide +kernel
theorem dX0_fewestKnowing_58 : decode cX0_fewestKnowing 58 = .ok (.istore_n 2, 1) := by decide +kernel
theorem dX0_fewestKnowing_59 : decode cX0_fewestKnowing 59 = .ok (.iconst 0, 1) := by decide +kernel
theorem dX0_fewestKnowing_60 : decode cX0_fewestKnowing 60 = .ok (.istore_n 3, 1) := by decide +kernel
theorem dX0_fewestKnowing_15 : decode cX0_fewestKnowing 15 = .ok (.iload_n 2, 1) := by decide +kernel
theorem dX0_fewestKnowing_16 : decode cX0_fewestKnowing 16 = .ok (.bipush 6, 2) := by decide +kernel
theorem dX0_fewestKnowing_18 : decode cX0_fewestKnowing 18 = .ok (.if_icmp .ge 29, 3) := by decide +kernel
theorem dX0_fewestKnowing_21 : decode cX0_fewestKnowing 21 = .ok (.aload_n 0, 1) := by decide +kernel
theorem dX0_fewestKnowing_22 : decode cX0_fewestKnowing 22 = .ok (.getfield 15, 3) := by decide +kernel
theorem dX0_fewestKnowing_25 : decode cX0_fewestKnowing 25 = .ok (.iload_n 2, 1) := by decide +kernel
theorem dX0_fewestKnowing_26 : decode cX0_fewestKnowing 26 = .ok (.aload_n 0, 1) := by decide +kernel
theorem dX0_fewestKnowing_27 : decode cX0_fewestKnowing 27 = .ok (.iload_n 2, 1) := by decide +kernel
theorem dX0_fewestKnowing_28 : decode cX0_fewestKnowing 28 = .ok (.invokevirtual 84, 3) := by decide +kernel
theorem cw_X0_wordsOf : CWv yX0_wordsOf cX0_wordsOf 7 (some .int) 1 := ⟨⟨⟨List.mem_of_getElem? (i := 136) (by decide +kernel), by decide +kernel⟩, ⟨List.mem_of_getElem? (i := 1390) (by decide +kernel), by decide +kernel⟩, by decide +kernel⟩, ⟨List.mem_of_getElem? (i := 1388) (by decide +kernel), by decide +kernel⟩, ⟨List.mem_of_getElem? (i := 1389) (by decide +kernel), by decide +kernel⟩⟩
theorem km0_84 : inW (Cond.methodLink RX0 84 yX0_wordsOf) := ⟨List.mem_of_getElem? (i := 1399) (by decide +kernel), by decide +kernel⟩
theorem dX0_fewestKnowing_31 : decode cX0_fewestKnowing 31 = .ok (.iastore, 1) := by decide +kernel
theorem dX0_fewestKnowing_32 : decode cX0_fewestKnowing 32 = .ok (.iload_n 1, 1) := by decide +kernel
theorem dX0_fewestKnowing_33 : decode cX0_fewestKnowing 33 = .ok (.aload_n 0, 1) := by decide +kernel
theorem dX0_fewestKnowing_34 : decode cX0_fewestKnowing 34 = .ok (.getfield 15, 3) := by decide +kernel
theorem dX0_fewestKnowing_37 : decode cX0_fewestKnowing 37 = .ok (.iload_n 2, 1) := by decide +kernel
theorem dX0_fewestKnowing_38 : decode cX0_fewestKnowing 38 = .ok (.iaload, 1) := by decide +kernel
theorem dX0_fewestKnowing_39 : decode cX0_fewestKnowing 39 = .ok (.ior, 1) := by decide +kernel
theorem dX0_fewestKnowing_40 : decode cX0_fewestKnowing 40 = .ok (.istore_n 1, 1) := by decide +kernel
theorem dX0_fewestKnowing_41 : decode cX0_fewestKnowing 41 = .ok (.iinc 2 1, 3) := by decide +kernel
theorem dX0_fewestKnowing_44 : decode cX0_fewestKnowing 44 = .ok (.goto (-40), 3) := by decide +kernel
theorem dX0_fewestKnowing_61 : decode cX0_fewestKnowing 61 = .ok (.iload_n 3, 1) := by decide +kernel
theorem dX0_fewestKnowing_62 : decode cX0_fewestKnowing 62 = .ok (.iconst 1, 1) := by decide +kernel
theorem dX0_fewestKnowing_63 : decode cX0_fewestKnowing 63 = .ok (.aload_n 0, 1) := by decide +kernel
theorem dX0_fewestKnowing_64 : decode cX0_fewestKnowing 64 = .ok (.getfield 18, 3) := by decide +kernel
theorem dX0_fewestKnowing_67 : decode cX0_fewestKnowing 67 = .ok (.getfield 72, 3) := by decide +kernel
theorem dX0_fewestKnowing_70 : decode cX0_fewestKnowing 70 = .ok (.ishl, 1) := by decide +kernel
theorem dX0_fewestKnowing_71 : decode cX0_fewestKnowing 71 = .ok (.if_icmp .ge 31, 3) := by decide +kernel
theorem dX0_fewestKnowing_74 : decode cX0_fewestKnowing 74 = .ok (.iload_n 3, 1) := by decide +kernel
theorem dX0_fewestKnowing_75 : decode cX0_fewestKnowing 75 = .ok (.invokestatic 42, 3) := by decide +kernel
theorem dX0_fewestKnowing_78 : decode cX0_fewestKnowing 78 = .ok (.iload_n 2, 1) := by decide +kernel
theorem dX0_fewestKnowing_79 : decode cX0_fewestKnowing 79 = .ok (.invokestatic 42, 3) := by decide +kernel
theorem dX0_fewestKnowing_82 : decode cX0_fewestKnowing 82 = .ok (.if_icmp .ge 14, 3) := by decide +kernel
theorem dX0_fewestKnowing_96 : decode cX0_fewestKnowing 96 = .ok (.iinc 3 1, 3) := by decide +kernel
theorem dX0_fewestKnowing_99 : decode cX0_fewestKnowing 99 = .ok (.goto (-38), 3) := by decide +kernel
theorem dX0_fewestKnowing_85 : decode cX0_fewestKnowing 85 = .ok (.aload_n 0, 1) := by decide +kernel
theorem dX0_fewestKnowing_86 : decode cX0_fewestKnowing 86 = .ok (.iload_n 3, 1) := by decide +kernel
theorem dX0_fewestKnowing_87 : decode cX0_fewestKnowing 87 = .ok (.invokevirtual 87, 3) := by decide +kernel
theorem cw_X0_knownTo : CWv yX0_knownTo cX0_knownTo 4 (some .int) 1 := ⟨⟨⟨List.mem_of_getElem? (i := 136) (by decide +kernel), by decide +kernel⟩, ⟨List.mem_of_getElem? (i := 1403) (by decide +kernel), by decide +kernel⟩, by decide +kernel⟩, ⟨List.mem_of_getElem? (i := 1402) (by decide +kernel), by decide +kernel⟩, ⟨List.mem_of_getElem? (i := 46) (by decide +kernel), by decide +kernel⟩⟩
theorem km0_87 : inW (Cond.methodLink RX0 87 yX0_knownTo) := ⟨List.mem_of_getElem? (i := 1400) (by decide +kernel), by decide +kernel⟩
theorem dX0_fewestKnowing_90 : decode cX0_fewestKnowing 90 = .ok (.iload_n 1, 1) := by decide +kernel
theorem dX0_fewestKnowing_91 : decode cX0_fewestKnowing 91 = .ok (.if_icmp .ne 5, 3) := by decide +kernel
theorem dX0_fewestKnowing_94 : decode cX0_fewestKnowing 94 = .ok (.iload_n 3, 1) := by decide +kernel
theorem dX0_fewestKnowing_95 : decode cX0_fewestKnowing 95 = .ok (.istore_n 2, 1) := by decide +kernel
theorem dX0_fewestKnowing_102 : decode cX0_fewestKnowing 102 = .ok (.iload_n 2, 1) := by decide +kernel
theorem dX0_fewestKnowing_103 : decode cX0_fewestKnowing 103 = .ok (.ireturn, 1) := by decide +kernel
theorem dX0_legibleBy_0 : decode cX0_legibleBy 0 = .ok (.iconst 0, 1) := by decide +kernel
theorem dX0_legibleBy_1 : decode cX0_legibleBy 1 = .ok (.istore_n 2, 1) := by decide +kernel
theorem dX0_legibleBy_2 : decode cX0_legibleBy 2 = .ok (.iconst 0, 1) := by decide +kernel
theorem dX0_legibleBy_3 : decode cX0_legibleBy 3 = .ok (.istore_n 3, 1) := by decide +kernel
theorem dX0_legibleBy_4 : decode cX0_legibleBy 4 = .ok (.iload_n 3, 1) := by decide +kernel
theorem dX0_legibleBy_5 : decode cX0_legibleBy 5 = .ok (.aload_n 0, 1) := by decide +kernel
theorem dX0_legibleBy_6 : decode cX0_legibleBy 6 = .ok (.getfield 18, 3) := by decide +kernel
theorem dX0_legibleBy_9 : decode cX0_legibleBy 9 = .ok (.getfield 22, 3) := by decide +kernel
theorem dX0_legibleBy_12 : decode cX0_legibleBy 12 = .ok (.getfield 28, 3) := by decide +kernel
theorem dX0_legibleBy_15 : decode cX0_legibleBy 15 = .ok (.if_icmp .ge 42, 3) := by decide +kernel
theorem dX0_legibleBy_57 : decode cX0_legibleBy 57 = .ok (.iload_n 2, 1) := by decide +kernel
theorem dX0_legibleBy_58 : decode cX0_legibleBy 58 = .ok (.ireturn, 1) := by decide +kernel
theorem dX0_legibleBy_18 : decode cX0_legibleBy 18 = .ok (.aload_n 0, 1) := by decide +kernel
theorem dX0_legibleBy_19 : decode cX0_legibleBy 19 = .ok (.getfield 18, 3) := by decide +kernel
theorem dX0_legibleBy_22 : decode cX0_legibleBy 22 = .ok (.getfield 22, 3) := by decide +kernel
theorem dX0_legibleBy_25 : decode cX0_legibleBy 25 = .ok (.iload_n 3, 1) := by decide +kernel
theorem dX0_legibleBy_26 : decode cX0_legibleBy 26 = .ok (.iconst 0, 1) := by decide +kernel
theorem dX0_legibleBy_27 : decode cX0_legibleBy 27 = .ok (.invokevirtual 34, 3) := by decide +kernel
theorem dX0_legibleBy_30 : decode cX0_legibleBy 30 = .ok (.iload_n 1, 1) := by decide +kernel
theorem dX0_legibleBy_31 : decode cX0_legibleBy 31 = .ok (.if_icmp .ne 20, 3) := by decide +kernel
theorem dX0_legibleBy_51 : decode cX0_legibleBy 51 = .ok (.iinc 3 1, 3) := by decide +kernel
theorem dX0_legibleBy_54 : decode cX0_legibleBy 54 = .ok (.goto (-50), 3) := by decide +kernel
theorem dX0_legibleBy_34 : decode cX0_legibleBy 34 = .ok (.aload_n 0, 1) := by decide +kernel
theorem dX0_legibleBy_35 : decode cX0_legibleBy 35 = .ok (.getfield 18, 3) := by decide +kernel
theorem dX0_legibleBy_38 : decode cX0_legibleBy 38 = .ok (.getfield 22, 3) := by decide +kernel
theorem dX0_legibleBy_41 : decode cX0_legibleBy 41 = .ok (.iload_n 3, 1) := by decide +kernel
theorem dX0_legibleBy_42 : decode cX0_legibleBy 42 = .ok (.invokevirtual 78, 3) := by decide +kernel
theorem dX0_legibleBy_45 : decode cX0_legibleBy 45 = .ok (.ifCond .eq 6, 3) := by decide +kernel
theorem dX0_legibleBy_48 : decode cX0_legibleBy 48 = .ok (.iinc 2 1, 3) := by decide +kernel
theorem dX0_mostOften_0 : decode cX0_mostOften 0 = .ok (.iconst (-1), 1) := by decide +kernel
theorem dX0_mostOften_1 : decode cX0_mostOften 1 = .ok (.istore_n 1, 1) := by decide +kernel
theorem dX0_mostOften_2 : decode cX0_mostOften 2 = .ok (.iconst 0, 1) := by decide +kernel
theorem dX0_mostOften_3 : decode cX0_mostOften 3 = .ok (.istore_n 2, 1) := by decide +kernel
theorem dX0_mostOften_4 : decode cX0_mostOften 4 = .ok (.iconst 0, 1) := by decide +kernel
theorem dX0_mostOften_5 : decode cX0_mostOften 5 = .ok (.istore_n 3, 1) := by decide +kernel
theorem dX0_mostOften_6 : decode cX0_mostOften 6 = .ok (.iload_n 3, 1) := by decide +kernel
theorem dX0_mostOften_7 : decode cX0_mostOften 7 = .ok (.aload_n 0, 1) := by decide +kernel
theorem dX0_mostOften_8 : decode cX0_mostOften 8 = .ok (.getfield 18, 3) := by decide +kernel
theorem dX0_mostOften_11 : decode cX0_mostOften 11 = .ok (.getfield 72, 3) := by decide +kernel
theorem dX0_mostOften_14 : decode cX0_mostOften 14 = .ok (.if_icmp .ge 27, 3) := by decide +kernel
theorem dX0_mostOften_41 : decode cX0_mostOften 41 = .ok (.iload_n 1, 1) := by decide +kernel
theorem dX0_mostOften_42 : decode cX0_mostOften 42 = .ok (.ireturn, 1) := by decide +kernel
theorem dX0_mostOften_17 : decode cX0_mostOften 17 = .ok (.aload_n 0, 1) := by decide +kernel
theorem dX0_mostOften_18 : decode cX0_mostOften 18 = .ok (.iload_n 3, 1) := by decide +kernel
theorem dX0_mostOften_19 : decode cX0_mostOften 19 = .ok (.invokevirtual 90, 3) := by decide +kernel
theorem cw_X0_legibleBy : CWv yX0_legibleBy cX0_legibleBy 4 (some .int) 1 := ⟨⟨⟨List.mem_of_getElem? (i := 136) (by decide +kernel), by decide +kernel⟩, ⟨List.mem_of_getElem? (i := 1436) (by decide +kernel), by decide +kernel⟩, by decide +kernel⟩, ⟨List.mem_of_getElem? (i := 1435) (by decide +kernel), by decide +kernel⟩, ⟨List.mem_of_getElem? (i := 47) (by decide +kernel), by decide +kernel⟩⟩
theorem km0_90 : inW (Cond.methodLink RX0 90 yX0_legibleBy) := ⟨List.mem_of_getElem? (i := 1433) (by decide +kernel), by decide +kernel⟩
theorem dX0_mostOften_22 : decode cX0_mostOften 22 = .ok (.istore 4, 2) := by decide +kernel
theorem dX0_mostOften_24 : decode cX0_mostOften 24 = .ok (.iload 4, 2) := by decide +kernel
theorem dX0_mostOften_26 : decode cX0_mostOften 26 = .ok (.iload_n 2, 1) := by decide +kernel
theorem dX0_mostOften_27 : decode cX0_mostOften 27 = .ok (.if_icmp .le 8, 3) := by decide +kernel
theorem dX0_mostOften_35 : decode cX0_mostOften 35 = .ok (.iinc 3 1, 3) := by decide +kernel
theorem dX0_mostOften_38 : decode cX0_mostOften 38 = .ok (.goto (-32), 3) := by decide +kernel
theorem dX0_mostOften_30 : decode cX0_mostOften 30 = .ok (.iload_n 3, 1) := by decide +kernel
theorem dX0_mostOften_31 : decode cX0_mostOften 31 = .ok (.istore_n 1, 1) := by decide +kernel
theorem dX0_mostOften_32 : decode cX0_mostOften 32 = .ok (.iload 4, 2) := by decide +kernel
theorem dX0_mostOften_34 : decode cX0_mostOften 34 = .ok (.istore_n 2, 1) := by decide +kernel
theorem dX0_unbroken_0 : decode cX0_unbroken 0 = .ok (.iconst 1, 1) := by decide +kernel
theorem dX0_unbroken_1 : decode cX0_unbroken 1 = .ok (.aload_n 0, 1) := by decide +kernel
theorem dX0_unbroken_2 : decode cX0_unbroken 2 = .ok (.getfield 18, 3) := by decide +kernel
theorem dX0_unbroken_5 : decode cX0_unbroken 5 = .ok (.getfield 72, 3) := by decide +kernel
theorem dX0_unbroken_8 : decode cX0_unbroken 8 = .ok (.ishl, 1) := by decide +kernel
theorem dX0_unbroken_9 : decode cX0_unbroken 9 = .ok (.iconst 1, 1) := by decide +kernel
theorem dX0_unbroken_10 : decode cX0_unbroken 10 = .ok (.isub, 1) := by decide +kernel
theorem dX0_unbroken_11 : decode cX0_unbroken 11 = .ok (.istore_n 1, 1) := by decide +kernel
theorem dX0_unbroken_12 : decode cX0_unbroken 12 = .ok (.iconst 0, 1) := by decide +kernel
theorem dX0_unbroken_13 : decode cX0_unbroken 13 = .ok (.istore_n 2, 1) := by decide +kernel
theorem dX0_unbroken_14 : decode cX0_unbroken 14 = .ok (.iload_n 2, 1) := by decide +kernel
theorem dX0_unbroken_15 : decode cX0_unbroken 15 = .ok (.aload_n 0, 1) := by decide +kernel
theorem dX0_unbroken_16 : decode cX0_unbroken 16 = .ok (.getfield 18, 3) := by decide +kernel
theorem dX0_unbroken_19 : decode cX0_unbroken 19 = .ok (.getfield 22, 3) := by decide +kernel
theorem dX0_unbroken_22 : decode cX0_unbroken 22 = .ok (.getfield 28, 3) := by decide +kernel
theorem dX0_unbroken_25 : decode cX0_unbroken 25 = .ok (.if_icmp .ge 44, 3) := by decide +kernel
theorem dX0_unbroken_69 : decode cX0_unbroken 69 = .ok (.iload_n 1, 1) := by decide +kernel
theorem dX0_unbroken_70 : decode cX0_unbroken 70 = .ok (.ireturn, 1) := by decide +kernel
theorem dX0_unbroken_28 : decode cX0_unbroken 28 = .ok (.aload_n 0, 1) := by decide +kernel
theorem dX0_unbroken_29 : decode cX0_unbroken 29 = .ok (.getfield 18, 3) := by decide +kernel
theorem dX0_unbroken_32 : decode cX0_unbroken 32 = .ok (.getfield 22, 3) := by decide +kernel
theorem dX0_unbroken_35 : decode cX0_unbroken 35 = .ok (.iload_n 2, 1) := by decide +kernel
theorem dX0_unbroken_36 : decode cX0_unbroken 36 = .ok (.iconst 4, 1) := by decide +kernel
theorem dX0_unbroken_37 : decode cX0_unbroken 37 = .ok (.invokevirtual 34, 3) := by decide +kernel
theorem dX0_unbroken_40 : decode cX0_unbroken 40 = .ok (.iconst 1, 1) := by decide +kernel
theorem dX0_unbroken_41 : decode cX0_unbroken 41 = .ok (.if_icmp .ne 22, 3) := by decide +kernel
theorem dX0_unbroken_63 : decode cX0_unbroken 63 = .ok (.iinc 2 1, 3) := by decide +kernel
theorem dX0_unbroken_66 : decode cX0_unbroken 66 = .ok (.goto (-52), 3) := by decide +kernel
theorem dX0_unbroken_44 : decode cX0_unbroken 44 = .ok (.iload_n 1, 1) := by decide +kernel
theorem dX0_unbroken_45 : decode cX0_unbroken 45 = .ok (.iconst 1, 1) := by decide +kernel
theorem dX0_unbroken_46 : decode cX0_unbroken 46 = .ok (.aload_n 0, 1) := by decide +kernel
theorem dX0_unbroken_47 : decode cX0_unbroken 47 = .ok (.getfield 18, 3) := by decide +kernel
theorem dX0_unbroken_50 : decode cX0_unbroken 50 = .ok (.getfield 22, 3) := by decide +kernel
theorem dX0_unbroken_53 : decode cX0_unbroken 53 = .ok (.iload_n 2, 1) := by decide +kernel
theorem dX0_unbroken_54 : decode cX0_unbroken 54 = .ok (.iconst 0, 1) := by decide +kernel
theorem dX0_unbroken_55 : decode cX0_unbroken 55 = .ok (.invokevirtual 34, 3) := by decide +kernel
theorem dX0_unbroken_58 : decode cX0_unbroken 58 = .ok (.ishl, 1) := by decide +kernel
theorem dX0_unbroken_59 : decode cX0_unbroken 59 = .ok (.iconst (-1), 1) := by decide +kernel
theorem dX0_unbroken_60 : decode cX0_unbroken 60 = .ok (.ixor, 1) := by decide +kernel
theorem dX0_unbroken_61 : decode cX0_unbroken 61 = .ok (.iand, 1) := by decide +kernel
theorem dX0_unbroken_62 : decode cX0_unbroken 62 = .ok (.istore_n 1, 1) := by decide +kernel
abbrev lei (x y : Int32) : Prop := x.toInt ≤ y.toInt
theorem ti_inc {x y z : Int32} {a b k : Int} (e : x = y + z) (hz : bn k k z) (h : bn a b y) (q : -2147483648 ≤ a + k ∧ b + k ≤ 2147483647) : x.toInt = y.toInt + k := by
  obtain ⟨h1, h2⟩ := h; obtain ⟨z1, z2⟩ := hz; obtain ⟨q1, q2⟩ := q
  rw [e, ti_add (by omega) (by omega)]; omega
set_option maxHeartbeats 4000000 in
set_option maxRecDepth 100000 in
theorem x_X0_net {l : Launch} {G : GG}  {L : List Nat} {f : HF} {ad : Nat → Nat → Nat} {rs : FS} {fc : Int × Int} {tc w : Nat → Int × Int} {q : Nat → (Nat → Int32) → Prop} {i1 : Int32} (I : SH (spC rs fc tc w q) nnC G ad L f) (hW : WBp w 8) (hT : WBp tc 4) (hQ : QIp q) : PMp l yX0_net cX0_net 5 .int 1 0 0 G [.ref (ad 8 0), .int i1] L f (fun r => True) := by
  refine PMi.of (post := fun r L1 f1 => (True) ∧ L1 = L ∧ f1 = f) (own := RX0) (by decide) rfl (Nat.le_of_ble_eq_true rfl) (fun sz p e s m args below meth c A ls hA1 hname S Y hl => ?_)
  have hx := S.hx
  have hb := S.hb
  have hl : lv_has ls 5 [(0, .ref (ad 8 0)), (1, .int i1)] := hl
  have J_13 : ∀ (n13 : Nat) (y13_3 y13_4 : Int32) (H : Heap) (locs : List Loc) (ls : Array Slot), (bn 0 14 y13_4) → (((14 : Int) - y13_4.toInt).toNat = n13) → (DY G A s [] L f H locs) → (lv_has ls 5 [(0, .ref (ad 8 0)), (1, .int i1), (2, .ref (ad 10 0)), (3, .int y13_3), (4, .int y13_4)]) → W p l e (rmD 1 0 0) s m args below meth c H locs (0) (0) (MQ below (va_Qi (fun r (u : List Nat × HF) => (fun r L1 f1 => (True) ∧ L1 = L ∧ f1 = f) r u.1 u.2) (fun u t => pOut G (va_A (va_pl L f) sz) u.1 u.2 t) (va_A (va_pl L f) sz)) args s 0 0 A) (F0 m 13 ls []) := by
    intro n13
    induction n13 using Nat.strongRecOn with
    | _ n13 ih13 =>
      intro y13_3 y13_4 H locs ls b_y13_4 hm13 Y hl
      refine lv_iload hx hb dX0_net_13 (lv_at hl 4 rfl) ?_
      refine lv_aload_n hx hb dX0_net_15 rfl (lv_at hl 2 rfl) ?_
      obtain ⟨v_30688, v_30690, v_30692, v_30694, v_30696, p_ad_10_0, b_30689, b_30691, b_30693, b_30695, b_30697⟩ := opnC_10 (j := 0) I (by decide)
      have p_ad_10_0 : pt L f (ad 10 0) (.inr (4, [.ref (ad 11 0), .ref (ad 12 0), .int v_30688, .int v_30690, .int v_30692, .int v_30694, .int v_30696])) := p_ad_10_0
      refine pg_getN S Y ok_X4 2 (by decide) kf0_28 (v := .int v_30688) p_ad_10_0 rfl dX0_net_16 ?_
      refine lv_icmp_ge (tgt := 99) hx hb dX0_net_19 (by decide) (fun c_30698 => ?_) (fun c_30698 => ?_)
      · refine lv_iload_n hx hb dX0_net_99 rfl (lv_at hl 3 rfl) ?_
        exact prI (post := fun r L1 f1 => (True) ∧ L1 = L ∧ f1 = f) S Y rfl (by decide) (by decide) hA1 ⟨trivial, rfl, rfl⟩ dX0_net_100
      · have B_30699 : bn 1 14 v_30688 := bn_w (bn_gtl c_30698 b_30689 b_y13_4) (by decide)
        have B_30700 : bn 0 13 y13_4 := bn_w (bn_gtr c_30698 b_30689 b_y13_4) (by decide)
        refine lv_aload_n hx hb dX0_net_22 rfl (lv_at hl 2 rfl) ?_
        refine lv_iload hx hb dX0_net_23 (lv_at hl 4 rfl) ?_
        refine lv_iconst (v := 4) hx hb dX0_net_25 (by decide) ?_
        refine cVp (As := [.int y13_4, .int 4]) (rest := []) S Y (x_X4_get (l := l) (j := 0) I hW hT hQ (by decide)) cw_X4_get km0_34 p_ad_10_0 ok_X4.1 rfl rfl ⟨Nat.le_of_ble_eq_true rfl, Nat.le_of_ble_eq_true rfl⟩ hl.1 rfl (Nat.le_of_ble_eq_true rfl) ⟨Nat.le_of_ble_eq_true rfl, Nat.le_of_ble_eq_true rfl⟩ dX0_net_26 (fun r_30701 H locs er_30701 Y => ?_)
        refine lv_if_ne (tgt := 93) hx hb dX0_net_29 (by decide) (fun c_30702 => ?_) (fun c_30702 => ?_)
        · obtain ⟨x_30704, ex_30704⟩ : ∃ z : Int32, z = y13_4 + 1 := ⟨_, rfl⟩
          refine lv_iinc (v := x_30704) (lv' := [(4, .int x_30704), (0, .ref (ad 8 0)), (1, .int i1), (2, .ref (ad 10 0)), (3, .int y13_3)]) hx hb dX0_net_93 hl (k := 4) rfl (by rw [ex_30704]; rfl) (by decide) rfl (fun ls hl => ?_)
          refine lv_goto (tgt := 13) hx hb dX0_net_96 (by decide) ?_
          exact ih13 _ (by rw [← hm13]; exact ms_up (m := 1) ex_30704 (show bn 1 1 (1 : Int32) from bn_k (by decide)) B_30700 (bn_w (bn_eq ex_30704 (bn_add B_30700 (show bn 1 1 (1 : Int32) from bn_k (by decide)) (by decide))) (by decide) : bn 0 14 x_30704) (by decide)) y13_3 x_30704  _ _ _  (bn_w (bn_eq ex_30704 (bn_add B_30700 (show bn 1 1 (1 : Int32) from bn_k (by decide)) (by decide))) (by decide)) rfl Y (lv_sub hl [1, 2, 3, 4, 0] rfl)
        · have B_30703 : bn 0 0 r_30701 := bn_w (bn_eq c_30702 (show bn 0 0 (0 : Int32) from bn_k (by decide))) (by decide)
          refine lv_aload_n hx hb dX0_net_32 rfl (lv_at hl 2 rfl) ?_
          refine lv_iload hx hb dX0_net_33 (lv_at hl 4 rfl) ?_
          refine lv_iconst (v := 2) hx hb dX0_net_35 (by decide) ?_
          refine cVp (As := [.int y13_4, .int 2]) (rest := []) S Y (x_X4_get (l := l) (j := 0) I hW hT hQ (by decide)) cw_X4_get km0_34 p_ad_10_0 ok_X4.1 rfl rfl ⟨Nat.le_of_ble_eq_true rfl, Nat.le_of_ble_eq_true rfl⟩ hl.1 rfl (Nat.le_of_ble_eq_true rfl) ⟨Nat.le_of_ble_eq_true rfl, Nat.le_of_ble_eq_true rfl⟩ dX0_net_36 (fun r_30705 H locs er_30705 Y => ?_)
          refine lv_iconst (v := 1) hx hb dX0_net_39 (by decide) ?_
          refine lv_icmp_ne (tgt := 93) hx hb dX0_net_40 (by decide) (fun c_30706 => ?_) (fun c_30706 => ?_)
          · obtain ⟨x_30708, ex_30708⟩ : ∃ z : Int32, z = y13_4 + 1 := ⟨_, rfl⟩
            refine lv_iinc (v := x_30708) (lv' := [(4, .int x_30708), (0, .ref (ad 8 0)), (1, .int i1), (2, .ref (ad 10 0)), (3, .int y13_3)]) hx hb dX0_net_93 hl (k := 4) rfl (by rw [ex_30708]; rfl) (by decide) rfl (fun ls hl => ?_)
            refine lv_goto (tgt := 13) hx hb dX0_net_96 (by decide) ?_
            exact ih13 _ (by rw [← hm13]; exact ms_up (m := 1) ex_30708 (show bn 1 1 (1 : Int32) from bn_k (by decide)) B_30700 (bn_w (bn_eq ex_30708 (bn_add B_30700 (show bn 1 1 (1 : Int32) from bn_k (by decide)) (by decide))) (by decide) : bn 0 14 x_30708) (by decide)) y13_3 x_30708  _ _ _  (bn_w (bn_eq ex_30708 (bn_add B_30700 (show bn 1 1 (1 : Int32) from bn_k (by decide)) (by decide))) (by decide)) rfl Y (lv_sub hl [1, 2, 3, 4, 0] rfl)
          · have B_30707 : bn 1 1 r_30705 := bn_w (bn_eq c_30706 (show bn 1 1 (1 : Int32) from bn_k (by decide))) (by decide)
            refine lv_iload_n hx hb dX0_net_43 rfl (lv_at hl 3 rfl) ?_
            refine lv_aload_n hx hb dX0_net_44 rfl (lv_at hl 2 rfl) ?_
            refine lv_iload hx hb dX0_net_45 (lv_at hl 4 rfl) ?_
            refine lv_iconst (v := 1) hx hb dX0_net_47 (by decide) ?_
            refine cVp (As := [.int y13_4, .int 1]) (rest := [.int y13_3]) S Y (x_X4_get (l := l) (j := 0) I hW hT hQ (by decide)) cw_X4_get km0_34 p_ad_10_0 ok_X4.1 rfl rfl ⟨Nat.le_of_ble_eq_true rfl, Nat.le_of_ble_eq_true rfl⟩ hl.1 rfl (Nat.le_of_ble_eq_true rfl) ⟨Nat.le_of_ble_eq_true rfl, Nat.le_of_ble_eq_true rfl⟩ dX0_net_48 (fun r_30709 H locs er_30709 Y => ?_)
            refine lv_iload_n hx hb dX0_net_51 rfl (lv_at hl 1 rfl) ?_
            refine lv_icmp_ne (tgt := 65) hx hb dX0_net_52 (by decide) (fun c_30710 => ?_) (fun c_30710 => ?_)
            · refine lv_iconst (v := 0) hx hb dX0_net_65 (by decide) ?_
              refine lv_iadd hx hb dX0_net_66 ?_
              refine lv_topi (fun x_30711 ex_30711 => ?_)
              refine lv_istore_n (lv' := [(3, .int x_30711), (0, .ref (ad 8 0)), (1, .int i1), (2, .ref (ad 10 0)), (4, .int y13_4)]) hx hb dX0_net_67 rfl hl (by decide) rfl (fun ls hl => ?_)
              refine lv_iload_n hx hb dX0_net_68 rfl (lv_at hl 0 rfl) ?_
              refine lv_aload_n hx hb dX0_net_69 rfl (lv_at hl 3 rfl) ?_
              refine lv_iload hx hb dX0_net_70 (lv_at hl 4 rfl) ?_
              refine lv_iconst (v := 0) hx hb dX0_net_72 (by decide) ?_
              refine cVp (As := [.int y13_4, .int 0]) (rest := [.int x_30711]) S Y (x_X4_get (l := l) (j := 0) I hW hT hQ (by decide)) cw_X4_get km0_34 p_ad_10_0 ok_X4.1 rfl rfl ⟨Nat.le_of_ble_eq_true rfl, Nat.le_of_ble_eq_true rfl⟩ hl.1 rfl (Nat.le_of_ble_eq_true rfl) ⟨Nat.le_of_ble_eq_true rfl, Nat.le_of_ble_eq_true rfl⟩ dX0_net_73 (fun r_30712 H locs er_30712 Y => ?_)
              refine lv_iload_n hx hb dX0_net_76 rfl (lv_at hl 2 rfl) ?_
              refine lv_icmp_ne (tgt := 90) hx hb dX0_net_77 (by decide) (fun c_30713 => ?_) (fun c_30713 => ?_)
              · refine lv_iconst (v := 0) hx hb dX0_net_90 (by decide) ?_
                refine lv_isub hx hb dX0_net_91 ?_
                refine lv_topi (fun x_30714 ex_30714 => ?_)
                refine lv_istore_n (lv' := [(3, .int x_30714), (0, .ref (ad 8 0)), (1, .int i1), (2, .ref (ad 10 0)), (4, .int y13_4)]) hx hb dX0_net_92 rfl hl (by decide) rfl (fun ls hl => ?_)
                obtain ⟨x_30715, ex_30715⟩ : ∃ z : Int32, z = y13_4 + 1 := ⟨_, rfl⟩
                refine lv_iinc (v := x_30715) (lv' := [(4, .int x_30715), (3, .int x_30714), (0, .ref (ad 8 0)), (1, .int i1), (2, .ref (ad 10 0))]) hx hb dX0_net_93 hl (k := 4) rfl (by rw [ex_30715]; rfl) (by decide) rfl (fun ls hl => ?_)
                refine lv_goto (tgt := 13) hx hb dX0_net_96 (by decide) ?_
                exact ih13 _ (by rw [← hm13]; exact ms_up (m := 1) ex_30715 (show bn 1 1 (1 : Int32) from bn_k (by decide)) B_30700 (bn_w (bn_eq ex_30715 (bn_add B_30700 (show bn 1 1 (1 : Int32) from bn_k (by decide)) (by decide))) (by decide) : bn 0 14 x_30715) (by decide)) x_30714 x_30715  _ _ _  (bn_w (bn_eq ex_30715 (bn_add B_30700 (show bn 1 1 (1 : Int32) from bn_k (by decide)) (by decide))) (by decide)) rfl Y (lv_sub hl [2, 3, 4, 1, 0] rfl)
              · refine lv_aload_n hx hb dX0_net_80 rfl (lv_at hl 3 rfl) ?_
                refine lv_iload hx hb dX0_net_81 (lv_at hl 4 rfl) ?_
                refine lv_iconst (v := 3) hx hb dX0_net_83 (by decide) ?_
                refine cVp (As := [.int y13_4, .int 3]) (rest := [.int x_30711]) S Y (x_X4_get (l := l) (j := 0) I hW hT hQ (by decide)) cw_X4_get km0_34 p_ad_10_0 ok_X4.1 rfl rfl ⟨Nat.le_of_ble_eq_true rfl, Nat.le_of_ble_eq_true rfl⟩ hl.1 rfl (Nat.le_of_ble_eq_true rfl) ⟨Nat.le_of_ble_eq_true rfl, Nat.le_of_ble_eq_true rfl⟩ dX0_net_84 (fun r_30716 H locs er_30716 Y => ?_)
                refine lv_goto (tgt := 91) hx hb dX0_net_87 (by decide) ?_
                refine lv_isub hx hb dX0_net_91 ?_
                refine lv_topi (fun x_30717 ex_30717 => ?_)
                refine lv_istore_n (lv' := [(3, .int x_30717), (0, .ref (ad 8 0)), (1, .int i1), (2, .ref (ad 10 0)), (4, .int y13_4)]) hx hb dX0_net_92 rfl hl (by decide) rfl (fun ls hl => ?_)
                obtain ⟨x_30718, ex_30718⟩ : ∃ z : Int32, z = y13_4 + 1 := ⟨_, rfl⟩
                refine lv_iinc (v := x_30718) (lv' := [(4, .int x_30718), (3, .int x_30717), (0, .ref (ad 8 0)), (1, .int i1), (2, .ref (ad 10 0))]) hx hb dX0_net_93 hl (k := 4) rfl (by rw [ex_30718]; rfl) (by decide) rfl (fun ls hl => ?_)
                refine lv_goto (tgt := 13) hx hb dX0_net_96 (by decide) ?_
                exact ih13 _ (by rw [← hm13]; exact ms_up (m := 1) ex_30718 (show bn 1 1 (1 : Int32) from bn_k (by decide)) B_30700 (bn_w (bn_eq ex_30718 (bn_add B_30700 (show bn 1 1 (1 : Int32) from bn_k (by decide)) (by decide))) (by decide) : bn 0 14 x_30718) (by decide)) x_30717 x_30718  _ _ _  (bn_w (bn_eq ex_30718 (bn_add B_30700 (show bn 1 1 (1 : Int32) from bn_k (by decide)) (by decide))) (by decide)) rfl Y (lv_sub hl [2, 3, 4, 1, 0] rfl)
            · refine lv_aload_n hx hb dX0_net_55 rfl (lv_at hl 2 rfl) ?_
              refine lv_iload hx hb dX0_net_56 (lv_at hl 4 rfl) ?_
              refine lv_iconst (v := 3) hx hb dX0_net_58 (by decide) ?_
              refine cVp (As := [.int y13_4, .int 3]) (rest := [.int y13_3]) S Y (x_X4_get (l := l) (j := 0) I hW hT hQ (by decide)) cw_X4_get km0_34 p_ad_10_0 ok_X4.1 rfl rfl ⟨Nat.le_of_ble_eq_true rfl, Nat.le_of_ble_eq_true rfl⟩ hl.1 rfl (Nat.le_of_ble_eq_true rfl) ⟨Nat.le_of_ble_eq_true rfl, Nat.le_of_ble_eq_true rfl⟩ dX0_net_59 (fun r_30719 H locs er_30719 Y => ?_)
              refine lv_goto (tgt := 66) hx hb dX0_net_62 (by decide) ?_
              refine lv_iadd hx hb dX0_net_66 ?_
              refine lv_topi (fun x_30720 ex_30720 => ?_)
              refine lv_istore_n (lv' := [(3, .int x_30720), (0, .ref (ad 8 0)), (1, .int i1), (2, .ref (ad 10 0)), (4, .int y13_4)]) hx hb dX0_net_67 rfl hl (by decide) rfl (fun ls hl => ?_)
              refine lv_iload_n hx hb dX0_net_68 rfl (lv_at hl 0 rfl) ?_
              refine lv_aload_n hx hb dX0_net_69 rfl (lv_at hl 3 rfl) ?_
              refine lv_iload hx hb dX0_net_70 (lv_at hl 4 rfl) ?_
              refine lv_iconst (v := 0) hx hb dX0_net_72 (by decide) ?_
              refine cVp (As := [.int y13_4, .int 0]) (rest := [.int x_30720]) S Y (x_X4_get (l := l) (j := 0) I hW hT hQ (by decide)) cw_X4_get km0_34 p_ad_10_0 ok_X4.1 rfl rfl ⟨Nat.le_of_ble_eq_true rfl, Nat.le_of_ble_eq_true rfl⟩ hl.1 rfl (Nat.le_of_ble_eq_true rfl) ⟨Nat.le_of_ble_eq_true rfl, Nat.le_of_ble_eq_true rfl⟩ dX0_net_73 (fun r_30721 H locs er_30721 Y => ?_)
              refine lv_iload_n hx hb dX0_net_76 rfl (lv_at hl 2 rfl) ?_
              refine lv_icmp_ne (tgt := 90) hx hb dX0_net_77 (by decide) (fun c_30722 => ?_) (fun c_30722 => ?_)
              · refine lv_iconst (v := 0) hx hb dX0_net_90 (by decide) ?_
                refine lv_isub hx hb dX0_net_91 ?_
                refine lv_topi (fun x_30723 ex_30723 => ?_)
                refine lv_istore_n (lv' := [(3, .int x_30723), (0, .ref (ad 8 0)), (1, .int i1), (2, .ref (ad 10 0)), (4, .int y13_4)]) hx hb dX0_net_92 rfl hl (by decide) rfl (fun ls hl => ?_)
                obtain ⟨x_30724, ex_30724⟩ : ∃ z : Int32, z = y13_4 + 1 := ⟨_, rfl⟩
                refine lv_iinc (v := x_30724) (lv' := [(4, .int x_30724), (3, .int x_30723), (0, .ref (ad 8 0)), (1, .int i1), (2, .ref (ad 10 0))]) hx hb dX0_net_93 hl (k := 4) rfl (by rw [ex_30724]; rfl) (by decide) rfl (fun ls hl => ?_)
                refine lv_goto (tgt := 13) hx hb dX0_net_96 (by decide) ?_
                exact ih13 _ (by rw [← hm13]; exact ms_up (m := 1) ex_30724 (show bn 1 1 (1 : Int32) from bn_k (by decide)) B_30700 (bn_w (bn_eq ex_30724 (bn_add B_30700 (show bn 1 1 (1 : Int32) from bn_k (by decide)) (by decide))) (by decide) : bn 0 14 x_30724) (by decide)) x_30723 x_30724  _ _ _  (bn_w (bn_eq ex_30724 (bn_add B_30700 (show bn 1 1 (1 : Int32) from bn_k (by decide)) (by decide))) (by decide)) rfl Y (lv_sub hl [2, 3, 4, 1, 0] rfl)
              · refine lv_aload_n hx hb dX0_net_80 rfl (lv_at hl 3 rfl) ?_
                refine lv_iload hx hb dX0_net_81 (lv_at hl 4 rfl) ?_
                refine lv_iconst (v := 3) hx hb dX0_net_83 (by decide) ?_
                refine cVp (As := [.int y13_4, .int 3]) (rest := [.int x_30720]) S Y (x_X4_get (l := l) (j := 0) I hW hT hQ (by decide)) cw_X4_get km0_34 p_ad_10_0 ok_X4.1 rfl rfl ⟨Nat.le_of_ble_eq_true rfl, Nat.le_of_ble_eq_true rfl⟩ hl.1 rfl (Nat.le_of_ble_eq_true rfl) ⟨Nat.le_of_ble_eq_true rfl, Nat.le_of_ble_eq_true rfl⟩ dX0_net_84 (fun r_30725 H locs er_30725 Y => ?_)
                refine lv_goto (tgt := 91) hx hb dX0_net_87 (by decide) ?_
                refine lv_isub hx hb dX0_net_91 ?_
                refine lv_topi (fun x_30726 ex_30726 => ?_)
                refine lv_istore_n (lv' := [(3, .int x_30726), (0, .ref (ad 8 0)), (1, .int i1), (2, .ref (ad 10 0)), (4, .int y13_4)]) hx hb dX0_net_92 rfl hl (by decide) rfl (fun ls hl => ?_)
                obtain ⟨x_30727, ex_30727⟩ : ∃ z : Int32, z = y13_4 + 1 := ⟨_, rfl⟩
                refine lv_iinc (v := x_30727) (lv' := [(4, .int x_30727), (3, .int x_30726), (0, .ref (ad 8 0)), (1, .int i1), (2, .ref (ad 10 0))]) hx hb dX0_net_93 hl (k := 4) rfl (by rw [ex_30727]; rfl) (by decide) rfl (fun ls hl => ?_)
                refine lv_goto (tgt := 13) hx hb dX0_net_96 (by decide) ?_
                exact ih13 _ (by rw [← hm13]; exact ms_up (m := 1) ex_30727 (show bn 1 1 (1 : Int32) from bn_k (by decide)) B_30700 (bn_w (bn_eq ex_30727 (bn_add B_30700 (show bn 1 1 (1 : Int32) from bn_k (by decide)) (by decide))) (by decide) : bn 0 14 x_30727) (by decide)) x_30726 x_30727  _ _ _  (bn_w (bn_eq ex_30727 (bn_add B_30700 (show bn 1 1 (1 : Int32) from bn_k (by decide)) (by decide))) (by decide)) rfl Y (lv_sub hl [2, 3, 4, 1, 0] rfl)
  refine lv_aload_n hx hb dX0_net_0 rfl (lv_at hl 0 rfl) ?_
  have p_ad_8_0 := opnC_8 (j := 0) I (by decide)
  have p_ad_8_0 : pt L f (ad 8 0) (.inr (0, [.ref (ad 1 0), .ref (ad 60 0), .ref (ad 61 0)])) := p_ad_8_0
  refine pg_get S Y ok_X0 0 (by decide) kf0_18 (v := .ref (ad 1 0)) p_ad_8_0 rfl dX0_net_1 ?_
  obtain ⟨v_30728, v_30730, v_30732, v_30734, v_30736, p_ad_1_0, b_30729, b_30731, b_30733, b_30735, b_30737⟩ := opnC_1 (j := 0) I (by decide)
  have p_ad_1_0 : pt L f (ad 1 0) (.inr (10, [.ref (ad 40 0), .ref (ad 41 0), .ref (ad 42 0), .ref (ad 10 0), .ref (ad 43 0), .ref (ad 20 0), .ref (ad 20 1), .ref (ad 20 2), .ref (ad 20 3), .ref (ad 20 4), .int v_30728, .int v_30730, .int v_30732, .int v_30734, .int v_30736])) := p_ad_1_0
  refine pg_getN S Y ok_X10 3 (by decide) kf0_22 (v := .ref (ad 10 0)) p_ad_1_0 rfl dX0_net_4 ?_
  refine lv_astore_n (lv' := [(2, .ref (ad 10 0)), (0, .ref (ad 8 0)), (1, .int i1)]) hx hb dX0_net_7 rfl hl (by decide) rfl (fun ls hl => ?_)
  refine lv_iconst (v := 0) hx hb dX0_net_8 (by decide) ?_
  refine lv_istore_n (lv' := [(3, .int 0), (2, .ref (ad 10 0)), (0, .ref (ad 8 0)), (1, .int i1)]) hx hb dX0_net_9 rfl hl (by decide) rfl (fun ls hl => ?_)
  refine lv_iconst (v := 0) hx hb dX0_net_10 (by decide) ?_
  refine lv_istore (lv' := [(4, .int 0), (3, .int 0), (2, .ref (ad 10 0)), (0, .ref (ad 8 0)), (1, .int i1)]) hx hb dX0_net_11 hl (by decide) rfl (fun ls hl => ?_)
  exact J_13 _ 0 0  _ _ _  (bn_w (show bn 0 0 (0 : Int32) from bn_k (by decide)) (by decide)) rfl Y (lv_sub hl [3, 4, 2, 1, 0] rfl)
set_option maxHeartbeats 4000000 in
set_option maxRecDepth 100000 in
theorem x_X0_gatherClashes {l : Launch} {G : GG}  {L : List Nat} {f : HF} {ad : Nat → Nat → Nat} {rs : FS} {fc : Int × Int} {tc w : Nat → Int × Int} {q : Nat → (Nat → Int32) → Prop} (I : SH (spC rs fc tc w q) nnC G ad L f) (hW : WBp w 8) (hT : WBp tc 4) (hQ : QIp q) : PMi l yX0_gatherClashes cX0_gatherClashes 5 .int 1 0 0 G [.ref (ad 8 0)] L f (fun r L1 f1 => bn 0 8 r ∧ SH (spC rs fc tc w q) nnC G ad L1 f1) := by
  refine PMi.of (post := fun r L1 f1 => bn 0 8 r ∧ SH (spC rs fc tc w q) nnC G ad L1 f1) (own := RX0) (by decide) rfl (Nat.le_of_ble_eq_true rfl) (fun sz p e s m args below meth c A ls hA1 hname S Y hl => ?_)
  have hx := S.hx
  have hb := S.hb
  have hl : lv_has ls 5 [(0, .ref (ad 8 0))] := hl
  have J_4 : ∀ (n4 : Nat) (y4_1 y4_2 : Int32) (L_4 : List Nat) (f_4 : HF) (H : Heap) (locs : List Loc) (ls : Array Slot), (SH (spC rs fc tc w q) nnC G ad L_4 f_4) → (bn 0 8 y4_1) → (bn 0 8 y4_2) → (lei y4_1 y4_2) → (((8 : Int) - y4_2.toInt).toNat = n4) → (DY G A s [] L_4 f_4 H locs) → (lv_has ls 5 [(0, .ref (ad 8 0)), (1, .int y4_1), (2, .int y4_2)]) → W p l e (rmD 1 0 0) s m args below meth c H locs (0) (0) (MQ below (va_Qi (fun r (u : List Nat × HF) => (fun r L1 f1 => bn 0 8 r ∧ SH (spC rs fc tc w q) nnC G ad L1 f1) r u.1 u.2) (fun u t => pOut G (va_A (va_pl L f) sz) u.1 u.2 t) (va_A (va_pl L f) sz)) args s 0 0 A) (F0 m 4 ls []) := by
    intro n4
    induction n4 using Nat.strongRecOn with
    | _ n4 ih4 =>
      intro y4_1 y4_2 L_4 f_4 H locs ls I b_y4_1 b_y4_2 r4_1_2 hm4 Y hl
      refine lv_iload_n hx hb dX0_gatherClashes_4 rfl (lv_at hl 2 rfl) ?_
      refine lv_aload_n hx hb dX0_gatherClashes_5 rfl (lv_at hl 0 rfl) ?_
      have p_ad_8_0 := opnC_8 (j := 0) I (by decide)
      have p_ad_8_0 : pt L_4 f_4 (ad 8 0) (.inr (0, [.ref (ad 1 0), .ref (ad 60 0), .ref (ad 61 0)])) := p_ad_8_0
      refine pg_get S Y ok_X0 0 (by decide) kf0_18 (v := .ref (ad 1 0)) p_ad_8_0 rfl dX0_gatherClashes_6 ?_
      obtain ⟨v_31108, v_31110, v_31112, v_31114, v_31116, p_ad_1_0, b_31109, b_31111, b_31113, b_31115, b_31117⟩ := opnC_1 (j := 0) I (by decide)
      have p_ad_1_0 : pt L_4 f_4 (ad 1 0) (.inr (10, [.ref (ad 40 0), .ref (ad 41 0), .ref (ad 42 0), .ref (ad 10 0), .ref (ad 43 0), .ref (ad 20 0), .ref (ad 20 1), .ref (ad 20 2), .ref (ad 20 3), .ref (ad 20 4), .int v_31108, .int v_31110, .int v_31112, .int v_31114, .int v_31116])) := p_ad_1_0
      refine pg_getN S Y ok_X10 6 (by decide) kf0_52 (v := .ref (ad 20 1)) p_ad_1_0 rfl dX0_gatherClashes_9 ?_
      obtain ⟨v_31118, v_31120, p_ad_20_1, b_31119, b_31121⟩ := opnC_20 (j := 1) I (by decide)
      have p_ad_20_1 : pt L_4 f_4 (ad 20 1) (.inr (9, [.ref (ad 21 1), .int v_31118, .int v_31120])) := p_ad_20_1
      refine pg_getN S Y ok_X9 2 (by decide) kf0_56 (v := .int v_31120) p_ad_20_1 rfl dX0_gatherClashes_12 ?_
      refine lv_icmp_ge (tgt := 105) hx hb dX0_gatherClashes_15 (by decide) (fun c_31122 => ?_) (fun c_31122 => ?_)
      · refine lv_iload_n hx hb dX0_gatherClashes_105 rfl (lv_at hl 1 rfl) ?_
        exact prI (post := fun r L1 f1 => bn 0 8 r ∧ SH (spC rs fc tc w q) nnC G ad L1 f1) S Y rfl (by decide) (by decide) hA1 ⟨bn_w b_y4_1 (by decide), I⟩ dX0_gatherClashes_106
      · have B_31123 : bn 1 8 v_31120 := bn_w (bn_gtl c_31122 (bn_w (a' := 0) (b' := 8) b_31121 (hW 1)) b_y4_2) (by decide)
        have B_31124 : bn 0 7 y4_2 := bn_w (bn_gtr c_31122 (bn_w (a' := 0) (b' := 8) b_31121 (hW 1)) b_y4_2) (by decide)
        refine lv_iload_n hx hb dX0_gatherClashes_18 rfl (lv_at hl 2 rfl) ?_
        refine lv_bipush (v := 8) hx hb dX0_gatherClashes_19 (by decide) ?_
        refine lv_icmp_ge (tgt := 105) hx hb dX0_gatherClashes_21 (by decide) (fun h => absurd h (bd_nle (show bn 8 8 (8 : Int32) from bn_k (by decide)) B_31124 (by decide))) (fun _ => ?_)
        have B_31125 : bn 0 7 y4_1 := ⟨by have := b_y4_1.1; omega, by have h8 := B_31124.2; have h9 := r4_1_2; have h7 := b_y4_1.2; omega⟩
        refine lv_aload_n hx hb dX0_gatherClashes_24 rfl (lv_at hl 0 rfl) ?_
        refine pg_get S Y ok_X0 0 (by decide) kf0_18 (v := .ref (ad 1 0)) p_ad_8_0 rfl dX0_gatherClashes_25 ?_
        refine pg_getN S Y ok_X10 6 (by decide) kf0_52 (v := .ref (ad 20 1)) p_ad_1_0 rfl dX0_gatherClashes_28 ?_
        refine lv_iload_n hx hb dX0_gatherClashes_31 rfl (lv_at hl 2 rfl) ?_
        refine lv_iconst (v := 0) hx hb dX0_gatherClashes_32 (by decide) ?_
        refine cVp (As := [.int y4_2, .int 0]) (rest := []) S Y (x_X9_get (l := l) (j := 1) I hW hT hQ (by decide)) cw_X9_get km0_61 p_ad_20_1 ok_X9.1 rfl rfl ⟨Nat.le_of_ble_eq_true rfl, Nat.le_of_ble_eq_true rfl⟩ hl.1 rfl (Nat.le_of_ble_eq_true rfl) ⟨Nat.le_of_ble_eq_true rfl, Nat.le_of_ble_eq_true rfl⟩ dX0_gatherClashes_33 (fun r_31126 H locs er_31126 Y => ?_)
        refine lv_istore_n (lv' := [(3, .int r_31126), (0, .ref (ad 8 0)), (1, .int y4_1), (2, .int y4_2)]) hx hb dX0_gatherClashes_36 rfl hl (by decide) rfl (fun ls hl => ?_)
        refine lv_aload_n hx hb dX0_gatherClashes_37 rfl (lv_at hl 1 rfl) ?_
        refine pg_get S Y ok_X0 0 (by decide) kf0_18 (v := .ref (ad 1 0)) p_ad_8_0 rfl dX0_gatherClashes_38 ?_
        refine pg_getN S Y ok_X10 6 (by decide) kf0_52 (v := .ref (ad 20 1)) p_ad_1_0 rfl dX0_gatherClashes_41 ?_
        refine lv_iload_n hx hb dX0_gatherClashes_44 rfl (lv_at hl 3 rfl) ?_
        refine lv_iconst (v := 1) hx hb dX0_gatherClashes_45 (by decide) ?_
        refine cVp (As := [.int y4_2, .int 1]) (rest := []) S Y (x_X9_get (l := l) (j := 1) I hW hT hQ (by decide)) cw_X9_get km0_61 p_ad_20_1 ok_X9.1 rfl rfl ⟨Nat.le_of_ble_eq_true rfl, Nat.le_of_ble_eq_true rfl⟩ hl.1 rfl (Nat.le_of_ble_eq_true rfl) ⟨Nat.le_of_ble_eq_true rfl, Nat.le_of_ble_eq_true rfl⟩ dX0_gatherClashes_46 (fun r_31127 H locs er_31127 Y => ?_)
        refine lv_istore (lv' := [(4, .int r_31127), (3, .int r_31126), (0, .ref (ad 8 0)), (1, .int y4_1), (2, .int y4_2)]) hx hb dX0_gatherClashes_49 hl (by decide) rfl (fun ls hl => ?_)
        refine lv_aload_n hx hb dX0_gatherClashes_51 rfl (lv_at hl 2 rfl) ?_
        refine pg_get S Y ok_X0 0 (by decide) kf0_18 (v := .ref (ad 1 0)) p_ad_8_0 rfl dX0_gatherClashes_52 ?_
        refine pg_getN S Y ok_X10 3 (by decide) kf0_22 (v := .ref (ad 10 0)) p_ad_1_0 rfl dX0_gatherClashes_55 ?_
        refine lv_iload_n hx hb dX0_gatherClashes_58 rfl (lv_at hl 1 rfl) ?_
        refine lv_iconst (v := 4) hx hb dX0_gatherClashes_59 (by decide) ?_
        refine cVp (As := [.int r_31126, .int 4]) (rest := []) S Y (x_X4_get (l := l) (j := 0) I hW hT hQ (by decide)) cw_X4_get km0_34 (I.opo (k := 10) (j := 0) (by decide) rfl).choose_spec.1 ok_X4.1 rfl rfl ⟨Nat.le_of_ble_eq_true rfl, Nat.le_of_ble_eq_true rfl⟩ hl.1 rfl (Nat.le_of_ble_eq_true rfl) ⟨Nat.le_of_ble_eq_true rfl, Nat.le_of_ble_eq_true rfl⟩ dX0_gatherClashes_60 (fun r_31128 H locs er_31128 Y => ?_)
        refine lv_if_ne (tgt := 99) hx hb dX0_gatherClashes_63 (by decide) (fun c_31129 => ?_) (fun c_31129 => ?_)
        · obtain ⟨x_31131, ex_31131⟩ : ∃ z : Int32, z = y4_2 + 1 := ⟨_, rfl⟩
          refine lv_iinc (v := x_31131) (lv' := [(2, .int x_31131), (4, .int r_31127), (3, .int r_31126), (0, .ref (ad 8 0)), (1, .int y4_1)]) hx hb dX0_gatherClashes_99 hl (k := 4) rfl (by rw [ex_31131]; rfl) (by decide) rfl (fun ls hl => ?_)
          refine lv_goto (tgt := 4) hx hb dX0_gatherClashes_102 (by decide) ?_
          exact ih4 _ (by rw [← hm4]; exact ms_up (m := 1) ex_31131 (show bn 1 1 (1 : Int32) from bn_k (by decide)) B_31124 (bn_w (bn_eq ex_31131 (bn_add B_31124 (show bn 1 1 (1 : Int32) from bn_k (by decide)) (by decide))) (by decide) : bn 0 8 x_31131) (by decide)) y4_1 x_31131 _ _  _ _ _ I (bn_w B_31125 (by decide)) (bn_w (bn_eq ex_31131 (bn_add B_31124 (show bn 1 1 (1 : Int32) from bn_k (by decide)) (by decide))) (by decide)) (by have z0 := B_31125.1; have z1 := B_31125.2; have z2 := (ti_inc (k := 1) ex_31131 (show bn 1 1 (1 : Int32) from bn_k (by decide)) B_31124 (by decide)); have z3 := (bn_eq ex_31131 (bn_add B_31124 (show bn 1 1 (1 : Int32) from bn_k (by decide)) (by decide))).1; have z4 := (bn_eq ex_31131 (bn_add B_31124 (show bn 1 1 (1 : Int32) from bn_k (by decide)) (by decide))).2; have z5 := r4_1_2; show _ ≤ _; omega) rfl Y (lv_sub hl [3, 4, 0] rfl)
        · have B_31130 : bn 0 0 r_31128 := bn_w (bn_eq c_31129 (show bn 0 0 (0 : Int32) from bn_k (by decide))) (by decide)
          refine lv_aload_n hx hb dX0_gatherClashes_66 rfl (lv_at hl 2 rfl) ?_
          refine pg_get S Y ok_X0 0 (by decide) kf0_18 (v := .ref (ad 1 0)) p_ad_8_0 rfl dX0_gatherClashes_67 ?_
          refine pg_getN S Y ok_X10 3 (by decide) kf0_22 (v := .ref (ad 10 0)) p_ad_1_0 rfl dX0_gatherClashes_70 ?_
          refine lv_iload hx hb dX0_gatherClashes_73 (lv_at hl 0 rfl) ?_
          refine lv_iconst (v := 4) hx hb dX0_gatherClashes_75 (by decide) ?_
          refine cVp (As := [.int r_31127, .int 4]) (rest := []) S Y (x_X4_get (l := l) (j := 0) I hW hT hQ (by decide)) cw_X4_get km0_34 (I.opo (k := 10) (j := 0) (by decide) rfl).choose_spec.1 ok_X4.1 rfl rfl ⟨Nat.le_of_ble_eq_true rfl, Nat.le_of_ble_eq_true rfl⟩ hl.1 rfl (Nat.le_of_ble_eq_true rfl) ⟨Nat.le_of_ble_eq_true rfl, Nat.le_of_ble_eq_true rfl⟩ dX0_gatherClashes_76 (fun r_31132 H locs er_31132 Y => ?_)
          refine lv_if_ne (tgt := 99) hx hb dX0_gatherClashes_79 (by decide) (fun c_31133 => ?_) (fun c_31133 => ?_)
          · obtain ⟨x_31135, ex_31135⟩ : ∃ z : Int32, z = y4_2 + 1 := ⟨_, rfl⟩
            refine lv_iinc (v := x_31135) (lv' := [(2, .int x_31135), (4, .int r_31127), (3, .int r_31126), (0, .ref (ad 8 0)), (1, .int y4_1)]) hx hb dX0_gatherClashes_99 hl (k := 4) rfl (by rw [ex_31135]; rfl) (by decide) rfl (fun ls hl => ?_)
            refine lv_goto (tgt := 4) hx hb dX0_gatherClashes_102 (by decide) ?_
            exact ih4 _ (by rw [← hm4]; exact ms_up (m := 1) ex_31135 (show bn 1 1 (1 : Int32) from bn_k (by decide)) B_31124 (bn_w (bn_eq ex_31135 (bn_add B_31124 (show bn 1 1 (1 : Int32) from bn_k (by decide)) (by decide))) (by decide) : bn 0 8 x_31135) (by decide)) y4_1 x_31135 _ _  _ _ _ I (bn_w B_31125 (by decide)) (bn_w (bn_eq ex_31135 (bn_add B_31124 (show bn 1 1 (1 : Int32) from bn_k (by decide)) (by decide))) (by decide)) (by have z0 := B_31125.1; have z1 := B_31125.2; have z2 := (ti_inc (k := 1) ex_31135 (show bn 1 1 (1 : Int32) from bn_k (by decide)) B_31124 (by decide)); have z3 := (bn_eq ex_31135 (bn_add B_31124 (show bn 1 1 (1 : Int32) from bn_k (by decide)) (by decide))).1; have z4 := (bn_eq ex_31135 (bn_add B_31124 (show bn 1 1 (1 : Int32) from bn_k (by decide)) (by decide))).2; have z5 := r4_1_2; show _ ≤ _; omega) rfl Y (lv_sub hl [3, 4, 0] rfl)
          · have B_31134 : bn 0 0 r_31132 := bn_w (bn_eq c_31133 (show bn 0 0 (0 : Int32) from bn_k (by decide))) (by decide)
            refine lv_aload_n hx hb dX0_gatherClashes_82 rfl (lv_at hl 2 rfl) ?_
            refine pg_get S Y ok_X0 1 (by decide) kf0_9 (v := .ref (ad 60 0)) p_ad_8_0 rfl dX0_gatherClashes_83 ?_
            refine lv_iload_n hx hb dX0_gatherClashes_86 rfl (lv_at hl 3 rfl) ?_
            refine lv_iconst (v := 1) hx hb dX0_gatherClashes_87 (by decide) ?_
            refine lv_iload_n hx hb dX0_gatherClashes_88 rfl (lv_at hl 1 rfl) ?_
            refine lv_ishl hx hb dX0_gatherClashes_89 ?_
            refine lv_topi (fun x_31136 ex_31136 => ?_)
            refine lv_iconst (v := 1) hx hb dX0_gatherClashes_90 (by decide) ?_
            refine lv_iload hx hb dX0_gatherClashes_91 (lv_at hl 0 rfl) ?_
            refine lv_ishl hx hb dX0_gatherClashes_93 ?_
            refine lv_topi (fun x_31137 ex_31137 => ?_)
            refine lv_ior hx hb dX0_gatherClashes_94 ?_
            refine lv_topi (fun x_31138 ex_31138 => ?_)
            obtain ⟨g_31139, p_ad_60_0, o_31140⟩ := I.opi (k := 60) (j := 0) (by decide) rfl
            have p_ad_60_0 : pt L_4 f_4 (ad 60 0) (.inl (G.2 0, 8, .inl g_31139)) := p_ad_60_0
            refine pg_iast S Y p_ad_60_0 (vp_bn B_31125 (by decide)) dX0_gatherClashes_95 (fun f_31142 H locs ef_31142 Y => ?_)
            obtain ⟨g_31141, eg_31141⟩ : ∃ z, z = upd (g_31139) (y4_1 : Int32).toNatClampNeg x_31138 := ⟨_, rfl⟩
            rw [← eg_31141] at ef_31142
            have p_ad_8_0 := p_ad_8_0.up ef_31142 (I.ne (k := 8) (j := 0) (k' := 60) (j' := 0) (by decide) (by decide) (Or.inl (by decide)))
            have p_ad_1_0 := p_ad_1_0.up ef_31142 (I.ne (k := 1) (j := 0) (k' := 60) (j' := 0) (by decide) (by decide) (Or.inl (by decide)))
            have p_ad_20_1 := p_ad_20_1.up ef_31142 (I.ne (k := 20) (j := 1) (k' := 60) (j' := 0) (by decide) (by decide) (Or.inl (by decide)))
            have p_ad_60_0 := p_ad_60_0.me ef_31142
            have I := I.up (k := 60) (j := 0) (by decide) ef_31142 (okE_a (g := g_31141) trivial)
            obtain ⟨x_31143, ex_31143⟩ : ∃ z : Int32, z = y4_1 + 1 := ⟨_, rfl⟩
            refine lv_iinc (v := x_31143) (lv' := [(1, .int x_31143), (4, .int r_31127), (3, .int r_31126), (0, .ref (ad 8 0)), (2, .int y4_2)]) hx hb dX0_gatherClashes_96 hl (k := 3) rfl (by rw [ex_31143]; rfl) (by decide) rfl (fun ls hl => ?_)
            obtain ⟨x_31144, ex_31144⟩ : ∃ z : Int32, z = y4_2 + 1 := ⟨_, rfl⟩
            refine lv_iinc (v := x_31144) (lv' := [(2, .int x_31144), (1, .int x_31143), (4, .int r_31127), (3, .int r_31126), (0, .ref (ad 8 0))]) hx hb dX0_gatherClashes_99 hl (k := 4) rfl (by rw [ex_31144]; rfl) (by decide) rfl (fun ls hl => ?_)
            refine lv_goto (tgt := 4) hx hb dX0_gatherClashes_102 (by decide) ?_
            exact ih4 _ (by rw [← hm4]; exact ms_up (m := 1) ex_31144 (show bn 1 1 (1 : Int32) from bn_k (by decide)) B_31124 (bn_w (bn_eq ex_31144 (bn_add B_31124 (show bn 1 1 (1 : Int32) from bn_k (by decide)) (by decide))) (by decide) : bn 0 8 x_31144) (by decide)) x_31143 x_31144 _ _  _ _ _ I (bn_w (bn_eq ex_31143 (bn_add B_31125 (show bn 1 1 (1 : Int32) from bn_k (by decide)) (by decide))) (by decide)) (bn_w (bn_eq ex_31144 (bn_add B_31124 (show bn 1 1 (1 : Int32) from bn_k (by decide)) (by decide))) (by decide)) (by have z0 := (ti_inc (k := 1) ex_31143 (show bn 1 1 (1 : Int32) from bn_k (by decide)) B_31125 (by decide)); have z1 := (bn_eq ex_31143 (bn_add B_31125 (show bn 1 1 (1 : Int32) from bn_k (by decide)) (by decide))).1; have z2 := (bn_eq ex_31143 (bn_add B_31125 (show bn 1 1 (1 : Int32) from bn_k (by decide)) (by decide))).2; have z3 := (ti_inc (k := 1) ex_31144 (show bn 1 1 (1 : Int32) from bn_k (by decide)) B_31124 (by decide)); have z4 := (bn_eq ex_31144 (bn_add B_31124 (show bn 1 1 (1 : Int32) from bn_k (by decide)) (by decide))).1; have z5 := (bn_eq ex_31144 (bn_add B_31124 (show bn 1 1 (1 : Int32) from bn_k (by decide)) (by decide))).2; have z6 := r4_1_2; show _ ≤ _; omega) rfl Y (lv_sub hl [4, 1, 0] rfl)
  refine lv_iconst (v := 0) hx hb dX0_gatherClashes_0 (by decide) ?_
  refine lv_istore_n (lv' := [(1, .int 0), (0, .ref (ad 8 0))]) hx hb dX0_gatherClashes_1 rfl hl (by decide) rfl (fun ls hl => ?_)
  refine lv_iconst (v := 0) hx hb dX0_gatherClashes_2 (by decide) ?_
  refine lv_istore_n (lv' := [(2, .int 0), (1, .int 0), (0, .ref (ad 8 0))]) hx hb dX0_gatherClashes_3 rfl hl (by decide) rfl (fun ls hl => ?_)
  exact J_4 _ 0 0 _ _  _ _ _ I (bn_w (show bn 0 0 (0 : Int32) from bn_k (by decide)) (by decide)) (bn_w (show bn 0 0 (0 : Int32) from bn_k (by decide)) (by decide)) (by have z0 := (show (0 : Int32).toInt = 0 from by decide); have z1 := (show (0 : Int32).toInt = 0 from by decide); show _ ≤ _; omega) rfl Y (lv_sub hl [2, 1, 0] rfl)
set_option maxHeartbeats 4000000 in
set_option maxRecDepth 100000 in
theorem x_X0_partsClashes {l : Launch} {G : GG}  {L : List Nat} {f : HF} {ad : Nat → Nat → Nat} {rs : FS} {fc : Int × Int} {tc w : Nat → Int × Int} {q : Nat → (Nat → Int32) → Prop} {i1 i2 : Int32} (I : SH (spC rs fc tc w q) nnC G ad L f) (hW : WBp w 8) (hT : WBp tc 4) (hQ : QIp q) (b_i2 : bn 0 8 i2) : PMp l yX0_partsClashes cX0_partsClashes 4 .boolean 0 0 0 G [.ref (ad 8 0), .int i1, .int i2] L f (fun r => bn 0 1 r) := by
  refine PMi.of (post := fun r L1 f1 => (bn 0 1 r) ∧ L1 = L ∧ f1 = f) (own := RX0) (by decide) rfl (Nat.le_of_ble_eq_true rfl) (fun sz p e s m args below meth c A ls hA1 hname S Y hl => ?_)
  have hx := S.hx
  have hb := S.hb
  have hl : lv_has ls 4 [(0, .ref (ad 8 0)), (1, .int i1), (2, .int i2)] := hl
  have J_2 : ∀ (n2 : Nat) (y2_3 : Int32) (H : Heap) (locs : List Loc) (ls : Array Slot), (bn 0 8 y2_3) → (((8 : Int) - y2_3.toInt).toNat = n2) → (DY G A s [] L f H locs) → (lv_has ls 4 [(0, .ref (ad 8 0)), (1, .int i1), (2, .int i2), (3, .int y2_3)]) → W p l e (rmD 0 0 0) s m args below meth c H locs (0) (0) (MQ below (va_Qi (fun r (u : List Nat × HF) => (fun r L1 f1 => (bn 0 1 r) ∧ L1 = L ∧ f1 = f) r u.1 u.2) (fun u t => pOut G (va_A (va_pl L f) sz) u.1 u.2 t) (va_A (va_pl L f) sz)) args s 0 0 A) (F0 m 2 ls []) := by
    intro n2
    induction n2 using Nat.strongRecOn with
    | _ n2 ih2 =>
      intro y2_3 H locs ls b_y2_3 hm2 Y hl
      refine lv_iload_n hx hb dX0_partsClashes_2 rfl (lv_at hl 3 rfl) ?_
      refine lv_iload_n hx hb dX0_partsClashes_3 rfl (lv_at hl 2 rfl) ?_
      refine lv_icmp_ge (tgt := 26) hx hb dX0_partsClashes_4 (by decide) (fun c_31245 => ?_) (fun c_31245 => ?_)
      · refine lv_iconst (v := 1) hx hb dX0_partsClashes_26 (by decide) ?_
        exact prI (post := fun r L1 f1 => (bn 0 1 r) ∧ L1 = L ∧ f1 = f) S Y rfl (by decide) (by decide) hA1 ⟨bn_w (show bn 1 1 (1 : Int32) from bn_k (by decide)) (by decide), rfl, rfl⟩ dX0_partsClashes_27
      · have B_31246 : bn 1 8 i2 := bn_w (bn_gtl c_31245 b_i2 b_y2_3) (by decide)
        have B_31247 : bn 0 7 y2_3 := bn_w (bn_gtr c_31245 b_i2 b_y2_3) (by decide)
        refine lv_iload_n hx hb dX0_partsClashes_7 rfl (lv_at hl 1 rfl) ?_
        refine lv_aload_n hx hb dX0_partsClashes_8 rfl (lv_at hl 0 rfl) ?_
        have p_ad_8_0 := opnC_8 (j := 0) I (by decide)
        have p_ad_8_0 : pt L f (ad 8 0) (.inr (0, [.ref (ad 1 0), .ref (ad 60 0), .ref (ad 61 0)])) := p_ad_8_0
        refine pg_get S Y ok_X0 1 (by decide) kf0_9 (v := .ref (ad 60 0)) p_ad_8_0 rfl dX0_partsClashes_9 ?_
        refine lv_iload_n hx hb dX0_partsClashes_12 rfl (lv_at hl 3 rfl) ?_
        obtain ⟨g_31248, p_ad_60_0, o_31249⟩ := I.opi (k := 60) (j := 0) (by decide) rfl
        have p_ad_60_0 : pt L f (ad 60 0) (.inl (G.2 0, 8, .inl g_31248)) := p_ad_60_0
        obtain ⟨v_31250, ev_31250⟩ : ∃ z, z = g_31248 (y2_3 : Int32).toNatClampNeg := ⟨_, rfl⟩
        refine pg_iald S Y (v := v_31250) p_ad_60_0 (vp_bn B_31247 (by decide)) ev_31250.symm dX0_partsClashes_13 ?_
        refine lv_iand hx hb dX0_partsClashes_14 ?_
        refine lv_topi (fun x_31251 ex_31251 => ?_)
        refine lv_if_ne (tgt := 20) hx hb dX0_partsClashes_15 (by decide) (fun c_31252 => ?_) (fun c_31252 => ?_)
        · obtain ⟨x_31254, ex_31254⟩ : ∃ z : Int32, z = y2_3 + 1 := ⟨_, rfl⟩
          refine lv_iinc (v := x_31254) (lv' := [(3, .int x_31254), (0, .ref (ad 8 0)), (1, .int i1), (2, .int i2)]) hx hb dX0_partsClashes_20 hl (k := 3) rfl (by rw [ex_31254]; rfl) (by decide) rfl (fun ls hl => ?_)
          refine lv_goto (tgt := 2) hx hb dX0_partsClashes_23 (by decide) ?_
          exact ih2 _ (by rw [← hm2]; exact ms_up (m := 1) ex_31254 (show bn 1 1 (1 : Int32) from bn_k (by decide)) B_31247 (bn_w (bn_eq ex_31254 (bn_add B_31247 (show bn 1 1 (1 : Int32) from bn_k (by decide)) (by decide))) (by decide) : bn 0 8 x_31254) (by decide)) x_31254  _ _ _  (bn_w (bn_eq ex_31254 (bn_add B_31247 (show bn 1 1 (1 : Int32) from bn_k (by decide)) (by decide))) (by decide)) rfl Y (lv_sub hl [1, 2, 3, 0] rfl)
        · have B_31253 : bn 0 0 x_31251 := bn_w (bn_eq c_31252 (show bn 0 0 (0 : Int32) from bn_k (by decide))) (by decide)
          refine lv_iconst (v := 0) hx hb dX0_partsClashes_18 (by decide) ?_
          exact prI (post := fun r L1 f1 => (bn 0 1 r) ∧ L1 = L ∧ f1 = f) S Y rfl (by decide) (by decide) hA1 ⟨bn_w (show bn 0 0 (0 : Int32) from bn_k (by decide)) (by decide), rfl, rfl⟩ dX0_partsClashes_19
  refine lv_iconst (v := 0) hx hb dX0_partsClashes_0 (by decide) ?_
  refine lv_istore_n (lv' := [(3, .int 0), (0, .ref (ad 8 0)), (1, .int i1), (2, .int i2)]) hx hb dX0_partsClashes_1 rfl hl (by decide) rfl (fun ls hl => ?_)
  exact J_2 _ 0  _ _ _  (bn_w (show bn 0 0 (0 : Int32) from bn_k (by decide)) (by decide)) rfl Y (lv_sub hl [1, 2, 3, 0] rfl)
set_option maxHeartbeats 4000000 in
set_option maxRecDepth 100000 in
theorem x_X0_fewestReleased {l : Launch} {G : GG}  {L : List Nat} {f : HF} {ad : Nat → Nat → Nat} {rs : FS} {fc : Int × Int} {tc w : Nat → Int × Int} {q : Nat → (Nat → Int32) → Prop} (I : SH (spC rs fc tc w q) nnC G ad L f) (hW : WBp w 8) (hT : WBp tc 4) (hQ : QIp q) : PMi l yX0_fewestReleased cX0_fewestReleased 5 .int 2 0 0 G [.ref (ad 8 0)] L f (fun r L1 f1 => SH (spC rs fc tc w q) nnC G ad L1 f1) := by
  refine PMi.of (post := fun r L1 f1 => SH (spC rs fc tc w q) nnC G ad L1 f1) (own := RX0) (by decide) rfl (Nat.le_of_ble_eq_true rfl) (fun sz p e s m args below meth c A ls hA1 hname S Y hl => ?_)
  have hx := S.hx
  have hb := S.hb
  have hl : lv_has ls 5 [(0, .ref (ad 8 0))] := hl
  have J_34 : ∀ (n34 : Nat) (y34_1 y34_2 y34_3 y34_4 : Int32) (L_34 : List Nat) (f_34 : HF) (H : Heap) (locs : List Loc) (ls : Array Slot), (SH (spC rs fc tc w q) nnC G ad L_34 f_34) → (bn 0 8 y34_1) → (bn 0 2147483647 y34_4) → (((2147483647 : Int) - y34_4.toInt).toNat = n34) → (DY G A s [] L_34 f_34 H locs) → (lv_has ls 5 [(0, .ref (ad 8 0)), (1, .int y34_1), (2, .int y34_2), (3, .int y34_3), (4, .int y34_4)]) → W p l e (rmD 2 0 0) s m args below meth c H locs (0) (0) (MQ below (va_Qi (fun r (u : List Nat × HF) => (fun r L1 f1 => SH (spC rs fc tc w q) nnC G ad L1 f1) r u.1 u.2) (fun u t => pOut G (va_A (va_pl L f) sz) u.1 u.2 t) (va_A (va_pl L f) sz)) args s 0 0 A) (F0 m 34 ls []) := by
    intro n34
    induction n34 using Nat.strongRecOn with
    | _ n34 ih34 =>
      intro y34_1 y34_2 y34_3 y34_4 L_34 f_34 H locs ls I b_y34_1 b_y34_4 hm34 Y hl
      refine lv_iload hx hb dX0_fewestReleased_34 (lv_at hl 4 rfl) ?_
      refine lv_iload_n hx hb dX0_fewestReleased_36 rfl (lv_at hl 2 rfl) ?_
      refine lv_icmp_ge (tgt := 80) hx hb dX0_fewestReleased_37 (by decide) (fun c_32361 => ?_) (fun c_32361 => ?_)
      · refine lv_iload_n hx hb dX0_fewestReleased_80 rfl (lv_at hl 3 rfl) ?_
        exact prI (post := fun r L1 f1 => SH (spC rs fc tc w q) nnC G ad L1 f1) S Y rfl (by decide) (by decide) hA1 I dX0_fewestReleased_81
      · have B_32362 : bn 1 2147483647 y34_2 := bn_w (bn_gtl c_32361 (bn_any y34_2) b_y34_4) (by decide)
        have B_32363 : bn 0 2147483646 y34_4 := bn_w (bn_gtr c_32361 (bn_any y34_2) b_y34_4) (by decide)
        refine lv_iload hx hb dX0_fewestReleased_40 (lv_at hl 4 rfl) ?_
        refine lv_iload_n hx hb dX0_fewestReleased_42 rfl (lv_at hl 2 rfl) ?_
        refine lv_iconst (v := (-1)) hx hb dX0_fewestReleased_43 (by decide) ?_
        refine lv_ixor hx hb dX0_fewestReleased_44 ?_
        refine lv_topi (fun x_32364 ex_32364 => ?_)
        refine lv_iand hx hb dX0_fewestReleased_45 ?_
        refine lv_topi (fun x_32365 ex_32365 => ?_)
        refine lv_if_ne (tgt := 74) hx hb dX0_fewestReleased_46 (by decide) (fun c_32366 => ?_) (fun c_32366 => ?_)
        · obtain ⟨x_32368, ex_32368⟩ : ∃ z : Int32, z = y34_4 + 1 := ⟨_, rfl⟩
          refine lv_iinc (v := x_32368) (lv' := [(4, .int x_32368), (0, .ref (ad 8 0)), (1, .int y34_1), (2, .int y34_2), (3, .int y34_3)]) hx hb dX0_fewestReleased_74 hl (k := 4) rfl (by rw [ex_32368]; rfl) (by decide) rfl (fun ls hl => ?_)
          refine lv_goto (tgt := 34) hx hb dX0_fewestReleased_77 (by decide) ?_
          exact ih34 _ (by rw [← hm34]; exact ms_up (m := 1) ex_32368 (show bn 1 1 (1 : Int32) from bn_k (by decide)) B_32363 (bn_w (bn_eq ex_32368 (bn_add B_32363 (show bn 1 1 (1 : Int32) from bn_k (by decide)) (by decide))) (by decide) : bn 0 2147483647 x_32368) (by decide)) y34_1 y34_2 y34_3 x_32368 _ _  _ _ _ I (bn_w b_y34_1 (by decide)) (bn_w (bn_eq ex_32368 (bn_add B_32363 (show bn 1 1 (1 : Int32) from bn_k (by decide)) (by decide))) (by decide)) rfl Y (lv_sub hl [1, 2, 3, 4, 0] rfl)
        · have B_32367 : bn 0 0 x_32365 := bn_w (bn_eq c_32366 (show bn 0 0 (0 : Int32) from bn_k (by decide))) (by decide)
          refine lv_iload hx hb dX0_fewestReleased_49 (lv_at hl 4 rfl) ?_
          refine cSp (As := [.int y34_4]) (rest := []) S Y (x_bitCount (l := l) ) cw_X106_bitCount_0f7a4 km0_42 rfl ⟨Nat.le_of_ble_eq_true rfl, Nat.le_of_ble_eq_true rfl⟩ hl.1 rfl (Nat.le_of_ble_eq_true rfl) ⟨Nat.le_of_ble_eq_true rfl, Nat.le_of_ble_eq_true rfl⟩ dX0_fewestReleased_51 (fun r_32369 H locs er_32369 Y => ?_)
          refine lv_iload_n hx hb dX0_fewestReleased_54 rfl (lv_at hl 3 rfl) ?_
          refine cSp (As := [.int y34_3]) (rest := [.int r_32369]) S Y (x_bitCount (l := l) ) cw_X106_bitCount_0f7a4 km0_42 rfl ⟨Nat.le_of_ble_eq_true rfl, Nat.le_of_ble_eq_true rfl⟩ hl.1 rfl (Nat.le_of_ble_eq_true rfl) ⟨Nat.le_of_ble_eq_true rfl, Nat.le_of_ble_eq_true rfl⟩ dX0_fewestReleased_55 (fun r_32370 H locs er_32370 Y => ?_)
          refine lv_icmp_ge (tgt := 74) hx hb dX0_fewestReleased_58 (by decide) (fun c_32371 => ?_) (fun c_32371 => ?_)
          · obtain ⟨x_32374, ex_32374⟩ : ∃ z : Int32, z = y34_4 + 1 := ⟨_, rfl⟩
            refine lv_iinc (v := x_32374) (lv' := [(4, .int x_32374), (0, .ref (ad 8 0)), (1, .int y34_1), (2, .int y34_2), (3, .int y34_3)]) hx hb dX0_fewestReleased_74 hl (k := 4) rfl (by rw [ex_32374]; rfl) (by decide) rfl (fun ls hl => ?_)
            refine lv_goto (tgt := 34) hx hb dX0_fewestReleased_77 (by decide) ?_
            exact ih34 _ (by rw [← hm34]; exact ms_up (m := 1) ex_32374 (show bn 1 1 (1 : Int32) from bn_k (by decide)) B_32363 (bn_w (bn_eq ex_32374 (bn_add B_32363 (show bn 1 1 (1 : Int32) from bn_k (by decide)) (by decide))) (by decide) : bn 0 2147483647 x_32374) (by decide)) y34_1 y34_2 y34_3 x_32374 _ _  _ _ _ I (bn_w b_y34_1 (by decide)) (bn_w (bn_eq ex_32374 (bn_add B_32363 (show bn 1 1 (1 : Int32) from bn_k (by decide)) (by decide))) (by decide)) rfl Y (lv_sub hl [1, 2, 3, 4, 0] rfl)
          · have B_32372 : bn (-2147483647) 2147483647 r_32370 := bn_w (bn_gtl c_32371 (bn_any r_32370) (bn_any r_32369)) (by decide)
            have B_32373 : bn (-2147483648) 2147483646 r_32369 := bn_w (bn_gtr c_32371 (bn_any r_32370) (bn_any r_32369)) (by decide)
            refine lv_aload_n hx hb dX0_fewestReleased_61 rfl (lv_at hl 0 rfl) ?_
            refine lv_iload hx hb dX0_fewestReleased_62 (lv_at hl 4 rfl) ?_
            refine lv_iload_n hx hb dX0_fewestReleased_64 rfl (lv_at hl 1 rfl) ?_
            refine cVp (As := [.int y34_4, .int y34_1]) (rest := []) S Y (x_X0_partsClashes (l := l) I hW hT hQ (bn_w b_y34_1 (by decide))) cw_X0_partsClashes km0_48 (I.opo (k := 8) (j := 0) (by decide) rfl).choose_spec.1 ok_X0.1 rfl rfl ⟨Nat.le_of_ble_eq_true rfl, Nat.le_of_ble_eq_true rfl⟩ hl.1 rfl (Nat.le_of_ble_eq_true rfl) ⟨Nat.le_of_ble_eq_true rfl, Nat.le_of_ble_eq_true rfl⟩ dX0_fewestReleased_65 (fun r_32375 H locs er_32375 Y => ?_)
            refine lv_if_eq (tgt := 74) hx hb dX0_fewestReleased_68 (by decide) (fun c_32376 => ?_) (fun c_32376 => ?_)
            · have B_32377 : bn 0 0 r_32375 := bn_w (bn_eq c_32376 (show bn 0 0 (0 : Int32) from bn_k (by decide))) (by decide)
              obtain ⟨x_32379, ex_32379⟩ : ∃ z : Int32, z = y34_4 + 1 := ⟨_, rfl⟩
              refine lv_iinc (v := x_32379) (lv' := [(4, .int x_32379), (0, .ref (ad 8 0)), (1, .int y34_1), (2, .int y34_2), (3, .int y34_3)]) hx hb dX0_fewestReleased_74 hl (k := 4) rfl (by rw [ex_32379]; rfl) (by decide) rfl (fun ls hl => ?_)
              refine lv_goto (tgt := 34) hx hb dX0_fewestReleased_77 (by decide) ?_
              exact ih34 _ (by rw [← hm34]; exact ms_up (m := 1) ex_32379 (show bn 1 1 (1 : Int32) from bn_k (by decide)) B_32363 (bn_w (bn_eq ex_32379 (bn_add B_32363 (show bn 1 1 (1 : Int32) from bn_k (by decide)) (by decide))) (by decide) : bn 0 2147483647 x_32379) (by decide)) y34_1 y34_2 y34_3 x_32379 _ _  _ _ _ I (bn_w b_y34_1 (by decide)) (bn_w (bn_eq ex_32379 (bn_add B_32363 (show bn 1 1 (1 : Int32) from bn_k (by decide)) (by decide))) (by decide)) rfl Y (lv_sub hl [1, 2, 3, 4, 0] rfl)
            · have B_32378 : bn 1 1 r_32375 := bn_w (bn_nel c_32376 er_32375 (show bn 0 0 (0 : Int32) from bn_k (by decide))) (by decide)
              refine lv_iload hx hb dX0_fewestReleased_71 (lv_at hl 4 rfl) ?_
              refine lv_istore_n (lv' := [(3, .int y34_4), (0, .ref (ad 8 0)), (1, .int y34_1), (2, .int y34_2), (4, .int y34_4)]) hx hb dX0_fewestReleased_73 rfl hl (by decide) rfl (fun ls hl => ?_)
              obtain ⟨x_32380, ex_32380⟩ : ∃ z : Int32, z = y34_4 + 1 := ⟨_, rfl⟩
              refine lv_iinc (v := x_32380) (lv' := [(4, .int x_32380), (3, .int y34_4), (0, .ref (ad 8 0)), (1, .int y34_1), (2, .int y34_2)]) hx hb dX0_fewestReleased_74 hl (k := 4) rfl (by rw [ex_32380]; rfl) (by decide) rfl (fun ls hl => ?_)
              refine lv_goto (tgt := 34) hx hb dX0_fewestReleased_77 (by decide) ?_
              exact ih34 _ (by rw [← hm34]; exact ms_up (m := 1) ex_32380 (show bn 1 1 (1 : Int32) from bn_k (by decide)) B_32363 (bn_w (bn_eq ex_32380 (bn_add B_32363 (show bn 1 1 (1 : Int32) from bn_k (by decide)) (by decide))) (by decide) : bn 0 2147483647 x_32380) (by decide)) y34_1 y34_2 y34_4 x_32380 _ _  _ _ _ I (bn_w b_y34_1 (by decide)) (bn_w (bn_eq ex_32380 (bn_add B_32363 (show bn 1 1 (1 : Int32) from bn_k (by decide)) (by decide))) (by decide)) rfl Y (lv_sub hl [2, 3, 4, 1, 0] rfl)
  have J_9 : ∀ (n9 : Nat) (y9_1 y9_2 y9_3 : Int32) (L_9 : List Nat) (f_9 : HF) (H : Heap) (locs : List Loc) (ls : Array Slot), (SH (spC rs fc tc w q) nnC G ad L_9 f_9) → (bn 0 8 y9_1) → (bn 0 8 y9_3) → (((8 : Int) - y9_3.toInt).toNat = n9) → (DY G A s [] L_9 f_9 H locs) → (lv_has ls 5 [(0, .ref (ad 8 0)), (1, .int y9_1), (2, .int y9_2), (3, .int y9_3)]) → W p l e (rmD 2 0 0) s m args below meth c H locs (0) (0) (MQ below (va_Qi (fun r (u : List Nat × HF) => (fun r L1 f1 => SH (spC rs fc tc w q) nnC G ad L1 f1) r u.1 u.2) (fun u t => pOut G (va_A (va_pl L f) sz) u.1 u.2 t) (va_A (va_pl L f) sz)) args s 0 0 A) (F0 m 9 ls []) := by
    intro n9
    induction n9 using Nat.strongRecOn with
    | _ n9 ih9 =>
      intro y9_1 y9_2 y9_3 L_9 f_9 H locs ls I b_y9_1 b_y9_3 hm9 Y hl
      refine lv_iload_n hx hb dX0_fewestReleased_9 rfl (lv_at hl 3 rfl) ?_
      refine lv_iload_n hx hb dX0_fewestReleased_10 rfl (lv_at hl 1 rfl) ?_
      refine lv_icmp_ge (tgt := 29) hx hb dX0_fewestReleased_11 (by decide) (fun c_32381 => ?_) (fun c_32381 => ?_)
      · refine lv_iload_n hx hb dX0_fewestReleased_29 rfl (lv_at hl 2 rfl) ?_
        refine lv_istore_n (lv' := [(3, .int y9_2), (0, .ref (ad 8 0)), (1, .int y9_1), (2, .int y9_2)]) hx hb dX0_fewestReleased_30 rfl hl (by decide) rfl (fun ls hl => ?_)
        refine lv_iconst (v := 0) hx hb dX0_fewestReleased_31 (by decide) ?_
        refine lv_istore (lv' := [(4, .int 0), (3, .int y9_2), (0, .ref (ad 8 0)), (1, .int y9_1), (2, .int y9_2)]) hx hb dX0_fewestReleased_32 hl (by decide) rfl (fun ls hl => ?_)
        exact J_34 _ y9_1 y9_2 y9_2 0 _ _  _ _ _ I (bn_w b_y9_1 (by decide)) (bn_w (show bn 0 0 (0 : Int32) from bn_k (by decide)) (by decide)) rfl Y (lv_sub hl [2, 3, 4, 1, 0] rfl)
      · have B_32382 : bn 1 8 y9_1 := bn_w (bn_gtl c_32381 b_y9_1 b_y9_3) (by decide)
        have B_32383 : bn 0 7 y9_3 := bn_w (bn_gtr c_32381 b_y9_1 b_y9_3) (by decide)
        refine lv_iload_n hx hb dX0_fewestReleased_14 rfl (lv_at hl 2 rfl) ?_
        refine lv_aload_n hx hb dX0_fewestReleased_15 rfl (lv_at hl 0 rfl) ?_
        have p_ad_8_0 := opnC_8 (j := 0) I (by decide)
        have p_ad_8_0 : pt L_9 f_9 (ad 8 0) (.inr (0, [.ref (ad 1 0), .ref (ad 60 0), .ref (ad 61 0)])) := p_ad_8_0
        refine pg_get S Y ok_X0 1 (by decide) kf0_9 (v := .ref (ad 60 0)) p_ad_8_0 rfl dX0_fewestReleased_16 ?_
        refine lv_iload_n hx hb dX0_fewestReleased_19 rfl (lv_at hl 3 rfl) ?_
        obtain ⟨g_32384, p_ad_60_0, o_32385⟩ := I.opi (k := 60) (j := 0) (by decide) rfl
        have p_ad_60_0 : pt L_9 f_9 (ad 60 0) (.inl (G.2 0, 8, .inl g_32384)) := p_ad_60_0
        obtain ⟨v_32386, ev_32386⟩ : ∃ z, z = g_32384 (y9_3 : Int32).toNatClampNeg := ⟨_, rfl⟩
        refine pg_iald S Y (v := v_32386) p_ad_60_0 (vp_bn B_32383 (by decide)) ev_32386.symm dX0_fewestReleased_20 ?_
        refine lv_ior hx hb dX0_fewestReleased_21 ?_
        refine lv_topi (fun x_32387 ex_32387 => ?_)
        refine lv_istore_n (lv' := [(2, .int x_32387), (0, .ref (ad 8 0)), (1, .int y9_1), (3, .int y9_3)]) hx hb dX0_fewestReleased_22 rfl hl (by decide) rfl (fun ls hl => ?_)
        obtain ⟨x_32388, ex_32388⟩ : ∃ z : Int32, z = y9_3 + 1 := ⟨_, rfl⟩
        refine lv_iinc (v := x_32388) (lv' := [(3, .int x_32388), (2, .int x_32387), (0, .ref (ad 8 0)), (1, .int y9_1)]) hx hb dX0_fewestReleased_23 hl (k := 3) rfl (by rw [ex_32388]; rfl) (by decide) rfl (fun ls hl => ?_)
        refine lv_goto (tgt := 9) hx hb dX0_fewestReleased_26 (by decide) ?_
        exact ih9 _ (by rw [← hm9]; exact ms_up (m := 1) ex_32388 (show bn 1 1 (1 : Int32) from bn_k (by decide)) B_32383 (bn_w (bn_eq ex_32388 (bn_add B_32383 (show bn 1 1 (1 : Int32) from bn_k (by decide)) (by decide))) (by decide) : bn 0 8 x_32388) (by decide)) y9_1 x_32387 x_32388 _ _  _ _ _ I (bn_w B_32382 (by decide)) (bn_w (bn_eq ex_32388 (bn_add B_32383 (show bn 1 1 (1 : Int32) from bn_k (by decide)) (by decide))) (by decide)) rfl Y (lv_sub hl [2, 3, 1, 0] rfl)
  refine lv_aload_n hx hb dX0_fewestReleased_0 rfl (lv_at hl 0 rfl) ?_
  refine cVi (As := []) (rest := []) S Y (x_X0_gatherClashes (l := l) I hW hT hQ) cw_X0_gatherClashes km0_38 (I.opo (k := 8) (j := 0) (by decide) rfl).choose_spec.1 ok_X0.1 rfl rfl ⟨Nat.le_of_ble_eq_true rfl, Nat.le_of_ble_eq_true rfl⟩ hl.1 rfl (Nat.le_of_ble_eq_true rfl) ⟨Nat.le_of_ble_eq_true rfl, Nat.le_of_ble_eq_true rfl⟩ dX0_fewestReleased_1 (fun r_32391 L_32389 f_32390 H locs hr_32391 Y => ?_)
  obtain ⟨er_32391, I⟩ := hr_32391
  refine lv_istore_n (lv' := [(1, .int r_32391), (0, .ref (ad 8 0))]) hx hb dX0_fewestReleased_4 rfl hl (by decide) rfl (fun ls hl => ?_)
  refine lv_iconst (v := 0) hx hb dX0_fewestReleased_5 (by decide) ?_
  refine lv_istore_n (lv' := [(2, .int 0), (1, .int r_32391), (0, .ref (ad 8 0))]) hx hb dX0_fewestReleased_6 rfl hl (by decide) rfl (fun ls hl => ?_)
  refine lv_iconst (v := 0) hx hb dX0_fewestReleased_7 (by decide) ?_
  refine lv_istore_n (lv' := [(3, .int 0), (2, .int 0), (1, .int r_32391), (0, .ref (ad 8 0))]) hx hb dX0_fewestReleased_8 rfl hl (by decide) rfl (fun ls hl => ?_)
  exact J_9 _ r_32391 0 0 _ _  _ _ _ I (bn_w er_32391 (by decide)) (bn_w (show bn 0 0 (0 : Int32) from bn_k (by decide)) (by decide)) rfl Y (lv_sub hl [3, 2, 1, 0] rfl)
set_option maxHeartbeats 4000000 in
set_option maxRecDepth 100000 in
theorem x_X0_workOf {l : Launch} {G : GG}  {L : List Nat} {f : HF} {ad : Nat → Nat → Nat} {rs : FS} {fc : Int × Int} {tc w : Nat → Int × Int} {q : Nat → (Nat → Int32) → Prop} {i1 i2 : Int32} (I : SH (spC rs fc tc w q) nnC G ad L f) (hW : WBp w 8) (hT : WBp tc 4) (hQ : QIp q) : PMp l yX0_workOf cX0_workOf 5 .int 1 0 0 G [.ref (ad 8 0), .int i1, .int i2] L f (fun r => True) := by
  refine PMi.of (post := fun r L1 f1 => (True) ∧ L1 = L ∧ f1 = f) (own := RX0) (by decide) rfl (Nat.le_of_ble_eq_true rfl) (fun sz p e s m args below meth c A ls hA1 hname S Y hl => ?_)
  have hx := S.hx
  have hb := S.hb
  have hl : lv_has ls 5 [(0, .ref (ad 8 0)), (1, .int i1), (2, .int i2)] := hl
  have J_5 : ∀ (n5 : Nat) (y5_3 y5_4 : Int32) (H : Heap) (locs : List Loc) (ls : Array Slot), (bn 0 8 y5_4) → (((8 : Int) - y5_4.toInt).toNat = n5) → (DY G A s [] L f H locs) → (lv_has ls 5 [(0, .ref (ad 8 0)), (1, .int i1), (2, .int i2), (3, .int y5_3), (4, .int y5_4)]) → W p l e (rmD 1 0 0) s m args below meth c H locs (0) (0) (MQ below (va_Qi (fun r (u : List Nat × HF) => (fun r L1 f1 => (True) ∧ L1 = L ∧ f1 = f) r u.1 u.2) (fun u t => pOut G (va_A (va_pl L f) sz) u.1 u.2 t) (va_A (va_pl L f) sz)) args s 0 0 A) (F0 m 5 ls []) := by
    intro n5
    induction n5 using Nat.strongRecOn with
    | _ n5 ih5 =>
      intro y5_3 y5_4 H locs ls b_y5_4 hm5 Y hl
      refine lv_iload hx hb dX0_workOf_5 (lv_at hl 4 rfl) ?_
      refine lv_aload_n hx hb dX0_workOf_7 rfl (lv_at hl 0 rfl) ?_
      have p_ad_8_0 := opnC_8 (j := 0) I (by decide)
      have p_ad_8_0 : pt L f (ad 8 0) (.inr (0, [.ref (ad 1 0), .ref (ad 60 0), .ref (ad 61 0)])) := p_ad_8_0
      refine pg_get S Y ok_X0 0 (by decide) kf0_18 (v := .ref (ad 1 0)) p_ad_8_0 rfl dX0_workOf_8 ?_
      obtain ⟨v_32692, v_32694, v_32696, v_32698, v_32700, p_ad_1_0, b_32693, b_32695, b_32697, b_32699, b_32701⟩ := opnC_1 (j := 0) I (by decide)
      have p_ad_1_0 : pt L f (ad 1 0) (.inr (10, [.ref (ad 40 0), .ref (ad 41 0), .ref (ad 42 0), .ref (ad 10 0), .ref (ad 43 0), .ref (ad 20 0), .ref (ad 20 1), .ref (ad 20 2), .ref (ad 20 3), .ref (ad 20 4), .int v_32692, .int v_32694, .int v_32696, .int v_32698, .int v_32700])) := p_ad_1_0
      refine pg_getN S Y ok_X10 7 (by decide) kf0_62 (v := .ref (ad 20 2)) p_ad_1_0 rfl dX0_workOf_11 ?_
      obtain ⟨v_32702, v_32704, p_ad_20_2, b_32703, b_32705⟩ := opnC_20 (j := 2) I (by decide)
      have p_ad_20_2 : pt L f (ad 20 2) (.inr (9, [.ref (ad 21 2), .int v_32702, .int v_32704])) := p_ad_20_2
      refine pg_getN S Y ok_X9 2 (by decide) kf0_56 (v := .int v_32704) p_ad_20_2 rfl dX0_workOf_14 ?_
      refine lv_icmp_ge (tgt := 68) hx hb dX0_workOf_17 (by decide) (fun c_32706 => ?_) (fun c_32706 => ?_)
      · refine lv_iload_n hx hb dX0_workOf_68 rfl (lv_at hl 3 rfl) ?_
        exact prI (post := fun r L1 f1 => (True) ∧ L1 = L ∧ f1 = f) S Y rfl (by decide) (by decide) hA1 ⟨trivial, rfl, rfl⟩ dX0_workOf_69
      · have B_32707 : bn 1 8 v_32704 := bn_w (bn_gtl c_32706 (bn_w (a' := 0) (b' := 8) b_32705 (hW 2)) b_y5_4) (by decide)
        have B_32708 : bn 0 7 y5_4 := bn_w (bn_gtr c_32706 (bn_w (a' := 0) (b' := 8) b_32705 (hW 2)) b_y5_4) (by decide)
        refine lv_iload_n hx hb dX0_workOf_20 rfl (lv_at hl 1 rfl) ?_
        refine lv_iload hx hb dX0_workOf_21 (lv_at hl 4 rfl) ?_
        refine lv_ishr hx hb dX0_workOf_23 ?_
        refine lv_topi (fun x_32709 ex_32709 => ?_)
        refine lv_iconst (v := 1) hx hb dX0_workOf_24 (by decide) ?_
        refine lv_iand hx hb dX0_workOf_25 ?_
        refine lv_topi (fun x_32710 ex_32710 => ?_)
        refine lv_if_eq (tgt := 62) hx hb dX0_workOf_26 (by decide) (fun c_32711 => ?_) (fun c_32711 => ?_)
        · have B_32712 : bn 0 0 x_32710 := bn_w (bn_eq c_32711 (show bn 0 0 (0 : Int32) from bn_k (by decide))) (by decide)
          obtain ⟨x_32713, ex_32713⟩ : ∃ z : Int32, z = y5_4 + 1 := ⟨_, rfl⟩
          refine lv_iinc (v := x_32713) (lv' := [(4, .int x_32713), (0, .ref (ad 8 0)), (1, .int i1), (2, .int i2), (3, .int y5_3)]) hx hb dX0_workOf_62 hl (k := 4) rfl (by rw [ex_32713]; rfl) (by decide) rfl (fun ls hl => ?_)
          refine lv_goto (tgt := 5) hx hb dX0_workOf_65 (by decide) ?_
          exact ih5 _ (by rw [← hm5]; exact ms_up (m := 1) ex_32713 (show bn 1 1 (1 : Int32) from bn_k (by decide)) B_32708 (bn_w (bn_eq ex_32713 (bn_add B_32708 (show bn 1 1 (1 : Int32) from bn_k (by decide)) (by decide))) (by decide) : bn 0 8 x_32713) (by decide)) y5_3 x_32713  _ _ _  (bn_w (bn_eq ex_32713 (bn_add B_32708 (show bn 1 1 (1 : Int32) from bn_k (by decide)) (by decide))) (by decide)) rfl Y (lv_sub hl [1, 2, 3, 4, 0] rfl)
        · refine lv_aload_n hx hb dX0_workOf_29 rfl (lv_at hl 0 rfl) ?_
          refine pg_get S Y ok_X0 0 (by decide) kf0_18 (v := .ref (ad 1 0)) p_ad_8_0 rfl dX0_workOf_30 ?_
          refine pg_getN S Y ok_X10 7 (by decide) kf0_62 (v := .ref (ad 20 2)) p_ad_1_0 rfl dX0_workOf_33 ?_
          refine lv_iload hx hb dX0_workOf_36 (lv_at hl 4 rfl) ?_
          refine lv_iconst (v := 1) hx hb dX0_workOf_38 (by decide) ?_
          refine cVp (As := [.int y5_4, .int 1]) (rest := []) S Y (x_X9_get (l := l) (j := 2) I hW hT hQ (by decide)) cw_X9_get km0_61 p_ad_20_2 ok_X9.1 rfl rfl ⟨Nat.le_of_ble_eq_true rfl, Nat.le_of_ble_eq_true rfl⟩ hl.1 rfl (Nat.le_of_ble_eq_true rfl) ⟨Nat.le_of_ble_eq_true rfl, Nat.le_of_ble_eq_true rfl⟩ dX0_workOf_39 (fun r_32714 H locs er_32714 Y => ?_)
          refine lv_iload_n hx hb dX0_workOf_42 rfl (lv_at hl 2 rfl) ?_
          refine lv_icmp_gt (tgt := 62) hx hb dX0_workOf_43 (by decide) (fun c_32715 => ?_) (fun c_32715 => ?_)
          · have B_32716 : bn (-2147483648) 2147483646 i2 := bn_w (bn_ltl c_32715 (bn_any i2) (bn_any r_32714)) (by decide)
            have B_32717 : bn (-2147483647) 2147483647 r_32714 := bn_w (bn_ltr c_32715 (bn_any i2) (bn_any r_32714)) (by decide)
            obtain ⟨x_32718, ex_32718⟩ : ∃ z : Int32, z = y5_4 + 1 := ⟨_, rfl⟩
            refine lv_iinc (v := x_32718) (lv' := [(4, .int x_32718), (0, .ref (ad 8 0)), (1, .int i1), (2, .int i2), (3, .int y5_3)]) hx hb dX0_workOf_62 hl (k := 4) rfl (by rw [ex_32718]; rfl) (by decide) rfl (fun ls hl => ?_)
            refine lv_goto (tgt := 5) hx hb dX0_workOf_65 (by decide) ?_
            exact ih5 _ (by rw [← hm5]; exact ms_up (m := 1) ex_32718 (show bn 1 1 (1 : Int32) from bn_k (by decide)) B_32708 (bn_w (bn_eq ex_32718 (bn_add B_32708 (show bn 1 1 (1 : Int32) from bn_k (by decide)) (by decide))) (by decide) : bn 0 8 x_32718) (by decide)) y5_3 x_32718  _ _ _  (bn_w (bn_eq ex_32718 (bn_add B_32708 (show bn 1 1 (1 : Int32) from bn_k (by decide)) (by decide))) (by decide)) rfl Y (lv_sub hl [1, 2, 3, 4, 0] rfl)
          · refine lv_iload_n hx hb dX0_workOf_46 rfl (lv_at hl 3 rfl) ?_
            refine lv_aload_n hx hb dX0_workOf_47 rfl (lv_at hl 0 rfl) ?_
            refine pg_get S Y ok_X0 0 (by decide) kf0_18 (v := .ref (ad 1 0)) p_ad_8_0 rfl dX0_workOf_48 ?_
            refine pg_getN S Y ok_X10 7 (by decide) kf0_62 (v := .ref (ad 20 2)) p_ad_1_0 rfl dX0_workOf_51 ?_
            refine lv_iload hx hb dX0_workOf_54 (lv_at hl 4 rfl) ?_
            refine lv_iconst (v := 0) hx hb dX0_workOf_56 (by decide) ?_
            refine cVp (As := [.int y5_4, .int 0]) (rest := [.int y5_3]) S Y (x_X9_get (l := l) (j := 2) I hW hT hQ (by decide)) cw_X9_get km0_61 p_ad_20_2 ok_X9.1 rfl rfl ⟨Nat.le_of_ble_eq_true rfl, Nat.le_of_ble_eq_true rfl⟩ hl.1 rfl (Nat.le_of_ble_eq_true rfl) ⟨Nat.le_of_ble_eq_true rfl, Nat.le_of_ble_eq_true rfl⟩ dX0_workOf_57 (fun r_32719 H locs er_32719 Y => ?_)
            refine lv_iadd hx hb dX0_workOf_60 ?_
            refine lv_topi (fun x_32720 ex_32720 => ?_)
            refine lv_istore_n (lv' := [(3, .int x_32720), (0, .ref (ad 8 0)), (1, .int i1), (2, .int i2), (4, .int y5_4)]) hx hb dX0_workOf_61 rfl hl (by decide) rfl (fun ls hl => ?_)
            obtain ⟨x_32721, ex_32721⟩ : ∃ z : Int32, z = y5_4 + 1 := ⟨_, rfl⟩
            refine lv_iinc (v := x_32721) (lv' := [(4, .int x_32721), (3, .int x_32720), (0, .ref (ad 8 0)), (1, .int i1), (2, .int i2)]) hx hb dX0_workOf_62 hl (k := 4) rfl (by rw [ex_32721]; rfl) (by decide) rfl (fun ls hl => ?_)
            refine lv_goto (tgt := 5) hx hb dX0_workOf_65 (by decide) ?_
            exact ih5 _ (by rw [← hm5]; exact ms_up (m := 1) ex_32721 (show bn 1 1 (1 : Int32) from bn_k (by decide)) B_32708 (bn_w (bn_eq ex_32721 (bn_add B_32708 (show bn 1 1 (1 : Int32) from bn_k (by decide)) (by decide))) (by decide) : bn 0 8 x_32721) (by decide)) x_32720 x_32721  _ _ _  (bn_w (bn_eq ex_32721 (bn_add B_32708 (show bn 1 1 (1 : Int32) from bn_k (by decide)) (by decide))) (by decide)) rfl Y (lv_sub hl [2, 3, 4, 1, 0] rfl)
  refine lv_iconst (v := 0) hx hb dX0_workOf_0 (by decide) ?_
  refine lv_istore_n (lv' := [(3, .int 0), (0, .ref (ad 8 0)), (1, .int i1), (2, .int i2)]) hx hb dX0_workOf_1 rfl hl (by decide) rfl (fun ls hl => ?_)
  refine lv_iconst (v := 0) hx hb dX0_workOf_2 (by decide) ?_
  refine lv_istore (lv' := [(4, .int 0), (3, .int 0), (0, .ref (ad 8 0)), (1, .int i1), (2, .int i2)]) hx hb dX0_workOf_3 hl (by decide) rfl (fun ls hl => ?_)
  exact J_5 _ 0 0  _ _ _  (bn_w (show bn 0 0 (0 : Int32) from bn_k (by decide)) (by decide)) rfl Y (lv_sub hl [2, 3, 4, 1, 0] rfl)
set_option maxHeartbeats 4000000 in
set_option maxRecDepth 100000 in
theorem x_X0_isInTime {l : Launch} {G : GG}  {L : List Nat} {f : HF} {ad : Nat → Nat → Nat} {rs : FS} {fc : Int × Int} {tc w : Nat → Int × Int} {q : Nat → (Nat → Int32) → Prop} {i1 : Int32} (I : SH (spC rs fc tc w q) nnC G ad L f) (hW : WBp w 8) (hT : WBp tc 4) (hQ : QIp q) : PMp l yX0_isInTime cX0_isInTime 4 .boolean 2 0 0 G [.ref (ad 8 0), .int i1] L f (fun r => bn 0 1 r) := by
  refine PMi.of (post := fun r L1 f1 => (bn 0 1 r) ∧ L1 = L ∧ f1 = f) (own := RX0) (by decide) rfl (Nat.le_of_ble_eq_true rfl) (fun sz p e s m args below meth c A ls hA1 hname S Y hl => ?_)
  have hx := S.hx
  have hb := S.hb
  have hl : lv_has ls 4 [(0, .ref (ad 8 0)), (1, .int i1)] := hl
  have J_2 : ∀ (n2 : Nat) (y2_2 : Int32) (H : Heap) (locs : List Loc) (ls : Array Slot), (bn 0 8 y2_2) → (((8 : Int) - y2_2.toInt).toNat = n2) → (DY G A s [] L f H locs) → (lv_has ls 4 [(0, .ref (ad 8 0)), (1, .int i1), (2, .int y2_2)]) → W p l e (rmD 2 0 0) s m args below meth c H locs (0) (0) (MQ below (va_Qi (fun r (u : List Nat × HF) => (fun r L1 f1 => (bn 0 1 r) ∧ L1 = L ∧ f1 = f) r u.1 u.2) (fun u t => pOut G (va_A (va_pl L f) sz) u.1 u.2 t) (va_A (va_pl L f) sz)) args s 0 0 A) (F0 m 2 ls []) := by
    intro n2
    induction n2 using Nat.strongRecOn with
    | _ n2 ih2 =>
      intro y2_2 H locs ls b_y2_2 hm2 Y hl
      refine lv_iload_n hx hb dX0_isInTime_2 rfl (lv_at hl 2 rfl) ?_
      refine lv_aload_n hx hb dX0_isInTime_3 rfl (lv_at hl 0 rfl) ?_
      have p_ad_8_0 := opnC_8 (j := 0) I (by decide)
      have p_ad_8_0 : pt L f (ad 8 0) (.inr (0, [.ref (ad 1 0), .ref (ad 60 0), .ref (ad 61 0)])) := p_ad_8_0
      refine pg_get S Y ok_X0 0 (by decide) kf0_18 (v := .ref (ad 1 0)) p_ad_8_0 rfl dX0_isInTime_4 ?_
      obtain ⟨v_33002, v_33004, v_33006, v_33008, v_33010, p_ad_1_0, b_33003, b_33005, b_33007, b_33009, b_33011⟩ := opnC_1 (j := 0) I (by decide)
      have p_ad_1_0 : pt L f (ad 1 0) (.inr (10, [.ref (ad 40 0), .ref (ad 41 0), .ref (ad 42 0), .ref (ad 10 0), .ref (ad 43 0), .ref (ad 20 0), .ref (ad 20 1), .ref (ad 20 2), .ref (ad 20 3), .ref (ad 20 4), .int v_33002, .int v_33004, .int v_33006, .int v_33008, .int v_33010])) := p_ad_1_0
      refine pg_getN S Y ok_X10 7 (by decide) kf0_62 (v := .ref (ad 20 2)) p_ad_1_0 rfl dX0_isInTime_7 ?_
      obtain ⟨v_33012, v_33014, p_ad_20_2, b_33013, b_33015⟩ := opnC_20 (j := 2) I (by decide)
      have p_ad_20_2 : pt L f (ad 20 2) (.inr (9, [.ref (ad 21 2), .int v_33012, .int v_33014])) := p_ad_20_2
      refine pg_getN S Y ok_X9 2 (by decide) kf0_56 (v := .int v_33014) p_ad_20_2 rfl dX0_isInTime_10 ?_
      refine lv_icmp_ge (tgt := 55) hx hb dX0_isInTime_13 (by decide) (fun c_33016 => ?_) (fun c_33016 => ?_)
      · refine lv_iconst (v := 1) hx hb dX0_isInTime_55 (by decide) ?_
        exact prI (post := fun r L1 f1 => (bn 0 1 r) ∧ L1 = L ∧ f1 = f) S Y rfl (by decide) (by decide) hA1 ⟨bn_w (show bn 1 1 (1 : Int32) from bn_k (by decide)) (by decide), rfl, rfl⟩ dX0_isInTime_56
      · have B_33017 : bn 1 8 v_33014 := bn_w (bn_gtl c_33016 (bn_w (a' := 0) (b' := 8) b_33015 (hW 2)) b_y2_2) (by decide)
        have B_33018 : bn 0 7 y2_2 := bn_w (bn_gtr c_33016 (bn_w (a' := 0) (b' := 8) b_33015 (hW 2)) b_y2_2) (by decide)
        refine lv_aload_n hx hb dX0_isInTime_16 rfl (lv_at hl 0 rfl) ?_
        refine pg_get S Y ok_X0 0 (by decide) kf0_18 (v := .ref (ad 1 0)) p_ad_8_0 rfl dX0_isInTime_17 ?_
        refine pg_getN S Y ok_X10 7 (by decide) kf0_62 (v := .ref (ad 20 2)) p_ad_1_0 rfl dX0_isInTime_20 ?_
        refine lv_iload_n hx hb dX0_isInTime_23 rfl (lv_at hl 2 rfl) ?_
        refine lv_iconst (v := 1) hx hb dX0_isInTime_24 (by decide) ?_
        refine cVp (As := [.int y2_2, .int 1]) (rest := []) S Y (x_X9_get (l := l) (j := 2) I hW hT hQ (by decide)) cw_X9_get km0_61 p_ad_20_2 ok_X9.1 rfl rfl ⟨Nat.le_of_ble_eq_true rfl, Nat.le_of_ble_eq_true rfl⟩ hl.1 rfl (Nat.le_of_ble_eq_true rfl) ⟨Nat.le_of_ble_eq_true rfl, Nat.le_of_ble_eq_true rfl⟩ dX0_isInTime_25 (fun r_33019 H locs er_33019 Y => ?_)
        refine lv_istore_n (lv' := [(3, .int r_33019), (0, .ref (ad 8 0)), (1, .int i1), (2, .int y2_2)]) hx hb dX0_isInTime_28 rfl hl (by decide) rfl (fun ls hl => ?_)
        refine lv_iload_n hx hb dX0_isInTime_29 rfl (lv_at hl 2 rfl) ?_
        refine lv_iload_n hx hb dX0_isInTime_30 rfl (lv_at hl 3 rfl) ?_
        refine lv_ishr hx hb dX0_isInTime_31 ?_
        refine lv_topi (fun x_33020 ex_33020 => ?_)
        refine lv_iconst (v := 1) hx hb dX0_isInTime_32 (by decide) ?_
        refine lv_iand hx hb dX0_isInTime_33 ?_
        refine lv_topi (fun x_33021 ex_33021 => ?_)
        refine lv_if_eq (tgt := 49) hx hb dX0_isInTime_34 (by decide) (fun c_33022 => ?_) (fun c_33022 => ?_)
        · have B_33023 : bn 0 0 x_33021 := bn_w (bn_eq c_33022 (show bn 0 0 (0 : Int32) from bn_k (by decide))) (by decide)
          obtain ⟨x_33024, ex_33024⟩ : ∃ z : Int32, z = y2_2 + 1 := ⟨_, rfl⟩
          refine lv_iinc (v := x_33024) (lv' := [(2, .int x_33024), (3, .int r_33019), (0, .ref (ad 8 0)), (1, .int i1)]) hx hb dX0_isInTime_49 hl (k := 3) rfl (by rw [ex_33024]; rfl) (by decide) rfl (fun ls hl => ?_)
          refine lv_goto (tgt := 2) hx hb dX0_isInTime_52 (by decide) ?_
          exact ih2 _ (by rw [← hm2]; exact ms_up (m := 1) ex_33024 (show bn 1 1 (1 : Int32) from bn_k (by decide)) B_33018 (bn_w (bn_eq ex_33024 (bn_add B_33018 (show bn 1 1 (1 : Int32) from bn_k (by decide)) (by decide))) (by decide) : bn 0 8 x_33024) (by decide)) x_33024  _ _ _  (bn_w (bn_eq ex_33024 (bn_add B_33018 (show bn 1 1 (1 : Int32) from bn_k (by decide)) (by decide))) (by decide)) rfl Y (lv_sub hl [2, 3, 0] rfl)
        · refine lv_aload_n hx hb dX0_isInTime_37 rfl (lv_at hl 1 rfl) ?_
          refine lv_iload_n hx hb dX0_isInTime_38 rfl (lv_at hl 2 rfl) ?_
          refine lv_iload_n hx hb dX0_isInTime_39 rfl (lv_at hl 0 rfl) ?_
          refine cVp (As := [.int i1, .int r_33019]) (rest := []) S Y (x_X0_workOf (l := l) I hW hT hQ) cw_X0_workOf km0_69 p_ad_8_0 ok_X0.1 rfl rfl ⟨Nat.le_of_ble_eq_true rfl, Nat.le_of_ble_eq_true rfl⟩ hl.1 rfl (Nat.le_of_ble_eq_true rfl) ⟨Nat.le_of_ble_eq_true rfl, Nat.le_of_ble_eq_true rfl⟩ dX0_isInTime_40 (fun r_33025 H locs er_33025 Y => ?_)
          refine lv_iload_n hx hb dX0_isInTime_43 rfl (lv_at hl 0 rfl) ?_
          refine lv_icmp_le (tgt := 49) hx hb dX0_isInTime_44 (by decide) (fun c_33026 => ?_) (fun c_33026 => ?_)
          · obtain ⟨x_33029, ex_33029⟩ : ∃ z : Int32, z = y2_2 + 1 := ⟨_, rfl⟩
            refine lv_iinc (v := x_33029) (lv' := [(2, .int x_33029), (3, .int r_33019), (0, .ref (ad 8 0)), (1, .int i1)]) hx hb dX0_isInTime_49 hl (k := 3) rfl (by rw [ex_33029]; rfl) (by decide) rfl (fun ls hl => ?_)
            refine lv_goto (tgt := 2) hx hb dX0_isInTime_52 (by decide) ?_
            exact ih2 _ (by rw [← hm2]; exact ms_up (m := 1) ex_33029 (show bn 1 1 (1 : Int32) from bn_k (by decide)) B_33018 (bn_w (bn_eq ex_33029 (bn_add B_33018 (show bn 1 1 (1 : Int32) from bn_k (by decide)) (by decide))) (by decide) : bn 0 8 x_33029) (by decide)) x_33029  _ _ _  (bn_w (bn_eq ex_33029 (bn_add B_33018 (show bn 1 1 (1 : Int32) from bn_k (by decide)) (by decide))) (by decide)) rfl Y (lv_sub hl [2, 3, 0] rfl)
          · have B_33027 : bn (-2147483647) 2147483647 r_33025 := bn_w (bn_gtl c_33026 (bn_any r_33025) (bn_any r_33019)) (by decide)
            have B_33028 : bn (-2147483648) 2147483646 r_33019 := bn_w (bn_gtr c_33026 (bn_any r_33025) (bn_any r_33019)) (by decide)
            refine lv_iconst (v := 0) hx hb dX0_isInTime_47 (by decide) ?_
            exact prI (post := fun r L1 f1 => (bn 0 1 r) ∧ L1 = L ∧ f1 = f) S Y rfl (by decide) (by decide) hA1 ⟨bn_w (show bn 0 0 (0 : Int32) from bn_k (by decide)) (by decide), rfl, rfl⟩ dX0_isInTime_48
  refine lv_iconst (v := 0) hx hb dX0_isInTime_0 (by decide) ?_
  refine lv_istore_n (lv' := [(2, .int 0), (0, .ref (ad 8 0)), (1, .int i1)]) hx hb dX0_isInTime_1 rfl hl (by decide) rfl (fun ls hl => ?_)
  exact J_2 _ 0  _ _ _  (bn_w (show bn 0 0 (0 : Int32) from bn_k (by decide)) (by decide)) rfl Y (lv_sub hl [1, 2, 0] rfl)
set_option maxHeartbeats 4000000 in
set_option maxRecDepth 100000 in
theorem x_X0_mostInTime {l : Launch} {G : GG}  {L : List Nat} {f : HF} {ad : Nat → Nat → Nat} {rs : FS} {fc : Int × Int} {tc w : Nat → Int × Int} {q : Nat → (Nat → Int32) → Prop} (I : SH (spC rs fc tc w q) nnC G ad L f) (hW : WBp w 8) (hT : WBp tc 4) (hQ : QIp q) : PMp l yX0_mostInTime cX0_mostInTime 3 .int 3 0 0 G [.ref (ad 8 0)] L f (fun r => True) := by
  refine PMi.of (post := fun r L1 f1 => (True) ∧ L1 = L ∧ f1 = f) (own := RX0) (by decide) rfl (Nat.le_of_ble_eq_true rfl) (fun sz p e s m args below meth c A ls hA1 hname S Y hl => ?_)
  have hx := S.hx
  have hb := S.hb
  have hl : lv_has ls 3 [(0, .ref (ad 8 0))] := hl
  have J_4 : ∀ (n4 : Nat) (y4_1 y4_2 : Int32) (H : Heap) (locs : List Loc) (ls : Array Slot), (bn 0 255 y4_1) → (bn 1 299 y4_2) → (((299 : Int) - y4_2.toInt).toNat = n4) → (DY G A s [] L f H locs) → (lv_has ls 3 [(0, .ref (ad 8 0)), (1, .int y4_1), (2, .int y4_2)]) → W p l e (rmD 3 0 0) s m args below meth c H locs (0) (0) (MQ below (va_Qi (fun r (u : List Nat × HF) => (fun r L1 f1 => (True) ∧ L1 = L ∧ f1 = f) r u.1 u.2) (fun u t => pOut G (va_A (va_pl L f) sz) u.1 u.2 t) (va_A (va_pl L f) sz)) args s 0 0 A) (F0 m 4 ls []) := by
    intro n4
    induction n4 using Nat.strongRecOn with
    | _ n4 ih4 =>
      intro y4_1 y4_2 H locs ls b_y4_1 b_y4_2 hm4 Y hl
      refine lv_iload_n hx hb dX0_mostInTime_4 rfl (lv_at hl 2 rfl) ?_
      refine lv_iconst (v := 1) hx hb dX0_mostInTime_5 (by decide) ?_
      refine lv_aload_n hx hb dX0_mostInTime_6 rfl (lv_at hl 0 rfl) ?_
      have p_ad_8_0 := opnC_8 (j := 0) I (by decide)
      have p_ad_8_0 : pt L f (ad 8 0) (.inr (0, [.ref (ad 1 0), .ref (ad 60 0), .ref (ad 61 0)])) := p_ad_8_0
      refine pg_get S Y ok_X0 0 (by decide) kf0_18 (v := .ref (ad 1 0)) p_ad_8_0 rfl dX0_mostInTime_7 ?_
      obtain ⟨v_34140, v_34142, v_34144, v_34146, v_34148, p_ad_1_0, b_34141, b_34143, b_34145, b_34147, b_34149⟩ := opnC_1 (j := 0) I (by decide)
      have p_ad_1_0 : pt L f (ad 1 0) (.inr (10, [.ref (ad 40 0), .ref (ad 41 0), .ref (ad 42 0), .ref (ad 10 0), .ref (ad 43 0), .ref (ad 20 0), .ref (ad 20 1), .ref (ad 20 2), .ref (ad 20 3), .ref (ad 20 4), .int v_34140, .int v_34142, .int v_34144, .int v_34146, .int v_34148])) := p_ad_1_0
      refine pg_getN S Y ok_X10 7 (by decide) kf0_62 (v := .ref (ad 20 2)) p_ad_1_0 rfl dX0_mostInTime_10 ?_
      obtain ⟨v_34150, v_34152, p_ad_20_2, b_34151, b_34153⟩ := opnC_20 (j := 2) I (by decide)
      have p_ad_20_2 : pt L f (ad 20 2) (.inr (9, [.ref (ad 21 2), .int v_34150, .int v_34152])) := p_ad_20_2
      refine pg_getN S Y ok_X9 2 (by decide) kf0_56 (v := .int v_34152) p_ad_20_2 rfl dX0_mostInTime_13 ?_
      refine lv_ishl hx hb dX0_mostInTime_16 ?_
      refine lv_topi (fun x_34154 ex_34154 => ?_)
      refine lv_icmp_ge (tgt := 47) hx hb dX0_mostInTime_17 (by decide) (fun c_34155 => ?_) (fun c_34155 => ?_)
      · refine lv_iload_n hx hb dX0_mostInTime_47 rfl (lv_at hl 1 rfl) ?_
        exact prI (post := fun r L1 f1 => (True) ∧ L1 = L ∧ f1 = f) S Y rfl (by decide) (by decide) hA1 ⟨trivial, rfl, rfl⟩ dX0_mostInTime_48
      · have B_34156 : bn 2 256 x_34154 := bn_w (bn_gtl c_34155 (bn_eq ex_34154 (bn_shl (n := 8) (bn_w (bn_w (a' := 0) (b' := 8) b_34153 (hW 2)) (by decide) : bn 0 8 v_34152) (by decide) (by decide))) b_y4_2) (by decide)
        have B_34157 : bn 1 255 y4_2 := bn_w (bn_gtr c_34155 (bn_eq ex_34154 (bn_shl (n := 8) (bn_w (bn_w (a' := 0) (b' := 8) b_34153 (hW 2)) (by decide) : bn 0 8 v_34152) (by decide) (by decide))) b_y4_2) (by decide)
        refine lv_iload_n hx hb dX0_mostInTime_20 rfl (lv_at hl 2 rfl) ?_
        refine cSp (As := [.int y4_2]) (rest := []) S Y (x_bitCount (l := l) ) cw_X106_bitCount_0f7a4 km0_42 rfl ⟨Nat.le_of_ble_eq_true rfl, Nat.le_of_ble_eq_true rfl⟩ hl.1 rfl (Nat.le_of_ble_eq_true rfl) ⟨Nat.le_of_ble_eq_true rfl, Nat.le_of_ble_eq_true rfl⟩ dX0_mostInTime_21 (fun r_34158 H locs er_34158 Y => ?_)
        refine lv_iload_n hx hb dX0_mostInTime_24 rfl (lv_at hl 1 rfl) ?_
        refine cSp (As := [.int y4_1]) (rest := [.int r_34158]) S Y (x_bitCount (l := l) ) cw_X106_bitCount_0f7a4 km0_42 rfl ⟨Nat.le_of_ble_eq_true rfl, Nat.le_of_ble_eq_true rfl⟩ hl.1 rfl (Nat.le_of_ble_eq_true rfl) ⟨Nat.le_of_ble_eq_true rfl, Nat.le_of_ble_eq_true rfl⟩ dX0_mostInTime_25 (fun r_34159 H locs er_34159 Y => ?_)
        refine lv_icmp_le (tgt := 41) hx hb dX0_mostInTime_28 (by decide) (fun c_34160 => ?_) (fun c_34160 => ?_)
        · obtain ⟨x_34163, ex_34163⟩ : ∃ z : Int32, z = y4_2 + 1 := ⟨_, rfl⟩
          refine lv_iinc (v := x_34163) (lv' := [(2, .int x_34163), (0, .ref (ad 8 0)), (1, .int y4_1)]) hx hb dX0_mostInTime_41 hl (k := 2) rfl (by rw [ex_34163]; rfl) (by decide) rfl (fun ls hl => ?_)
          refine lv_goto (tgt := 4) hx hb dX0_mostInTime_44 (by decide) ?_
          exact ih4 _ (by rw [← hm4]; exact ms_up (m := 1) ex_34163 (show bn 1 1 (1 : Int32) from bn_k (by decide)) B_34157 (bn_w (bn_eq ex_34163 (bn_add B_34157 (show bn 1 1 (1 : Int32) from bn_k (by decide)) (by decide))) (by decide) : bn 1 299 x_34163) (by decide)) y4_1 x_34163  _ _ _  (bn_w b_y4_1 (by decide)) (bn_w (bn_eq ex_34163 (bn_add B_34157 (show bn 1 1 (1 : Int32) from bn_k (by decide)) (by decide))) (by decide)) rfl Y (lv_sub hl [1, 2, 0] rfl)
        · have B_34161 : bn (-2147483647) 2147483647 r_34158 := bn_w (bn_gtl c_34160 (bn_any r_34158) (bn_any r_34159)) (by decide)
          have B_34162 : bn (-2147483648) 2147483646 r_34159 := bn_w (bn_gtr c_34160 (bn_any r_34158) (bn_any r_34159)) (by decide)
          refine lv_aload_n hx hb dX0_mostInTime_31 rfl (lv_at hl 0 rfl) ?_
          refine lv_iload_n hx hb dX0_mostInTime_32 rfl (lv_at hl 2 rfl) ?_
          refine cVp (As := [.int y4_2]) (rest := []) S Y (x_X0_isInTime (l := l) I hW hT hQ) cw_X0_isInTime km0_65 p_ad_8_0 ok_X0.1 rfl rfl ⟨Nat.le_of_ble_eq_true rfl, Nat.le_of_ble_eq_true rfl⟩ hl.1 rfl (Nat.le_of_ble_eq_true rfl) ⟨Nat.le_of_ble_eq_true rfl, Nat.le_of_ble_eq_true rfl⟩ dX0_mostInTime_33 (fun r_34164 H locs er_34164 Y => ?_)
          refine lv_if_eq (tgt := 41) hx hb dX0_mostInTime_36 (by decide) (fun c_34165 => ?_) (fun c_34165 => ?_)
          · have B_34166 : bn 0 0 r_34164 := bn_w (bn_eq c_34165 (show bn 0 0 (0 : Int32) from bn_k (by decide))) (by decide)
            obtain ⟨x_34168, ex_34168⟩ : ∃ z : Int32, z = y4_2 + 1 := ⟨_, rfl⟩
            refine lv_iinc (v := x_34168) (lv' := [(2, .int x_34168), (0, .ref (ad 8 0)), (1, .int y4_1)]) hx hb dX0_mostInTime_41 hl (k := 2) rfl (by rw [ex_34168]; rfl) (by decide) rfl (fun ls hl => ?_)
            refine lv_goto (tgt := 4) hx hb dX0_mostInTime_44 (by decide) ?_
            exact ih4 _ (by rw [← hm4]; exact ms_up (m := 1) ex_34168 (show bn 1 1 (1 : Int32) from bn_k (by decide)) B_34157 (bn_w (bn_eq ex_34168 (bn_add B_34157 (show bn 1 1 (1 : Int32) from bn_k (by decide)) (by decide))) (by decide) : bn 1 299 x_34168) (by decide)) y4_1 x_34168  _ _ _  (bn_w b_y4_1 (by decide)) (bn_w (bn_eq ex_34168 (bn_add B_34157 (show bn 1 1 (1 : Int32) from bn_k (by decide)) (by decide))) (by decide)) rfl Y (lv_sub hl [1, 2, 0] rfl)
          · have B_34167 : bn 1 1 r_34164 := bn_w (bn_nel c_34165 er_34164 (show bn 0 0 (0 : Int32) from bn_k (by decide))) (by decide)
            refine lv_iload_n hx hb dX0_mostInTime_39 rfl (lv_at hl 2 rfl) ?_
            refine lv_istore_n (lv' := [(1, .int y4_2), (0, .ref (ad 8 0)), (2, .int y4_2)]) hx hb dX0_mostInTime_40 rfl hl (by decide) rfl (fun ls hl => ?_)
            obtain ⟨x_34169, ex_34169⟩ : ∃ z : Int32, z = y4_2 + 1 := ⟨_, rfl⟩
            refine lv_iinc (v := x_34169) (lv' := [(2, .int x_34169), (1, .int y4_2), (0, .ref (ad 8 0))]) hx hb dX0_mostInTime_41 hl (k := 2) rfl (by rw [ex_34169]; rfl) (by decide) rfl (fun ls hl => ?_)
            refine lv_goto (tgt := 4) hx hb dX0_mostInTime_44 (by decide) ?_
            exact ih4 _ (by rw [← hm4]; exact ms_up (m := 1) ex_34169 (show bn 1 1 (1 : Int32) from bn_k (by decide)) B_34157 (bn_w (bn_eq ex_34169 (bn_add B_34157 (show bn 1 1 (1 : Int32) from bn_k (by decide)) (by decide))) (by decide) : bn 1 299 x_34169) (by decide)) y4_2 x_34169  _ _ _  (bn_w B_34157 (by decide)) (bn_w (bn_eq ex_34169 (bn_add B_34157 (show bn 1 1 (1 : Int32) from bn_k (by decide)) (by decide))) (by decide)) rfl Y (lv_sub hl [2, 1, 0] rfl)
  refine lv_iconst (v := 0) hx hb dX0_mostInTime_0 (by decide) ?_
  refine lv_istore_n (lv' := [(1, .int 0), (0, .ref (ad 8 0))]) hx hb dX0_mostInTime_1 rfl hl (by decide) rfl (fun ls hl => ?_)
  refine lv_iconst (v := 1) hx hb dX0_mostInTime_2 (by decide) ?_
  refine lv_istore_n (lv' := [(2, .int 1), (1, .int 0), (0, .ref (ad 8 0))]) hx hb dX0_mostInTime_3 rfl hl (by decide) rfl (fun ls hl => ?_)
  exact J_4 _ 0 1  _ _ _  (bn_w (show bn 0 0 (0 : Int32) from bn_k (by decide)) (by decide)) (bn_w (show bn 1 1 (1 : Int32) from bn_k (by decide)) (by decide)) rfl Y (lv_sub hl [2, 1, 0] rfl)
set_option maxHeartbeats 4000000 in
set_option maxRecDepth 100000 in
theorem x_X0_seesAll {l : Launch} {G : GG}  {L : List Nat} {f : HF} {ad : Nat → Nat → Nat} {rs : FS} {fc : Int × Int} {tc w : Nat → Int × Int} {q : Nat → (Nat → Int32) → Prop} {i1 : Int32} (I : SH (spC rs fc tc w q) nnC G ad L f) (hW : WBp w 8) (hT : WBp tc 4) (hQ : QIp q) : PMp l yX0_seesAll cX0_seesAll 5 .boolean 3 0 0 G [.ref (ad 8 0), .int i1] L f (fun r => bn 0 1 r) := by
  refine PMi.of (post := fun r L1 f1 => (bn 0 1 r) ∧ L1 = L ∧ f1 = f) (own := RX0) (by decide) rfl (Nat.le_of_ble_eq_true rfl) (fun sz p e s m args below meth c A ls hA1 hname S Y hl => ?_)
  have hx := S.hx
  have hb := S.hb
  have hl : lv_has ls 5 [(0, .ref (ad 8 0)), (1, .int i1)] := hl
  have J_10 : ∀ (n10 : Nat) (y10_3 : Int32) (H : Heap) (locs : List Loc) (ls : Array Slot), (bn 0 14 y10_3) → (((14 : Int) - y10_3.toInt).toNat = n10) → (DY G A s [] L f H locs) → (lv_has ls 5 [(0, .ref (ad 8 0)), (1, .int i1), (2, .ref (ad 10 0)), (3, .int y10_3)]) → W p l e (rmD 3 0 0) s m args below meth c H locs (0) (0) (MQ below (va_Qi (fun r (u : List Nat × HF) => (fun r L1 f1 => (bn 0 1 r) ∧ L1 = L ∧ f1 = f) r u.1 u.2) (fun u t => pOut G (va_A (va_pl L f) sz) u.1 u.2 t) (va_A (va_pl L f) sz)) args s 0 0 A) (F0 m 10 ls []) := by
    intro n10
    induction n10 using Nat.strongRecOn with
    | _ n10 ih10 =>
      intro y10_3 H locs ls b_y10_3 hm10 Y hl
      refine lv_iload_n hx hb dX0_seesAll_10 rfl (lv_at hl 3 rfl) ?_
      refine lv_aload_n hx hb dX0_seesAll_11 rfl (lv_at hl 2 rfl) ?_
      obtain ⟨v_34568, v_34570, v_34572, v_34574, v_34576, p_ad_10_0, b_34569, b_34571, b_34573, b_34575, b_34577⟩ := opnC_10 (j := 0) I (by decide)
      have p_ad_10_0 : pt L f (ad 10 0) (.inr (4, [.ref (ad 11 0), .ref (ad 12 0), .int v_34568, .int v_34570, .int v_34572, .int v_34574, .int v_34576])) := p_ad_10_0
      refine pg_getN S Y ok_X4 2 (by decide) kf0_28 (v := .int v_34568) p_ad_10_0 rfl dX0_seesAll_12 ?_
      refine lv_icmp_ge (tgt := 60) hx hb dX0_seesAll_15 (by decide) (fun c_34578 => ?_) (fun c_34578 => ?_)
      · refine lv_iconst (v := 1) hx hb dX0_seesAll_60 (by decide) ?_
        exact prI (post := fun r L1 f1 => (bn 0 1 r) ∧ L1 = L ∧ f1 = f) S Y rfl (by decide) (by decide) hA1 ⟨bn_w (show bn 1 1 (1 : Int32) from bn_k (by decide)) (by decide), rfl, rfl⟩ dX0_seesAll_61
      · have B_34579 : bn 1 14 v_34568 := bn_w (bn_gtl c_34578 b_34569 b_y10_3) (by decide)
        have B_34580 : bn 0 13 y10_3 := bn_w (bn_gtr c_34578 b_34569 b_y10_3) (by decide)
        refine lv_iconst (v := 1) hx hb dX0_seesAll_18 (by decide) ?_
        refine lv_aload_n hx hb dX0_seesAll_19 rfl (lv_at hl 2 rfl) ?_
        refine lv_iload_n hx hb dX0_seesAll_20 rfl (lv_at hl 3 rfl) ?_
        refine lv_iconst (v := 0) hx hb dX0_seesAll_21 (by decide) ?_
        refine cVp (As := [.int y10_3, .int 0]) (rest := [.int 1]) S Y (x_X4_get (l := l) (j := 0) I hW hT hQ (by decide)) cw_X4_get km0_34 p_ad_10_0 ok_X4.1 rfl rfl ⟨Nat.le_of_ble_eq_true rfl, Nat.le_of_ble_eq_true rfl⟩ hl.1 rfl (Nat.le_of_ble_eq_true rfl) ⟨Nat.le_of_ble_eq_true rfl, Nat.le_of_ble_eq_true rfl⟩ dX0_seesAll_22 (fun r_34581 H locs er_34581 Y => ?_)
        refine lv_ishl hx hb dX0_seesAll_25 ?_
        refine lv_topi (fun x_34582 ex_34582 => ?_)
        refine lv_iconst (v := 1) hx hb dX0_seesAll_26 (by decide) ?_
        refine lv_aload_n hx hb dX0_seesAll_27 rfl (lv_at hl 2 rfl) ?_
        refine lv_iload_n hx hb dX0_seesAll_28 rfl (lv_at hl 3 rfl) ?_
        refine lv_iconst (v := 1) hx hb dX0_seesAll_29 (by decide) ?_
        refine cVp (As := [.int y10_3, .int 1]) (rest := [.int 1, .int x_34582]) S Y (x_X4_get (l := l) (j := 0) I hW hT hQ (by decide)) cw_X4_get km0_34 p_ad_10_0 ok_X4.1 rfl rfl ⟨Nat.le_of_ble_eq_true rfl, Nat.le_of_ble_eq_true rfl⟩ hl.1 rfl (Nat.le_of_ble_eq_true rfl) ⟨Nat.le_of_ble_eq_true rfl, Nat.le_of_ble_eq_true rfl⟩ dX0_seesAll_30 (fun r_34583 H locs er_34583 Y => ?_)
        refine lv_ishl hx hb dX0_seesAll_33 ?_
        refine lv_topi (fun x_34584 ex_34584 => ?_)
        refine lv_ior hx hb dX0_seesAll_34 ?_
        refine lv_topi (fun x_34585 ex_34585 => ?_)
        refine lv_istore (lv' := [(4, .int x_34585), (0, .ref (ad 8 0)), (1, .int i1), (2, .ref (ad 10 0)), (3, .int y10_3)]) hx hb dX0_seesAll_35 hl (by decide) rfl (fun ls hl => ?_)
        refine lv_aload_n hx hb dX0_seesAll_37 rfl (lv_at hl 3 rfl) ?_
        refine lv_iload_n hx hb dX0_seesAll_38 rfl (lv_at hl 4 rfl) ?_
        refine cVp (As := [.int y10_3]) (rest := []) S Y (x_X4_legible (l := l) (j := 0) I hW hT hQ (by decide)) cw_X4_legible km0_78 p_ad_10_0 ok_X4.1 rfl rfl ⟨Nat.le_of_ble_eq_true rfl, Nat.le_of_ble_eq_true rfl⟩ hl.1 rfl (Nat.le_of_ble_eq_true rfl) ⟨Nat.le_of_ble_eq_true rfl, Nat.le_of_ble_eq_true rfl⟩ dX0_seesAll_39 (fun r_34586 H locs er_34586 Y => ?_)
        refine lv_if_eq (tgt := 54) hx hb dX0_seesAll_42 (by decide) (fun c_34587 => ?_) (fun c_34587 => ?_)
        · have B_34588 : bn 0 0 r_34586 := bn_w (bn_eq c_34587 (show bn 0 0 (0 : Int32) from bn_k (by decide))) (by decide)
          obtain ⟨x_34590, ex_34590⟩ : ∃ z : Int32, z = y10_3 + 1 := ⟨_, rfl⟩
          refine lv_iinc (v := x_34590) (lv' := [(3, .int x_34590), (4, .int x_34585), (0, .ref (ad 8 0)), (1, .int i1), (2, .ref (ad 10 0))]) hx hb dX0_seesAll_54 hl (k := 4) rfl (by rw [ex_34590]; rfl) (by decide) rfl (fun ls hl => ?_)
          refine lv_goto (tgt := 10) hx hb dX0_seesAll_57 (by decide) ?_
          exact ih10 _ (by rw [← hm10]; exact ms_up (m := 1) ex_34590 (show bn 1 1 (1 : Int32) from bn_k (by decide)) B_34580 (bn_w (bn_eq ex_34590 (bn_add B_34580 (show bn 1 1 (1 : Int32) from bn_k (by decide)) (by decide))) (by decide) : bn 0 14 x_34590) (by decide)) x_34590  _ _ _  (bn_w (bn_eq ex_34590 (bn_add B_34580 (show bn 1 1 (1 : Int32) from bn_k (by decide)) (by decide))) (by decide)) rfl Y (lv_sub hl [2, 3, 4, 0] rfl)
        · have B_34589 : bn 1 1 r_34586 := bn_w (bn_nel c_34587 er_34586 (show bn 0 0 (0 : Int32) from bn_k (by decide))) (by decide)
          refine lv_iload_n hx hb dX0_seesAll_45 rfl (lv_at hl 2 rfl) ?_
          refine lv_iload hx hb dX0_seesAll_46 (lv_at hl 0 rfl) ?_
          refine lv_iand hx hb dX0_seesAll_48 ?_
          refine lv_topi (fun x_34591 ex_34591 => ?_)
          refine lv_if_ne (tgt := 54) hx hb dX0_seesAll_49 (by decide) (fun c_34592 => ?_) (fun c_34592 => ?_)
          · obtain ⟨x_34594, ex_34594⟩ : ∃ z : Int32, z = y10_3 + 1 := ⟨_, rfl⟩
            refine lv_iinc (v := x_34594) (lv' := [(3, .int x_34594), (4, .int x_34585), (0, .ref (ad 8 0)), (1, .int i1), (2, .ref (ad 10 0))]) hx hb dX0_seesAll_54 hl (k := 4) rfl (by rw [ex_34594]; rfl) (by decide) rfl (fun ls hl => ?_)
            refine lv_goto (tgt := 10) hx hb dX0_seesAll_57 (by decide) ?_
            exact ih10 _ (by rw [← hm10]; exact ms_up (m := 1) ex_34594 (show bn 1 1 (1 : Int32) from bn_k (by decide)) B_34580 (bn_w (bn_eq ex_34594 (bn_add B_34580 (show bn 1 1 (1 : Int32) from bn_k (by decide)) (by decide))) (by decide) : bn 0 14 x_34594) (by decide)) x_34594  _ _ _  (bn_w (bn_eq ex_34594 (bn_add B_34580 (show bn 1 1 (1 : Int32) from bn_k (by decide)) (by decide))) (by decide)) rfl Y (lv_sub hl [2, 3, 4, 0] rfl)
          · have B_34593 : bn 0 0 x_34591 := bn_w (bn_eq c_34592 (show bn 0 0 (0 : Int32) from bn_k (by decide))) (by decide)
            refine lv_iconst (v := 0) hx hb dX0_seesAll_52 (by decide) ?_
            exact prI (post := fun r L1 f1 => (bn 0 1 r) ∧ L1 = L ∧ f1 = f) S Y rfl (by decide) (by decide) hA1 ⟨bn_w (show bn 0 0 (0 : Int32) from bn_k (by decide)) (by decide), rfl, rfl⟩ dX0_seesAll_53
  refine lv_aload_n hx hb dX0_seesAll_0 rfl (lv_at hl 0 rfl) ?_
  have p_ad_8_0 := opnC_8 (j := 0) I (by decide)
  have p_ad_8_0 : pt L f (ad 8 0) (.inr (0, [.ref (ad 1 0), .ref (ad 60 0), .ref (ad 61 0)])) := p_ad_8_0
  refine pg_get S Y ok_X0 0 (by decide) kf0_18 (v := .ref (ad 1 0)) p_ad_8_0 rfl dX0_seesAll_1 ?_
  obtain ⟨v_34595, v_34597, v_34599, v_34601, v_34603, p_ad_1_0, b_34596, b_34598, b_34600, b_34602, b_34604⟩ := opnC_1 (j := 0) I (by decide)
  have p_ad_1_0 : pt L f (ad 1 0) (.inr (10, [.ref (ad 40 0), .ref (ad 41 0), .ref (ad 42 0), .ref (ad 10 0), .ref (ad 43 0), .ref (ad 20 0), .ref (ad 20 1), .ref (ad 20 2), .ref (ad 20 3), .ref (ad 20 4), .int v_34595, .int v_34597, .int v_34599, .int v_34601, .int v_34603])) := p_ad_1_0
  refine pg_getN S Y ok_X10 3 (by decide) kf0_22 (v := .ref (ad 10 0)) p_ad_1_0 rfl dX0_seesAll_4 ?_
  refine lv_astore_n (lv' := [(2, .ref (ad 10 0)), (0, .ref (ad 8 0)), (1, .int i1)]) hx hb dX0_seesAll_7 rfl hl (by decide) rfl (fun ls hl => ?_)
  refine lv_iconst (v := 0) hx hb dX0_seesAll_8 (by decide) ?_
  refine lv_istore_n (lv' := [(3, .int 0), (2, .ref (ad 10 0)), (0, .ref (ad 8 0)), (1, .int i1)]) hx hb dX0_seesAll_9 rfl hl (by decide) rfl (fun ls hl => ?_)
  exact J_10 _ 0  _ _ _  (bn_w (show bn 0 0 (0 : Int32) from bn_k (by decide)) (by decide)) rfl Y (lv_sub hl [2, 3, 1, 0] rfl)
set_option maxHeartbeats 4000000 in
set_option maxRecDepth 100000 in
theorem x_X0_fewestAsked {l : Launch} {G : GG}  {L : List Nat} {f : HF} {ad : Nat → Nat → Nat} {rs : FS} {fc : Int × Int} {tc w : Nat → Int × Int} {q : Nat → (Nat → Int32) → Prop} (I : SH (spC rs fc tc w q) nnC G ad L f) (hW : WBp w 8) (hT : WBp tc 4) (hQ : QIp q) : PMp l yX0_fewestAsked cX0_fewestAsked 3 .int 4 0 0 G [.ref (ad 8 0)] L f (fun r => True) := by
  refine PMi.of (post := fun r L1 f1 => (True) ∧ L1 = L ∧ f1 = f) (own := RX0) (by decide) rfl (Nat.le_of_ble_eq_true rfl) (fun sz p e s m args below meth c A ls hA1 hname S Y hl => ?_)
  have hx := S.hx
  have hb := S.hb
  have hl : lv_has ls 3 [(0, .ref (ad 8 0))] := hl
  have J_14 : ∀ (n14 : Nat) (y14_1 y14_2 : Int32) (H : Heap) (locs : List Loc) (ls : Array Slot), (bn 0 63 y14_1) → (bn 0 64 y14_2) → (((64 : Int) - y14_2.toInt).toNat = n14) → (DY G A s [] L f H locs) → (lv_has ls 3 [(0, .ref (ad 8 0)), (1, .int y14_1), (2, .int y14_2)]) → W p l e (rmD 4 0 0) s m args below meth c H locs (0) (0) (MQ below (va_Qi (fun r (u : List Nat × HF) => (fun r L1 f1 => (True) ∧ L1 = L ∧ f1 = f) r u.1 u.2) (fun u t => pOut G (va_A (va_pl L f) sz) u.1 u.2 t) (va_A (va_pl L f) sz)) args s 0 0 A) (F0 m 14 ls []) := by
    intro n14
    induction n14 using Nat.strongRecOn with
    | _ n14 ih14 =>
      intro y14_1 y14_2 H locs ls b_y14_1 b_y14_2 hm14 Y hl
      refine lv_iload_n hx hb dX0_fewestAsked_14 rfl (lv_at hl 2 rfl) ?_
      refine lv_iconst (v := 1) hx hb dX0_fewestAsked_15 (by decide) ?_
      refine lv_aload_n hx hb dX0_fewestAsked_16 rfl (lv_at hl 0 rfl) ?_
      have p_ad_8_0 := opnC_8 (j := 0) I (by decide)
      have p_ad_8_0 : pt L f (ad 8 0) (.inr (0, [.ref (ad 1 0), .ref (ad 60 0), .ref (ad 61 0)])) := p_ad_8_0
      refine pg_get S Y ok_X0 0 (by decide) kf0_18 (v := .ref (ad 1 0)) p_ad_8_0 rfl dX0_fewestAsked_17 ?_
      obtain ⟨v_35380, v_35382, v_35384, v_35386, v_35388, p_ad_1_0, b_35381, b_35383, b_35385, b_35387, b_35389⟩ := opnC_1 (j := 0) I (by decide)
      have p_ad_1_0 : pt L f (ad 1 0) (.inr (10, [.ref (ad 40 0), .ref (ad 41 0), .ref (ad 42 0), .ref (ad 10 0), .ref (ad 43 0), .ref (ad 20 0), .ref (ad 20 1), .ref (ad 20 2), .ref (ad 20 3), .ref (ad 20 4), .int v_35380, .int v_35382, .int v_35384, .int v_35386, .int v_35388])) := p_ad_1_0
      refine pg_getN S Y ok_X10 10 (by decide) kf0_72 (v := .int v_35380) p_ad_1_0 rfl dX0_fewestAsked_20 ?_
      refine lv_ishl hx hb dX0_fewestAsked_23 ?_
      refine lv_topi (fun x_35390 ex_35390 => ?_)
      refine lv_icmp_ge (tgt := 54) hx hb dX0_fewestAsked_24 (by decide) (fun c_35391 => ?_) (fun c_35391 => ?_)
      · have B_35392 : bn 1 64 y14_2 := bn_w (bn_ler c_35391 (bn_eq ex_35390 (bn_shl (n := 6) (bn_w b_35381 (by decide) : bn 0 6 v_35380) (by decide) (by decide))) b_y14_2) (by decide)
        refine lv_iload_n hx hb dX0_fewestAsked_54 rfl (lv_at hl 1 rfl) ?_
        exact prI (post := fun r L1 f1 => (True) ∧ L1 = L ∧ f1 = f) S Y rfl (by decide) (by decide) hA1 ⟨trivial, rfl, rfl⟩ dX0_fewestAsked_55
      · have B_35393 : bn 0 63 y14_2 := bn_w (bn_gtr c_35391 (bn_eq ex_35390 (bn_shl (n := 6) (bn_w b_35381 (by decide) : bn 0 6 v_35380) (by decide) (by decide))) b_y14_2) (by decide)
        refine lv_iload_n hx hb dX0_fewestAsked_27 rfl (lv_at hl 2 rfl) ?_
        refine cSp (As := [.int y14_2]) (rest := []) S Y (x_bitCount (l := l) ) cw_X106_bitCount_0f7a4 km0_42 rfl ⟨Nat.le_of_ble_eq_true rfl, Nat.le_of_ble_eq_true rfl⟩ hl.1 rfl (Nat.le_of_ble_eq_true rfl) ⟨Nat.le_of_ble_eq_true rfl, Nat.le_of_ble_eq_true rfl⟩ dX0_fewestAsked_28 (fun r_35394 H locs er_35394 Y => ?_)
        refine lv_iload_n hx hb dX0_fewestAsked_31 rfl (lv_at hl 1 rfl) ?_
        refine cSp (As := [.int y14_1]) (rest := [.int r_35394]) S Y (x_bitCount (l := l) ) cw_X106_bitCount_0f7a4 km0_42 rfl ⟨Nat.le_of_ble_eq_true rfl, Nat.le_of_ble_eq_true rfl⟩ hl.1 rfl (Nat.le_of_ble_eq_true rfl) ⟨Nat.le_of_ble_eq_true rfl, Nat.le_of_ble_eq_true rfl⟩ dX0_fewestAsked_32 (fun r_35395 H locs er_35395 Y => ?_)
        refine lv_icmp_ge (tgt := 48) hx hb dX0_fewestAsked_35 (by decide) (fun c_35396 => ?_) (fun c_35396 => ?_)
        · obtain ⟨x_35399, ex_35399⟩ : ∃ z : Int32, z = y14_2 + 1 := ⟨_, rfl⟩
          refine lv_iinc (v := x_35399) (lv' := [(2, .int x_35399), (0, .ref (ad 8 0)), (1, .int y14_1)]) hx hb dX0_fewestAsked_48 hl (k := 2) rfl (by rw [ex_35399]; rfl) (by decide) rfl (fun ls hl => ?_)
          refine lv_goto (tgt := 14) hx hb dX0_fewestAsked_51 (by decide) ?_
          exact ih14 _ (by rw [← hm14]; exact ms_up (m := 1) ex_35399 (show bn 1 1 (1 : Int32) from bn_k (by decide)) B_35393 (bn_w (bn_eq ex_35399 (bn_add B_35393 (show bn 1 1 (1 : Int32) from bn_k (by decide)) (by decide))) (by decide) : bn 0 64 x_35399) (by decide)) y14_1 x_35399  _ _ _  (bn_w b_y14_1 (by decide)) (bn_w (bn_eq ex_35399 (bn_add B_35393 (show bn 1 1 (1 : Int32) from bn_k (by decide)) (by decide))) (by decide)) rfl Y (lv_sub hl [1, 2, 0] rfl)
        · have B_35397 : bn (-2147483647) 2147483647 r_35395 := bn_w (bn_gtl c_35396 (bn_any r_35395) (bn_any r_35394)) (by decide)
          have B_35398 : bn (-2147483648) 2147483646 r_35394 := bn_w (bn_gtr c_35396 (bn_any r_35395) (bn_any r_35394)) (by decide)
          refine lv_aload_n hx hb dX0_fewestAsked_38 rfl (lv_at hl 0 rfl) ?_
          refine lv_iload_n hx hb dX0_fewestAsked_39 rfl (lv_at hl 2 rfl) ?_
          refine cVp (As := [.int y14_2]) (rest := []) S Y (x_X0_seesAll (l := l) I hW hT hQ) cw_X0_seesAll km0_75 p_ad_8_0 ok_X0.1 rfl rfl ⟨Nat.le_of_ble_eq_true rfl, Nat.le_of_ble_eq_true rfl⟩ hl.1 rfl (Nat.le_of_ble_eq_true rfl) ⟨Nat.le_of_ble_eq_true rfl, Nat.le_of_ble_eq_true rfl⟩ dX0_fewestAsked_40 (fun r_35400 H locs er_35400 Y => ?_)
          refine lv_if_eq (tgt := 48) hx hb dX0_fewestAsked_43 (by decide) (fun c_35401 => ?_) (fun c_35401 => ?_)
          · have B_35402 : bn 0 0 r_35400 := bn_w (bn_eq c_35401 (show bn 0 0 (0 : Int32) from bn_k (by decide))) (by decide)
            obtain ⟨x_35404, ex_35404⟩ : ∃ z : Int32, z = y14_2 + 1 := ⟨_, rfl⟩
            refine lv_iinc (v := x_35404) (lv' := [(2, .int x_35404), (0, .ref (ad 8 0)), (1, .int y14_1)]) hx hb dX0_fewestAsked_48 hl (k := 2) rfl (by rw [ex_35404]; rfl) (by decide) rfl (fun ls hl => ?_)
            refine lv_goto (tgt := 14) hx hb dX0_fewestAsked_51 (by decide) ?_
            exact ih14 _ (by rw [← hm14]; exact ms_up (m := 1) ex_35404 (show bn 1 1 (1 : Int32) from bn_k (by decide)) B_35393 (bn_w (bn_eq ex_35404 (bn_add B_35393 (show bn 1 1 (1 : Int32) from bn_k (by decide)) (by decide))) (by decide) : bn 0 64 x_35404) (by decide)) y14_1 x_35404  _ _ _  (bn_w b_y14_1 (by decide)) (bn_w (bn_eq ex_35404 (bn_add B_35393 (show bn 1 1 (1 : Int32) from bn_k (by decide)) (by decide))) (by decide)) rfl Y (lv_sub hl [1, 2, 0] rfl)
          · have B_35403 : bn 1 1 r_35400 := bn_w (bn_nel c_35401 er_35400 (show bn 0 0 (0 : Int32) from bn_k (by decide))) (by decide)
            refine lv_iload_n hx hb dX0_fewestAsked_46 rfl (lv_at hl 2 rfl) ?_
            refine lv_istore_n (lv' := [(1, .int y14_2), (0, .ref (ad 8 0)), (2, .int y14_2)]) hx hb dX0_fewestAsked_47 rfl hl (by decide) rfl (fun ls hl => ?_)
            obtain ⟨x_35405, ex_35405⟩ : ∃ z : Int32, z = y14_2 + 1 := ⟨_, rfl⟩
            refine lv_iinc (v := x_35405) (lv' := [(2, .int x_35405), (1, .int y14_2), (0, .ref (ad 8 0))]) hx hb dX0_fewestAsked_48 hl (k := 2) rfl (by rw [ex_35405]; rfl) (by decide) rfl (fun ls hl => ?_)
            refine lv_goto (tgt := 14) hx hb dX0_fewestAsked_51 (by decide) ?_
            exact ih14 _ (by rw [← hm14]; exact ms_up (m := 1) ex_35405 (show bn 1 1 (1 : Int32) from bn_k (by decide)) B_35393 (bn_w (bn_eq ex_35405 (bn_add B_35393 (show bn 1 1 (1 : Int32) from bn_k (by decide)) (by decide))) (by decide) : bn 0 64 x_35405) (by decide)) y14_2 x_35405  _ _ _  (bn_w B_35393 (by decide)) (bn_w (bn_eq ex_35405 (bn_add B_35393 (show bn 1 1 (1 : Int32) from bn_k (by decide)) (by decide))) (by decide)) rfl Y (lv_sub hl [2, 1, 0] rfl)
  refine lv_iconst (v := 1) hx hb dX0_fewestAsked_0 (by decide) ?_
  refine lv_aload_n hx hb dX0_fewestAsked_1 rfl (lv_at hl 0 rfl) ?_
  have p_ad_8_0 := opnC_8 (j := 0) I (by decide)
  have p_ad_8_0 : pt L f (ad 8 0) (.inr (0, [.ref (ad 1 0), .ref (ad 60 0), .ref (ad 61 0)])) := p_ad_8_0
  refine pg_get S Y ok_X0 0 (by decide) kf0_18 (v := .ref (ad 1 0)) p_ad_8_0 rfl dX0_fewestAsked_2 ?_
  obtain ⟨v_35406, v_35408, v_35410, v_35412, v_35414, p_ad_1_0, b_35407, b_35409, b_35411, b_35413, b_35415⟩ := opnC_1 (j := 0) I (by decide)
  have p_ad_1_0 : pt L f (ad 1 0) (.inr (10, [.ref (ad 40 0), .ref (ad 41 0), .ref (ad 42 0), .ref (ad 10 0), .ref (ad 43 0), .ref (ad 20 0), .ref (ad 20 1), .ref (ad 20 2), .ref (ad 20 3), .ref (ad 20 4), .int v_35406, .int v_35408, .int v_35410, .int v_35412, .int v_35414])) := p_ad_1_0
  refine pg_getN S Y ok_X10 10 (by decide) kf0_72 (v := .int v_35406) p_ad_1_0 rfl dX0_fewestAsked_5 ?_
  refine lv_ishl hx hb dX0_fewestAsked_8 ?_
  refine lv_topi (fun x_35416 ex_35416 => ?_)
  refine lv_iconst (v := 1) hx hb dX0_fewestAsked_9 (by decide) ?_
  refine lv_isub hx hb dX0_fewestAsked_10 ?_
  refine lv_topi (fun x_35417 ex_35417 => ?_)
  refine lv_istore_n (lv' := [(1, .int x_35417), (0, .ref (ad 8 0))]) hx hb dX0_fewestAsked_11 rfl hl (by decide) rfl (fun ls hl => ?_)
  refine lv_iconst (v := 0) hx hb dX0_fewestAsked_12 (by decide) ?_
  refine lv_istore_n (lv' := [(2, .int 0), (1, .int x_35417), (0, .ref (ad 8 0))]) hx hb dX0_fewestAsked_13 rfl hl (by decide) rfl (fun ls hl => ?_)
  exact J_14 _ x_35417 0  _ _ _  (bn_w (bn_eq ex_35417 (bn_sub (bn_eq ex_35416 (bn_shl (n := 6) (bn_w b_35407 (by decide) : bn 0 6 v_35406) (by decide) (by decide))) (show bn 1 1 (1 : Int32) from bn_k (by decide)) (by decide))) (by decide)) (bn_w (show bn 0 0 (0 : Int32) from bn_k (by decide)) (by decide)) rfl Y (lv_sub hl [2, 1, 0] rfl)
set_option maxHeartbeats 4000000 in
set_option maxRecDepth 100000 in
theorem x_X0_wordsOf {l : Launch} {G : GG}  {L : List Nat} {f : HF} {ad : Nat → Nat → Nat} {rs : FS} {fc : Int × Int} {tc w : Nat → Int × Int} {q : Nat → (Nat → Int32) → Prop} {i1 : Int32} (I : SH (spC rs fc tc w q) nnC G ad L f) (hW : WBp w 8) (hT : WBp tc 4) (hQ : QIp q) : PMp l yX0_wordsOf cX0_wordsOf 7 .int 3 0 0 G [.ref (ad 8 0), .int i1] L f (fun r => True) := by
  refine PMi.of (post := fun r L1 f1 => (True) ∧ L1 = L ∧ f1 = f) (own := RX0) (by decide) rfl (Nat.le_of_ble_eq_true rfl) (fun sz p e s m args below meth c A ls hA1 hname S Y hl => ?_)
  have hx := S.hx
  have hb := S.hb
  have hl : lv_has ls 7 [(0, .ref (ad 8 0)), (1, .int i1)] := hl
  have J_77 : ∀ (n77 : Nat) (y77_3 y77_4 y77_5 : Int32) (H : Heap) (locs : List Loc) (ls : Array Slot), (bn 0 16383 y77_4) → (bn 0 14 y77_5) → (((14 : Int) - y77_5.toInt).toNat = n77) → (DY G A s [] L f H locs) → (lv_has ls 7 [(0, .ref (ad 8 0)), (1, .int i1), (2, .ref (ad 10 0)), (3, .int y77_3), (4, .int y77_4), (5, .int y77_5)]) → W p l e (rmD 3 0 0) s m args below meth c H locs (0) (0) (MQ below (va_Qi (fun r (u : List Nat × HF) => (fun r L1 f1 => (True) ∧ L1 = L ∧ f1 = f) r u.1 u.2) (fun u t => pOut G (va_A (va_pl L f) sz) u.1 u.2 t) (va_A (va_pl L f) sz)) args s 0 0 A) (F0 m 77 ls []) := by
    intro n77
    induction n77 using Nat.strongRecOn with
    | _ n77 ih77 =>
      intro y77_3 y77_4 y77_5 H locs ls b_y77_4 b_y77_5 hm77 Y hl
      refine lv_iload hx hb dX0_wordsOf_77 (lv_at hl 5 rfl) ?_
      refine lv_aload_n hx hb dX0_wordsOf_79 rfl (lv_at hl 2 rfl) ?_
      obtain ⟨v_36198, v_36200, v_36202, v_36204, v_36206, p_ad_10_0, b_36199, b_36201, b_36203, b_36205, b_36207⟩ := opnC_10 (j := 0) I (by decide)
      have p_ad_10_0 : pt L f (ad 10 0) (.inr (4, [.ref (ad 11 0), .ref (ad 12 0), .int v_36198, .int v_36200, .int v_36202, .int v_36204, .int v_36206])) := p_ad_10_0
      refine pg_getN S Y ok_X4 2 (by decide) kf0_28 (v := .int v_36198) p_ad_10_0 rfl dX0_wordsOf_80 ?_
      refine lv_icmp_ge (tgt := 147) hx hb dX0_wordsOf_83 (by decide) (fun c_36208 => ?_) (fun c_36208 => ?_)
      · refine lv_iload hx hb dX0_wordsOf_147 (lv_at hl 4 rfl) ?_
        exact prI (post := fun r L1 f1 => (True) ∧ L1 = L ∧ f1 = f) S Y rfl (by decide) (by decide) hA1 ⟨trivial, rfl, rfl⟩ dX0_wordsOf_149
      · have B_36209 : bn 1 14 v_36198 := bn_w (bn_gtl c_36208 b_36199 b_y77_5) (by decide)
        have B_36210 : bn 0 13 y77_5 := bn_w (bn_gtr c_36208 b_36199 b_y77_5) (by decide)
        refine lv_iload_n hx hb dX0_wordsOf_86 rfl (lv_at hl 3 rfl) ?_
        refine lv_aload_n hx hb dX0_wordsOf_87 rfl (lv_at hl 2 rfl) ?_
        refine lv_iload hx hb dX0_wordsOf_88 (lv_at hl 5 rfl) ?_
        refine lv_iconst (v := 1) hx hb dX0_wordsOf_90 (by decide) ?_
        refine cVp (As := [.int y77_5, .int 1]) (rest := [.int y77_3]) S Y (x_X4_get (l := l) (j := 0) I hW hT hQ (by decide)) cw_X4_get km0_34 p_ad_10_0 ok_X4.1 rfl rfl ⟨Nat.le_of_ble_eq_true rfl, Nat.le_of_ble_eq_true rfl⟩ hl.1 rfl (Nat.le_of_ble_eq_true rfl) ⟨Nat.le_of_ble_eq_true rfl, Nat.le_of_ble_eq_true rfl⟩ dX0_wordsOf_91 (fun r_36211 H locs er_36211 Y => ?_)
        refine lv_ishr hx hb dX0_wordsOf_94 ?_
        refine lv_topi (fun x_36212 ex_36212 => ?_)
        refine lv_iconst (v := 1) hx hb dX0_wordsOf_95 (by decide) ?_
        refine lv_iand hx hb dX0_wordsOf_96 ?_
        refine lv_topi (fun x_36213 ex_36213 => ?_)
        refine lv_if_ne (tgt := 111) hx hb dX0_wordsOf_97 (by decide) (fun c_36214 => ?_) (fun c_36214 => ?_)
        · refine lv_iconst (v := 1) hx hb dX0_wordsOf_111 (by decide) ?_
          refine lv_goto (tgt := 116) hx hb dX0_wordsOf_112 (by decide) ?_
          refine lv_istore (lv' := [(6, .int 1), (0, .ref (ad 8 0)), (1, .int i1), (2, .ref (ad 10 0)), (3, .int y77_3), (4, .int y77_4), (5, .int y77_5)]) hx hb dX0_wordsOf_116 hl (by decide) rfl (fun ls hl => ?_)
          refine lv_iload hx hb dX0_wordsOf_118 (lv_at hl 0 rfl) ?_
          refine lv_if_eq (tgt := 141) hx hb dX0_wordsOf_120 (by decide) (fun h => absurd h (by decide)) (fun _ => ?_)
          refine lv_aload_n hx hb dX0_wordsOf_123 rfl (lv_at hl 3 rfl) ?_
          refine lv_iload hx hb dX0_wordsOf_124 (lv_at hl 6 rfl) ?_
          refine cVp (As := [.int y77_5]) (rest := []) S Y (x_X4_legible (l := l) (j := 0) I hW hT hQ (by decide)) cw_X4_legible km0_78 p_ad_10_0 ok_X4.1 rfl rfl ⟨Nat.le_of_ble_eq_true rfl, Nat.le_of_ble_eq_true rfl⟩ hl.1 rfl (Nat.le_of_ble_eq_true rfl) ⟨Nat.le_of_ble_eq_true rfl, Nat.le_of_ble_eq_true rfl⟩ dX0_wordsOf_126 (fun r_36216 H locs er_36216 Y => ?_)
          refine lv_if_eq (tgt := 141) hx hb dX0_wordsOf_129 (by decide) (fun c_36217 => ?_) (fun c_36217 => ?_)
          · have B_36218 : bn 0 0 r_36216 := bn_w (bn_eq c_36217 (show bn 0 0 (0 : Int32) from bn_k (by decide))) (by decide)
            obtain ⟨x_36220, ex_36220⟩ : ∃ z : Int32, z = y77_5 + 1 := ⟨_, rfl⟩
            refine lv_iinc (v := x_36220) (lv' := [(5, .int x_36220), (6, .int 1), (0, .ref (ad 8 0)), (1, .int i1), (2, .ref (ad 10 0)), (3, .int y77_3), (4, .int y77_4)]) hx hb dX0_wordsOf_141 hl (k := 6) rfl (by rw [ex_36220]; rfl) (by decide) rfl (fun ls hl => ?_)
            refine lv_goto (tgt := 77) hx hb dX0_wordsOf_144 (by decide) ?_
            exact ih77 _ (by rw [← hm77]; exact ms_up (m := 1) ex_36220 (show bn 1 1 (1 : Int32) from bn_k (by decide)) B_36210 (bn_w (bn_eq ex_36220 (bn_add B_36210 (show bn 1 1 (1 : Int32) from bn_k (by decide)) (by decide))) (by decide) : bn 0 14 x_36220) (by decide)) y77_3 y77_4 x_36220  _ _ _  (bn_w b_y77_4 (by decide)) (bn_w (bn_eq ex_36220 (bn_add B_36210 (show bn 1 1 (1 : Int32) from bn_k (by decide)) (by decide))) (by decide)) rfl Y (lv_sub hl [2, 3, 4, 5, 6, 0] rfl)
          · have B_36219 : bn 1 1 r_36216 := bn_w (bn_nel c_36217 er_36216 (show bn 0 0 (0 : Int32) from bn_k (by decide))) (by decide)
            refine lv_iload hx hb dX0_wordsOf_132 (lv_at hl 5 rfl) ?_
            refine lv_iconst (v := 1) hx hb dX0_wordsOf_134 (by decide) ?_
            refine lv_iload hx hb dX0_wordsOf_135 (lv_at hl 6 rfl) ?_
            refine lv_ishl hx hb dX0_wordsOf_137 ?_
            refine lv_topi (fun x_36221 ex_36221 => ?_)
            refine lv_ior hx hb dX0_wordsOf_138 ?_
            refine lv_topi (fun x_36222 ex_36222 => ?_)
            refine lv_istore (lv' := [(4, .int x_36222), (6, .int 1), (0, .ref (ad 8 0)), (1, .int i1), (2, .ref (ad 10 0)), (3, .int y77_3), (5, .int y77_5)]) hx hb dX0_wordsOf_139 hl (by decide) rfl (fun ls hl => ?_)
            obtain ⟨x_36223, ex_36223⟩ : ∃ z : Int32, z = y77_5 + 1 := ⟨_, rfl⟩
            refine lv_iinc (v := x_36223) (lv' := [(5, .int x_36223), (4, .int x_36222), (6, .int 1), (0, .ref (ad 8 0)), (1, .int i1), (2, .ref (ad 10 0)), (3, .int y77_3)]) hx hb dX0_wordsOf_141 hl (k := 6) rfl (by rw [ex_36223]; rfl) (by decide) rfl (fun ls hl => ?_)
            refine lv_goto (tgt := 77) hx hb dX0_wordsOf_144 (by decide) ?_
            exact ih77 _ (by rw [← hm77]; exact ms_up (m := 1) ex_36223 (show bn 1 1 (1 : Int32) from bn_k (by decide)) B_36210 (bn_w (bn_eq ex_36223 (bn_add B_36210 (show bn 1 1 (1 : Int32) from bn_k (by decide)) (by decide))) (by decide) : bn 0 14 x_36223) (by decide)) y77_3 x_36222 x_36223  _ _ _  (bn_w (bn_eq ex_36222 (bn_or (n := 14) (bn_w b_y77_4 (by decide) : bn 0 16383 y77_4) (bn_w (bn_eq ex_36221 (bn_shl (n := 13) (bn_w B_36210 (by decide) : bn 0 13 y77_5) (by decide) (by decide))) (by decide) : bn 0 8192 x_36221) (by decide) (by decide))) (by decide)) (bn_w (bn_eq ex_36223 (bn_add B_36210 (show bn 1 1 (1 : Int32) from bn_k (by decide)) (by decide))) (by decide)) rfl Y (lv_sub hl [3, 4, 5, 6, 1, 0] rfl)
        · have B_36215 : bn 0 0 x_36213 := bn_w (bn_eq c_36214 (show bn 0 0 (0 : Int32) from bn_k (by decide))) (by decide)
          refine lv_aload_n hx hb dX0_wordsOf_100 rfl (lv_at hl 2 rfl) ?_
          refine lv_iload hx hb dX0_wordsOf_101 (lv_at hl 5 rfl) ?_
          refine lv_iconst (v := 0) hx hb dX0_wordsOf_103 (by decide) ?_
          refine cVp (As := [.int y77_5, .int 0]) (rest := []) S Y (x_X4_get (l := l) (j := 0) I hW hT hQ (by decide)) cw_X4_get km0_34 p_ad_10_0 ok_X4.1 rfl rfl ⟨Nat.le_of_ble_eq_true rfl, Nat.le_of_ble_eq_true rfl⟩ hl.1 rfl (Nat.le_of_ble_eq_true rfl) ⟨Nat.le_of_ble_eq_true rfl, Nat.le_of_ble_eq_true rfl⟩ dX0_wordsOf_104 (fun r_36224 H locs er_36224 Y => ?_)
          refine lv_iload_n hx hb dX0_wordsOf_107 rfl (lv_at hl 1 rfl) ?_
          refine lv_icmp_ne (tgt := 115) hx hb dX0_wordsOf_108 (by decide) (fun c_36225 => ?_) (fun c_36225 => ?_)
          · refine lv_iconst (v := 0) hx hb dX0_wordsOf_115 (by decide) ?_
            refine lv_istore (lv' := [(6, .int 0), (0, .ref (ad 8 0)), (1, .int i1), (2, .ref (ad 10 0)), (3, .int y77_3), (4, .int y77_4), (5, .int y77_5)]) hx hb dX0_wordsOf_116 hl (by decide) rfl (fun ls hl => ?_)
            refine lv_iload hx hb dX0_wordsOf_118 (lv_at hl 0 rfl) ?_
            refine lv_if_eq (tgt := 141) hx hb dX0_wordsOf_120 (by decide) (fun _ => ?_) (fun h => absurd (by decide) h)
            obtain ⟨x_36226, ex_36226⟩ : ∃ z : Int32, z = y77_5 + 1 := ⟨_, rfl⟩
            refine lv_iinc (v := x_36226) (lv' := [(5, .int x_36226), (6, .int 0), (0, .ref (ad 8 0)), (1, .int i1), (2, .ref (ad 10 0)), (3, .int y77_3), (4, .int y77_4)]) hx hb dX0_wordsOf_141 hl (k := 6) rfl (by rw [ex_36226]; rfl) (by decide) rfl (fun ls hl => ?_)
            refine lv_goto (tgt := 77) hx hb dX0_wordsOf_144 (by decide) ?_
            exact ih77 _ (by rw [← hm77]; exact ms_up (m := 1) ex_36226 (show bn 1 1 (1 : Int32) from bn_k (by decide)) B_36210 (bn_w (bn_eq ex_36226 (bn_add B_36210 (show bn 1 1 (1 : Int32) from bn_k (by decide)) (by decide))) (by decide) : bn 0 14 x_36226) (by decide)) y77_3 y77_4 x_36226  _ _ _  (bn_w b_y77_4 (by decide)) (bn_w (bn_eq ex_36226 (bn_add B_36210 (show bn 1 1 (1 : Int32) from bn_k (by decide)) (by decide))) (by decide)) rfl Y (lv_sub hl [2, 3, 4, 5, 6, 0] rfl)
          · refine lv_iconst (v := 1) hx hb dX0_wordsOf_111 (by decide) ?_
            refine lv_goto (tgt := 116) hx hb dX0_wordsOf_112 (by decide) ?_
            refine lv_istore (lv' := [(6, .int 1), (0, .ref (ad 8 0)), (1, .int i1), (2, .ref (ad 10 0)), (3, .int y77_3), (4, .int y77_4), (5, .int y77_5)]) hx hb dX0_wordsOf_116 hl (by decide) rfl (fun ls hl => ?_)
            refine lv_iload hx hb dX0_wordsOf_118 (lv_at hl 0 rfl) ?_
            refine lv_if_eq (tgt := 141) hx hb dX0_wordsOf_120 (by decide) (fun h => absurd h (by decide)) (fun _ => ?_)
            refine lv_aload_n hx hb dX0_wordsOf_123 rfl (lv_at hl 3 rfl) ?_
            refine lv_iload hx hb dX0_wordsOf_124 (lv_at hl 6 rfl) ?_
            refine cVp (As := [.int y77_5]) (rest := []) S Y (x_X4_legible (l := l) (j := 0) I hW hT hQ (by decide)) cw_X4_legible km0_78 p_ad_10_0 ok_X4.1 rfl rfl ⟨Nat.le_of_ble_eq_true rfl, Nat.le_of_ble_eq_true rfl⟩ hl.1 rfl (Nat.le_of_ble_eq_true rfl) ⟨Nat.le_of_ble_eq_true rfl, Nat.le_of_ble_eq_true rfl⟩ dX0_wordsOf_126 (fun r_36227 H locs er_36227 Y => ?_)
            refine lv_if_eq (tgt := 141) hx hb dX0_wordsOf_129 (by decide) (fun c_36228 => ?_) (fun c_36228 => ?_)
            · have B_36229 : bn 0 0 r_36227 := bn_w (bn_eq c_36228 (show bn 0 0 (0 : Int32) from bn_k (by decide))) (by decide)
              obtain ⟨x_36231, ex_36231⟩ : ∃ z : Int32, z = y77_5 + 1 := ⟨_, rfl⟩
              refine lv_iinc (v := x_36231) (lv' := [(5, .int x_36231), (6, .int 1), (0, .ref (ad 8 0)), (1, .int i1), (2, .ref (ad 10 0)), (3, .int y77_3), (4, .int y77_4)]) hx hb dX0_wordsOf_141 hl (k := 6) rfl (by rw [ex_36231]; rfl) (by decide) rfl (fun ls hl => ?_)
              refine lv_goto (tgt := 77) hx hb dX0_wordsOf_144 (by decide) ?_
              exact ih77 _ (by rw [← hm77]; exact ms_up (m := 1) ex_36231 (show bn 1 1 (1 : Int32) from bn_k (by decide)) B_36210 (bn_w (bn_eq ex_36231 (bn_add B_36210 (show bn 1 1 (1 : Int32) from bn_k (by decide)) (by decide))) (by decide) : bn 0 14 x_36231) (by decide)) y77_3 y77_4 x_36231  _ _ _  (bn_w b_y77_4 (by decide)) (bn_w (bn_eq ex_36231 (bn_add B_36210 (show bn 1 1 (1 : Int32) from bn_k (by decide)) (by decide))) (by decide)) rfl Y (lv_sub hl [2, 3, 4, 5, 6, 0] rfl)
            · have B_36230 : bn 1 1 r_36227 := bn_w (bn_nel c_36228 er_36227 (show bn 0 0 (0 : Int32) from bn_k (by decide))) (by decide)
              refine lv_iload hx hb dX0_wordsOf_132 (lv_at hl 5 rfl) ?_
              refine lv_iconst (v := 1) hx hb dX0_wordsOf_134 (by decide) ?_
              refine lv_iload hx hb dX0_wordsOf_135 (lv_at hl 6 rfl) ?_
              refine lv_ishl hx hb dX0_wordsOf_137 ?_
              refine lv_topi (fun x_36232 ex_36232 => ?_)
              refine lv_ior hx hb dX0_wordsOf_138 ?_
              refine lv_topi (fun x_36233 ex_36233 => ?_)
              refine lv_istore (lv' := [(4, .int x_36233), (6, .int 1), (0, .ref (ad 8 0)), (1, .int i1), (2, .ref (ad 10 0)), (3, .int y77_3), (5, .int y77_5)]) hx hb dX0_wordsOf_139 hl (by decide) rfl (fun ls hl => ?_)
              obtain ⟨x_36234, ex_36234⟩ : ∃ z : Int32, z = y77_5 + 1 := ⟨_, rfl⟩
              refine lv_iinc (v := x_36234) (lv' := [(5, .int x_36234), (4, .int x_36233), (6, .int 1), (0, .ref (ad 8 0)), (1, .int i1), (2, .ref (ad 10 0)), (3, .int y77_3)]) hx hb dX0_wordsOf_141 hl (k := 6) rfl (by rw [ex_36234]; rfl) (by decide) rfl (fun ls hl => ?_)
              refine lv_goto (tgt := 77) hx hb dX0_wordsOf_144 (by decide) ?_
              exact ih77 _ (by rw [← hm77]; exact ms_up (m := 1) ex_36234 (show bn 1 1 (1 : Int32) from bn_k (by decide)) B_36210 (bn_w (bn_eq ex_36234 (bn_add B_36210 (show bn 1 1 (1 : Int32) from bn_k (by decide)) (by decide))) (by decide) : bn 0 14 x_36234) (by decide)) y77_3 x_36233 x_36234  _ _ _  (bn_w (bn_eq ex_36233 (bn_or (n := 14) (bn_w b_y77_4 (by decide) : bn 0 16383 y77_4) (bn_w (bn_eq ex_36232 (bn_shl (n := 13) (bn_w B_36210 (by decide) : bn 0 13 y77_5) (by decide) (by decide))) (by decide) : bn 0 8192 x_36232) (by decide) (by decide))) (by decide)) (bn_w (bn_eq ex_36234 (bn_add B_36210 (show bn 1 1 (1 : Int32) from bn_k (by decide)) (by decide))) (by decide)) rfl Y (lv_sub hl [3, 4, 5, 6, 1, 0] rfl)
  have J_15 : ∀ (n15 : Nat) (y15_3 y15_4 : Int32) (H : Heap) (locs : List Loc) (ls : Array Slot), (bn 0 8 y15_4) → (((8 : Int) - y15_4.toInt).toNat = n15) → (DY G A s [] L f H locs) → (lv_has ls 7 [(0, .ref (ad 8 0)), (1, .int i1), (2, .ref (ad 10 0)), (3, .int y15_3), (4, .int y15_4)]) → W p l e (rmD 3 0 0) s m args below meth c H locs (0) (0) (MQ below (va_Qi (fun r (u : List Nat × HF) => (fun r L1 f1 => (True) ∧ L1 = L ∧ f1 = f) r u.1 u.2) (fun u t => pOut G (va_A (va_pl L f) sz) u.1 u.2 t) (va_A (va_pl L f) sz)) args s 0 0 A) (F0 m 15 ls []) := by
    intro n15
    induction n15 using Nat.strongRecOn with
    | _ n15 ih15 =>
      intro y15_3 y15_4 H locs ls b_y15_4 hm15 Y hl
      refine lv_iload hx hb dX0_wordsOf_15 (lv_at hl 4 rfl) ?_
      refine lv_aload_n hx hb dX0_wordsOf_17 rfl (lv_at hl 0 rfl) ?_
      have p_ad_8_0 := opnC_8 (j := 0) I (by decide)
      have p_ad_8_0 : pt L f (ad 8 0) (.inr (0, [.ref (ad 1 0), .ref (ad 60 0), .ref (ad 61 0)])) := p_ad_8_0
      refine pg_get S Y ok_X0 0 (by decide) kf0_18 (v := .ref (ad 1 0)) p_ad_8_0 rfl dX0_wordsOf_18 ?_
      obtain ⟨v_36235, v_36237, v_36239, v_36241, v_36243, p_ad_1_0, b_36236, b_36238, b_36240, b_36242, b_36244⟩ := opnC_1 (j := 0) I (by decide)
      have p_ad_1_0 : pt L f (ad 1 0) (.inr (10, [.ref (ad 40 0), .ref (ad 41 0), .ref (ad 42 0), .ref (ad 10 0), .ref (ad 43 0), .ref (ad 20 0), .ref (ad 20 1), .ref (ad 20 2), .ref (ad 20 3), .ref (ad 20 4), .int v_36235, .int v_36237, .int v_36239, .int v_36241, .int v_36243])) := p_ad_1_0
      refine pg_getN S Y ok_X10 8 (by decide) kf0_81 (v := .ref (ad 20 3)) p_ad_1_0 rfl dX0_wordsOf_21 ?_
      obtain ⟨v_36245, v_36247, p_ad_20_3, b_36246, b_36248⟩ := opnC_20 (j := 3) I (by decide)
      have p_ad_20_3 : pt L f (ad 20 3) (.inr (9, [.ref (ad 21 3), .int v_36245, .int v_36247])) := p_ad_20_3
      refine pg_getN S Y ok_X9 2 (by decide) kf0_56 (v := .int v_36247) p_ad_20_3 rfl dX0_wordsOf_24 ?_
      refine lv_icmp_ge (tgt := 71) hx hb dX0_wordsOf_27 (by decide) (fun c_36249 => ?_) (fun c_36249 => ?_)
      · refine lv_iconst (v := 0) hx hb dX0_wordsOf_71 (by decide) ?_
        refine lv_istore (lv' := [(4, .int 0), (0, .ref (ad 8 0)), (1, .int i1), (2, .ref (ad 10 0)), (3, .int y15_3)]) hx hb dX0_wordsOf_72 hl (by decide) rfl (fun ls hl => ?_)
        refine lv_iconst (v := 0) hx hb dX0_wordsOf_74 (by decide) ?_
        refine lv_istore (lv' := [(5, .int 0), (4, .int 0), (0, .ref (ad 8 0)), (1, .int i1), (2, .ref (ad 10 0)), (3, .int y15_3)]) hx hb dX0_wordsOf_75 hl (by decide) rfl (fun ls hl => ?_)
        exact J_77 _ y15_3 0 0  _ _ _  (bn_w (show bn 0 0 (0 : Int32) from bn_k (by decide)) (by decide)) (bn_w (show bn 0 0 (0 : Int32) from bn_k (by decide)) (by decide)) rfl Y (lv_sub hl [2, 3, 4, 5, 1, 0] rfl)
      · have B_36250 : bn 1 8 v_36247 := bn_w (bn_gtl c_36249 (bn_w (a' := 0) (b' := 8) b_36248 (hW 3)) b_y15_4) (by decide)
        have B_36251 : bn 0 7 y15_4 := bn_w (bn_gtr c_36249 (bn_w (a' := 0) (b' := 8) b_36248 (hW 3)) b_y15_4) (by decide)
        refine lv_aload_n hx hb dX0_wordsOf_30 rfl (lv_at hl 0 rfl) ?_
        refine pg_get S Y ok_X0 0 (by decide) kf0_18 (v := .ref (ad 1 0)) p_ad_8_0 rfl dX0_wordsOf_31 ?_
        refine pg_getN S Y ok_X10 8 (by decide) kf0_81 (v := .ref (ad 20 3)) p_ad_1_0 rfl dX0_wordsOf_34 ?_
        refine lv_iload hx hb dX0_wordsOf_37 (lv_at hl 4 rfl) ?_
        refine lv_iconst (v := 0) hx hb dX0_wordsOf_39 (by decide) ?_
        refine cVp (As := [.int y15_4, .int 0]) (rest := []) S Y (x_X9_get (l := l) (j := 3) I hW hT hQ (by decide)) cw_X9_get km0_61 p_ad_20_3 ok_X9.1 rfl rfl ⟨Nat.le_of_ble_eq_true rfl, Nat.le_of_ble_eq_true rfl⟩ hl.1 rfl (Nat.le_of_ble_eq_true rfl) ⟨Nat.le_of_ble_eq_true rfl, Nat.le_of_ble_eq_true rfl⟩ dX0_wordsOf_40 (fun r_36252 H locs er_36252 Y => ?_)
        refine lv_iload_n hx hb dX0_wordsOf_43 rfl (lv_at hl 1 rfl) ?_
        refine lv_icmp_ne (tgt := 65) hx hb dX0_wordsOf_44 (by decide) (fun c_36253 => ?_) (fun c_36253 => ?_)
        · obtain ⟨x_36254, ex_36254⟩ : ∃ z : Int32, z = y15_4 + 1 := ⟨_, rfl⟩
          refine lv_iinc (v := x_36254) (lv' := [(4, .int x_36254), (0, .ref (ad 8 0)), (1, .int i1), (2, .ref (ad 10 0)), (3, .int y15_3)]) hx hb dX0_wordsOf_65 hl (k := 4) rfl (by rw [ex_36254]; rfl) (by decide) rfl (fun ls hl => ?_)
          refine lv_goto (tgt := 15) hx hb dX0_wordsOf_68 (by decide) ?_
          exact ih15 _ (by rw [← hm15]; exact ms_up (m := 1) ex_36254 (show bn 1 1 (1 : Int32) from bn_k (by decide)) B_36251 (bn_w (bn_eq ex_36254 (bn_add B_36251 (show bn 1 1 (1 : Int32) from bn_k (by decide)) (by decide))) (by decide) : bn 0 8 x_36254) (by decide)) y15_3 x_36254  _ _ _  (bn_w (bn_eq ex_36254 (bn_add B_36251 (show bn 1 1 (1 : Int32) from bn_k (by decide)) (by decide))) (by decide)) rfl Y (lv_sub hl [1, 2, 3, 4, 0] rfl)
        · refine lv_iload_n hx hb dX0_wordsOf_47 rfl (lv_at hl 3 rfl) ?_
          refine lv_iconst (v := 1) hx hb dX0_wordsOf_48 (by decide) ?_
          refine lv_aload_n hx hb dX0_wordsOf_49 rfl (lv_at hl 0 rfl) ?_
          refine pg_get S Y ok_X0 0 (by decide) kf0_18 (v := .ref (ad 1 0)) p_ad_8_0 rfl dX0_wordsOf_50 ?_
          refine pg_getN S Y ok_X10 8 (by decide) kf0_81 (v := .ref (ad 20 3)) p_ad_1_0 rfl dX0_wordsOf_53 ?_
          refine lv_iload hx hb dX0_wordsOf_56 (lv_at hl 4 rfl) ?_
          refine lv_iconst (v := 1) hx hb dX0_wordsOf_58 (by decide) ?_
          refine cVp (As := [.int y15_4, .int 1]) (rest := [.int 1, .int y15_3]) S Y (x_X9_get (l := l) (j := 3) I hW hT hQ (by decide)) cw_X9_get km0_61 p_ad_20_3 ok_X9.1 rfl rfl ⟨Nat.le_of_ble_eq_true rfl, Nat.le_of_ble_eq_true rfl⟩ hl.1 rfl (Nat.le_of_ble_eq_true rfl) ⟨Nat.le_of_ble_eq_true rfl, Nat.le_of_ble_eq_true rfl⟩ dX0_wordsOf_59 (fun r_36255 H locs er_36255 Y => ?_)
          refine lv_ishl hx hb dX0_wordsOf_62 ?_
          refine lv_topi (fun x_36256 ex_36256 => ?_)
          refine lv_ior hx hb dX0_wordsOf_63 ?_
          refine lv_topi (fun x_36257 ex_36257 => ?_)
          refine lv_istore_n (lv' := [(3, .int x_36257), (0, .ref (ad 8 0)), (1, .int i1), (2, .ref (ad 10 0)), (4, .int y15_4)]) hx hb dX0_wordsOf_64 rfl hl (by decide) rfl (fun ls hl => ?_)
          obtain ⟨x_36258, ex_36258⟩ : ∃ z : Int32, z = y15_4 + 1 := ⟨_, rfl⟩
          refine lv_iinc (v := x_36258) (lv' := [(4, .int x_36258), (3, .int x_36257), (0, .ref (ad 8 0)), (1, .int i1), (2, .ref (ad 10 0))]) hx hb dX0_wordsOf_65 hl (k := 4) rfl (by rw [ex_36258]; rfl) (by decide) rfl (fun ls hl => ?_)
          refine lv_goto (tgt := 15) hx hb dX0_wordsOf_68 (by decide) ?_
          exact ih15 _ (by rw [← hm15]; exact ms_up (m := 1) ex_36258 (show bn 1 1 (1 : Int32) from bn_k (by decide)) B_36251 (bn_w (bn_eq ex_36258 (bn_add B_36251 (show bn 1 1 (1 : Int32) from bn_k (by decide)) (by decide))) (by decide) : bn 0 8 x_36258) (by decide)) x_36257 x_36258  _ _ _  (bn_w (bn_eq ex_36258 (bn_add B_36251 (show bn 1 1 (1 : Int32) from bn_k (by decide)) (by decide))) (by decide)) rfl Y (lv_sub hl [2, 3, 4, 1, 0] rfl)
  refine lv_aload_n hx hb dX0_wordsOf_0 rfl (lv_at hl 0 rfl) ?_
  have p_ad_8_0 := opnC_8 (j := 0) I (by decide)
  have p_ad_8_0 : pt L f (ad 8 0) (.inr (0, [.ref (ad 1 0), .ref (ad 60 0), .ref (ad 61 0)])) := p_ad_8_0
  refine pg_get S Y ok_X0 0 (by decide) kf0_18 (v := .ref (ad 1 0)) p_ad_8_0 rfl dX0_wordsOf_1 ?_
  obtain ⟨v_36259, v_36261, v_36263, v_36265, v_36267, p_ad_1_0, b_36260, b_36262, b_36264, b_36266, b_36268⟩ := opnC_1 (j := 0) I (by decide)
  have p_ad_1_0 : pt L f (ad 1 0) (.inr (10, [.ref (ad 40 0), .ref (ad 41 0), .ref (ad 42 0), .ref (ad 10 0), .ref (ad 43 0), .ref (ad 20 0), .ref (ad 20 1), .ref (ad 20 2), .ref (ad 20 3), .ref (ad 20 4), .int v_36259, .int v_36261, .int v_36263, .int v_36265, .int v_36267])) := p_ad_1_0
  refine pg_getN S Y ok_X10 3 (by decide) kf0_22 (v := .ref (ad 10 0)) p_ad_1_0 rfl dX0_wordsOf_4 ?_
  refine lv_astore_n (lv' := [(2, .ref (ad 10 0)), (0, .ref (ad 8 0)), (1, .int i1)]) hx hb dX0_wordsOf_7 rfl hl (by decide) rfl (fun ls hl => ?_)
  refine lv_iconst (v := 1) hx hb dX0_wordsOf_8 (by decide) ?_
  refine lv_iload_n hx hb dX0_wordsOf_9 rfl (lv_at hl 2 rfl) ?_
  refine lv_ishl hx hb dX0_wordsOf_10 ?_
  refine lv_topi (fun x_36269 ex_36269 => ?_)
  refine lv_istore_n (lv' := [(3, .int x_36269), (2, .ref (ad 10 0)), (0, .ref (ad 8 0)), (1, .int i1)]) hx hb dX0_wordsOf_11 rfl hl (by decide) rfl (fun ls hl => ?_)
  refine lv_iconst (v := 0) hx hb dX0_wordsOf_12 (by decide) ?_
  refine lv_istore (lv' := [(4, .int 0), (3, .int x_36269), (2, .ref (ad 10 0)), (0, .ref (ad 8 0)), (1, .int i1)]) hx hb dX0_wordsOf_13 hl (by decide) rfl (fun ls hl => ?_)
  exact J_15 _ x_36269 0  _ _ _  (bn_w (show bn 0 0 (0 : Int32) from bn_k (by decide)) (by decide)) rfl Y (lv_sub hl [3, 4, 2, 1, 0] rfl)
set_option maxHeartbeats 4000000 in
set_option maxRecDepth 100000 in
theorem x_X0_knownTo {l : Launch} {G : GG}  {L : List Nat} {f : HF} {ad : Nat → Nat → Nat} {rs : FS} {fc : Int × Int} {tc w : Nat → Int × Int} {q : Nat → (Nat → Int32) → Prop} {i1 : Int32} (I : SH (spC rs fc tc w q) nnC G ad L f) (hW : WBp w 8) (hT : WBp tc 4) (hQ : QIp q) : PMp l yX0_knownTo cX0_knownTo 4 .int 0 0 0 G [.ref (ad 8 0), .int i1] L f (fun r => True) := by
  refine PMi.of (post := fun r L1 f1 => (True) ∧ L1 = L ∧ f1 = f) (own := RX0) (by decide) rfl (Nat.le_of_ble_eq_true rfl) (fun sz p e s m args below meth c A ls hA1 hname S Y hl => ?_)
  have hx := S.hx
  have hb := S.hb
  have hl : lv_has ls 4 [(0, .ref (ad 8 0)), (1, .int i1)] := hl
  have J_4 : ∀ (n4 : Nat) (y4_2 y4_3 : Int32) (H : Heap) (locs : List Loc) (ls : Array Slot), (bn 0 6 y4_3) → (((6 : Int) - y4_3.toInt).toNat = n4) → (DY G A s [] L f H locs) → (lv_has ls 4 [(0, .ref (ad 8 0)), (1, .int i1), (2, .int y4_2), (3, .int y4_3)]) → W p l e (rmD 0 0 0) s m args below meth c H locs (0) (0) (MQ below (va_Qi (fun r (u : List Nat × HF) => (fun r L1 f1 => (True) ∧ L1 = L ∧ f1 = f) r u.1 u.2) (fun u t => pOut G (va_A (va_pl L f) sz) u.1 u.2 t) (va_A (va_pl L f) sz)) args s 0 0 A) (F0 m 4 ls []) := by
    intro n4
    induction n4 using Nat.strongRecOn with
    | _ n4 ih4 =>
      intro y4_2 y4_3 H locs ls b_y4_3 hm4 Y hl
      refine lv_iload_n hx hb dX0_knownTo_4 rfl (lv_at hl 3 rfl) ?_
      refine lv_bipush (v := 6) hx hb dX0_knownTo_5 (by decide) ?_
      refine lv_icmp_ge (tgt := 37) hx hb dX0_knownTo_7 (by decide) (fun c_36364 => ?_) (fun c_36364 => ?_)
      · have B_36365 : bn 6 6 y4_3 := bn_w (bn_ler c_36364 (show bn 6 6 (6 : Int32) from bn_k (by decide)) b_y4_3) (by decide)
        refine lv_iload_n hx hb dX0_knownTo_37 rfl (lv_at hl 2 rfl) ?_
        exact prI (post := fun r L1 f1 => (True) ∧ L1 = L ∧ f1 = f) S Y rfl (by decide) (by decide) hA1 ⟨trivial, rfl, rfl⟩ dX0_knownTo_38
      · have B_36366 : bn 0 5 y4_3 := bn_w (bn_gtr c_36364 (show bn 6 6 (6 : Int32) from bn_k (by decide)) b_y4_3) (by decide)
        refine lv_iload_n hx hb dX0_knownTo_10 rfl (lv_at hl 2 rfl) ?_
        refine lv_iload_n hx hb dX0_knownTo_11 rfl (lv_at hl 1 rfl) ?_
        refine lv_iload_n hx hb dX0_knownTo_12 rfl (lv_at hl 3 rfl) ?_
        refine lv_ishr hx hb dX0_knownTo_13 ?_
        refine lv_topi (fun x_36367 ex_36367 => ?_)
        refine lv_iconst (v := 1) hx hb dX0_knownTo_14 (by decide) ?_
        refine lv_iand hx hb dX0_knownTo_15 ?_
        refine lv_topi (fun x_36368 ex_36368 => ?_)
        refine lv_if_eq (tgt := 28) hx hb dX0_knownTo_16 (by decide) (fun c_36369 => ?_) (fun c_36369 => ?_)
        · have B_36370 : bn 0 0 x_36368 := bn_w (bn_eq c_36369 (show bn 0 0 (0 : Int32) from bn_k (by decide))) (by decide)
          refine lv_iconst (v := 0) hx hb dX0_knownTo_28 (by decide) ?_
          refine lv_ior hx hb dX0_knownTo_29 ?_
          refine lv_topi (fun x_36371 ex_36371 => ?_)
          refine lv_istore_n (lv' := [(2, .int x_36371), (0, .ref (ad 8 0)), (1, .int i1), (3, .int y4_3)]) hx hb dX0_knownTo_30 rfl hl (by decide) rfl (fun ls hl => ?_)
          obtain ⟨x_36372, ex_36372⟩ : ∃ z : Int32, z = y4_3 + 1 := ⟨_, rfl⟩
          refine lv_iinc (v := x_36372) (lv' := [(3, .int x_36372), (2, .int x_36371), (0, .ref (ad 8 0)), (1, .int i1)]) hx hb dX0_knownTo_31 hl (k := 3) rfl (by rw [ex_36372]; rfl) (by decide) rfl (fun ls hl => ?_)
          refine lv_goto (tgt := 4) hx hb dX0_knownTo_34 (by decide) ?_
          exact ih4 _ (by rw [← hm4]; exact ms_up (m := 1) ex_36372 (show bn 1 1 (1 : Int32) from bn_k (by decide)) B_36366 (bn_w (bn_eq ex_36372 (bn_add B_36366 (show bn 1 1 (1 : Int32) from bn_k (by decide)) (by decide))) (by decide) : bn 0 6 x_36372) (by decide)) x_36371 x_36372  _ _ _  (bn_w (bn_eq ex_36372 (bn_add B_36366 (show bn 1 1 (1 : Int32) from bn_k (by decide)) (by decide))) (by decide)) rfl Y (lv_sub hl [2, 3, 1, 0] rfl)
        · refine lv_aload_n hx hb dX0_knownTo_19 rfl (lv_at hl 0 rfl) ?_
          have p_ad_8_0 := opnC_8 (j := 0) I (by decide)
          have p_ad_8_0 : pt L f (ad 8 0) (.inr (0, [.ref (ad 1 0), .ref (ad 60 0), .ref (ad 61 0)])) := p_ad_8_0
          refine pg_get S Y ok_X0 2 (by decide) kf0_15 (v := .ref (ad 61 0)) p_ad_8_0 rfl dX0_knownTo_20 ?_
          refine lv_iload_n hx hb dX0_knownTo_23 rfl (lv_at hl 3 rfl) ?_
          obtain ⟨g_36373, p_ad_61_0, o_36374⟩ := I.opi (k := 61) (j := 0) (by decide) rfl
          have p_ad_61_0 : pt L f (ad 61 0) (.inl (G.2 0, 6, .inl g_36373)) := p_ad_61_0
          obtain ⟨v_36375, ev_36375⟩ : ∃ z, z = g_36373 (y4_3 : Int32).toNatClampNeg := ⟨_, rfl⟩
          refine pg_iald S Y (v := v_36375) p_ad_61_0 (vp_bn B_36366 (by decide)) ev_36375.symm dX0_knownTo_24 ?_
          refine lv_goto (tgt := 29) hx hb dX0_knownTo_25 (by decide) ?_
          refine lv_ior hx hb dX0_knownTo_29 ?_
          refine lv_topi (fun x_36376 ex_36376 => ?_)
          refine lv_istore_n (lv' := [(2, .int x_36376), (0, .ref (ad 8 0)), (1, .int i1), (3, .int y4_3)]) hx hb dX0_knownTo_30 rfl hl (by decide) rfl (fun ls hl => ?_)
          obtain ⟨x_36377, ex_36377⟩ : ∃ z : Int32, z = y4_3 + 1 := ⟨_, rfl⟩
          refine lv_iinc (v := x_36377) (lv' := [(3, .int x_36377), (2, .int x_36376), (0, .ref (ad 8 0)), (1, .int i1)]) hx hb dX0_knownTo_31 hl (k := 3) rfl (by rw [ex_36377]; rfl) (by decide) rfl (fun ls hl => ?_)
          refine lv_goto (tgt := 4) hx hb dX0_knownTo_34 (by decide) ?_
          exact ih4 _ (by rw [← hm4]; exact ms_up (m := 1) ex_36377 (show bn 1 1 (1 : Int32) from bn_k (by decide)) B_36366 (bn_w (bn_eq ex_36377 (bn_add B_36366 (show bn 1 1 (1 : Int32) from bn_k (by decide)) (by decide))) (by decide) : bn 0 6 x_36377) (by decide)) x_36376 x_36377  _ _ _  (bn_w (bn_eq ex_36377 (bn_add B_36366 (show bn 1 1 (1 : Int32) from bn_k (by decide)) (by decide))) (by decide)) rfl Y (lv_sub hl [2, 3, 1, 0] rfl)
  refine lv_iconst (v := 0) hx hb dX0_knownTo_0 (by decide) ?_
  refine lv_istore_n (lv' := [(2, .int 0), (0, .ref (ad 8 0)), (1, .int i1)]) hx hb dX0_knownTo_1 rfl hl (by decide) rfl (fun ls hl => ?_)
  refine lv_iconst (v := 0) hx hb dX0_knownTo_2 (by decide) ?_
  refine lv_istore_n (lv' := [(3, .int 0), (2, .int 0), (0, .ref (ad 8 0)), (1, .int i1)]) hx hb dX0_knownTo_3 rfl hl (by decide) rfl (fun ls hl => ?_)
  exact J_4 _ 0 0  _ _ _  (bn_w (show bn 0 0 (0 : Int32) from bn_k (by decide)) (by decide)) rfl Y (lv_sub hl [2, 3, 1, 0] rfl)
set_option maxHeartbeats 4000000 in
set_option maxRecDepth 100000 in
theorem x_X0_fewestKnowing {l : Launch} {G : GG}  {L : List Nat} {f : HF} {ad : Nat → Nat → Nat} {rs : FS} {fc : Int × Int} {tc w : Nat → Int × Int} {q : Nat → (Nat → Int32) → Prop} (I : SH (spC rs fc tc w q) nnC G ad L f) (hW : WBp w 8) (hT : WBp tc 4) (hQ : QIp q) : PMi l yX0_fewestKnowing cX0_fewestKnowing 4 .int 4 0 0 G [.ref (ad 8 0)] L f (fun r L1 f1 => SH (spC rs fc tc w q) nnC G ad L1 f1) := by
  refine PMi.of (post := fun r L1 f1 => SH (spC rs fc tc w q) nnC G ad L1 f1) (own := RX0) (by decide) rfl (Nat.le_of_ble_eq_true rfl) (fun sz p e s m args below meth c A ls hA1 hname S Y hl => ?_)
  have hx := S.hx
  have hb := S.hb
  have hl : lv_has ls 4 [(0, .ref (ad 8 0))] := hl
  have J_61 : ∀ (n61 : Nat) (y61_1 y61_2 y61_3 : Int32) (L_61 : List Nat) (f_61 : HF) (H : Heap) (locs : List Loc) (ls : Array Slot), (SH (spC rs fc tc w q) nnC G ad L_61 f_61) → (bn 0 63 y61_2) → (bn 0 64 y61_3) → (((64 : Int) - y61_3.toInt).toNat = n61) → (DY G A s [] L_61 f_61 H locs) → (lv_has ls 4 [(0, .ref (ad 8 0)), (1, .int y61_1), (2, .int y61_2), (3, .int y61_3)]) → W p l e (rmD 4 0 0) s m args below meth c H locs (0) (0) (MQ below (va_Qi (fun r (u : List Nat × HF) => (fun r L1 f1 => SH (spC rs fc tc w q) nnC G ad L1 f1) r u.1 u.2) (fun u t => pOut G (va_A (va_pl L f) sz) u.1 u.2 t) (va_A (va_pl L f) sz)) args s 0 0 A) (F0 m 61 ls []) := by
    intro n61
    induction n61 using Nat.strongRecOn with
    | _ n61 ih61 =>
      intro y61_1 y61_2 y61_3 L_61 f_61 H locs ls I b_y61_2 b_y61_3 hm61 Y hl
      refine lv_iload_n hx hb dX0_fewestKnowing_61 rfl (lv_at hl 3 rfl) ?_
      refine lv_iconst (v := 1) hx hb dX0_fewestKnowing_62 (by decide) ?_
      refine lv_aload_n hx hb dX0_fewestKnowing_63 rfl (lv_at hl 0 rfl) ?_
      have p_ad_8_0 := opnC_8 (j := 0) I (by decide)
      have p_ad_8_0 : pt L_61 f_61 (ad 8 0) (.inr (0, [.ref (ad 1 0), .ref (ad 60 0), .ref (ad 61 0)])) := p_ad_8_0
      refine pg_get S Y ok_X0 0 (by decide) kf0_18 (v := .ref (ad 1 0)) p_ad_8_0 rfl dX0_fewestKnowing_64 ?_
      obtain ⟨v_37256, v_37258, v_37260, v_37262, v_37264, p_ad_1_0, b_37257, b_37259, b_37261, b_37263, b_37265⟩ := opnC_1 (j := 0) I (by decide)
      have p_ad_1_0 : pt L_61 f_61 (ad 1 0) (.inr (10, [.ref (ad 40 0), .ref (ad 41 0), .ref (ad 42 0), .ref (ad 10 0), .ref (ad 43 0), .ref (ad 20 0), .ref (ad 20 1), .ref (ad 20 2), .ref (ad 20 3), .ref (ad 20 4), .int v_37256, .int v_37258, .int v_37260, .int v_37262, .int v_37264])) := p_ad_1_0
      refine pg_getN S Y ok_X10 10 (by decide) kf0_72 (v := .int v_37256) p_ad_1_0 rfl dX0_fewestKnowing_67 ?_
      refine lv_ishl hx hb dX0_fewestKnowing_70 ?_
      refine lv_topi (fun x_37266 ex_37266 => ?_)
      refine lv_icmp_ge (tgt := 102) hx hb dX0_fewestKnowing_71 (by decide) (fun c_37267 => ?_) (fun c_37267 => ?_)
      · have B_37268 : bn 1 64 y61_3 := bn_w (bn_ler c_37267 (bn_eq ex_37266 (bn_shl (n := 6) (bn_w b_37257 (by decide) : bn 0 6 v_37256) (by decide) (by decide))) b_y61_3) (by decide)
        refine lv_iload_n hx hb dX0_fewestKnowing_102 rfl (lv_at hl 2 rfl) ?_
        exact prI (post := fun r L1 f1 => SH (spC rs fc tc w q) nnC G ad L1 f1) S Y rfl (by decide) (by decide) hA1 I dX0_fewestKnowing_103
      · have B_37269 : bn 0 63 y61_3 := bn_w (bn_gtr c_37267 (bn_eq ex_37266 (bn_shl (n := 6) (bn_w b_37257 (by decide) : bn 0 6 v_37256) (by decide) (by decide))) b_y61_3) (by decide)
        refine lv_iload_n hx hb dX0_fewestKnowing_74 rfl (lv_at hl 3 rfl) ?_
        refine cSp (As := [.int y61_3]) (rest := []) S Y (x_bitCount (l := l) ) cw_X106_bitCount_0f7a4 km0_42 rfl ⟨Nat.le_of_ble_eq_true rfl, Nat.le_of_ble_eq_true rfl⟩ hl.1 rfl (Nat.le_of_ble_eq_true rfl) ⟨Nat.le_of_ble_eq_true rfl, Nat.le_of_ble_eq_true rfl⟩ dX0_fewestKnowing_75 (fun r_37270 H locs er_37270 Y => ?_)
        refine lv_iload_n hx hb dX0_fewestKnowing_78 rfl (lv_at hl 2 rfl) ?_
        refine cSp (As := [.int y61_2]) (rest := [.int r_37270]) S Y (x_bitCount (l := l) ) cw_X106_bitCount_0f7a4 km0_42 rfl ⟨Nat.le_of_ble_eq_true rfl, Nat.le_of_ble_eq_true rfl⟩ hl.1 rfl (Nat.le_of_ble_eq_true rfl) ⟨Nat.le_of_ble_eq_true rfl, Nat.le_of_ble_eq_true rfl⟩ dX0_fewestKnowing_79 (fun r_37271 H locs er_37271 Y => ?_)
        refine lv_icmp_ge (tgt := 96) hx hb dX0_fewestKnowing_82 (by decide) (fun c_37272 => ?_) (fun c_37272 => ?_)
        · obtain ⟨x_37275, ex_37275⟩ : ∃ z : Int32, z = y61_3 + 1 := ⟨_, rfl⟩
          refine lv_iinc (v := x_37275) (lv' := [(3, .int x_37275), (0, .ref (ad 8 0)), (1, .int y61_1), (2, .int y61_2)]) hx hb dX0_fewestKnowing_96 hl (k := 3) rfl (by rw [ex_37275]; rfl) (by decide) rfl (fun ls hl => ?_)
          refine lv_goto (tgt := 61) hx hb dX0_fewestKnowing_99 (by decide) ?_
          exact ih61 _ (by rw [← hm61]; exact ms_up (m := 1) ex_37275 (show bn 1 1 (1 : Int32) from bn_k (by decide)) B_37269 (bn_w (bn_eq ex_37275 (bn_add B_37269 (show bn 1 1 (1 : Int32) from bn_k (by decide)) (by decide))) (by decide) : bn 0 64 x_37275) (by decide)) y61_1 y61_2 x_37275 _ _  _ _ _ I (bn_w b_y61_2 (by decide)) (bn_w (bn_eq ex_37275 (bn_add B_37269 (show bn 1 1 (1 : Int32) from bn_k (by decide)) (by decide))) (by decide)) rfl Y (lv_sub hl [1, 2, 3, 0] rfl)
        · have B_37273 : bn (-2147483647) 2147483647 r_37271 := bn_w (bn_gtl c_37272 (bn_any r_37271) (bn_any r_37270)) (by decide)
          have B_37274 : bn (-2147483648) 2147483646 r_37270 := bn_w (bn_gtr c_37272 (bn_any r_37271) (bn_any r_37270)) (by decide)
          refine lv_aload_n hx hb dX0_fewestKnowing_85 rfl (lv_at hl 0 rfl) ?_
          refine lv_iload_n hx hb dX0_fewestKnowing_86 rfl (lv_at hl 3 rfl) ?_
          refine cVp (As := [.int y61_3]) (rest := []) S Y (x_X0_knownTo (l := l) I hW hT hQ) cw_X0_knownTo km0_87 p_ad_8_0 ok_X0.1 rfl rfl ⟨Nat.le_of_ble_eq_true rfl, Nat.le_of_ble_eq_true rfl⟩ hl.1 rfl (Nat.le_of_ble_eq_true rfl) ⟨Nat.le_of_ble_eq_true rfl, Nat.le_of_ble_eq_true rfl⟩ dX0_fewestKnowing_87 (fun r_37276 H locs er_37276 Y => ?_)
          refine lv_iload_n hx hb dX0_fewestKnowing_90 rfl (lv_at hl 1 rfl) ?_
          refine lv_icmp_ne (tgt := 96) hx hb dX0_fewestKnowing_91 (by decide) (fun c_37277 => ?_) (fun c_37277 => ?_)
          · obtain ⟨x_37278, ex_37278⟩ : ∃ z : Int32, z = y61_3 + 1 := ⟨_, rfl⟩
            refine lv_iinc (v := x_37278) (lv' := [(3, .int x_37278), (0, .ref (ad 8 0)), (1, .int y61_1), (2, .int y61_2)]) hx hb dX0_fewestKnowing_96 hl (k := 3) rfl (by rw [ex_37278]; rfl) (by decide) rfl (fun ls hl => ?_)
            refine lv_goto (tgt := 61) hx hb dX0_fewestKnowing_99 (by decide) ?_
            exact ih61 _ (by rw [← hm61]; exact ms_up (m := 1) ex_37278 (show bn 1 1 (1 : Int32) from bn_k (by decide)) B_37269 (bn_w (bn_eq ex_37278 (bn_add B_37269 (show bn 1 1 (1 : Int32) from bn_k (by decide)) (by decide))) (by decide) : bn 0 64 x_37278) (by decide)) y61_1 y61_2 x_37278 _ _  _ _ _ I (bn_w b_y61_2 (by decide)) (bn_w (bn_eq ex_37278 (bn_add B_37269 (show bn 1 1 (1 : Int32) from bn_k (by decide)) (by decide))) (by decide)) rfl Y (lv_sub hl [1, 2, 3, 0] rfl)
          · refine lv_iload_n hx hb dX0_fewestKnowing_94 rfl (lv_at hl 3 rfl) ?_
            refine lv_istore_n (lv' := [(2, .int y61_3), (0, .ref (ad 8 0)), (1, .int y61_1), (3, .int y61_3)]) hx hb dX0_fewestKnowing_95 rfl hl (by decide) rfl (fun ls hl => ?_)
            obtain ⟨x_37279, ex_37279⟩ : ∃ z : Int32, z = y61_3 + 1 := ⟨_, rfl⟩
            refine lv_iinc (v := x_37279) (lv' := [(3, .int x_37279), (2, .int y61_3), (0, .ref (ad 8 0)), (1, .int y61_1)]) hx hb dX0_fewestKnowing_96 hl (k := 3) rfl (by rw [ex_37279]; rfl) (by decide) rfl (fun ls hl => ?_)
            refine lv_goto (tgt := 61) hx hb dX0_fewestKnowing_99 (by decide) ?_
            exact ih61 _ (by rw [← hm61]; exact ms_up (m := 1) ex_37279 (show bn 1 1 (1 : Int32) from bn_k (by decide)) B_37269 (bn_w (bn_eq ex_37279 (bn_add B_37269 (show bn 1 1 (1 : Int32) from bn_k (by decide)) (by decide))) (by decide) : bn 0 64 x_37279) (by decide)) y61_1 y61_3 x_37279 _ _  _ _ _ I (bn_w B_37269 (by decide)) (bn_w (bn_eq ex_37279 (bn_add B_37269 (show bn 1 1 (1 : Int32) from bn_k (by decide)) (by decide))) (by decide)) rfl Y (lv_sub hl [2, 3, 1, 0] rfl)
  have J_4 : ∀ (n4 : Nat) (y4_1 y4_2 : Int32) (L_4 : List Nat) (f_4 : HF) (H : Heap) (locs : List Loc) (ls : Array Slot), (SH (spC rs fc tc w q) nnC G ad L_4 f_4) → (bn 0 6 y4_2) → (((6 : Int) - y4_2.toInt).toNat = n4) → (DY G A s [] L_4 f_4 H locs) → (lv_has ls 4 [(0, .ref (ad 8 0)), (1, .int y4_1), (2, .int y4_2)]) → W p l e (rmD 4 0 0) s m args below meth c H locs (0) (0) (MQ below (va_Qi (fun r (u : List Nat × HF) => (fun r L1 f1 => SH (spC rs fc tc w q) nnC G ad L1 f1) r u.1 u.2) (fun u t => pOut G (va_A (va_pl L f) sz) u.1 u.2 t) (va_A (va_pl L f) sz)) args s 0 0 A) (F0 m 4 ls []) := by
    intro n4
    induction n4 using Nat.strongRecOn with
    | _ n4 ih4 =>
      intro y4_1 y4_2 L_4 f_4 H locs ls I b_y4_2 hm4 Y hl
      refine lv_iload_n hx hb dX0_fewestKnowing_4 rfl (lv_at hl 2 rfl) ?_
      refine lv_aload_n hx hb dX0_fewestKnowing_5 rfl (lv_at hl 0 rfl) ?_
      have p_ad_8_0 := opnC_8 (j := 0) I (by decide)
      have p_ad_8_0 : pt L_4 f_4 (ad 8 0) (.inr (0, [.ref (ad 1 0), .ref (ad 60 0), .ref (ad 61 0)])) := p_ad_8_0
      refine pg_get S Y ok_X0 0 (by decide) kf0_18 (v := .ref (ad 1 0)) p_ad_8_0 rfl dX0_fewestKnowing_6 ?_
      obtain ⟨v_37280, v_37282, v_37284, v_37286, v_37288, p_ad_1_0, b_37281, b_37283, b_37285, b_37287, b_37289⟩ := opnC_1 (j := 0) I (by decide)
      have p_ad_1_0 : pt L_4 f_4 (ad 1 0) (.inr (10, [.ref (ad 40 0), .ref (ad 41 0), .ref (ad 42 0), .ref (ad 10 0), .ref (ad 43 0), .ref (ad 20 0), .ref (ad 20 1), .ref (ad 20 2), .ref (ad 20 3), .ref (ad 20 4), .int v_37280, .int v_37282, .int v_37284, .int v_37286, .int v_37288])) := p_ad_1_0
      refine pg_getN S Y ok_X10 10 (by decide) kf0_72 (v := .int v_37280) p_ad_1_0 rfl dX0_fewestKnowing_9 ?_
      refine lv_icmp_ge (tgt := 47) hx hb dX0_fewestKnowing_12 (by decide) (fun c_37290 => ?_) (fun c_37290 => ?_)
      · refine lv_iconst (v := 1) hx hb dX0_fewestKnowing_47 (by decide) ?_
        refine lv_aload_n hx hb dX0_fewestKnowing_48 rfl (lv_at hl 0 rfl) ?_
        refine pg_get S Y ok_X0 0 (by decide) kf0_18 (v := .ref (ad 1 0)) p_ad_8_0 rfl dX0_fewestKnowing_49 ?_
        refine pg_getN S Y ok_X10 10 (by decide) kf0_72 (v := .int v_37280) p_ad_1_0 rfl dX0_fewestKnowing_52 ?_
        refine lv_ishl hx hb dX0_fewestKnowing_55 ?_
        refine lv_topi (fun x_37293 ex_37293 => ?_)
        refine lv_iconst (v := 1) hx hb dX0_fewestKnowing_56 (by decide) ?_
        refine lv_isub hx hb dX0_fewestKnowing_57 ?_
        refine lv_topi (fun x_37294 ex_37294 => ?_)
        refine lv_istore_n (lv' := [(2, .int x_37294), (0, .ref (ad 8 0)), (1, .int y4_1)]) hx hb dX0_fewestKnowing_58 rfl hl (by decide) rfl (fun ls hl => ?_)
        refine lv_iconst (v := 0) hx hb dX0_fewestKnowing_59 (by decide) ?_
        refine lv_istore_n (lv' := [(3, .int 0), (2, .int x_37294), (0, .ref (ad 8 0)), (1, .int y4_1)]) hx hb dX0_fewestKnowing_60 rfl hl (by decide) rfl (fun ls hl => ?_)
        exact J_61 _ y4_1 x_37294 0 _ _  _ _ _ I (bn_w (bn_eq ex_37294 (bn_sub (bn_eq ex_37293 (bn_shl (n := 6) (bn_w b_37281 (by decide) : bn 0 6 v_37280) (by decide) (by decide))) (show bn 1 1 (1 : Int32) from bn_k (by decide)) (by decide))) (by decide)) (bn_w (show bn 0 0 (0 : Int32) from bn_k (by decide)) (by decide)) rfl Y (lv_sub hl [2, 3, 1, 0] rfl)
      · have B_37291 : bn 1 6 v_37280 := bn_w (bn_gtl c_37290 b_37281 b_y4_2) (by decide)
        have B_37292 : bn 0 5 y4_2 := bn_w (bn_gtr c_37290 b_37281 b_y4_2) (by decide)
        refine lv_iload_n hx hb dX0_fewestKnowing_15 rfl (lv_at hl 2 rfl) ?_
        refine lv_bipush (v := 6) hx hb dX0_fewestKnowing_16 (by decide) ?_
        refine lv_icmp_ge (tgt := 47) hx hb dX0_fewestKnowing_18 (by decide) (fun h => absurd h (bd_nle (show bn 6 6 (6 : Int32) from bn_k (by decide)) B_37292 (by decide))) (fun _ => ?_)
        refine lv_aload_n hx hb dX0_fewestKnowing_21 rfl (lv_at hl 0 rfl) ?_
        refine pg_get S Y ok_X0 2 (by decide) kf0_15 (v := .ref (ad 61 0)) p_ad_8_0 rfl dX0_fewestKnowing_22 ?_
        refine lv_iload_n hx hb dX0_fewestKnowing_25 rfl (lv_at hl 2 rfl) ?_
        refine lv_aload_n hx hb dX0_fewestKnowing_26 rfl (lv_at hl 0 rfl) ?_
        refine lv_iload_n hx hb dX0_fewestKnowing_27 rfl (lv_at hl 2 rfl) ?_
        refine cVp (As := [.int y4_2]) (rest := [.int y4_2, .ref (ad 61 0)]) S Y (x_X0_wordsOf (l := l) I hW hT hQ) cw_X0_wordsOf km0_84 p_ad_8_0 ok_X0.1 rfl rfl ⟨Nat.le_of_ble_eq_true rfl, Nat.le_of_ble_eq_true rfl⟩ hl.1 rfl (Nat.le_of_ble_eq_true rfl) ⟨Nat.le_of_ble_eq_true rfl, Nat.le_of_ble_eq_true rfl⟩ dX0_fewestKnowing_28 (fun r_37295 H locs er_37295 Y => ?_)
        obtain ⟨g_37296, p_ad_61_0, o_37297⟩ := I.opi (k := 61) (j := 0) (by decide) rfl
        have p_ad_61_0 : pt L_4 f_4 (ad 61 0) (.inl (G.2 0, 6, .inl g_37296)) := p_ad_61_0
        refine pg_iast S Y p_ad_61_0 (vp_bn B_37292 (by decide)) dX0_fewestKnowing_31 (fun f_37299 H locs ef_37299 Y => ?_)
        obtain ⟨g_37298, eg_37298⟩ : ∃ z, z = upd (g_37296) (y4_2 : Int32).toNatClampNeg r_37295 := ⟨_, rfl⟩
        rw [← eg_37298] at ef_37299
        have p_ad_8_0 := p_ad_8_0.up ef_37299 (I.ne (k := 8) (j := 0) (k' := 61) (j' := 0) (by decide) (by decide) (Or.inl (by decide)))
        have p_ad_1_0 := p_ad_1_0.up ef_37299 (I.ne (k := 1) (j := 0) (k' := 61) (j' := 0) (by decide) (by decide) (Or.inl (by decide)))
        have p_ad_61_0 := p_ad_61_0.me ef_37299
        have I := I.up (k := 61) (j := 0) (by decide) ef_37299 (okE_a (g := g_37298) trivial)
        refine lv_iload_n hx hb dX0_fewestKnowing_32 rfl (lv_at hl 1 rfl) ?_
        refine lv_aload_n hx hb dX0_fewestKnowing_33 rfl (lv_at hl 0 rfl) ?_
        refine pg_get S Y ok_X0 2 (by decide) kf0_15 (v := .ref (ad 61 0)) p_ad_8_0 rfl dX0_fewestKnowing_34 ?_
        refine lv_iload_n hx hb dX0_fewestKnowing_37 rfl (lv_at hl 2 rfl) ?_
        obtain ⟨v_37300, ev_37300⟩ : ∃ z, z = g_37298 (y4_2 : Int32).toNatClampNeg := ⟨_, rfl⟩
        refine pg_iald S Y (v := v_37300) p_ad_61_0 (vp_bn B_37292 (by decide)) ev_37300.symm dX0_fewestKnowing_38 ?_
        refine lv_ior hx hb dX0_fewestKnowing_39 ?_
        refine lv_topi (fun x_37301 ex_37301 => ?_)
        refine lv_istore_n (lv' := [(1, .int x_37301), (0, .ref (ad 8 0)), (2, .int y4_2)]) hx hb dX0_fewestKnowing_40 rfl hl (by decide) rfl (fun ls hl => ?_)
        obtain ⟨x_37302, ex_37302⟩ : ∃ z : Int32, z = y4_2 + 1 := ⟨_, rfl⟩
        refine lv_iinc (v := x_37302) (lv' := [(2, .int x_37302), (1, .int x_37301), (0, .ref (ad 8 0))]) hx hb dX0_fewestKnowing_41 hl (k := 2) rfl (by rw [ex_37302]; rfl) (by decide) rfl (fun ls hl => ?_)
        refine lv_goto (tgt := 4) hx hb dX0_fewestKnowing_44 (by decide) ?_
        exact ih4 _ (by rw [← hm4]; exact ms_up (m := 1) ex_37302 (show bn 1 1 (1 : Int32) from bn_k (by decide)) B_37292 (bn_w (bn_eq ex_37302 (bn_add B_37292 (show bn 1 1 (1 : Int32) from bn_k (by decide)) (by decide))) (by decide) : bn 0 6 x_37302) (by decide)) x_37301 x_37302 _ _  _ _ _ I (bn_w (bn_eq ex_37302 (bn_add B_37292 (show bn 1 1 (1 : Int32) from bn_k (by decide)) (by decide))) (by decide)) rfl Y (lv_sub hl [2, 1, 0] rfl)
  refine lv_iconst (v := 0) hx hb dX0_fewestKnowing_0 (by decide) ?_
  refine lv_istore_n (lv' := [(1, .int 0), (0, .ref (ad 8 0))]) hx hb dX0_fewestKnowing_1 rfl hl (by decide) rfl (fun ls hl => ?_)
  refine lv_iconst (v := 0) hx hb dX0_fewestKnowing_2 (by decide) ?_
  refine lv_istore_n (lv' := [(2, .int 0), (1, .int 0), (0, .ref (ad 8 0))]) hx hb dX0_fewestKnowing_3 rfl hl (by decide) rfl (fun ls hl => ?_)
  exact J_4 _ 0 0 _ _  _ _ _ I (bn_w (show bn 0 0 (0 : Int32) from bn_k (by decide)) (by decide)) rfl Y (lv_sub hl [2, 1, 0] rfl)
set_option maxHeartbeats 4000000 in
set_option maxRecDepth 100000 in
theorem x_X0_legibleBy {l : Launch} {G : GG}  {L : List Nat} {f : HF} {ad : Nat → Nat → Nat} {rs : FS} {fc : Int × Int} {tc w : Nat → Int × Int} {q : Nat → (Nat → Int32) → Prop} {i1 : Int32} (I : SH (spC rs fc tc w q) nnC G ad L f) (hW : WBp w 8) (hT : WBp tc 4) (hQ : QIp q) : PMp l yX0_legibleBy cX0_legibleBy 4 .int 3 0 0 G [.ref (ad 8 0), .int i1] L f (fun r => True) := by
  refine PMi.of (post := fun r L1 f1 => (True) ∧ L1 = L ∧ f1 = f) (own := RX0) (by decide) rfl (Nat.le_of_ble_eq_true rfl) (fun sz p e s m args below meth c A ls hA1 hname S Y hl => ?_)
  have hx := S.hx
  have hb := S.hb
  have hl : lv_has ls 4 [(0, .ref (ad 8 0)), (1, .int i1)] := hl
  have J_4 : ∀ (n4 : Nat) (y4_2 y4_3 : Int32) (H : Heap) (locs : List Loc) (ls : Array Slot), (bn 0 14 y4_3) → (((14 : Int) - y4_3.toInt).toNat = n4) → (DY G A s [] L f H locs) → (lv_has ls 4 [(0, .ref (ad 8 0)), (1, .int i1), (2, .int y4_2), (3, .int y4_3)]) → W p l e (rmD 3 0 0) s m args below meth c H locs (0) (0) (MQ below (va_Qi (fun r (u : List Nat × HF) => (fun r L1 f1 => (True) ∧ L1 = L ∧ f1 = f) r u.1 u.2) (fun u t => pOut G (va_A (va_pl L f) sz) u.1 u.2 t) (va_A (va_pl L f) sz)) args s 0 0 A) (F0 m 4 ls []) := by
    intro n4
    induction n4 using Nat.strongRecOn with
    | _ n4 ih4 =>
      intro y4_2 y4_3 H locs ls b_y4_3 hm4 Y hl
      refine lv_iload_n hx hb dX0_legibleBy_4 rfl (lv_at hl 3 rfl) ?_
      refine lv_aload_n hx hb dX0_legibleBy_5 rfl (lv_at hl 0 rfl) ?_
      have p_ad_8_0 := opnC_8 (j := 0) I (by decide)
      have p_ad_8_0 : pt L f (ad 8 0) (.inr (0, [.ref (ad 1 0), .ref (ad 60 0), .ref (ad 61 0)])) := p_ad_8_0
      refine pg_get S Y ok_X0 0 (by decide) kf0_18 (v := .ref (ad 1 0)) p_ad_8_0 rfl dX0_legibleBy_6 ?_
      obtain ⟨v_39019, v_39021, v_39023, v_39025, v_39027, p_ad_1_0, b_39020, b_39022, b_39024, b_39026, b_39028⟩ := opnC_1 (j := 0) I (by decide)
      have p_ad_1_0 : pt L f (ad 1 0) (.inr (10, [.ref (ad 40 0), .ref (ad 41 0), .ref (ad 42 0), .ref (ad 10 0), .ref (ad 43 0), .ref (ad 20 0), .ref (ad 20 1), .ref (ad 20 2), .ref (ad 20 3), .ref (ad 20 4), .int v_39019, .int v_39021, .int v_39023, .int v_39025, .int v_39027])) := p_ad_1_0
      refine pg_getN S Y ok_X10 3 (by decide) kf0_22 (v := .ref (ad 10 0)) p_ad_1_0 rfl dX0_legibleBy_9 ?_
      obtain ⟨v_39029, v_39031, v_39033, v_39035, v_39037, p_ad_10_0, b_39030, b_39032, b_39034, b_39036, b_39038⟩ := opnC_10 (j := 0) I (by decide)
      have p_ad_10_0 : pt L f (ad 10 0) (.inr (4, [.ref (ad 11 0), .ref (ad 12 0), .int v_39029, .int v_39031, .int v_39033, .int v_39035, .int v_39037])) := p_ad_10_0
      refine pg_getN S Y ok_X4 2 (by decide) kf0_28 (v := .int v_39029) p_ad_10_0 rfl dX0_legibleBy_12 ?_
      refine lv_icmp_ge (tgt := 57) hx hb dX0_legibleBy_15 (by decide) (fun c_39039 => ?_) (fun c_39039 => ?_)
      · refine lv_iload_n hx hb dX0_legibleBy_57 rfl (lv_at hl 2 rfl) ?_
        exact prI (post := fun r L1 f1 => (True) ∧ L1 = L ∧ f1 = f) S Y rfl (by decide) (by decide) hA1 ⟨trivial, rfl, rfl⟩ dX0_legibleBy_58
      · have B_39040 : bn 1 14 v_39029 := bn_w (bn_gtl c_39039 b_39030 b_y4_3) (by decide)
        have B_39041 : bn 0 13 y4_3 := bn_w (bn_gtr c_39039 b_39030 b_y4_3) (by decide)
        refine lv_aload_n hx hb dX0_legibleBy_18 rfl (lv_at hl 0 rfl) ?_
        refine pg_get S Y ok_X0 0 (by decide) kf0_18 (v := .ref (ad 1 0)) p_ad_8_0 rfl dX0_legibleBy_19 ?_
        refine pg_getN S Y ok_X10 3 (by decide) kf0_22 (v := .ref (ad 10 0)) p_ad_1_0 rfl dX0_legibleBy_22 ?_
        refine lv_iload_n hx hb dX0_legibleBy_25 rfl (lv_at hl 3 rfl) ?_
        refine lv_iconst (v := 0) hx hb dX0_legibleBy_26 (by decide) ?_
        refine cVp (As := [.int y4_3, .int 0]) (rest := []) S Y (x_X4_get (l := l) (j := 0) I hW hT hQ (by decide)) cw_X4_get km0_34 p_ad_10_0 ok_X4.1 rfl rfl ⟨Nat.le_of_ble_eq_true rfl, Nat.le_of_ble_eq_true rfl⟩ hl.1 rfl (Nat.le_of_ble_eq_true rfl) ⟨Nat.le_of_ble_eq_true rfl, Nat.le_of_ble_eq_true rfl⟩ dX0_legibleBy_27 (fun r_39042 H locs er_39042 Y => ?_)
        refine lv_iload_n hx hb dX0_legibleBy_30 rfl (lv_at hl 1 rfl) ?_
        refine lv_icmp_ne (tgt := 51) hx hb dX0_legibleBy_31 (by decide) (fun c_39043 => ?_) (fun c_39043 => ?_)
        · obtain ⟨x_39044, ex_39044⟩ : ∃ z : Int32, z = y4_3 + 1 := ⟨_, rfl⟩
          refine lv_iinc (v := x_39044) (lv' := [(3, .int x_39044), (0, .ref (ad 8 0)), (1, .int i1), (2, .int y4_2)]) hx hb dX0_legibleBy_51 hl (k := 3) rfl (by rw [ex_39044]; rfl) (by decide) rfl (fun ls hl => ?_)
          refine lv_goto (tgt := 4) hx hb dX0_legibleBy_54 (by decide) ?_
          exact ih4 _ (by rw [← hm4]; exact ms_up (m := 1) ex_39044 (show bn 1 1 (1 : Int32) from bn_k (by decide)) B_39041 (bn_w (bn_eq ex_39044 (bn_add B_39041 (show bn 1 1 (1 : Int32) from bn_k (by decide)) (by decide))) (by decide) : bn 0 14 x_39044) (by decide)) y4_2 x_39044  _ _ _  (bn_w (bn_eq ex_39044 (bn_add B_39041 (show bn 1 1 (1 : Int32) from bn_k (by decide)) (by decide))) (by decide)) rfl Y (lv_sub hl [1, 2, 3, 0] rfl)
        · refine lv_aload_n hx hb dX0_legibleBy_34 rfl (lv_at hl 0 rfl) ?_
          refine pg_get S Y ok_X0 0 (by decide) kf0_18 (v := .ref (ad 1 0)) p_ad_8_0 rfl dX0_legibleBy_35 ?_
          refine pg_getN S Y ok_X10 3 (by decide) kf0_22 (v := .ref (ad 10 0)) p_ad_1_0 rfl dX0_legibleBy_38 ?_
          refine lv_iload_n hx hb dX0_legibleBy_41 rfl (lv_at hl 3 rfl) ?_
          refine cVp (As := [.int y4_3]) (rest := []) S Y (x_X4_legible (l := l) (j := 0) I hW hT hQ (by decide)) cw_X4_legible km0_78 p_ad_10_0 ok_X4.1 rfl rfl ⟨Nat.le_of_ble_eq_true rfl, Nat.le_of_ble_eq_true rfl⟩ hl.1 rfl (Nat.le_of_ble_eq_true rfl) ⟨Nat.le_of_ble_eq_true rfl, Nat.le_of_ble_eq_true rfl⟩ dX0_legibleBy_42 (fun r_39045 H locs er_39045 Y => ?_)
          refine lv_if_eq (tgt := 51) hx hb dX0_legibleBy_45 (by decide) (fun c_39046 => ?_) (fun c_39046 => ?_)
          · have B_39047 : bn 0 0 r_39045 := bn_w (bn_eq c_39046 (show bn 0 0 (0 : Int32) from bn_k (by decide))) (by decide)
            obtain ⟨x_39049, ex_39049⟩ : ∃ z : Int32, z = y4_3 + 1 := ⟨_, rfl⟩
            refine lv_iinc (v := x_39049) (lv' := [(3, .int x_39049), (0, .ref (ad 8 0)), (1, .int i1), (2, .int y4_2)]) hx hb dX0_legibleBy_51 hl (k := 3) rfl (by rw [ex_39049]; rfl) (by decide) rfl (fun ls hl => ?_)
            refine lv_goto (tgt := 4) hx hb dX0_legibleBy_54 (by decide) ?_
            exact ih4 _ (by rw [← hm4]; exact ms_up (m := 1) ex_39049 (show bn 1 1 (1 : Int32) from bn_k (by decide)) B_39041 (bn_w (bn_eq ex_39049 (bn_add B_39041 (show bn 1 1 (1 : Int32) from bn_k (by decide)) (by decide))) (by decide) : bn 0 14 x_39049) (by decide)) y4_2 x_39049  _ _ _  (bn_w (bn_eq ex_39049 (bn_add B_39041 (show bn 1 1 (1 : Int32) from bn_k (by decide)) (by decide))) (by decide)) rfl Y (lv_sub hl [1, 2, 3, 0] rfl)
          · have B_39048 : bn 1 1 r_39045 := bn_w (bn_nel c_39046 er_39045 (show bn 0 0 (0 : Int32) from bn_k (by decide))) (by decide)
            obtain ⟨x_39050, ex_39050⟩ : ∃ z : Int32, z = y4_2 + 1 := ⟨_, rfl⟩
            refine lv_iinc (v := x_39050) (lv' := [(2, .int x_39050), (0, .ref (ad 8 0)), (1, .int i1), (3, .int y4_3)]) hx hb dX0_legibleBy_48 hl (k := 2) rfl (by rw [ex_39050]; rfl) (by decide) rfl (fun ls hl => ?_)
            obtain ⟨x_39051, ex_39051⟩ : ∃ z : Int32, z = y4_3 + 1 := ⟨_, rfl⟩
            refine lv_iinc (v := x_39051) (lv' := [(3, .int x_39051), (2, .int x_39050), (0, .ref (ad 8 0)), (1, .int i1)]) hx hb dX0_legibleBy_51 hl (k := 3) rfl (by rw [ex_39051]; rfl) (by decide) rfl (fun ls hl => ?_)
            refine lv_goto (tgt := 4) hx hb dX0_legibleBy_54 (by decide) ?_
            exact ih4 _ (by rw [← hm4]; exact ms_up (m := 1) ex_39051 (show bn 1 1 (1 : Int32) from bn_k (by decide)) B_39041 (bn_w (bn_eq ex_39051 (bn_add B_39041 (show bn 1 1 (1 : Int32) from bn_k (by decide)) (by decide))) (by decide) : bn 0 14 x_39051) (by decide)) x_39050 x_39051  _ _ _  (bn_w (bn_eq ex_39051 (bn_add B_39041 (show bn 1 1 (1 : Int32) from bn_k (by decide)) (by decide))) (by decide)) rfl Y (lv_sub hl [2, 3, 1, 0] rfl)
  refine lv_iconst (v := 0) hx hb dX0_legibleBy_0 (by decide) ?_
  refine lv_istore_n (lv' := [(2, .int 0), (0, .ref (ad 8 0)), (1, .int i1)]) hx hb dX0_legibleBy_1 rfl hl (by decide) rfl (fun ls hl => ?_)
  refine lv_iconst (v := 0) hx hb dX0_legibleBy_2 (by decide) ?_
  refine lv_istore_n (lv' := [(3, .int 0), (2, .int 0), (0, .ref (ad 8 0)), (1, .int i1)]) hx hb dX0_legibleBy_3 rfl hl (by decide) rfl (fun ls hl => ?_)
  exact J_4 _ 0 0  _ _ _  (bn_w (show bn 0 0 (0 : Int32) from bn_k (by decide)) (by decide)) rfl Y (lv_sub hl [2, 3, 1, 0] rfl)
set_option maxHeartbeats 4000000 in
set_option maxRecDepth 100000 in
theorem x_X0_mostOften {l : Launch} {G : GG}  {L : List Nat} {f : HF} {ad : Nat → Nat → Nat} {rs : FS} {fc : Int × Int} {tc w : Nat → Int × Int} {q : Nat → (Nat → Int32) → Prop} (I : SH (spC rs fc tc w q) nnC G ad L f) (hW : WBp w 8) (hT : WBp tc 4) (hQ : QIp q) : PMp l yX0_mostOften cX0_mostOften 5 .int 4 0 0 G [.ref (ad 8 0)] L f (fun r => True) := by
  refine PMi.of (post := fun r L1 f1 => (True) ∧ L1 = L ∧ f1 = f) (own := RX0) (by decide) rfl (Nat.le_of_ble_eq_true rfl) (fun sz p e s m args below meth c A ls hA1 hname S Y hl => ?_)
  have hx := S.hx
  have hb := S.hb
  have hl : lv_has ls 5 [(0, .ref (ad 8 0))] := hl
  have J_6 : ∀ (n6 : Nat) (y6_1 y6_2 y6_3 : Int32) (H : Heap) (locs : List Loc) (ls : Array Slot), (bn (-1) 5 y6_1) → (bn 0 2147483647 y6_2) → (bn 0 6 y6_3) → (((6 : Int) - y6_3.toInt).toNat = n6) → (DY G A s [] L f H locs) → (lv_has ls 5 [(0, .ref (ad 8 0)), (1, .int y6_1), (2, .int y6_2), (3, .int y6_3)]) → W p l e (rmD 4 0 0) s m args below meth c H locs (0) (0) (MQ below (va_Qi (fun r (u : List Nat × HF) => (fun r L1 f1 => (True) ∧ L1 = L ∧ f1 = f) r u.1 u.2) (fun u t => pOut G (va_A (va_pl L f) sz) u.1 u.2 t) (va_A (va_pl L f) sz)) args s 0 0 A) (F0 m 6 ls []) := by
    intro n6
    induction n6 using Nat.strongRecOn with
    | _ n6 ih6 =>
      intro y6_1 y6_2 y6_3 H locs ls b_y6_1 b_y6_2 b_y6_3 hm6 Y hl
      refine lv_iload_n hx hb dX0_mostOften_6 rfl (lv_at hl 3 rfl) ?_
      refine lv_aload_n hx hb dX0_mostOften_7 rfl (lv_at hl 0 rfl) ?_
      have p_ad_8_0 := opnC_8 (j := 0) I (by decide)
      have p_ad_8_0 : pt L f (ad 8 0) (.inr (0, [.ref (ad 1 0), .ref (ad 60 0), .ref (ad 61 0)])) := p_ad_8_0
      refine pg_get S Y ok_X0 0 (by decide) kf0_18 (v := .ref (ad 1 0)) p_ad_8_0 rfl dX0_mostOften_8 ?_
      obtain ⟨v_39204, v_39206, v_39208, v_39210, v_39212, p_ad_1_0, b_39205, b_39207, b_39209, b_39211, b_39213⟩ := opnC_1 (j := 0) I (by decide)
      have p_ad_1_0 : pt L f (ad 1 0) (.inr (10, [.ref (ad 40 0), .ref (ad 41 0), .ref (ad 42 0), .ref (ad 10 0), .ref (ad 43 0), .ref (ad 20 0), .ref (ad 20 1), .ref (ad 20 2), .ref (ad 20 3), .ref (ad 20 4), .int v_39204, .int v_39206, .int v_39208, .int v_39210, .int v_39212])) := p_ad_1_0
      refine pg_getN S Y ok_X10 10 (by decide) kf0_72 (v := .int v_39204) p_ad_1_0 rfl dX0_mostOften_11 ?_
      refine lv_icmp_ge (tgt := 41) hx hb dX0_mostOften_14 (by decide) (fun c_39214 => ?_) (fun c_39214 => ?_)
      · refine lv_iload_n hx hb dX0_mostOften_41 rfl (lv_at hl 1 rfl) ?_
        exact prI (post := fun r L1 f1 => (True) ∧ L1 = L ∧ f1 = f) S Y rfl (by decide) (by decide) hA1 ⟨trivial, rfl, rfl⟩ dX0_mostOften_42
      · have B_39215 : bn 1 6 v_39204 := bn_w (bn_gtl c_39214 b_39205 b_y6_3) (by decide)
        have B_39216 : bn 0 5 y6_3 := bn_w (bn_gtr c_39214 b_39205 b_y6_3) (by decide)
        refine lv_aload_n hx hb dX0_mostOften_17 rfl (lv_at hl 0 rfl) ?_
        refine lv_iload_n hx hb dX0_mostOften_18 rfl (lv_at hl 3 rfl) ?_
        refine cVp (As := [.int y6_3]) (rest := []) S Y (x_X0_legibleBy (l := l) I hW hT hQ) cw_X0_legibleBy km0_90 p_ad_8_0 ok_X0.1 rfl rfl ⟨Nat.le_of_ble_eq_true rfl, Nat.le_of_ble_eq_true rfl⟩ hl.1 rfl (Nat.le_of_ble_eq_true rfl) ⟨Nat.le_of_ble_eq_true rfl, Nat.le_of_ble_eq_true rfl⟩ dX0_mostOften_19 (fun r_39217 H locs er_39217 Y => ?_)
        refine lv_istore (lv' := [(4, .int r_39217), (0, .ref (ad 8 0)), (1, .int y6_1), (2, .int y6_2), (3, .int y6_3)]) hx hb dX0_mostOften_22 hl (by decide) rfl (fun ls hl => ?_)
        refine lv_iload hx hb dX0_mostOften_24 (lv_at hl 0 rfl) ?_
        refine lv_iload_n hx hb dX0_mostOften_26 rfl (lv_at hl 3 rfl) ?_
        refine lv_icmp_le (tgt := 35) hx hb dX0_mostOften_27 (by decide) (fun c_39218 => ?_) (fun c_39218 => ?_)
        · obtain ⟨x_39221, ex_39221⟩ : ∃ z : Int32, z = y6_3 + 1 := ⟨_, rfl⟩
          refine lv_iinc (v := x_39221) (lv' := [(3, .int x_39221), (4, .int r_39217), (0, .ref (ad 8 0)), (1, .int y6_1), (2, .int y6_2)]) hx hb dX0_mostOften_35 hl (k := 4) rfl (by rw [ex_39221]; rfl) (by decide) rfl (fun ls hl => ?_)
          refine lv_goto (tgt := 6) hx hb dX0_mostOften_38 (by decide) ?_
          exact ih6 _ (by rw [← hm6]; exact ms_up (m := 1) ex_39221 (show bn 1 1 (1 : Int32) from bn_k (by decide)) B_39216 (bn_w (bn_eq ex_39221 (bn_add B_39216 (show bn 1 1 (1 : Int32) from bn_k (by decide)) (by decide))) (by decide) : bn 0 6 x_39221) (by decide)) y6_1 y6_2 x_39221  _ _ _  (bn_w b_y6_1 (by decide)) (bn_w b_y6_2 (by decide)) (bn_w (bn_eq ex_39221 (bn_add B_39216 (show bn 1 1 (1 : Int32) from bn_k (by decide)) (by decide))) (by decide)) rfl Y (lv_sub hl [2, 3, 4, 0] rfl)
        · have B_39219 : bn 1 2147483647 r_39217 := bn_w (bn_gtl c_39218 (bn_any r_39217) b_y6_2) (by decide)
          have B_39220 : bn 0 2147483646 y6_2 := bn_w (bn_gtr c_39218 (bn_any r_39217) b_y6_2) (by decide)
          refine lv_iload_n hx hb dX0_mostOften_30 rfl (lv_at hl 4 rfl) ?_
          refine lv_istore_n (lv' := [(1, .int y6_3), (4, .int r_39217), (0, .ref (ad 8 0)), (2, .int y6_2), (3, .int y6_3)]) hx hb dX0_mostOften_31 rfl hl (by decide) rfl (fun ls hl => ?_)
          refine lv_iload hx hb dX0_mostOften_32 (lv_at hl 1 rfl) ?_
          refine lv_istore_n (lv' := [(2, .int r_39217), (1, .int y6_3), (4, .int r_39217), (0, .ref (ad 8 0)), (3, .int y6_3)]) hx hb dX0_mostOften_34 rfl hl (by decide) rfl (fun ls hl => ?_)
          obtain ⟨x_39222, ex_39222⟩ : ∃ z : Int32, z = y6_3 + 1 := ⟨_, rfl⟩
          refine lv_iinc (v := x_39222) (lv' := [(3, .int x_39222), (2, .int r_39217), (1, .int y6_3), (4, .int r_39217), (0, .ref (ad 8 0))]) hx hb dX0_mostOften_35 hl (k := 4) rfl (by rw [ex_39222]; rfl) (by decide) rfl (fun ls hl => ?_)
          refine lv_goto (tgt := 6) hx hb dX0_mostOften_38 (by decide) ?_
          exact ih6 _ (by rw [← hm6]; exact ms_up (m := 1) ex_39222 (show bn 1 1 (1 : Int32) from bn_k (by decide)) B_39216 (bn_w (bn_eq ex_39222 (bn_add B_39216 (show bn 1 1 (1 : Int32) from bn_k (by decide)) (by decide))) (by decide) : bn 0 6 x_39222) (by decide)) y6_3 r_39217 x_39222  _ _ _  (bn_w B_39216 (by decide)) (bn_w B_39219 (by decide)) (bn_w (bn_eq ex_39222 (bn_add B_39216 (show bn 1 1 (1 : Int32) from bn_k (by decide)) (by decide))) (by decide)) rfl Y (lv_sub hl [4, 2, 1, 0] rfl)
  refine lv_iconst (v := (-1)) hx hb dX0_mostOften_0 (by decide) ?_
  refine lv_istore_n (lv' := [(1, .int (-1)), (0, .ref (ad 8 0))]) hx hb dX0_mostOften_1 rfl hl (by decide) rfl (fun ls hl => ?_)
  refine lv_iconst (v := 0) hx hb dX0_mostOften_2 (by decide) ?_
  refine lv_istore_n (lv' := [(2, .int 0), (1, .int (-1)), (0, .ref (ad 8 0))]) hx hb dX0_mostOften_3 rfl hl (by decide) rfl (fun ls hl => ?_)
  refine lv_iconst (v := 0) hx hb dX0_mostOften_4 (by decide) ?_
  refine lv_istore_n (lv' := [(3, .int 0), (2, .int 0), (1, .int (-1)), (0, .ref (ad 8 0))]) hx hb dX0_mostOften_5 rfl hl (by decide) rfl (fun ls hl => ?_)
  exact J_6 _ (-1) 0 0  _ _ _  (bn_w (show bn (-1) (-1) ((-1) : Int32) from bn_k (by decide)) (by decide)) (bn_w (show bn 0 0 (0 : Int32) from bn_k (by decide)) (by decide)) (bn_w (show bn 0 0 (0 : Int32) from bn_k (by decide)) (by decide)) rfl Y (lv_sub hl [3, 2, 1, 0] rfl)
set_option maxHeartbeats 4000000 in
set_option maxRecDepth 100000 in
theorem x_X0_unbroken {l : Launch} {G : GG}  {L : List Nat} {f : HF} {ad : Nat → Nat → Nat} {rs : FS} {fc : Int × Int} {tc w : Nat → Int × Int} {q : Nat → (Nat → Int32) → Prop} (I : SH (spC rs fc tc w q) nnC G ad L f) (hW : WBp w 8) (hT : WBp tc 4) (hQ : QIp q) : PMp l yX0_unbroken cX0_unbroken 3 .int 1 0 0 G [.ref (ad 8 0)] L f (fun r => True) := by
  refine PMi.of (post := fun r L1 f1 => (True) ∧ L1 = L ∧ f1 = f) (own := RX0) (by decide) rfl (Nat.le_of_ble_eq_true rfl) (fun sz p e s m args below meth c A ls hA1 hname S Y hl => ?_)
  have hx := S.hx
  have hb := S.hb
  have hl : lv_has ls 3 [(0, .ref (ad 8 0))] := hl
  have J_14 : ∀ (n14 : Nat) (y14_1 y14_2 : Int32) (H : Heap) (locs : List Loc) (ls : Array Slot), (bn 0 14 y14_2) → (((14 : Int) - y14_2.toInt).toNat = n14) → (DY G A s [] L f H locs) → (lv_has ls 3 [(0, .ref (ad 8 0)), (1, .int y14_1), (2, .int y14_2)]) → W p l e (rmD 1 0 0) s m args below meth c H locs (0) (0) (MQ below (va_Qi (fun r (u : List Nat × HF) => (fun r L1 f1 => (True) ∧ L1 = L ∧ f1 = f) r u.1 u.2) (fun u t => pOut G (va_A (va_pl L f) sz) u.1 u.2 t) (va_A (va_pl L f) sz)) args s 0 0 A) (F0 m 14 ls []) := by
    intro n14
    induction n14 using Nat.strongRecOn with
    | _ n14 ih14 =>
      intro y14_1 y14_2 H locs ls b_y14_2 hm14 Y hl
      refine lv_iload_n hx hb dX0_unbroken_14 rfl (lv_at hl 2 rfl) ?_
      refine lv_aload_n hx hb dX0_unbroken_15 rfl (lv_at hl 0 rfl) ?_
      have p_ad_8_0 := opnC_8 (j := 0) I (by decide)
      have p_ad_8_0 : pt L f (ad 8 0) (.inr (0, [.ref (ad 1 0), .ref (ad 60 0), .ref (ad 61 0)])) := p_ad_8_0
      refine pg_get S Y ok_X0 0 (by decide) kf0_18 (v := .ref (ad 1 0)) p_ad_8_0 rfl dX0_unbroken_16 ?_
      obtain ⟨v_39695, v_39697, v_39699, v_39701, v_39703, p_ad_1_0, b_39696, b_39698, b_39700, b_39702, b_39704⟩ := opnC_1 (j := 0) I (by decide)
      have p_ad_1_0 : pt L f (ad 1 0) (.inr (10, [.ref (ad 40 0), .ref (ad 41 0), .ref (ad 42 0), .ref (ad 10 0), .ref (ad 43 0), .ref (ad 20 0), .ref (ad 20 1), .ref (ad 20 2), .ref (ad 20 3), .ref (ad 20 4), .int v_39695, .int v_39697, .int v_39699, .int v_39701, .int v_39703])) := p_ad_1_0
      refine pg_getN S Y ok_X10 3 (by decide) kf0_22 (v := .ref (ad 10 0)) p_ad_1_0 rfl dX0_unbroken_19 ?_
      obtain ⟨v_39705, v_39707, v_39709, v_39711, v_39713, p_ad_10_0, b_39706, b_39708, b_39710, b_39712, b_39714⟩ := opnC_10 (j := 0) I (by decide)
      have p_ad_10_0 : pt L f (ad 10 0) (.inr (4, [.ref (ad 11 0), .ref (ad 12 0), .int v_39705, .int v_39707, .int v_39709, .int v_39711, .int v_39713])) := p_ad_10_0
      refine pg_getN S Y ok_X4 2 (by decide) kf0_28 (v := .int v_39705) p_ad_10_0 rfl dX0_unbroken_22 ?_
      refine lv_icmp_ge (tgt := 69) hx hb dX0_unbroken_25 (by decide) (fun c_39715 => ?_) (fun c_39715 => ?_)
      · refine lv_iload_n hx hb dX0_unbroken_69 rfl (lv_at hl 1 rfl) ?_
        exact prI (post := fun r L1 f1 => (True) ∧ L1 = L ∧ f1 = f) S Y rfl (by decide) (by decide) hA1 ⟨trivial, rfl, rfl⟩ dX0_unbroken_70
      · have B_39716 : bn 1 14 v_39705 := bn_w (bn_gtl c_39715 b_39706 b_y14_2) (by decide)
        have B_39717 : bn 0 13 y14_2 := bn_w (bn_gtr c_39715 b_39706 b_y14_2) (by decide)
        refine lv_aload_n hx hb dX0_unbroken_28 rfl (lv_at hl 0 rfl) ?_
        refine pg_get S Y ok_X0 0 (by decide) kf0_18 (v := .ref (ad 1 0)) p_ad_8_0 rfl dX0_unbroken_29 ?_
        refine pg_getN S Y ok_X10 3 (by decide) kf0_22 (v := .ref (ad 10 0)) p_ad_1_0 rfl dX0_unbroken_32 ?_
        refine lv_iload_n hx hb dX0_unbroken_35 rfl (lv_at hl 2 rfl) ?_
        refine lv_iconst (v := 4) hx hb dX0_unbroken_36 (by decide) ?_
        refine cVp (As := [.int y14_2, .int 4]) (rest := []) S Y (x_X4_get (l := l) (j := 0) I hW hT hQ (by decide)) cw_X4_get km0_34 p_ad_10_0 ok_X4.1 rfl rfl ⟨Nat.le_of_ble_eq_true rfl, Nat.le_of_ble_eq_true rfl⟩ hl.1 rfl (Nat.le_of_ble_eq_true rfl) ⟨Nat.le_of_ble_eq_true rfl, Nat.le_of_ble_eq_true rfl⟩ dX0_unbroken_37 (fun r_39718 H locs er_39718 Y => ?_)
        refine lv_iconst (v := 1) hx hb dX0_unbroken_40 (by decide) ?_
        refine lv_icmp_ne (tgt := 63) hx hb dX0_unbroken_41 (by decide) (fun c_39719 => ?_) (fun c_39719 => ?_)
        · obtain ⟨x_39721, ex_39721⟩ : ∃ z : Int32, z = y14_2 + 1 := ⟨_, rfl⟩
          refine lv_iinc (v := x_39721) (lv' := [(2, .int x_39721), (0, .ref (ad 8 0)), (1, .int y14_1)]) hx hb dX0_unbroken_63 hl (k := 2) rfl (by rw [ex_39721]; rfl) (by decide) rfl (fun ls hl => ?_)
          refine lv_goto (tgt := 14) hx hb dX0_unbroken_66 (by decide) ?_
          exact ih14 _ (by rw [← hm14]; exact ms_up (m := 1) ex_39721 (show bn 1 1 (1 : Int32) from bn_k (by decide)) B_39717 (bn_w (bn_eq ex_39721 (bn_add B_39717 (show bn 1 1 (1 : Int32) from bn_k (by decide)) (by decide))) (by decide) : bn 0 14 x_39721) (by decide)) y14_1 x_39721  _ _ _  (bn_w (bn_eq ex_39721 (bn_add B_39717 (show bn 1 1 (1 : Int32) from bn_k (by decide)) (by decide))) (by decide)) rfl Y (lv_sub hl [1, 2, 0] rfl)
        · have B_39720 : bn 1 1 r_39718 := bn_w (bn_eq c_39719 (show bn 1 1 (1 : Int32) from bn_k (by decide))) (by decide)
          refine lv_iload_n hx hb dX0_unbroken_44 rfl (lv_at hl 1 rfl) ?_
          refine lv_iconst (v := 1) hx hb dX0_unbroken_45 (by decide) ?_
          refine lv_aload_n hx hb dX0_unbroken_46 rfl (lv_at hl 0 rfl) ?_
          refine pg_get S Y ok_X0 0 (by decide) kf0_18 (v := .ref (ad 1 0)) p_ad_8_0 rfl dX0_unbroken_47 ?_
          refine pg_getN S Y ok_X10 3 (by decide) kf0_22 (v := .ref (ad 10 0)) p_ad_1_0 rfl dX0_unbroken_50 ?_
          refine lv_iload_n hx hb dX0_unbroken_53 rfl (lv_at hl 2 rfl) ?_
          refine lv_iconst (v := 0) hx hb dX0_unbroken_54 (by decide) ?_
          refine cVp (As := [.int y14_2, .int 0]) (rest := [.int 1, .int y14_1]) S Y (x_X4_get (l := l) (j := 0) I hW hT hQ (by decide)) cw_X4_get km0_34 p_ad_10_0 ok_X4.1 rfl rfl ⟨Nat.le_of_ble_eq_true rfl, Nat.le_of_ble_eq_true rfl⟩ hl.1 rfl (Nat.le_of_ble_eq_true rfl) ⟨Nat.le_of_ble_eq_true rfl, Nat.le_of_ble_eq_true rfl⟩ dX0_unbroken_55 (fun r_39722 H locs er_39722 Y => ?_)
          refine lv_ishl hx hb dX0_unbroken_58 ?_
          refine lv_topi (fun x_39723 ex_39723 => ?_)
          refine lv_iconst (v := (-1)) hx hb dX0_unbroken_59 (by decide) ?_
          refine lv_ixor hx hb dX0_unbroken_60 ?_
          refine lv_topi (fun x_39724 ex_39724 => ?_)
          refine lv_iand hx hb dX0_unbroken_61 ?_
          refine lv_topi (fun x_39725 ex_39725 => ?_)
          refine lv_istore_n (lv' := [(1, .int x_39725), (0, .ref (ad 8 0)), (2, .int y14_2)]) hx hb dX0_unbroken_62 rfl hl (by decide) rfl (fun ls hl => ?_)
          obtain ⟨x_39726, ex_39726⟩ : ∃ z : Int32, z = y14_2 + 1 := ⟨_, rfl⟩
          refine lv_iinc (v := x_39726) (lv' := [(2, .int x_39726), (1, .int x_39725), (0, .ref (ad 8 0))]) hx hb dX0_unbroken_63 hl (k := 2) rfl (by rw [ex_39726]; rfl) (by decide) rfl (fun ls hl => ?_)
          refine lv_goto (tgt := 14) hx hb dX0_unbroken_66 (by decide) ?_
          exact ih14 _ (by rw [← hm14]; exact ms_up (m := 1) ex_39726 (show bn 1 1 (1 : Int32) from bn_k (by decide)) B_39717 (bn_w (bn_eq ex_39726 (bn_add B_39717 (show bn 1 1 (1 : Int32) from bn_k (by decide)) (by decide))) (by decide) : bn 0 14 x_39726) (by decide)) x_39725 x_39726  _ _ _  (bn_w (bn_eq ex_39726 (bn_add B_39717 (show bn 1 1 (1 : Int32) from bn_k (by decide)) (by decide))) (by decide)) rfl Y (lv_sub hl [2, 1, 0] rfl)
  refine lv_iconst (v := 1) hx hb dX0_unbroken_0 (by decide) ?_
  refine lv_aload_n hx hb dX0_unbroken_1 rfl (lv_at hl 0 rfl) ?_
  have p_ad_8_0 := opnC_8 (j := 0) I (by decide)
  have p_ad_8_0 : pt L f (ad 8 0) (.inr (0, [.ref (ad 1 0), .ref (ad 60 0), .ref (ad 61 0)])) := p_ad_8_0
  refine pg_get S Y ok_X0 0 (by decide) kf0_18 (v := .ref (ad 1 0)) p_ad_8_0 rfl dX0_unbroken_2 ?_
  obtain ⟨v_39727, v_39729, v_39731, v_39733, v_39735, p_ad_1_0, b_39728, b_39730, b_39732, b_39734, b_39736⟩ := opnC_1 (j := 0) I (by decide)
  have p_ad_1_0 : pt L f (ad 1 0) (.inr (10, [.ref (ad 40 0), .ref (ad 41 0), .ref (ad 42 0), .ref (ad 10 0), .ref (ad 43 0), .ref (ad 20 0), .ref (ad 20 1), .ref (ad 20 2), .ref (ad 20 3), .ref (ad 20 4), .int v_39727, .int v_39729, .int v_39731, .int v_39733, .int v_39735])) := p_ad_1_0
  refine pg_getN S Y ok_X10 10 (by decide) kf0_72 (v := .int v_39727) p_ad_1_0 rfl dX0_unbroken_5 ?_
  refine lv_ishl hx hb dX0_unbroken_8 ?_
  refine lv_topi (fun x_39737 ex_39737 => ?_)
  refine lv_iconst (v := 1) hx hb dX0_unbroken_9 (by decide) ?_
  refine lv_isub hx hb dX0_unbroken_10 ?_
  refine lv_topi (fun x_39738 ex_39738 => ?_)
  refine lv_istore_n (lv' := [(1, .int x_39738), (0, .ref (ad 8 0))]) hx hb dX0_unbroken_11 rfl hl (by decide) rfl (fun ls hl => ?_)
  refine lv_iconst (v := 0) hx hb dX0_unbroken_12 (by decide) ?_
  refine lv_istore_n (lv' := [(2, .int 0), (1, .int x_39738), (0, .ref (ad 8 0))]) hx hb dX0_unbroken_13 rfl hl (by decide) rfl (fun ls hl => ?_)
  exact J_14 _ x_39738 0  _ _ _  (bn_w (show bn 0 0 (0 : Int32) from bn_k (by decide)) (by decide)) rfl Y (lv_sub hl [2, 1, 0] rfl)
