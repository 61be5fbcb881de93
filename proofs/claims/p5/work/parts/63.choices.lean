theorem dX0_net_0 : decode cX0_net 0 = .ok (.aload_n 0, 1) := by decide +kernel
theorem dX0_net_1 : decode cX0_net 1 = .ok (.getfield 18, 3) := by decide +kernel
theorem ok_X0 : clOK 0 RX0 TX0 3 tyX0 := ⟨rfl, fun w h => ⟨(show ∀ w ∈ u_ws RX0 TX0 3, w ∈ lw_tbl by decide +kernel) w h, (show ∀ w ∈ u_ws RX0 TX0 3, gw w = true by decide +kernel) w h⟩, tyX0_ok, nmX0⟩
theorem kf0_18 : inW (Cond.fieldLink RX0 18 "KneeOaths$Choices" "world" "LKneeOaths$World;") := ⟨List.mem_of_getElem? (i := 495) (by decide +kernel), by decide +kernel⟩
theorem dX0_net_4 : decode cX0_net 4 = .ok (.getfield 22, 3) := by decide +kernel
theorem kf0_22 : inW (Cond.fieldLinkNest RX0 22 "KneeOaths$World" "now" "LKneeOaths$Ledger;" "KneeOaths") := ⟨List.mem_of_getElem? (i := 266) (by decide +kernel), by decide +kernel⟩
theorem dX0_net_7 : decode cX0_net 7 = .ok (.astore_n 2, 1) := by decide +kernel
theorem dX0_net_8 : decode cX0_net 8 = .ok (.iconst 0, 1) := by decide +kernel
theorem dX0_net_9 : decode cX0_net 9 = .ok (.istore_n 3, 1) := by decide +kernel
theorem dX0_net_10 : decode cX0_net 10 = .ok (.iconst 0, 1) := by decide +kernel
theorem dX0_net_11 : decode cX0_net 11 = .ok (.istore 4, 2) := by decide +kernel
theorem dX0_net_13 : decode cX0_net 13 = .ok (.iload 4, 2) := by decide +kernel
theorem dX0_net_15 : decode cX0_net 15 = .ok (.aload_n 2, 1) := by decide +kernel
theorem dX0_net_16 : decode cX0_net 16 = .ok (.getfield 28, 3) := by decide +kernel
theorem kf0_28 : inW (Cond.fieldLinkNest RX0 28 "KneeOaths$Ledger" "oathCount" "I" "KneeOaths") := ⟨List.mem_of_getElem? (i := 161) (by decide +kernel), by decide +kernel⟩
theorem dX0_net_19 : decode cX0_net 19 = .ok (.if_icmp .ge 80, 3) := by decide +kernel
theorem dX0_net_99 : decode cX0_net 99 = .ok (.iload_n 3, 1) := by decide +kernel
theorem dX0_net_100 : decode cX0_net 100 = .ok (.ireturn, 1) := by decide +kernel
theorem dX0_net_22 : decode cX0_net 22 = .ok (.aload_n 2, 1) := by decide +kernel
theorem dX0_net_23 : decode cX0_net 23 = .ok (.iload 4, 2) := by decide +kernel
theorem dX0_net_25 : decode cX0_net 25 = .ok (.iconst 4, 1) := by decide +kernel
theorem dX0_net_26 : decode cX0_net 26 = .ok (.invokevirtual 34, 3) := by decide +kernel
theorem km0_34 : inW (Cond.methodLink RX0 34 yX4_get) := ⟨List.mem_of_getElem? (i := 1154) (by decide +kernel), by decide +kernel⟩
theorem dX0_net_29 : decode cX0_net 29 = .ok (.ifCond .ne 64, 3) := by decide +kernel
theorem dX0_net_93 : decode cX0_net 93 = .ok (.iinc 4 1, 3) := by decide +kernel
theorem dX0_net_96 : decode cX0_net 96 = .ok (.goto (-83), 3) := by decide +kernel
theorem dX0_net_32 : decode cX0_net 32 = .ok (.aload_n 2, 1) := by decide +kernel
theorem dX0_net_33 : decode cX0_net 33 = .ok (.iload 4, 2) := by decide +kernel
theorem dX0_net_35 : decode cX0_net 35 = .ok (.iconst 2, 1) := by decide +kernel
theorem dX0_net_36 : decode cX0_net 36 = .ok (.invokevirtual 34, 3) := by decide +kernel
theorem dX0_net_39 : decode cX0_net 39 = .ok (.iconst 1, 1) := by decide +kernel
theorem dX0_net_40 : decode cX0_net 40 = .ok (.if_icmp .ne 53, 3) := by decide +kernel
theorem dX0_net_43 : decode cX0_net 43 = .ok (.iload_n 3, 1) := by decide +kernel
theorem dX0_net_44 : decode cX0_net 44 = .ok (.aload_n 2, 1) := by decide +kernel
theorem dX0_net_45 : decode cX0_net 45 = .ok (.iload 4, 2) := by decide +kernel
theorem dX0_net_47 : decode cX0_net 47 = .ok (.iconst 1, 1) := by decide +kernel
theorem dX0_net_48 : decode cX0_net 48 = .ok (.invokevirtual 34, 3) := by decide +kernel
theorem dX0_net_51 : decode cX0_net 51 = .ok (.iload_n 1, 1) := by decide +kernel
theorem dX0_net_52 : decode cX0_net 52 = .ok (.if_icmp .ne 13, 3) := by decide +kernel
theorem dX0_net_65 : decode cX0_net 65 = .ok (.iconst 0, 1) := by decide +kernel
theorem dX0_net_66 : decode cX0_net 66 = .ok (.iadd, 1) := by decide +kernel
theorem dX0_net_67 : decode cX0_net 67 = .ok (.istore_n 3, 1) := by decide +kernel
theorem dX0_net_68 : decode cX0_net 68 = .ok (.iload_n 3, 1) := by decide +kernel
theorem dX0_net_69 : decode cX0_net 69 = .ok (.aload_n 2, 1) := by decide +kernel
theorem dX0_net_70 : decode cX0_net 70 = .ok (.iload 4, 2) := by decide +kernel
theorem dX0_net_72 : decode cX0_net 72 = .ok (.iconst 0, 1) := by decide +kernel
theorem dX0_net_73 : decode cX0_net 73 = .ok (.invokevirtual 34, 3) := by decide +kernel
theorem dX0_net_76 : decode cX0_net 76 = .ok (.iload_n 1, 1) := by decide +kernel
theorem dX0_net_77 : decode cX0_net 77 = .ok (.if_icmp .ne 13, 3) := by decide +kernel
theorem dX0_net_90 : decode cX0_net 90 = .ok (.iconst 0, 1) := by decide +kernel
theorem dX0_net_91 : decode cX0_net 91 = .ok (.isub, 1) := by decide +kernel
theorem dX0_net_92 : decode cX0_net 92 = .ok (.istore_n 3, 1) := by decide +kernel
theorem dX0_net_80 : decode cX0_net 80 = .ok (.aload_n 2, 1) := by decide +kernel
theorem dX0_net_81 : decode cX0_net 81 = .ok (.iload 4, 2) := by decide +kernel
theorem dX0_net_83 : decode cX0_net 83 = .ok (.iconst 3, 1) := by decide +kernel
theorem dX0_net_84 : decode cX0_net 84 = .ok (.invokevirtual 34, 3) := by decide +kernel
theorem dX0_net_87 : decode cX0_net 87 = .ok (.goto 4, 3) := by decide +kernel
theorem dX0_net_55 : decode cX0_net 55 = .ok (.aload_n 2, 1) := by decide +kernel
theorem dX0_net_56 : decode cX0_net 56 = .ok (.iload 4, 2) := by decide +kernel
theorem dX0_net_58 : decode cX0_net 58 = .ok (.iconst 3, 1) := by decide +kernel
theorem dX0_net_59 : decode cX0_net 59 = .ok (.invokevirtual 34, 3) := by decide +kernel
theorem dX0_net_62 : decode cX0_net 62 = .ok (.goto 4, 3) := by decide +kernel
theorem dX0_gatherClashes_0 : decode cX0_gatherClashes 0 = .ok (.iconst 0, 1) := by decide +kernel
theorem dX0_gatherClashes_1 : decode cX0_gatherClashes 1 = .ok (.istore_n 1, 1) := by decide +kernel
theorem dX0_gatherClashes_2 : decode cX0_gatherClashes 2 = .ok (.iconst 0, 1) := by decide +kernel
theorem dX0_gatherClashes_3 : decode cX0_gatherClashes 3 = .ok (.istore_n 2, 1) := by decide +kernel
theorem dX0_gatherClashes_4 : decode cX0_gatherClashes 4 = .ok (.iload_n 2, 1) := by decide +kernel
theorem dX0_gatherClashes_5 : decode cX0_gatherClashes 5 = .ok (.aload_n 0, 1) := by decide +kernel
theorem dX0_gatherClashes_6 : decode cX0_gatherClashes 6 = .ok (.getfield 18, 3) := by decide +kernel
theorem dX0_gatherClashes_9 : decode cX0_gatherClashes 9 = .ok (.getfield 52, 3) := by decide +kernel
theorem kf0_52 : inW (Cond.fieldLinkNest RX0 52 "KneeOaths$World" "clashes" "LKneeOaths$Told;" "KneeOaths") := ⟨List.mem_of_getElem? (i := 277) (by decide +kernel), by decide +kernel⟩
theorem dX0_gatherClashes_12 : decode cX0_gatherClashes 12 = .ok (.getfield 56, 3) := by decide +kernel
theorem kf0_56 : inW (Cond.fieldLinkNest RX0 56 "KneeOaths$Told" "count" "I" "KneeOaths") := ⟨List.mem_of_getElem? (i := 221) (by decide +kernel), by decide +kernel⟩
theorem dX0_gatherClashes_15 : decode cX0_gatherClashes 15 = .ok (.if_icmp .ge 90, 3) := by decide +kernel
theorem dX0_gatherClashes_105 : decode cX0_gatherClashes 105 = .ok (.iload_n 1, 1) := by decide +kernel
theorem dX0_gatherClashes_106 : decode cX0_gatherClashes 106 = .ok (.ireturn, 1) := by decide +kernel
theorem dX0_gatherClashes_18 : decode cX0_gatherClashes 18 = .ok (.iload_n 2, 1) := by decide +kernel
theorem dX0_gatherClashes_19 : decode cX0_gatherClashes 19 = .ok (.bipush 8, 2) := by decide +kernel
theorem dX0_gatherClashes_21 : decode cX0_gatherClashes 21 = .ok (.if_icmp .ge 84, 3) := by decide +kernel
theorem dX0_gatherClashes_24 : decode cX0_gatherClashes 24 = .ok (.aload_n 0, 1) := by decide +kernel
theorem dX0_gatherClashes_25 : decode cX0_gatherClashes 25 = .ok (.getfield 18, 3) := by decide +kernel
theorem dX0_gatherClashes_28 : decode cX0_gatherClashes 28 = .ok (.getfield 52, 3) := by decide +kernel
theorem dX0_gatherClashes_31 : decode cX0_gatherClashes 31 = .ok (.iload_n 2, 1) := by decide +kernel
theorem dX0_gatherClashes_32 : decode cX0_gatherClashes 32 = .ok (.iconst 0, 1) := by decide +kernel
theorem dX0_gatherClashes_33 : decode cX0_gatherClashes 33 = .ok (.invokevirtual 61, 3) := by decide +kernel
theorem km0_61 : inW (Cond.methodLink RX0 61 yX9_get) := ⟨List.mem_of_getElem? (i := 1310) (by decide +kernel), by decide +kernel⟩
theorem dX0_gatherClashes_36 : decode cX0_gatherClashes 36 = .ok (.istore_n 3, 1) := by decide +kernel
theorem dX0_gatherClashes_37 : decode cX0_gatherClashes 37 = .ok (.aload_n 0, 1) := by decide +kernel
theorem dX0_gatherClashes_38 : decode cX0_gatherClashes 38 = .ok (.getfield 18, 3) := by decide +kernel
theorem dX0_gatherClashes_41 : decode cX0_gatherClashes 41 = .ok (.getfield 52, 3) := by decide +kernel
theorem dX0_gatherClashes_44 : decode cX0_gatherClashes 44 = .ok (.iload_n 2, 1) := by decide +kernel
theorem dX0_gatherClashes_45 : decode cX0_gatherClashes 45 = .ok (.iconst 1, 1) := by decide +kernel
theorem dX0_gatherClashes_46 : decode cX0_gatherClashes 46 = .ok (.invokevirtual 61, 3) := by decide +kernel
theorem dX0_gatherClashes_49 : decode cX0_gatherClashes 49 = .ok (.istore 4, 2) := by decide +kernel
theorem dX0_gatherClashes_51 : decode cX0_gatherClashes 51 = .ok (.aload_n 0, 1) := by decide +kernel
theorem dX0_gatherClashes_52 : decode cX0_gatherClashes 52 = .ok (.getfield 18, 3) := by decide +kernel
theorem dX0_gatherClashes_55 : decode cX0_gatherClashes 55 = .ok (.getfield 22, 3) := by decide +kernel
theorem dX0_gatherClashes_58 : decode cX0_gatherClashes 58 = .ok (.iload_n 3, 1) := by decide +kernel
theorem dX0_gatherClashes_59 : decode cX0_gatherClashes 59 = .ok (.iconst 4, 1) := by decide +kernel
theorem dX0_gatherClashes_60 : decode cX0_gatherClashes 60 = .ok (.invokevirtual 34, 3) := by decide +kernel
theorem dX0_gatherClashes_63 : decode cX0_gatherClashes 63 = .ok (.ifCond .ne 36, 3) := by decide +kernel
theorem dX0_gatherClashes_99 : decode cX0_gatherClashes 99 = .ok (.iinc 2 1, 3) := by decide +kernel
theorem dX0_gatherClashes_102 : decode cX0_gatherClashes 102 = .ok (.goto (-98), 3) := by decide +kernel
theorem dX0_gatherClashes_66 : decode cX0_gatherClashes 66 = .ok (.aload_n 0, 1) := by decide +kernel
theorem dX0_gatherClashes_67 : decode cX0_gatherClashes 67 = .ok (.getfield 18, 3) := by decide +kernel
theorem dX0_gatherClashes_70 : decode cX0_gatherClashes 70 = .ok (.getfield 22, 3) := by decide +kernel
theorem dX0_gatherClashes_73 : decode cX0_gatherClashes 73 = .ok (.iload 4, 2) := by decide +kernel
theorem dX0_gatherClashes_75 : decode cX0_gatherClashes 75 = .ok (.iconst 4, 1) := by decide +kernel
theorem dX0_gatherClashes_76 : decode cX0_gatherClashes 76 = .ok (.invokevirtual 34, 3) := by decide +kernel
theorem dX0_gatherClashes_79 : decode cX0_gatherClashes 79 = .ok (.ifCond .ne 20, 3) := by decide +kernel
theorem dX0_gatherClashes_82 : decode cX0_gatherClashes 82 = .ok (.aload_n 0, 1) := by decide +kernel
theorem dX0_gatherClashes_83 : decode cX0_gatherClashes 83 = .ok (.getfield 9, 3) := by decide +kernel
theorem kf0_9 : inW (Cond.fieldLink RX0 9 "KneeOaths$Choices" "pairs" "[I") := ⟨List.mem_of_getElem? (i := 496) (by decide +kernel), by decide +kernel⟩
theorem dX0_gatherClashes_86 : decode cX0_gatherClashes 86 = .ok (.iload_n 1, 1) := by decide +kernel
theorem dX0_gatherClashes_87 : decode cX0_gatherClashes 87 = .ok (.iconst 1, 1) := by decide +kernel
theorem dX0_gatherClashes_88 : decode cX0_gatherClashes 88 = .ok (.iload_n 3, 1) := by decide +kernel
theorem dX0_gatherClashes_89 : decode cX0_gatherClashes 89 = .ok (.ishl, 1) := by decide +kernel
theorem dX0_gatherClashes_90 : decode cX0_gatherClashes 90 = .ok (.iconst 1, 1) := by decide +kernel
theorem dX0_gatherClashes_91 : decode cX0_gatherClashes 91 = .ok (.iload 4, 2) := by decide +kernel
theorem dX0_gatherClashes_93 : decode cX0_gatherClashes 93 = .ok (.ishl, 1) := by decide +kernel
theorem dX0_gatherClashes_94 : decode cX0_gatherClashes 94 = .ok (.ior, 1) := by decide +kernel
theorem dX0_gatherClashes_95 : decode cX0_gatherClashes 95 = .ok (.iastore, 1) := by decide +kernel
theorem dX0_gatherClashes_96 : decode cX0_gatherClashes 96 = .ok (.iinc 1 1, 3) := by decide +kernel
theorem dX0_partsClashes_0 : decode cX0_partsClashes 0 = .ok (.iconst 0, 1) := by decide +kernel
theorem dX0_partsClashes_1 : decode cX0_partsClashes 1 = .ok (.istore_n 3, 1) := by decide +kernel
theorem dX0_partsClashes_2 : decode cX0_partsClashes 2 = .ok (.iload_n 3, 1) := by decide +kernel
theorem dX0_partsClashes_3 : decode cX0_partsClashes 3 = .ok (.iload_n 2, 1) := by decide +kernel
theorem dX0_partsClashes_4 : decode cX0_partsClashes 4 = .ok (.if_icmp .ge 22, 3) := by decide +kernel
theorem dX0_partsClashes_26 : decode cX0_partsClashes 26 = .ok (.iconst 1, 1) := by decide +kernel
theorem dX0_partsClashes_27 : decode cX0_partsClashes 27 = .ok (.ireturn, 1) := by decide +kernel
theorem dX0_partsClashes_7 : decode cX0_partsClashes 7 = .ok (.iload_n 1, 1) := by decide +kernel
theorem dX0_partsClashes_8 : decode cX0_partsClashes 8 = .ok (.aload_n 0, 1) := by decide +kernel
theorem dX0_partsClashes_9 : decode cX0_partsClashes 9 = .ok (.getfield 9, 3) := by decide +kernel
theorem dX0_partsClashes_12 : decode cX0_partsClashes 12 = .ok (.iload_n 3, 1) := by decide +kernel
theorem dX0_partsClashes_13 : decode cX0_partsClashes 13 = .ok (.iaload, 1) := by decide +kernel
theorem dX0_partsClashes_14 : decode cX0_partsClashes 14 = .ok (.iand, 1) := by decide +kernel
theorem dX0_partsClashes_15 : decode cX0_partsClashes 15 = .ok (.ifCond .ne 5, 3) := by decide +kernel
theorem dX0_partsClashes_20 : decode cX0_partsClashes 20 = .ok (.iinc 3 1, 3) := by decide +kernel
theorem dX0_partsClashes_23 : decode cX0_partsClashes 23 = .ok (.goto (-21), 3) := by decide +kernel
theorem dX0_partsClashes_18 : decode cX0_partsClashes 18 = .ok (.iconst 0, 1) := by decide +kernel
theorem dX0_partsClashes_19 : decode cX0_partsClashes 19 = .ok (.ireturn, 1) := by decide +kernel
theorem dX0_fewestReleased_0 : decode cX0_fewestReleased 0 = .ok (.aload_n 0, 1) := by decide +kernel
theorem dX0_fewestReleased_1 : decode cX0_fewestReleased 1 = .ok (.invokevirtual 38, 3) := by decide +kernel
theorem cw_X0_gatherClashes : CWv yX0_gatherClashes cX0_gatherClashes 5 (some .int) 0 := ⟨⟨⟨List.mem_of_getElem? (i := 136) (by decide +kernel), by decide +kernel⟩, ⟨List.mem_of_getElem? (i := 1309) (by decide +kernel), by decide +kernel⟩, by decide +kernel⟩, ⟨List.mem_of_getElem? (i := 1308) (by decide +kernel), by decide +kernel⟩, ⟨List.mem_of_getElem? (i := 40) (by decide +kernel), by decide +kernel⟩⟩
theorem km0_38 : inW (Cond.methodLink RX0 38 yX0_gatherClashes) := ⟨List.mem_of_getElem? (i := 1306) (by decide +kernel), by decide +kernel⟩
theorem dX0_fewestReleased_4 : decode cX0_fewestReleased 4 = .ok (.istore_n 1, 1) := by decide +kernel
theorem dX0_fewestReleased_5 : decode cX0_fewestReleased 5 = .ok (.iconst 0, 1) := by decide +kernel
theorem dX0_fewestReleased_6 : decode cX0_fewestReleased 6 = .ok (.istore_n 2, 1) := by decide +kernel
theorem dX0_fewestReleased_7 : decode cX0_fewestReleased 7 = .ok (.iconst 0, 1) := by decide +kernel
theorem dX0_fewestReleased_8 : decode cX0_fewestReleased 8 = .ok (.istore_n 3, 1) := by decide +kernel
theorem dX0_fewestReleased_9 : decode cX0_fewestReleased 9 = .ok (.iload_n 3, 1) := by decide +kernel
theorem dX0_fewestReleased_10 : decode cX0_fewestReleased 10 = .ok (.iload_n 1, 1) := by decide +kernel
theorem dX0_fewestReleased_11 : decode cX0_fewestReleased 11 = .ok (.if_icmp .ge 18, 3) := by decide +kernel
theorem dX0_fewestReleased_29 : decode cX0_fewestReleased 29 = .ok (.iload_n 2, 1) := by decide +kernel
theorem dX0_fewestReleased_30 : decode cX0_fewestReleased 30 = .ok (.istore_n 3, 1) := by decide +kernel
theorem dX0_fewestReleased_31 : decode cX0_fewestReleased 31 = .ok (.iconst 0, 1) := by decide +kernel
theorem dX0_fewestReleased_32 : decode cX0_fewestReleased 32 = .ok (.istore 4, 2) := by decide +kernel
theorem dX0_fewestReleased_14 : decode cX0_fewestReleased 14 = .ok (.iload_n 2, 1) := by decide +kernel
theorem dX0_fewestReleased_15 : decode cX0_fewestReleased 15 = .ok (.aload_n 0, 1) := by decide +kernel
theorem dX0_fewestReleased_16 : decode cX0_fewestReleased 16 = .ok (.getfield 9, 3) := by decide +kernel
theorem dX0_fewestReleased_19 : decode cX0_fewestReleased 19 = .ok (.iload_n 3, 1) := by decide +kernel
theorem dX0_fewestReleased_20 : decode cX0_fewestReleased 20 = .ok (.iaload, 1) := by decide +kernel
theorem dX0_fewestReleased_21 : decode cX0_fewestReleased 21 = .ok (.ior, 1) := by decide +kernel
theorem dX0_fewestReleased_22 : decode cX0_fewestReleased 22 = .ok (.istore_n 2, 1) := by decide +kernel
theorem dX0_fewestReleased_23 : decode cX0_fewestReleased 23 = .ok (.iinc 3 1, 3) := by decide +kernel
theorem dX0_fewestReleased_26 : decode cX0_fewestReleased 26 = .ok (.goto (-17), 3) := by decide +kernel
theorem dX0_fewestReleased_34 : decode cX0_fewestReleased 34 = .ok (.iload 4, 2) := by decide +kernel
theorem dX0_fewestReleased_36 : decode cX0_fewestReleased 36 = .ok (.iload_n 2, 1) := by decide +kernel
theorem dX0_fewestReleased_37 : decode cX0_fewestReleased 37 = .ok (.if_icmp .ge 43, 3) := by decide +kernel
theorem dX0_fewestReleased_80 : decode cX0_fewestReleased 80 = .ok (.iload_n 3, 1) := by decide +kernel
theorem dX0_fewestReleased_81 : decode cX0_fewestReleased 81 = .ok (.ireturn, 1) := by decide +kernel
theorem dX0_fewestReleased_40 : decode cX0_fewestReleased 40 = .ok (.iload 4, 2) := by decide +kernel
theorem dX0_fewestReleased_42 : decode cX0_fewestReleased 42 = .ok (.iload_n 2, 1) := by decide +kernel
theorem dX0_fewestReleased_43 : decode cX0_fewestReleased 43 = .ok (.iconst (-1), 1) := by decide +kernel
theorem dX0_fewestReleased_44 : decode cX0_fewestReleased 44 = .ok (.ixor, 1) := by decide +kernel
theorem dX0_fewestReleased_45 : decode cX0_fewestReleased 45 = .ok (.iand, 1) := by decide +kernel
theorem dX0_fewestReleased_46 : decode cX0_fewestReleased 46 = .ok (.ifCond .ne 28, 3) := by decide +kernel
theorem dX0_fewestReleased_74 : decode cX0_fewestReleased 74 = .ok (.iinc 4 1, 3) := by decide +kernel
theorem dX0_fewestReleased_77 : decode cX0_fewestReleased 77 = .ok (.goto (-43), 3) := by decide +kernel
theorem dX0_fewestReleased_49 : decode cX0_fewestReleased 49 = .ok (.iload 4, 2) := by decide +kernel
theorem dX0_fewestReleased_51 : decode cX0_fewestReleased 51 = .ok (.invokestatic 42, 3) := by decide +kernel
theorem km0_42 : inW (Cond.methodLink RX0 42 yJ6_bitCount_0f7a4) := ⟨List.mem_of_getElem? (i := 1311) (by decide +kernel), by decide +kernel⟩
theorem dX0_fewestReleased_54 : decode cX0_fewestReleased 54 = .ok (.iload_n 3, 1) := by decide +kernel
theorem dX0_fewestReleased_55 : decode cX0_fewestReleased 55 = .ok (.invokestatic 42, 3) := by decide +kernel
theorem dX0_fewestReleased_58 : decode cX0_fewestReleased 58 = .ok (.if_icmp .ge 16, 3) := by decide +kernel
theorem dX0_fewestReleased_61 : decode cX0_fewestReleased 61 = .ok (.aload_n 0, 1) := by decide +kernel
theorem dX0_fewestReleased_62 : decode cX0_fewestReleased 62 = .ok (.iload 4, 2) := by decide +kernel
theorem dX0_fewestReleased_64 : decode cX0_fewestReleased 64 = .ok (.iload_n 1, 1) := by decide +kernel
theorem dX0_fewestReleased_65 : decode cX0_fewestReleased 65 = .ok (.invokevirtual 48, 3) := by decide +kernel
theorem cw_X0_partsClashes : CWv yX0_partsClashes cX0_partsClashes 4 (some .boolean) 2 := ⟨⟨⟨List.mem_of_getElem? (i := 136) (by decide +kernel), by decide +kernel⟩, ⟨List.mem_of_getElem? (i := 1315) (by decide +kernel), by decide +kernel⟩, by decide +kernel⟩, ⟨List.mem_of_getElem? (i := 1314) (by decide +kernel), by decide +kernel⟩, ⟨List.mem_of_getElem? (i := 41) (by decide +kernel), by decide +kernel⟩⟩
theorem km0_48 : inW (Cond.methodLink RX0 48 yX0_partsClashes) := ⟨List.mem_of_getElem? (i := 1312) (by decide +kernel), by decide +kernel⟩
theorem dX0_fewestReleased_68 : decode cX0_fewestReleased 68 = .ok (.ifCond .eq 6, 3) := by decide +kernel
theorem dX0_fewestReleased_71 : decode cX0_fewestReleased 71 = .ok (.iload 4, 2) := by decide +kernel
theorem dX0_fewestReleased_73 : decode cX0_fewestReleased 73 = .ok (.istore_n 3, 1) := by decide +kernel
theorem dX0_workOf_0 : decode cX0_workOf 0 = .ok (.iconst 0, 1) := by decide +kernel
theorem dX0_workOf_1 : decode cX0_workOf 1 = .ok (.istore_n 3, 1) := by decide +kernel
theorem dX0_workOf_2 : decode cX0_workOf 2 = .ok (.iconst 0, 1) := by decide +kernel
theorem dX0_workOf_3 : decode cX0_workOf 3 = .ok (.istore 4, 2) := by decide +kernel
theorem dX0_workOf_5 : decode cX0_workOf 5 = .ok (.iload 4, 2) := by decide +kernel
theorem dX0_workOf_7 : decode cX0_workOf 7 = .ok (.aload_n 0, 1) := by decide +kernel
theorem dX0_workOf_8 : decode cX0_workOf 8 = .ok (.getfield 18, 3) := by decide +kernel
theorem dX0_workOf_11 : decode cX0_workOf 11 = .ok (.getfield 62, 3) := by decide +kernel
theorem kf0_62 : inW (Cond.fieldLinkNest RX0 62 "KneeOaths$World" "words" "LKneeOaths$Told;" "KneeOaths") := ⟨List.mem_of_getElem? (i := 280) (by decide +kernel), by decide +kernel⟩
theorem dX0_workOf_14 : decode cX0_workOf 14 = .ok (.getfield 56, 3) := by decide +kernel
theorem dX0_workOf_17 : decode cX0_workOf 17 = .ok (.if_icmp .ge 51, 3) := by decide +kernel
theorem dX0_workOf_68 : decode cX0_workOf 68 = .ok (.iload_n 3, 1) := by decide +kernel
theorem dX0_workOf_69 : decode cX0_workOf 69 = .ok (.ireturn, 1) := by decide +kernel
theorem dX0_workOf_20 : decode cX0_workOf 20 = .ok (.iload_n 1, 1) := by decide +kernel
theorem dX0_workOf_21 : decode cX0_workOf 21 = .ok (.iload 4, 2) := by decide +kernel
theorem dX0_workOf_23 : decode cX0_workOf 23 = .ok (.ishr, 1) := by decide +kernel
theorem dX0_workOf_24 : decode cX0_workOf 24 = .ok (.iconst 1, 1) := by decide +kernel
theorem dX0_workOf_25 : decode cX0_workOf 25 = .ok (.iand, 1) := by decide +kernel
theorem dX0_workOf_26 : decode cX0_workOf 26 = .ok (.ifCond .eq 36, 3) := by decide +kernel
theorem dX0_workOf_62 : decode cX0_workOf 62 = .ok (.iinc 4 1, 3) := by decide +kernel
theorem dX0_workOf_65 : decode cX0_workOf 65 = .ok (.goto (-60), 3) := by decide +kernel
theorem dX0_workOf_29 : decode cX0_workOf 29 = .ok (.aload_n 0, 1) := by decide +kernel
theorem dX0_workOf_30 : decode cX0_workOf 30 = .ok (.getfield 18, 3) := by decide +kernel
theorem dX0_workOf_33 : decode cX0_workOf 33 = .ok (.getfield 62, 3) := by decide +kernel
theorem dX0_workOf_36 : decode cX0_workOf 36 = .ok (.iload 4, 2) := by decide +kernel
theorem dX0_workOf_38 : decode cX0_workOf 38 = .ok (.iconst 1, 1) := by decide +kernel
theorem dX0_workOf_39 : decode cX0_workOf 39 = .ok (.invokevirtual 61, 3) := by decide +kernel
theorem dX0_workOf_42 : decode cX0_workOf 42 = .ok (.iload_n 2, 1) := by decide +kernel
theorem dX0_workOf_43 : decode cX0_workOf 43 = .ok (.if_icmp .gt 19, 3) := by decide +kernel
theorem dX0_workOf_46 : decode cX0_workOf 46 = .ok (.iload_n 3, 1) := by decide +kernel
theorem dX0_workOf_47 : decode cX0_workOf 47 = .ok (.aload_n 0, 1) := by decide +kernel
theorem dX0_workOf_48 : decode cX0_workOf 48 = .ok (.getfield 18, 3) := by decide +kernel
theorem dX0_workOf_51 : decode cX0_workOf 51 = .ok (.getfield 62, 3) := by decide +kernel
theorem dX0_workOf_54 : decode cX0_workOf 54 = .ok (.iload 4, 2) := by decide +kernel
theorem dX0_workOf_56 : decode cX0_workOf 56 = .ok (.iconst 0, 1) := by decide +kernel
theorem dX0_workOf_57 : decode cX0_workOf 57 = .ok (.invokevirtual 61, 3) := by decide +kernel
theorem dX0_workOf_60 : decode cX0_workOf 60 = .ok (.iadd, 1) := by decide +kernel
theorem dX0_workOf_61 : decode cX0_workOf 61 = .ok (.istore_n 3, 1) := by decide +kernel
theorem dX0_isInTime_0 : decode cX0_isInTime 0 = .ok (.iconst 0, 1) := by decide +kernel
theorem dX0_isInTime_1 : decode cX0_isInTime 1 = .ok (.istore_n 2, 1) := by decide +kernel
theorem dX0_isInTime_2 : decode cX0_isInTime 2 = .ok (.iload_n 2, 1) := by decide +kernel
theorem dX0_isInTime_3 : decode cX0_isInTime 3 = .ok (.aload_n 0, 1) := by decide +kernel
theorem dX0_isInTime_4 : decode cX0_isInTime 4 = .ok (.getfield 18, 3) := by decide +kernel
theorem dX0_isInTime_7 : decode cX0_isInTime 7 = .ok (.getfield 62, 3) := by decide +kernel
theorem dX0_isInTime_10 : decode cX0_isInTime 10 = .ok (.getfield 56, 3) := by decide +kernel
theorem dX0_isInTime_13 : decode cX0_isInTime 13 = .ok (.if_icmp .ge 42, 3) := by decide +kernel
theorem dX0_isInTime_55 : decode cX0_isInTime 55 = .ok (.iconst 1, 1) := by decide +kernel
theorem dX0_isInTime_56 : decode cX0_isInTime 56 = .ok (.ireturn, 1) := by decide +kernel
theorem dX0_isInTime_16 : decode cX0_isInTime 16 = .ok (.aload_n 0, 1) := by decide +kernel
theorem dX0_isInTime_17 : decode cX0_isInTime 17 = .ok (.getfield 18, 3) := by decide +kernel
theorem dX0_isInTime_20 : decode cX0_isInTime 20 = .ok (.getfield 62, 3) := by decide +kernel
theorem dX0_isInTime_23 : decode cX0_isInTime 23 = .ok (.iload_n 2, 1) := by decide +kernel
theorem dX0_isInTime_24 : decode cX0_isInTime 24 = .ok (.iconst 1, 1) := by decide +kernel
theorem dX0_isInTime_25 : decode cX0_isInTime 25 = .ok (.invokevirtual 61, 3) := by decide +kernel
theorem dX0_isInTime_28 : decode cX0_isInTime 28 = .ok (.istore_n 3, 1) := by decide +kernel
theorem dX0_isInTime_29 : decode cX0_isInTime 29 = .ok (.iload_n 1, 1) := by decide +kernel
theorem dX0_isInTime_30 : decode cX0_isInTime 30 = .ok (.iload_n 2, 1) := by decide +kernel
theorem dX0_isInTime_31 : decode cX0_isInTime 31 = .ok (.ishr, 1) := by decide +kernel
theorem dX0_isInTime_32 : decode cX0_isInTime 32 = .ok (.iconst 1, 1) := by decide +kernel
theorem dX0_isInTime_33 : decode cX0_isInTime 33 = .ok (.iand, 1) := by decide +kernel
theorem dX0_isInTime_34 : decode cX0_isInTime 34 = .ok (.ifCond .eq 15, 3) := by decide +kernel
theorem dX0_isInTime_49 : decode cX0_isInTime 49 = .ok (.iinc 2 1, 3) := by decide +kernel
theorem dX0_isInTime_52 : decode cX0_isInTime 52 = .ok (.goto (-50), 3) := by decide +kernel
theorem dX0_isInTime_37 : decode cX0_isInTime 37 = .ok (.aload_n 0, 1) := by decide +kernel
theorem dX0_isInTime_38 : decode cX0_isInTime 38 = .ok (.iload_n 1, 1) := by decide +kernel
theorem dX0_isInTime_39 : decode cX0_isInTime 39 = .ok (.iload_n 3, 1) := by decide +kernel
theorem dX0_isInTime_40 : decode cX0_isInTime 40 = .ok (.invokevirtual 69, 3) := by decide +kernel
theorem cw_X0_workOf : CWv yX0_workOf cX0_workOf 5 (some .int) 2 := ⟨⟨⟨List.mem_of_getElem? (i := 136) (by decide +kernel), by decide +kernel⟩, ⟨List.mem_of_getElem? (i := 1343) (by decide +kernel), by decide +kernel⟩, by decide +kernel⟩, ⟨List.mem_of_getElem? (i := 1341) (by decide +kernel), by decide +kernel⟩, ⟨List.mem_of_getElem? (i := 1342) (by decide +kernel), by decide +kernel⟩⟩
theorem km0_69 : inW (Cond.methodLink RX0 69 yX0_workOf) := ⟨List.mem_of_getElem? (i := 1340) (by decide +kernel), by decide +kernel⟩
theorem dX0_isInTime_43 : decode cX0_isInTime 43 = .ok (.iload_n 3, 1) := by decide +kernel
theorem dX0_isInTime_44 : decode cX0_isInTime 44 = .ok (.if_icmp .le 5, 3) := by decide +kernel
theorem dX0_isInTime_47 : decode cX0_isInTime 47 = .ok (.iconst 0, 1) := by decide +kernel
theorem dX0_isInTime_48 : decode cX0_isInTime 48 = .ok (.ireturn, 1) := by decide +kernel
theorem dX0_mostInTime_0 : decode cX0_mostInTime 0 = .ok (.iconst 0, 1) := by decide +kernel
theorem dX0_mostInTime_1 : decode cX0_mostInTime 1 = .ok (.istore_n 1, 1) := by decide +kernel
theorem dX0_mostInTime_2 : decode cX0_mostInTime 2 = .ok (.iconst 1, 1) := by decide +kernel
theorem dX0_mostInTime_3 : decode cX0_mostInTime 3 = .ok (.istore_n 2, 1) := by decide +kernel
theorem dX0_mostInTime_4 : decode cX0_mostInTime 4 = .ok (.iload_n 2, 1) := by decide +kernel
theorem dX0_mostInTime_5 : decode cX0_mostInTime 5 = .ok (.iconst 1, 1) := by decide +kernel
theorem dX0_mostInTime_6 : decode cX0_mostInTime 6 = .ok (.aload_n 0, 1) := by decide +kernel
theorem dX0_mostInTime_7 : decode cX0_mostInTime 7 = .ok (.getfield 18, 3) := by decide +kernel
theorem dX0_mostInTime_10 : decode cX0_mostInTime 10 = .ok (.getfield 62, 3) := by decide +kernel
theorem dX0_mostInTime_13 : decode cX0_mostInTime 13 = .ok (.getfield 56, 3) := by decide +kernel
theorem dX0_mostInTime_16 : decode cX0_mostInTime 16 = .ok (.ishl, 1) := by decide +kernel
theorem dX0_mostInTime_17 : decode cX0_mostInTime 17 = .ok (.if_icmp .ge 30, 3) := by decide +kernel
theorem dX0_mostInTime_47 : decode cX0_mostInTime 47 = .ok (.iload_n 1, 1) := by decide +kernel
theorem dX0_mostInTime_48 : decode cX0_mostInTime 48 = .ok (.ireturn, 1) := by decide +kernel
theorem dX0_mostInTime_20 : decode cX0_mostInTime 20 = .ok (.iload_n 2, 1) := by decide +kernel
theorem dX0_mostInTime_21 : decode cX0_mostInTime 21 = .ok (.invokestatic 42, 3) := by decide +kernel
theorem dX0_mostInTime_24 : decode cX0_mostInTime 24 = .ok (.iload_n 1, 1) := by decide +kernel
theorem dX0_mostInTime_25 : decode cX0_mostInTime 25 = .ok (.invokestatic 42, 3) := by decide +kernel
theorem dX0_mostInTime_28 : decode cX0_mostInTime 28 = .ok (.if_icmp .le 13, 3) := by decide +kernel
theorem dX0_mostInTime_41 : decode cX0_mostInTime 41 = .ok (.iinc 2 1, 3) := by decide +kernel
theorem dX0_mostInTime_44 : decode cX0_mostInTime 44 = .ok (.goto (-40), 3) := by decide +kernel
theorem dX0_mostInTime_31 : decode cX0_mostInTime 31 = .ok (.aload_n 0, 1) := by decide +kernel
theorem dX0_mostInTime_32 : decode cX0_mostInTime 32 = .ok (.iload_n 2, 1) := by decide +kernel
theorem dX0_mostInTime_33 : decode cX0_mostInTime 33 = .ok (.invokevirtual 65, 3) := by decide +kernel
theorem cw_X0_isInTime : CWv yX0_isInTime cX0_isInTime 4 (some .boolean) 1 := ⟨⟨⟨List.mem_of_getElem? (i := 136) (by decide +kernel), by decide +kernel⟩, ⟨List.mem_of_getElem? (i := 1339) (by decide +kernel), by decide +kernel⟩, by decide +kernel⟩, ⟨List.mem_of_getElem? (i := 1338) (by decide +kernel), by decide +kernel⟩, ⟨List.mem_of_getElem? (i := 42) (by decide +kernel), by decide +kernel⟩⟩
theorem km0_65 : inW (Cond.methodLink RX0 65 yX0_isInTime) := ⟨List.mem_of_getElem? (i := 1336) (by decide +kernel), by decide +kernel⟩
theorem dX0_mostInTime_36 : decode cX0_mostInTime 36 = .ok (.ifCond .eq 5, 3) := by decide +kernel
theorem dX0_mostInTime_39 : decode cX0_mostInTime 39 = .ok (.iload_n 2, 1) := by decide +kernel
theorem dX0_mostInTime_40 : decode cX0_mostInTime 40 = .ok (.istore_n 1, 1) := by decide +kernel
theorem dX0_seesAll_0 : decode cX0_seesAll 0 = .ok (.aload_n 0, 1) := by decide +kernel
theorem dX0_seesAll_1 : decode cX0_seesAll 1 = .ok (.getfield 18, 3) := by decide +kernel
theorem dX0_seesAll_4 : decode cX0_seesAll 4 = .ok (.getfield 22, 3) := by decide +kernel
theorem dX0_seesAll_7 : decode cX0_seesAll 7 = .ok (.astore_n 2, 1) := by decide +kernel
theorem dX0_seesAll_8 : decode cX0_seesAll 8 = .ok (.iconst 0, 1) := by decide +kernel
theorem dX0_seesAll_9 : decode cX0_seesAll 9 = .ok (.istore_n 3, 1) := by decide +kernel
theorem dX0_seesAll_10 : decode cX0_seesAll 10 = .ok (.iload_n 3, 1) := by decide +kernel
theorem dX0_seesAll_11 : decode cX0_seesAll 11 = .ok (.aload_n 2, 1) := by decide +kernel
theorem dX0_seesAll_12 : decode cX0_seesAll 12 = .ok (.getfield 28, 3) := by decide +kernel
theorem dX0_seesAll_15 : decode cX0_seesAll 15 = .ok (.if_icmp .ge 45, 3) := by decide +kernel
theorem dX0_seesAll_60 : decode cX0_seesAll 60 = .ok (.iconst 1, 1) := by decide +kernel
theorem dX0_seesAll_61 : decode cX0_seesAll 61 = .ok (.ireturn, 1) := by decide +kernel
theorem dX0_seesAll_18 : decode cX0_seesAll 18 = .ok (.iconst 1, 1) := by decide +kernel
theorem dX0_seesAll_19 : decode cX0_seesAll 19 = .ok (.aload_n 2, 1) := by decide +kernel
theorem dX0_seesAll_20 : decode cX0_seesAll 20 = .ok (.iload_n 3, 1) := by decide +kernel
theorem dX0_seesAll_21 : decode cX0_seesAll 21 = .ok (.iconst 0, 1) := by decide +kernel
theorem dX0_seesAll_22 : decode cX0_seesAll 22 = .ok (.invokevirtual 34, 3) := by decide +kernel
theorem dX0_seesAll_25 : decode cX0_seesAll 25 = .ok (.ishl, 1) := by decide +kernel
theorem dX0_seesAll_26 : decode cX0_seesAll 26 = .ok (.iconst 1, 1) := by decide +kernel
theorem dX0_seesAll_27 : decode cX0_seesAll 27 = .ok (.aload_n 2, 1) := by decide +kernel
theorem dX0_seesAll_28 : decode cX0_seesAll 28 = .ok (.iload_n 3, 1) := by decide +kernel
theorem dX0_seesAll_29 : decode cX0_seesAll 29 = .ok (.iconst 1, 1) := by decide +kernel
theorem dX0_seesAll_30 : decode cX0_seesAll 30 = .ok (.invokevirtual 34, 3) := by decide +kernel
theorem dX0_seesAll_33 : decode cX0_seesAll 33 = .ok (.ishl, 1) := by decide +kernel
theorem dX0_seesAll_34 : decode cX0_seesAll 34 = .ok (.ior, 1) := by decide +kernel
theorem dX0_seesAll_35 : decode cX0_seesAll 35 = .ok (.istore 4, 2) := by decide +kernel
theorem dX0_seesAll_37 : decode cX0_seesAll 37 = .ok (.aload_n 2, 1) := by decide +kernel
theorem dX0_seesAll_38 : decode cX0_seesAll 38 = .ok (.iload_n 3, 1) := by decide +kernel
theorem dX0_seesAll_39 : decode cX0_seesAll 39 = .ok (.invokevirtual 78, 3) := by decide +kernel
theorem km0_78 : inW (Cond.methodLink RX0 78 yX4_legible) := ⟨List.mem_of_getElem? (i := 1378) (by decide +kernel), by decide +kernel⟩
theorem dX0_seesAll_42 : decode cX0_seesAll 42 = .ok (.ifCond .eq 12, 3) := by decide +kernel
theorem dX0_seesAll_54 : decode cX0_seesAll 54 = .ok (.iinc 3 1, 3) := by decide +kernel
theorem dX0_seesAll_57 : decode cX0_seesAll 57 = .ok (.goto (-47), 3) := by decide +kernel
theorem dX0_seesAll_45 : decode cX0_seesAll 45 = .ok (.iload_n 1, 1) := by decide +kernel
theorem dX0_seesAll_46 : decode cX0_seesAll 46 = .ok (.iload 4, 2) := by decide +kernel
theorem dX0_seesAll_48 : decode cX0_seesAll 48 = .ok (.iand, 1) := by decide +kernel
theorem dX0_seesAll_49 : decode cX0_seesAll 49 = .ok (.ifCond .ne 5, 3) := by decide +kernel
theorem dX0_seesAll_52 : decode cX0_seesAll 52 = .ok (.iconst 0, 1) := by decide +kernel
theorem dX0_seesAll_53 : decode cX0_seesAll 53 = .ok (.ireturn, 1) := by decide +kernel
theorem dX0_fewestAsked_0 : decode cX0_fewestAsked 0 = .ok (.iconst 1, 1) := by decide +kernel
theorem dX0_fewestAsked_1 : decode cX0_fewestAsked 1 = .ok (.aload_n 0, 1) := by decide +kernel
theorem dX0_fewestAsked_2 : decode cX0_fewestAsked 2 = .ok (.getfield 18, 3) := by decide +kernel
theorem dX0_fewestAsked_5 : decode cX0_fewestAsked 5 = .ok (.getfield 72, 3) := by decide +kernel
theorem kf0_72 : inW (Cond.fieldLinkNest RX0 72 "KneeOaths$World" "people" "I" "KneeOaths") := ⟨List.mem_of_getElem? (i := 290) (by decide +kernel), by decide +kernel⟩
theorem dX0_fewestAsked_8 : decode cX0_fewestAsked 8 = .ok (.ishl, 1) := by decide +kernel
theorem dX0_fewestAsked_9 : decode cX0_fewestAsked 9 = .ok (.iconst 1, 1) := by decide +kernel
theorem dX0_fewestAsked_10 : decode cX0_fewestAsked 10 = .ok (.isub, 1) := by decide +kernel
theorem dX0_fewestAsked_11 : decode cX0_fewestAsked 11 = .ok (.istore_n 1, 1) := by decide +kernel
theorem dX0_fewestAsked_12 : decode cX0_fewestAsked 12 = .ok (.iconst 0, 1) := by decide +kernel
theorem dX0_fewestAsked_13 : decode cX0_fewestAsked 13 = .ok (.istore_n 2, 1) := by decide +kernel
theorem dX0_fewestAsked_14 : decode cX0_fewestAsked 14 = .ok (.iload_n 2, 1) := by decide +kernel
theorem dX0_fewestAsked_15 : decode cX0_fewestAsked 15 = .ok (.iconst 1, 1) := by decide +kernel
theorem dX0_fewestAsked_16 : decode cX0_fewestAsked 16 = .ok (.aload_n 0, 1) := by decide +kernel
theorem dX0_fewestAsked_17 : decode cX0_fewestAsked 17 = .ok (.getfield 18, 3) := by decide +kernel
theorem dX0_fewestAsked_20 : decode cX0_fewestAsked 20 = .ok (.getfield 72, 3) := by decide +kernel
theorem dX0_fewestAsked_23 : decode cX0_fewestAsked 23 = .ok (.ishl, 1) := by decide +kernel
theorem dX0_fewestAsked_24 : decode cX0_fewestAsked 24 = .ok (.if_icmp .ge 30, 3) := by decide +kernel
theorem dX0_fewestAsked_27 : decode cX0_fewestAsked 27 = .ok (.iload_n 2, 1) := by decide +kernel
theorem dX0_fewestAsked_28 : decode cX0_fewestAsked 28 = .ok (.invokestatic 42, 3) := by decide +kernel
theorem dX0_fewestAsked_31 : decode cX0_fewestAsked 31 = .ok (.iload_n 1, 1) := by decide +kernel
theorem dX0_fewestAsked_32 : decode cX0_fewestAsked 32 = .ok (.invokestatic 42, 3) := by decide +kernel
theorem dX0_fewestAsked_35 : decode cX0_fewestAsked 35 = .ok (.if_icmp .ge 13, 3) := by decide +kernel
theorem dX0_fewestAsked_48 : decode cX0_fewestAsked 48 = .ok (.iinc 2 1, 3) := by decide +kernel
theorem dX0_fewestAsked_51 : decode cX0_fewestAsked 51 = .ok (.goto (-37), 3) := by decide +kernel
theorem dX0_fewestAsked_38 : decode cX0_fewestAsked 38 = .ok (.aload_n 0, 1) := by decide +kernel
theorem dX0_fewestAsked_39 : decode cX0_fewestAsked 39 = .ok (.iload_n 2, 1) := by decide +kernel
theorem dX0_fewestAsked_40 : decode cX0_fewestAsked 40 = .ok (.invokevirtual 75, 3) := by decide +kernel
theorem cw_X0_seesAll : CWv yX0_seesAll cX0_seesAll 5 (some .boolean) 1 := ⟨⟨⟨List.mem_of_getElem? (i := 136) (by decide +kernel), by decide +kernel⟩, ⟨List.mem_of_getElem? (i := 1377) (by decide +kernel), by decide +kernel⟩, by decide +kernel⟩, ⟨List.mem_of_getElem? (i := 1376) (by decide +kernel), by decide +kernel⟩, ⟨List.mem_of_getElem? (i := 45) (by decide +kernel), by decide +kernel⟩⟩
theorem km0_75 : inW (Cond.methodLink RX0 75 yX0_seesAll) := ⟨List.mem_of_getElem? (i := 1374) (by decide +kernel), by decide +kernel⟩
theorem dX0_fewestAsked_43 : decode cX0_fewestAsked 43 = .ok (.ifCond .eq 5, 3) := by decide +kernel
theorem dX0_fewestAsked_46 : decode cX0_fewestAsked 46 = .ok (.iload_n 2, 1) := by decide +kernel
theorem dX0_fewestAsked_47 : decode cX0_fewestAsked 47 = .ok (.istore_n 1, 1) := by decide +kernel
theorem dX0_fewestAsked_54 : decode cX0_fewestAsked 54 = .ok (.iload_n 1, 1) := by decide +kernel
theorem dX0_fewestAsked_55 : decode cX0_fewestAsked 55 = .ok (.ireturn, 1) := by decide +kernel
theorem dX0_wordsOf_0 : decode cX0_wordsOf 0 = .ok (.aload_n 0, 1) := by decide +kernel
theorem dX0_wordsOf_1 : decode cX0_wordsOf 1 = .ok (.getfield 18, 3) := by decide +kernel
theorem dX0_wordsOf_4 : decode cX0_wordsOf 4 = .ok (.getfield 22, 3) := by decide +kernel
theorem dX0_wordsOf_7 : decode cX0_wordsOf 7 = .ok (.astore_n 2, 1) := by decide +kernel
theorem dX0_wordsOf_8 : decode cX0_wordsOf 8 = .ok (.iconst 1, 1) := by decide +kernel
theorem dX0_wordsOf_9 : decode cX0_wordsOf 9 = .ok (.iload_n 1, 1) := by decide +kernel
theorem dX0_wordsOf_10 : decode cX0_wordsOf 10 = .ok (.ishl, 1) := by decide +kernel
theorem dX0_wordsOf_11 : decode cX0_wordsOf 11 = .ok (.istore_n 3, 1) := by decide +kernel
theorem dX0_wordsOf_12 : decode cX0_wordsOf 12 = .ok (.iconst 0, 1) := by decide +kernel
theorem dX0_wordsOf_13 : decode cX0_wordsOf 13 = .ok (.istore 4, 2) := by decide +kernel
theorem dX0_wordsOf_15 : decode cX0_wordsOf 15 = .ok (.iload 4, 2) := by decide +kernel
theorem dX0_wordsOf_17 : decode cX0_wordsOf 17 = .ok (.aload_n 0, 1) := by decide +kernel
theorem dX0_wordsOf_18 : decode cX0_wordsOf 18 = .ok (.getfield 18, 3) := by decide +kernel
theorem dX0_wordsOf_21 : decode cX0_wordsOf 21 = .ok (.getfield 81, 3) := by decide +kernel
theorem kf0_81 : inW (Cond.fieldLinkNest RX0 81 "KneeOaths$World" "sights" "LKneeOaths$Told;" "KneeOaths") := ⟨List.mem_of_getElem? (i := 283) (by decide +kernel), by decide +kernel⟩
theorem dX0_wordsOf_24 : decode cX0_wordsOf 24 = .ok (.getfield 56, 3) := by decide +kernel
theorem dX0_wordsOf_27 : decode cX0_wordsOf 27 = .ok (.if_icmp .ge 44, 3) := by decide +kernel
theorem dX0_wordsOf_71 : decode cX0_wordsOf 71 = .ok (.iconst 0, 1) := by decide +kernel
theorem dX0_wordsOf_72 : decode cX0_wordsOf 72 = .ok (.istore 4, 2) := by decide +kernel
theorem dX0_wordsOf_74 : decode cX0_wordsOf 74 = .ok (.iconst 0, 1) := by decide +kernel
theorem dX0_wordsOf_75 : decode cX0_wordsOf 75 = .ok (.istore 5, 2) := by decide +kernel
theorem dX0_wordsOf_30 : decode cX0_wordsOf 30 = .ok (.aload_n 0, 1) := by decide +kernel
theorem dX0_wordsOf_31 : decode cX0_wordsOf 31 = .ok (.getfield 18, 3) := by decide +kernel
theorem dX0_wordsOf_34 : decode cX0_wordsOf 34 = .ok (.getfield 81, 3) := by decide +kernel
theorem dX0_wordsOf_37 : decode cX0_wordsOf 37 = .ok (.iload 4, 2) := by decide +kernel
theorem dX0_wordsOf_39 : decode cX0_wordsOf 39 = .ok (.iconst 0, 1) := by decide +kernel
theorem dX0_wordsOf_40 : decode cX0_wordsOf 40 = .ok (.invokevirtual 61, 3) := by decide +kernel
theorem dX0_wordsOf_43 : decode cX0_wordsOf 43 = .ok (.iload_n 1, 1) := by decide +kernel
theorem dX0_wordsOf_44 : decode cX0_wordsOf 44 = .ok (.if_icmp .ne 21, 3) := by decide +kernel
theorem dX0_wordsOf_65 : decode cX0_wordsOf 65 = .ok (.iinc 4 1, 3) := by decide +kernel
theorem dX0_wordsOf_68 : decode cX0_wordsOf 68 = .ok (.goto (-53), 3) := by decide +kernel
theorem dX0_wordsOf_47 : decode cX0_wordsOf 47 = .ok (.iload_n 3, 1) := by decide +kernel
theorem dX0_wordsOf_48 : decode cX0_wordsOf 48 = .ok (.iconst 1, 1) := by decide +kernel
theorem dX0_wordsOf_49 : decode cX0_wordsOf 49 = .ok (.aload_n 0, 1) := by decide +kernel
theorem dX0_wordsOf_50 : decode cX0_wordsOf 50 = .ok (.getfield 18, 3) := by decide +kernel
theorem dX0_wordsOf_53 : decode cX0_wordsOf 53 = .ok (.getfield 81, 3) := by decide +kernel
theorem dX0_wordsOf_56 : decode cX0_wordsOf 56 = .ok (.iload 4, 2) := by decide +kernel
theorem dX0_wordsOf_58 : decode cX0_wordsOf 58 = .ok (.iconst 1, 1) := by decide +kernel
theorem dX0_wordsOf_59 : decode cX0_wordsOf 59 = .ok (.invokevirtual 61, 3) := by decide +kernel
theorem dX0_wordsOf_62 : decode cX0_wordsOf 62 = .ok (.ishl, 1) := by decide +kernel
theorem dX0_wordsOf_63 : decode cX0_wordsOf 63 = .ok (.ior, 1) := by decide +kernel
theorem dX0_wordsOf_64 : decode cX0_wordsOf 64 = .ok (.istore_n 3, 1) := by decide +kernel
theorem dX0_wordsOf_77 : decode cX0_wordsOf 77 = .ok (.iload 5, 2) := by decide +kernel
theorem dX0_wordsOf_79 : decode cX0_wordsOf 79 = .ok (.aload_n 2, 1) := by decide +kernel
theorem dX0_wordsOf_80 : decode cX0_wordsOf 80 = .ok (.getfield 28, 3) := by decide +kernel
theorem dX0_wordsOf_83 : decode cX0_wordsOf 83 = .ok (.if_icmp .ge 64, 3) := by decide +kernel
theorem dX0_wordsOf_147 : decode cX0_wordsOf 147 = .ok (.iload 4, 2) := by decide +kernel
theorem dX0_wordsOf_149 : decode cX0_wordsOf 149 = .ok (.ireturn, 1) := by decide +kernel
theorem dX0_wordsOf_86 : decode cX0_wordsOf 86 = .ok (.iload_n 3, 1) := by decide +kernel
theorem dX0_wordsOf_87 : decode cX0_wordsOf 87 = .ok (.aload_n 2, 1) := by decide +kernel
theorem dX0_wordsOf_88 : decode cX0_wordsOf 88 = .ok (.iload 5, 2) := by decide +kernel
theorem dX0_wordsOf_90 : decode cX0_wordsOf 90 = .ok (.iconst 1, 1) := by decide +kernel
theorem dX0_wordsOf_91 : decode cX0_wordsOf 91 = .ok (.invokevirtual 34, 3) := by decide +kernel
theorem dX0_wordsOf_94 : decode cX0_wordsOf 94 = .ok (.ishr, 1) := by decide +kernel
theorem dX0_wordsOf_95 : decode cX0_wordsOf 95 = .ok (.iconst 1, 1) := by decide +kernel
theorem dX0_wordsOf_96 : decode cX0_wordsOf 96 = .ok (.iand, 1) := by decide +kernel
theorem dX0_wordsOf_97 : decode cX0_wordsOf 97 = .ok (.ifCond .ne 14, 3) := by decide +kernel
theorem dX0_wordsOf_111 : decode cX0_wordsOf 111 = .ok (.iconst 1, 1) := by decide +kernel
theorem dX0_wordsOf_112 : decode cX0_wordsOf 112 = .ok (.goto 4, 3) := by decide +kernel
theorem dX0_wordsOf_116 : decode cX0_wordsOf 116 = .ok (.istore 6, 2) := by decide +kernel
theorem dX0_wordsOf_118 : decode cX0_wordsOf 118 = .ok (.iload 6, 2) := by decide +kernel
theorem dX0_wordsOf_120 : decode cX0_wordsOf 120 = .ok (.ifCond .eq 21, 3) := by decide +kernel
theorem dX0_wordsOf_123 : decode cX0_wordsOf 123 = .ok (.aload_n 2, 1) := by decide +kernel
theorem dX0_wordsOf_124 : decode cX0_wordsOf 124 = .ok (.iload 5, 2) := by decide +kernel
theorem dX0_wordsOf_126 : decode cX0_wordsOf 126 = .ok (.invokevirtual 78, 3) := by decide +kernel
theorem dX0_wordsOf_129 : decode cX0_wordsOf 129 = .ok (.ifCond .eq 12, 3) := by decide +kernel
theorem dX0_wordsOf_141 : decode cX0_wordsOf 141 = .ok (.iinc 5 1, 3) := by decide +kernel
theorem dX0_wordsOf_144 : decode cX0_wordsOf 144 = .ok (.goto (-67), 3) := by decide +kernel
theorem dX0_wordsOf_132 : decode cX0_wordsOf 132 = .ok (.iload 4, 2) := by decide +kernel
theorem dX0_wordsOf_134 : decode cX0_wordsOf 134 = .ok (.iconst 1, 1) := by decide +kernel
theorem dX0_wordsOf_135 : decode cX0_wordsOf 135 = .ok (.iload 5, 2) := by decide +kernel
theorem dX0_wordsOf_137 : decode cX0_wordsOf 137 = .ok (.ishl, 1) := by decide +kernel
theorem dX0_wordsOf_138 : decode cX0_wordsOf 138 = .ok (.ior, 1) := by decide +kernel
theorem dX0_wordsOf_139 : decode cX0_wordsOf 139 = .ok (.istore 4, 2) := by decide +kernel
theorem dX0_wordsOf_100 : decode cX0_wordsOf 100 = .ok (.aload_n 2, 1) := by decide +kernel
theorem dX0_wordsOf_101 : decode cX0_wordsOf 101 = .ok (.iload 5, 2) := by decide +kernel
theorem dX0_wordsOf_103 : decode cX0_wordsOf 103 = .ok (.iconst 0, 1) := by decide +kernel
theorem dX0_wordsOf_104 : decode cX0_wordsOf 104 = .ok (.invokevirtual 34, 3) := by decide +kernel
theorem dX0_wordsOf_107 : decode cX0_wordsOf 107 = .ok (.iload_n 1, 1) := by decide +kernel
theorem dX0_wordsOf_108 : decode cX0_wordsOf 108 = .ok (.if_icmp .ne 7, 3) := by decide +kernel
theorem dX0_wordsOf_115 : decode cX0_wordsOf 115 = .ok (.iconst 0, 1) := by decide +kernel
theorem dX0_knownTo_0 : decode cX0_knownTo 0 = .ok (.iconst 0, 1) := by decide +kernel
theorem dX0_knownTo_1 : decode cX0_knownTo 1 = .ok (.istore_n 2, 1) := by decide +kernel
theorem dX0_knownTo_2 : decode cX0_knownTo 2 = .ok (.iconst 0, 1) := by decide +kernel
theorem dX0_knownTo_3 : decode cX0_knownTo 3 = .ok (.istore_n 3, 1) := by decide +kernel
theorem dX0_knownTo_4 : decode cX0_knownTo 4 = .ok (.iload_n 3, 1) := by decide +kernel
theorem dX0_knownTo_5 : decode cX0_knownTo 5 = .ok (.bipush 6, 2) := by decide +kernel
theorem dX0_knownTo_7 : decode cX0_knownTo 7 = .ok (.if_icmp .ge 30, 3) := by decide +kernel
theorem dX0_knownTo_10 : decode cX0_knownTo 10 = .ok (.iload_n 2, 1) := by decide +kernel
theorem dX0_knownTo_11 : decode cX0_knownTo 11 = .ok (.iload_n 1, 1) := by decide +kernel
theorem dX0_knownTo_12 : decode cX0_knownTo 12 = .ok (.iload_n 3, 1) := by decide +kernel
theorem dX0_knownTo_13 : decode cX0_knownTo 13 = .ok (.ishr, 1) := by decide +kernel
theorem dX0_knownTo_14 : decode cX0_knownTo 14 = .ok (.iconst 1, 1) := by decide +kernel
theorem dX0_knownTo_15 : decode cX0_knownTo 15 = .ok (.iand, 1) := by decide +kernel
theorem dX0_knownTo_16 : decode cX0_knownTo 16 = .ok (.ifCond .eq 12, 3) := by decide +kernel
theorem dX0_knownTo_28 : decode cX0_knownTo 28 = .ok (.iconst 0, 1) := by decide +kernel
theorem dX0_knownTo_29 : decode cX0_knownTo 29 = .ok (.ior, 1) := by decide +kernel
theorem dX0_knownTo_30 : decode cX0_knownTo 30 = .ok (.istore_n 2, 1) := by decide +kernel
theorem dX0_knownTo_31 : decode cX0_knownTo 31 = .ok (.iinc 3 1, 3) := by decide +kernel
theorem dX0_knownTo_34 : decode cX0_knownTo 34 = .ok (.goto (-30), 3) := by decide +kernel
theorem dX0_knownTo_19 : decode cX0_knownTo 19 = .ok (.aload_n 0, 1) := by decide +kernel
theorem dX0_knownTo_20 : decode cX0_knownTo 20 = .ok (.getfield 15, 3) := by decide +kernel
theorem kf0_15 : inW (Cond.fieldLink RX0 15 "KneeOaths$Choices" "knowledge" "[I") := ⟨List.mem_of_getElem? (i := 497) (by decide +kernel), by decide +kernel⟩
theorem dX0_knownTo_23 : decode cX0_knownTo 23 = .ok (.iload_n 3, 1) := by decide +kernel
theorem dX0_knownTo_24 : decode cX0_knownTo 24 = .ok (.iaload, 1) := by decide +kernel
theorem dX0_knownTo_25 : decode cX0_knownTo 25 = .ok (.goto 4, 3) := by decide +kernel
theorem dX0_knownTo_37 : decode cX0_knownTo 37 = .ok (.iload_n 2, 1) := by decide +kernel
theorem dX0_knownTo_38 : decode cX0_knownTo 38 = .ok (.ireturn, 1) := by decide +kernel
theorem dX0_fewestKnowing_0 : decode cX0_fewestKnowing 0 = .ok (.iconst 0, 1) := by decide +kernel
theorem dX0_fewestKnowing_1 : decode cX0_fewestKnowing 1 = .ok (.istore_n 1, 1) := by decide +kernel
theorem dX0_fewestKnowing_2 : decode cX0_fewestKnowing 2 = .ok (.iconst 0, 1) := by decide +kernel
theorem dX0_fewestKnowing_3 : decode cX0_fewestKnowing 3 = .ok (.istore_n 2, 1) := by decide +kernel
theorem dX0_fewestKnowing_4 : decode cX0_fewestKnowing 4 = .ok (.iload_n 2, 1) := by decide +kernel
theorem dX0_fewestKnowing_5 : decode cX0_fewestKnowing 5 = .ok (.aload_n 0, 1) := by decide +kernel
theorem dX0_fewestKnowing_6 : decode cX0_fewestKnowing 6 = .ok (.getfield 18, 3) := by decide +kernel
theorem dX0_fewestKnowing_9 : decode cX0_fewestKnowing 9 = .ok (.getfield 72, 3) := by decide +kernel
theorem dX0_fewestKnowing_12 : decode cX0_fewestKnowing 12 = .ok (.if_icmp .ge 35, 3) := by decide +kernel
theorem dX0_fewestKnowing_47 : decode cX0_fewestKnowing 47 = .ok (.iconst 1, 1) := by decide +kernel
theorem dX0_fewestKnowing_48 : decode cX0_fewestKnowing 48 = .ok (.aload_n 0, 1) := by decide +kernel
theorem dX0_fewestKnowing_49 : decode cX0_fewestKnowing 49 = .ok (.getfield 18, 3) := by decide +kernel
theorem dX0_fewestKnowing_52 : decode cX0_fewestKnowing 52 = .ok (.getfield 72, 3) := by decide +kernel
theorem dX0_fewestKnowing_55 : decode cX0_fewestKnowing 55 = .ok (.ishl, 1) := by decide +kernel
theorem dX0_fewestKnowing_56 : decode cX0_fewestKnowing 56 = .ok (.iconst 1, 1) := by decide +kernel
theorem dX0_fewestKnowing_57 : decode cX0_fewestKnowing 57 = .ok (.isub, 1) := by decide +kernel
theorem dX0_fewestKnowing_58 : decode cX0_fewestKnowing 58 = .ok (.istore_n 2, 1) := by decide +kernel
theorem dX0_fewestKnowing_59 : decode cX0_fewestKnowing 59 = .ok (.iconst 0, 1) := by decide +kernel
theorem dX0_fewestKnowing_60 : decode cX0_fewestKnowing 60 = .ok (.istore_n 3, 1) := by decide +kernel
theorem dX0_fewestKnowing_15 : decode cX0_fewestKnowing 15 = .ok (.iload_n 2, 1) := by decide +kernel
theorem dX0_fewestKnowing_16 : decode cX0_fewestKnowing 16 = .ok (.bipush 6, 2) := by decide +kernel
theorem dX0_fewestKnowing_18 : decode cX0_fewestKnowing 18 = .ok (.if_icmp .ge 29, 3) := by decide +kernel
theorem dX0_fewestKnowing_21 : decode cX0_fewestKnowing 21 = .ok (.aload_n 0, 1) := by decide +kernel
theorem dX0_fewestKnowing_22 : decode cX0_fewestKnowing 22 = .ok (.getfield 15, 3) := by decide +kernel
theorem dX0_fewestKnowing_25 : decode cX0_fewestKnowing 25 = .ok (.iload_n 2, 1) := by decide +kernel
theorem dX0_fewestKnowing_26 : decode cX0_fewestKnowing 26 = .ok (.aload_n 0, 1) := by decide +kernel
theorem dX0_fewestKnowing_27 : decode cX0_fewestKnowing 27 = .ok (.iload_n 2, 1) := by decide +kernel
theorem dX0_fewestKnowing_28 : decode cX0_fewestKnowing 28 = .ok (.invokevirtual 84, 3) := by decide +kernel
theorem cw_X0_wordsOf : CWv yX0_wordsOf cX0_wordsOf 7 (some .int) 1 := ⟨⟨⟨List.mem_of_getElem? (i := 136) (by decide +kernel), by decide +kernel⟩, ⟨List.mem_of_getElem? (i := 1390) (by decide +kernel), by decide +kernel⟩, by decide +kernel⟩, ⟨List.mem_of_getElem? (i := 1388) (by decide +kernel), by decide +kernel⟩, ⟨List.mem_of_getElem? (i := 1389) (by decide +kernel), by decide +kernel⟩⟩
theorem km0_84 : inW (Cond.methodLink RX0 84 yX0_wordsOf) := ⟨List.mem_of_getElem? (i := 1399) (by decide +kernel), by decide +kernel⟩
theorem dX0_fewestKnowing_31 : decode cX0_fewestKnowing 31 = .ok (.iastore, 1) := by decide +kernel
theorem dX0_fewestKnowing_32 : decode cX0_fewestKnowing 32 = .ok (.iload_n 1, 1) := by decide +kernel
theorem dX0_fewestKnowing_33 : decode cX0_fewestKnowing 33 = .ok (.aload_n 0, 1) := by decide +kernel
theorem dX0_fewestKnowing_34 : decode cX0_fewestKnowing 34 = .ok (.getfield 15, 3) := by decide +kernel
theorem dX0_fewestKnowing_37 : decode cX0_fewestKnowing 37 = .ok (.iload_n 2, 1) := by decide +kernel
theorem dX0_fewestKnowing_38 : decode cX0_fewestKnowing 38 = .ok (.iaload, 1) := by decide +kernel
theorem dX0_fewestKnowing_39 : decode cX0_fewestKnowing 39 = .ok (.ior, 1) := by decide +kernel
theorem dX0_fewestKnowing_40 : decode cX0_fewestKnowing 40 = .ok (.istore_n 1, 1) := by decide +kernel
theorem dX0_fewestKnowing_41 : decode cX0_fewestKnowing 41 = .ok (.iinc 2 1, 3) := by decide +kernel
theorem dX0_fewestKnowing_44 : decode cX0_fewestKnowing 44 = .ok (.goto (-40), 3) := by decide +kernel
theorem dX0_fewestKnowing_61 : decode cX0_fewestKnowing 61 = .ok (.iload_n 3, 1) := by decide +kernel
theorem dX0_fewestKnowing_62 : decode cX0_fewestKnowing 62 = .ok (.iconst 1, 1) := by decide +kernel
theorem dX0_fewestKnowing_63 : decode cX0_fewestKnowing 63 = .ok (.aload_n 0, 1) := by decide +kernel
theorem dX0_fewestKnowing_64 : decode cX0_fewestKnowing 64 = .ok (.getfield 18, 3) := by decide +kernel
theorem dX0_fewestKnowing_67 : decode cX0_fewestKnowing 67 = .ok (.getfield 72, 3) := by decide +kernel
theorem dX0_fewestKnowing_70 : decode cX0_fewestKnowing 70 = .ok (.ishl, 1) := by decide +kernel
theorem dX0_fewestKnowing_71 : decode cX0_fewestKnowing 71 = .ok (.if_icmp .ge 31, 3) := by decide +kernel
theorem dX0_fewestKnowing_74 : decode cX0_fewestKnowing 74 = .ok (.iload_n 3, 1) := by decide +kernel
theorem dX0_fewestKnowing_75 : decode cX0_fewestKnowing 75 = .ok (.invokestatic 42, 3) := by decide +kernel
theorem dX0_fewestKnowing_78 : decode cX0_fewestKnowing 78 = .ok (.iload_n 2, 1) := by decide +kernel
theorem dX0_fewestKnowing_79 : decode cX0_fewestKnowing 79 = .ok (.invokestatic 42, 3) := by decide +kernel
theorem dX0_fewestKnowing_82 : decode cX0_fewestKnowing 82 = .ok (.if_icmp .ge 14, 3) := by decide +kernel
theorem dX0_fewestKnowing_96 : decode cX0_fewestKnowing 96 = .ok (.iinc 3 1, 3) := by decide +kernel
theorem dX0_fewestKnowing_99 : decode cX0_fewestKnowing 99 = .ok (.goto (-38), 3) := by decide +kernel
theorem dX0_fewestKnowing_85 : decode cX0_fewestKnowing 85 = .ok (.aload_n 0, 1) := by decide +kernel
theorem dX0_fewestKnowing_86 : decode cX0_fewestKnowing 86 = .ok (.iload_n 3, 1) := by decide +kernel
theorem dX0_fewestKnowing_87 : decode cX0_fewestKnowing 87 = .ok (.invokevirtual 87, 3) := by decide +kernel
theorem cw_X0_knownTo : CWv yX0_knownTo cX0_knownTo 4 (some .int) 1 := ⟨⟨⟨List.mem_of_getElem? (i := 136) (by decide +kernel), by decide +kernel⟩, ⟨List.mem_of_getElem? (i := 1403) (by decide +kernel), by decide +kernel⟩, by decide +kernel⟩, ⟨List.mem_of_getElem? (i := 1402) (by decide +kernel), by decide +kernel⟩, ⟨List.mem_of_getElem? (i := 46) (by decide +kernel), by decide +kernel⟩⟩
theorem km0_87 : inW (Cond.methodLink RX0 87 yX0_knownTo) := ⟨List.mem_of_getElem? (i := 1400) (by decide +kernel), by decide +kernel⟩
theorem dX0_fewestKnowing_90 : decode cX0_fewestKnowing 90 = .ok (.iload_n 1, 1) := by decide +kernel
theorem dX0_fewestKnowing_91 : decode cX0_fewestKnowing 91 = .ok (.if_icmp .ne 5, 3) := by decide +kernel
theorem dX0_fewestKnowing_94 : decode cX0_fewestKnowing 94 = .ok (.iload_n 3, 1) := by decide +kernel
theorem dX0_fewestKnowing_95 : decode cX0_fewestKnowing 95 = .ok (.istore_n 2, 1) := by decide +kernel
theorem dX0_fewestKnowing_102 : decode cX0_fewestKnowing 102 = .ok (.iload_n 2, 1) := by decide +kernel
theorem dX0_fewestKnowing_103 : decode cX0_fewestKnowing 103 = .ok (.ireturn, 1) := by decide +kernel
theorem dX0_legibleBy_0 : decode cX0_legibleBy 0 = .ok (.iconst 0, 1) := by decide +kernel
theorem dX0_legibleBy_1 : decode cX0_legibleBy 1 = .ok (.istore_n 2, 1) := by decide +kernel
theorem dX0_legibleBy_2 : decode cX0_legibleBy 2 = .ok (.iconst 0, 1) := by decide +kernel
theorem dX0_legibleBy_3 : decode cX0_legibleBy 3 = .ok (.istore_n 3, 1) := by decide +kernel
theorem dX0_legibleBy_4 : decode cX0_legibleBy 4 = .ok (.iload_n 3, 1) := by decide +kernel
theorem dX0_legibleBy_5 : decode cX0_legibleBy 5 = .ok (.aload_n 0, 1) := by decide +kernel
theorem dX0_legibleBy_6 : decode cX0_legibleBy 6 = .ok (.getfield 18, 3) := by decide +kernel
theorem dX0_legibleBy_9 : decode cX0_legibleBy 9 = .ok (.getfield 22, 3) := by decide +kernel
theorem dX0_legibleBy_12 : decode cX0_legibleBy 12 = .ok (.getfield 28, 3) := by decide +kernel
theorem dX0_legibleBy_15 : decode cX0_legibleBy 15 = .ok (.if_icmp .ge 42, 3) := by decide +kernel
theorem dX0_legibleBy_57 : decode cX0_legibleBy 57 = .ok (.iload_n 2, 1) := by decide +kernel
theorem dX0_legibleBy_58 : decode cX0_legibleBy 58 = .ok (.ireturn, 1) := by decide +kernel
theorem dX0_legibleBy_18 : decode cX0_legibleBy 18 = .ok (.aload_n 0, 1) := by decide +kernel
theorem dX0_legibleBy_19 : decode cX0_legibleBy 19 = .ok (.getfield 18, 3) := by decide +kernel
theorem dX0_legibleBy_22 : decode cX0_legibleBy 22 = .ok (.getfield 22, 3) := by decide +kernel
theorem dX0_legibleBy_25 : decode cX0_legibleBy 25 = .ok (.iload_n 3, 1) := by decide +kernel
theorem dX0_legibleBy_26 : decode cX0_legibleBy 26 = .ok (.iconst 0, 1) := by decide +kernel
theorem dX0_legibleBy_27 : decode cX0_legibleBy 27 = .ok (.invokevirtual 34, 3) := by decide +kernel
theorem dX0_legibleBy_30 : decode cX0_legibleBy 30 = .ok (.iload_n 1, 1) := by decide +kernel
theorem dX0_legibleBy_31 : decode cX0_legibleBy 31 = .ok (.if_icmp .ne 20, 3) := by decide +kernel
theorem dX0_legibleBy_51 : decode cX0_legibleBy 51 = .ok (.iinc 3 1, 3) := by decide +kernel
theorem dX0_legibleBy_54 : decode cX0_legibleBy 54 = .ok (.goto (-50), 3) := by decide +kernel
theorem dX0_legibleBy_34 : decode cX0_legibleBy 34 = .ok (.aload_n 0, 1) := by decide +kernel
theorem dX0_legibleBy_35 : decode cX0_legibleBy 35 = .ok (.getfield 18, 3) := by decide +kernel
theorem dX0_legibleBy_38 : decode cX0_legibleBy 38 = .ok (.getfield 22, 3) := by decide +kernel
theorem dX0_legibleBy_41 : decode cX0_legibleBy 41 = .ok (.iload_n 3, 1) := by decide +kernel
theorem dX0_legibleBy_42 : decode cX0_legibleBy 42 = .ok (.invokevirtual 78, 3) := by decide +kernel
theorem dX0_legibleBy_45 : decode cX0_legibleBy 45 = .ok (.ifCond .eq 6, 3) := by decide +kernel
theorem dX0_legibleBy_48 : decode cX0_legibleBy 48 = .ok (.iinc 2 1, 3) := by decide +kernel
theorem dX0_mostOften_0 : decode cX0_mostOften 0 = .ok (.iconst (-1), 1) := by decide +kernel
theorem dX0_mostOften_1 : decode cX0_mostOften 1 = .ok (.istore_n 1, 1) := by decide +kernel
theorem dX0_mostOften_2 : decode cX0_mostOften 2 = .ok (.iconst 0, 1) := by decide +kernel
theorem dX0_mostOften_3 : decode cX0_mostOften 3 = .ok (.istore_n 2, 1) := by decide +kernel
theorem dX0_mostOften_4 : decode cX0_mostOften 4 = .ok (.iconst 0, 1) := by decide +kernel
theorem dX0_mostOften_5 : decode cX0_mostOften 5 = .ok (.istore_n 3, 1) := by decide +kernel
theorem dX0_mostOften_6 : decode cX0_mostOften 6 = .ok (.iload_n 3, 1) := by decide +kernel
theorem dX0_mostOften_7 : decode cX0_mostOften 7 = .ok (.aload_n 0, 1) := by decide +kernel
theorem dX0_mostOften_8 : decode cX0_mostOften 8 = .ok (.getfield 18, 3) := by decide +kernel
theorem dX0_mostOften_11 : decode cX0_mostOften 11 = .ok (.getfield 72, 3) := by decide +kernel
theorem dX0_mostOften_14 : decode cX0_mostOften 14 = .ok (.if_icmp .ge 27, 3) := by decide +kernel
theorem dX0_mostOften_41 : decode cX0_mostOften 41 = .ok (.iload_n 1, 1) := by decide +kernel
theorem dX0_mostOften_42 : decode cX0_mostOften 42 = .ok (.ireturn, 1) := by decide +kernel
theorem dX0_mostOften_17 : decode cX0_mostOften 17 = .ok (.aload_n 0, 1) := by decide +kernel
theorem dX0_mostOften_18 : decode cX0_mostOften 18 = .ok (.iload_n 3, 1) := by decide +kernel
theorem dX0_mostOften_19 : decode cX0_mostOften 19 = .ok (.invokevirtual 90, 3) := by decide +kernel
theorem cw_X0_legibleBy : CWv yX0_legibleBy cX0_legibleBy 4 (some .int) 1 := ⟨⟨⟨List.mem_of_getElem? (i := 136) (by decide +kernel), by decide +kernel⟩, ⟨List.mem_of_getElem? (i := 1436) (by decide +kernel), by decide +kernel⟩, by decide +kernel⟩, ⟨List.mem_of_getElem? (i := 1435) (by decide +kernel), by decide +kernel⟩, ⟨List.mem_of_getElem? (i := 47) (by decide +kernel), by decide +kernel⟩⟩
theorem km0_90 : inW (Cond.methodLink RX0 90 yX0_legibleBy) := ⟨List.mem_of_getElem? (i := 1433) (by decide +kernel), by decide +kernel⟩
theorem dX0_mostOften_22 : decode cX0_mostOften 22 = .ok (.istore 4, 2) := by decide +kernel
theorem dX0_mostOften_24 : decode cX0_mostOften 24 = .ok (.iload 4, 2) := by decide +kernel
theorem dX0_mostOften_26 : decode cX0_mostOften 26 = .ok (.iload_n 2, 1) := by decide +kernel
theorem dX0_mostOften_27 : decode cX0_mostOften 27 = .ok (.if_icmp .le 8, 3) := by decide +kernel
theorem dX0_mostOften_35 : decode cX0_mostOften 35 = .ok (.iinc 3 1, 3) := by decide +kernel
theorem dX0_mostOften_38 : decode cX0_mostOften 38 = .ok (.goto (-32), 3) := by decide +kernel
theorem dX0_mostOften_30 : decode cX0_mostOften 30 = .ok (.iload_n 3, 1) := by decide +kernel
theorem dX0_mostOften_31 : decode cX0_mostOften 31 = .ok (.istore_n 1, 1) := by decide +kernel
theorem dX0_mostOften_32 : decode cX0_mostOften 32 = .ok (.iload 4, 2) := by decide +kernel
theorem dX0_mostOften_34 : decode cX0_mostOften 34 = .ok (.istore_n 2, 1) := by decide +kernel
theorem dX0_unbroken_0 : decode cX0_unbroken 0 = .ok (.iconst 1, 1) := by decide +kernel
theorem dX0_unbroken_1 : decode cX0_unbroken 1 = .ok (.aload_n 0, 1) := by decide +kernel
theorem dX0_unbroken_2 : decode cX0_unbroken 2 = .ok (.getfield 18, 3) := by decide +kernel
theorem dX0_unbroken_5 : decode cX0_unbroken 5 = .ok (.getfield 72, 3) := by decide +kernel
theorem dX0_unbroken_8 : decode cX0_unbroken 8 = .ok (.ishl, 1) := by decide +kernel
theorem dX0_unbroken_9 : decode cX0_unbroken 9 = .ok (.iconst 1, 1) := by decide +kernel
theorem dX0_unbroken_10 : decode cX0_unbroken 10 = .ok (.isub, 1) := by decide +kernel
theorem dX0_unbroken_11 : decode cX0_unbroken 11 = .ok (.istore_n 1, 1) := by decide +kernel
theorem dX0_unbroken_12 : decode cX0_unbroken 12 = .ok (.iconst 0, 1) := by decide +kernel
theorem dX0_unbroken_13 : decode cX0_unbroken 13 = .ok (.istore_n 2, 1) := by decide +kernel
theorem dX0_unbroken_14 : decode cX0_unbroken 14 = .ok (.iload_n 2, 1) := by decide +kernel
theorem dX0_unbroken_15 : decode cX0_unbroken 15 = .ok (.aload_n 0, 1) := by decide +kernel
theorem dX0_unbroken_16 : decode cX0_unbroken 16 = .ok (.getfield 18, 3) := by decide +kernel
theorem dX0_unbroken_19 : decode cX0_unbroken 19 = .ok (.getfield 22, 3) := by decide +kernel
theorem dX0_unbroken_22 : decode cX0_unbroken 22 = .ok (.getfield 28, 3) := by decide +kernel
theorem dX0_unbroken_25 : decode cX0_unbroken 25 = .ok (.if_icmp .ge 44, 3) := by decide +kernel
theorem dX0_unbroken_69 : decode cX0_unbroken 69 = .ok (.iload_n 1, 1) := by decide +kernel
theorem dX0_unbroken_70 : decode cX0_unbroken 70 = .ok (.ireturn, 1) := by decide +kernel
theorem dX0_unbroken_28 : decode cX0_unbroken 28 = .ok (.aload_n 0, 1) := by decide +kernel
theorem dX0_unbroken_29 : decode cX0_unbroken 29 = .ok (.getfield 18, 3) := by decide +kernel
theorem dX0_unbroken_32 : decode cX0_unbroken 32 = .ok (.getfield 22, 3) := by decide +kernel
theorem dX0_unbroken_35 : decode cX0_unbroken 35 = .ok (.iload_n 2, 1) := by decide +kernel
theorem dX0_unbroken_36 : decode cX0_unbroken 36 = .ok (.iconst 4, 1) := by decide +kernel
theorem dX0_unbroken_37 : decode cX0_unbroken 37 = .ok (.invokevirtual 34, 3) := by decide +kernel
theorem dX0_unbroken_40 : decode cX0_unbroken 40 = .ok (.iconst 1, 1) := by decide +kernel
theorem dX0_unbroken_41 : decode cX0_unbroken 41 = .ok (.if_icmp .ne 22, 3) := by decide +kernel
theorem dX0_unbroken_63 : decode cX0_unbroken 63 = .ok (.iinc 2 1, 3) := by decide +kernel
theorem dX0_unbroken_66 : decode cX0_unbroken 66 = .ok (.goto (-52), 3) := by decide +kernel
theorem dX0_unbroken_44 : decode cX0_unbroken 44 = .ok (.iload_n 1, 1) := by decide +kernel
theorem dX0_unbroken_45 : decode cX0_unbroken 45 = .ok (.iconst 1, 1) := by decide +kernel
theorem dX0_unbroken_46 : decode cX0_unbroken 46 = .ok (.aload_n 0, 1) := by decide +kernel
theorem dX0_unbroken_47 : decode cX0_unbroken 47 = .ok (.getfield 18, 3) := by decide +kernel
theorem dX0_unbroken_50 : decode cX0_unbroken 50 = .ok (.getfield 22, 3) := by decide +kernel
theorem dX0_unbroken_53 : decode cX0_unbroken 53 = .ok (.iload_n 2, 1) := by decide +kernel
theorem dX0_unbroken_54 : decode cX0_unbroken 54 = .ok (.iconst 0, 1) := by decide +kernel
theorem dX0_unbroken_55 : decode cX0_unbroken 55 = .ok (.invokevirtual 34, 3) := by decide +kernel
theorem dX0_unbroken_58 : decode cX0_unbroken 58 = .ok (.ishl, 1) := by decide +kernel
theorem dX0_unbroken_59 : decode cX0_unbroken 59 = .ok (.iconst (-1), 1) := by decide +kernel
theorem dX0_unbroken_60 : decode cX0_unbroken 60 = .ok (.ixor, 1) := by decide +kernel
theorem dX0_unbroken_61 : decode cX0_unbroken 61 = .ok (.iand, 1) := by decide +kernel
theorem dX0_unbroken_62 : decode cX0_unbroken 62 = .ok (.istore_n 1, 1) := by decide +kernel
abbrev lei (x y : Int32) : Prop := x.toInt ≤ y.toInt
theorem ti_inc {x y z : Int32} {a b k : Int} (e : x = y + z) (hz : bn k k z) (h : bn a b y) (q : -2147483648 ≤ a + k ∧ b + k ≤ 2147483647) : x.toInt = y.toInt + k := by
  obtain ⟨h1, h2⟩ := h; obtain ⟨z1, z2⟩ := hz; obtain ⟨q1, q2⟩ := q
  rw [e, ti_add (by omega) (by omega)]; omega
set_option maxHeartbeats 4000000 in
set_option maxRecDepth 100000 in
theorem x_X0_net {l : Launch} {G : GG}  {L : List Nat} {f : HF} {ad : Nat → Nat → Nat} {rs : RS} {fc : Int × Int} {tc w : Nat → Int × Int} {q : Nat → (Nat → Int32) → Prop} {i1 : Int32} (I : SH (spC rs fc tc w q) nnC G ad L f) (hW : WBp w 8) (hT : WBp tc 4) (hQ : QIp q) : PMp l yX0_net cX0_net 5 .int 1 0 0 G [.ref (ad 8 0), .int i1] L f (fun r => True) := by
  refine PMi.of (post := fun r L1 f1 => (True) ∧ L1 = L ∧ f1 = f) (own := RX0) (by decide) rfl (Nat.le_of_ble_eq_true rfl) (fun sz p e s m args below meth c A ls hA1 hname S Y hl => ?_)
  have hx := S.hx
  have hb := S.hb
  have hl : lv_has ls 5 [(0, .ref (ad 8 0)), (1, .int i1)] := hl
  have J_13 : ∀ (n13 : Nat) (y13_3 y13_4 : Int32) (H : Heap) (locs : List Loc) (ls : Array Slot), (bn 0 14 y13_4) → (((14 : Int) - y13_4.toInt).toNat = n13) → (DY G A s [] L f H locs) → (lv_has ls 5 [(0, .ref (ad 8 0)), (1, .int i1), (2, .ref (ad 10 0)), (3, .int y13_3), (4, .int y13_4)]) → W p l e (rmD 1 0 0) s m args below meth c H locs (0) (0) (MQ below (va_Qi (fun r (u : List Nat × HF) => (fun r L1 f1 => (True) ∧ L1 = L ∧ f1 = f) r u.1 u.2) (fun u t => pOut G (va_A (va_pl L f) sz) u.1 u.2 t) (va_A (va_pl L f) sz)) args s 0 0 A) (F0 m 13 ls []) := by
    intro n13
    induction n13 using Nat.strongRecOn with
    | _ n13 ih13 =>
      intro y13_3 y13_4 H locs ls b_y13_4 hm13 Y hl
      refine lv_iload hx hb dX0_net_13 (lv_at hl 4 rfl) ?_
      refine lv_aload_n hx hb dX0_net_15 rfl (lv_at hl 2 rfl) ?_
      obtain ⟨v_30847, v_30849, v_30851, v_30853, v_30855, p_ad_10_0, b_30848, b_30850, b_30852, b_30854, b_30856⟩ := opnC_10 (j := 0) I (by decide)
      have p_ad_10_0 : pt L f (ad 10 0) (.inr (4, [.ref (ad 11 0), .ref (ad 12 0), .int v_30847, .int v_30849, .int v_30851, .int v_30853, .int v_30855])) := p_ad_10_0
      refine pg_getN S Y ok_X4 2 (by decide) kf0_28 (v := .int v_30847) p_ad_10_0 rfl dX0_net_16 ?_
      refine lv_icmp_ge (tgt := 99) hx hb dX0_net_19 (by decide) (fun c_30857 => ?_) (fun c_30857 => ?_)
      · refine lv_iload_n hx hb dX0_net_99 rfl (lv_at hl 3 rfl) ?_
        exact prI (post := fun r L1 f1 => (True) ∧ L1 = L ∧ f1 = f) S Y rfl (by decide) (by decide) hA1 ⟨trivial, rfl, rfl⟩ dX0_net_100
      · have B_30858 : bn 1 14 v_30847 := bn_w (bn_gtl c_30857 b_30848 b_y13_4) (by decide)
        have B_30859 : bn 0 13 y13_4 := bn_w (bn_gtr c_30857 b_30848 b_y13_4) (by decide)
        refine lv_aload_n hx hb dX0_net_22 rfl (lv_at hl 2 rfl) ?_
        refine lv_iload hx hb dX0_net_23 (lv_at hl 4 rfl) ?_
        refine lv_iconst (v := 4) hx hb dX0_net_25 (by decide) ?_
        refine cVp (As := [.int y13_4, .int 4]) (rest := []) S Y (x_X4_get (l := l) (j := 0) I hW hT hQ (by decide)) cw_X4_get km0_34 p_ad_10_0 ok_X4.1 rfl rfl ⟨Nat.le_of_ble_eq_true rfl, Nat.le_of_ble_eq_true rfl⟩ hl.1 rfl (Nat.le_of_ble_eq_true rfl) ⟨Nat.le_of_ble_eq_true rfl, Nat.le_of_ble_eq_true rfl⟩ dX0_net_26 (fun r_30860 H locs er_30860 Y => ?_)
        refine lv_if_ne (tgt := 93) hx hb dX0_net_29 (by decide) (fun c_30861 => ?_) (fun c_30861 => ?_)
        · obtain ⟨x_30863, ex_30863⟩ : ∃ z : Int32, z = y13_4 + 1 := ⟨_, rfl⟩
          refine lv_iinc (v := x_30863) (lv' := [(4, .int x_30863), (0, .ref (ad 8 0)), (1, .int i1), (2, .ref (ad 10 0)), (3, .int y13_3)]) hx hb dX0_net_93 hl (k := 4) rfl (by rw [ex_30863]; rfl) (by decide) rfl (fun ls hl => ?_)
          refine lv_goto (tgt := 13) hx hb dX0_net_96 (by decide) ?_
          exact ih13 _ (by rw [← hm13]; exact ms_up (m := 1) ex_30863 (show bn 1 1 (1 : Int32) from bn_k (by decide)) B_30859 (bn_w (bn_eq ex_30863 (bn_add B_30859 (show bn 1 1 (1 : Int32) from bn_k (by decide)) (by decide))) (by decide) : bn 0 14 x_30863) (by decide)) y13_3 x_30863  _ _ _  (bn_w (bn_eq ex_30863 (bn_add B_30859 (show bn 1 1 (1 : Int32) from bn_k (by decide)) (by decide))) (by decide)) rfl Y (lv_sub hl [1, 2, 3, 4, 0] rfl)
        · have B_30862 : bn 0 0 r_30860 := bn_w (bn_eq c_30861 (show bn 0 0 (0 : Int32) from bn_k (by decide))) (by decide)
          refine lv_aload_n hx hb dX0_net_32 rfl (lv_at hl 2 rfl) ?_
          refine lv_iload hx hb dX0_net_33 (lv_at hl 4 rfl) ?_
          refine lv_iconst (v := 2) hx hb dX0_net_35 (by decide) ?_
          refine cVp (As := [.int y13_4, .int 2]) (rest := []) S Y (x_X4_get (l := l) (j := 0) I hW hT hQ (by decide)) cw_X4_get km0_34 p_ad_10_0 ok_X4.1 rfl rfl ⟨Nat.le_of_ble_eq_true rfl, Nat.le_of_ble_eq_true rfl⟩ hl.1 rfl (Nat.le_of_ble_eq_true rfl) ⟨Nat.le_of_ble_eq_true rfl, Nat.le_of_ble_eq_true rfl⟩ dX0_net_36 (fun r_30864 H locs er_30864 Y => ?_)
          refine lv_iconst (v := 1) hx hb dX0_net_39 (by decide) ?_
          refine lv_icmp_ne (tgt := 93) hx hb dX0_net_40 (by decide) (fun c_30865 => ?_) (fun c_30865 => ?_)
          · obtain ⟨x_30867, ex_30867⟩ : ∃ z : Int32, z = y13_4 + 1 := ⟨_, rfl⟩
            refine lv_iinc (v := x_30867) (lv' := [(4, .int x_30867), (0, .ref (ad 8 0)), (1, .int i1), (2, .ref (ad 10 0)), (3, .int y13_3)]) hx hb dX0_net_93 hl (k := 4) rfl (by rw [ex_30867]; rfl) (by decide) rfl (fun ls hl => ?_)
            refine lv_goto (tgt := 13) hx hb dX0_net_96 (by decide) ?_
            exact ih13 _ (by rw [← hm13]; exact ms_up (m := 1) ex_30867 (show bn 1 1 (1 : Int32) from bn_k (by decide)) B_30859 (bn_w (bn_eq ex_30867 (bn_add B_30859 (show bn 1 1 (1 : Int32) from bn_k (by decide)) (by decide))) (by decide) : bn 0 14 x_30867) (by decide)) y13_3 x_30867  _ _ _  (bn_w (bn_eq ex_30867 (bn_add B_30859 (show bn 1 1 (1 : Int32) from bn_k (by decide)) (by decide))) (by decide)) rfl Y (lv_sub hl [1, 2, 3, 4, 0] rfl)
          · have B_30866 : bn 1 1 r_30864 := bn_w (bn_eq c_30865 (show bn 1 1 (1 : Int32) from bn_k (by decide))) (by decide)
            refine lv_iload_n hx hb dX0_net_43 rfl (lv_at hl 3 rfl) ?_
            refine lv_aload_n hx hb dX0_net_44 rfl (lv_at hl 2 rfl) ?_
            refine lv_iload hx hb dX0_net_45 (lv_at hl 4 rfl) ?_
            refine lv_iconst (v := 1) hx hb dX0_net_47 (by decide) ?_
            refine cVp (As := [.int y13_4, .int 1]) (rest := [.int y13_3]) S Y (x_X4_get (l := l) (j := 0) I hW hT hQ (by decide)) cw_X4_get km0_34 p_ad_10_0 ok_X4.1 rfl rfl ⟨Nat.le_of_ble_eq_true rfl, Nat.le_of_ble_eq_true rfl⟩ hl.1 rfl (Nat.le_of_ble_eq_true rfl) ⟨Nat.le_of_ble_eq_true rfl, Nat.le_of_ble_eq_true rfl⟩ dX0_net_48 (fun r_30868 H locs er_30868 Y => ?_)
            refine lv_iload_n hx hb dX0_net_51 rfl (lv_at hl 1 rfl) ?_
            refine lv_icmp_ne (tgt := 65) hx hb dX0_net_52 (by decide) (fun c_30869 => ?_) (fun c_30869 => ?_)
            · refine lv_iconst (v := 0) hx hb dX0_net_65 (by decide) ?_
              refine lv_iadd hx hb dX0_net_66 ?_
              refine lv_topi (fun x_30870 ex_30870 => ?_)
              refine lv_istore_n (lv' := [(3, .int x_30870), (0, .ref (ad 8 0)), (1, .int i1), (2, .ref (ad 10 0)), (4, .int y13_4)]) hx hb dX0_net_67 rfl hl (by decide) rfl (fun ls hl => ?_)
              refine lv_iload_n hx hb dX0_net_68 rfl (lv_at hl 0 rfl) ?_
              refine lv_aload_n hx hb dX0_net_69 rfl (lv_at hl 3 rfl) ?_
              refine lv_iload hx hb dX0_net_70 (lv_at hl 4 rfl) ?_
              refine lv_iconst (v := 0) hx hb dX0_net_72 (by decide) ?_
              refine cVp (As := [.int y13_4, .int 0]) (rest := [.int x_30870]) S Y (x_X4_get (l := l) (j := 0) I hW hT hQ (by decide)) cw_X4_get km0_34 p_ad_10_0 ok_X4.1 rfl rfl ⟨Nat.le_of_ble_eq_true rfl, Nat.le_of_ble_eq_true rfl⟩ hl.1 rfl (Nat.le_of_ble_eq_true rfl) ⟨Nat.le_of_ble_eq_true rfl, Nat.le_of_ble_eq_true rfl⟩ dX0_net_73 (fun r_30871 H locs er_30871 Y => ?_)
              refine lv_iload_n hx hb dX0_net_76 rfl (lv_at hl 2 rfl) ?_
              refine lv_icmp_ne (tgt := 90) hx hb dX0_net_77 (by decide) (fun c_30872 => ?_) (fun c_30872 => ?_)
              · refine lv_iconst (v := 0) hx hb dX0_net_90 (by decide) ?_
                refine lv_isub hx hb dX0_net_91 ?_
                refine lv_topi (fun x_30873 ex_30873 => ?_)
                refine lv_istore_n (lv' := [(3, .int x_30873), (0, .ref (ad 8 0)), (1, .int i1), (2, .ref (ad 10 0)), (4, .int y13_4)]) hx hb dX0_net_92 rfl hl (by decide) rfl (fun ls hl => ?_)
                obtain ⟨x_30874, ex_30874⟩ : ∃ z : Int32, z = y13_4 + 1 := ⟨_, rfl⟩
                refine lv_iinc (v := x_30874) (lv' := [(4, .int x_30874), (3, .int x_30873), (0, .ref (ad 8 0)), (1, .int i1), (2, .ref (ad 10 0))]) hx hb dX0_net_93 hl (k := 4) rfl (by rw [ex_30874]; rfl) (by decide) rfl (fun ls hl => ?_)
                refine lv_goto (tgt := 13) hx hb dX0_net_96 (by decide) ?_
                exact ih13 _ (by rw [← hm13]; exact ms_up (m := 1) ex_30874 (show bn 1 1 (1 : Int32) from bn_k (by decide)) B_30859 (bn_w (bn_eq ex_30874 (bn_add B_30859 (show bn 1 1 (1 : Int32) from bn_k (by decide)) (by decide))) (by decide) : bn 0 14 x_30874) (by decide)) x_30873 x_30874  _ _ _  (bn_w (bn_eq ex_30874 (bn_add B_30859 (show bn 1 1 (1 : Int32) from bn_k (by decide)) (by decide))) (by decide)) rfl Y (lv_sub hl [2, 3, 4, 1, 0] rfl)
              · refine lv_aload_n hx hb dX0_net_80 rfl (lv_at hl 3 rfl) ?_
                refine lv_iload hx hb dX0_net_81 (lv_at hl 4 rfl) ?_
                refine lv_iconst (v := 3) hx hb dX0_net_83 (by decide) ?_
                refine cVp (As := [.int y13_4, .int 3]) (rest := [.int x_30870]) S Y (x_X4_get (l := l) (j := 0) I hW hT hQ (by decide)) cw_X4_get km0_34 p_ad_10_0 ok_X4.1 rfl rfl ⟨Nat.le_of_ble_eq_true rfl, Nat.le_of_ble_eq_true rfl⟩ hl.1 rfl (Nat.le_of_ble_eq_true rfl) ⟨Nat.le_of_ble_eq_true rfl, Nat.le_of_ble_eq_true rfl⟩ dX0_net_84 (fun r_30875 H locs er_30875 Y => ?_)
                refine lv_goto (tgt := 91) hx hb dX0_net_87 (by decide) ?_
                refine lv_isub hx hb dX0_net_91 ?_
                refine lv_topi (fun x_30876 ex_30876 => ?_)
                refine lv_istore_n (lv' := [(3, .int x_30876), (0, .ref (ad 8 0)), (1, .int i1), (2, .ref (ad 10 0)), (4, .int y13_4)]) hx hb dX0_net_92 rfl hl (by decide) rfl (fun ls hl => ?_)
                obtain ⟨x_30877, ex_30877⟩ : ∃ z : Int32, z = y13_4 + 1 := ⟨_, rfl⟩
                refine lv_iinc (v := x_30877) (lv' := [(4, .int x_30877), (3, .int x_30876), (0, .ref (ad 8 0)), (1, .int i1), (2, .ref (ad 10 0))]) hx hb dX0_net_93 hl (k := 4) rfl (by rw [ex_30877]; rfl) (by decide) rfl (fun ls hl => ?_)
                refine lv_goto (tgt := 13) hx hb dX0_net_96 (by decide) ?_
                exact ih13 _ (by rw [← hm13]; exact ms_up (m := 1) ex_30877 (show bn 1 1 (1 : Int32) from bn_k (by decide)) B_30859 (bn_w (bn_eq ex_30877 (bn_add B_30859 (show bn 1 1 (1 : Int32) from bn_k (by decide)) (by decide))) (by decide) : bn 0 14 x_30877) (by decide)) x_30876 x_30877  _ _ _  (bn_w (bn_eq ex_30877 (bn_add B_30859 (show bn 1 1 (1 : Int32) from bn_k (by decide)) (by decide))) (by decide)) rfl Y (lv_sub hl [2, 3, 4, 1, 0] rfl)
            · refine lv_aload_n hx hb dX0_net_55 rfl (lv_at hl 2 rfl) ?_
              refine lv_iload hx hb dX0_net_56 (lv_at hl 4 rfl) ?_
              refine lv_iconst (v := 3) hx hb dX0_net_58 (by decide) ?_
              refine cVp (As := [.int y13_4, .int 3]) (rest := [.int y13_3]) S Y (x_X4_get (l := l) (j := 0) I hW hT hQ (by decide)) cw_X4_get km0_34 p_ad_10_0 ok_X4.1 rfl rfl ⟨Nat.le_of_ble_eq_true rfl, Nat.le_of_ble_eq_true rfl⟩ hl.1 rfl (Nat.le_of_ble_eq_true rfl) ⟨Nat.le_of_ble_eq_true rfl, Nat.le_of_ble_eq_true rfl⟩ dX0_net_59 (fun r_30878 H locs er_30878 Y => ?_)
              refine lv_goto (tgt := 66) hx hb dX0_net_62 (by decide) ?_
              refine lv_iadd hx hb dX0_net_66 ?_
              refine lv_topi (fun x_30879 ex_30879 => ?_)
              refine lv_istore_n (lv' := [(3, .int x_30879), (0, .ref (ad 8 0)), (1, .int i1), (2, .ref (ad 10 0)), (4, .int y13_4)]) hx hb dX0_net_67 rfl hl (by decide) rfl (fun ls hl => ?_)
              refine lv_iload_n hx hb dX0_net_68 rfl (lv_at hl 0 rfl) ?_
              refine lv_aload_n hx hb dX0_net_69 rfl (lv_at hl 3 rfl) ?_
              refine lv_iload hx hb dX0_net_70 (lv_at hl 4 rfl) ?_
              refine lv_iconst (v := 0) hx hb dX0_net_72 (by decide) ?_
              refine cVp (As := [.int y13_4, .int 0]) (rest := [.int x_30879]) S Y (x_X4_get (l := l) (j := 0) I hW hT hQ (by decide)) cw_X4_get km0_34 p_ad_10_0 ok_X4.1 rfl rfl ⟨Nat.le_of_ble_eq_true rfl, Nat.le_of_ble_eq_true rfl⟩ hl.1 rfl (Nat.le_of_ble_eq_true rfl) ⟨Nat.le_of_ble_eq_true rfl, Nat.le_of_ble_eq_true rfl⟩ dX0_net_73 (fun r_30880 H locs er_30880 Y => ?_)
              refine lv_iload_n hx hb dX0_net_76 rfl (lv_at hl 2 rfl) ?_
              refine lv_icmp_ne (tgt := 90) hx hb dX0_net_77 (by decide) (fun c_30881 => ?_) (fun c_30881 => ?_)
              · refine lv_iconst (v := 0) hx hb dX0_net_90 (by decide) ?_
                refine lv_isub hx hb dX0_net_91 ?_
                refine lv_topi (fun x_30882 ex_30882 => ?_)
                refine lv_istore_n (lv' := [(3, .int x_30882), (0, .ref (ad 8 0)), (1, .int i1), (2, .ref (ad 10 0)), (4, .int y13_4)]) hx hb dX0_net_92 rfl hl (by decide) rfl (fun ls hl => ?_)
                obtain ⟨x_30883, ex_30883⟩ : ∃ z : Int32, z = y13_4 + 1 := ⟨_, rfl⟩
                refine lv_iinc (v := x_30883) (lv' := [(4, .int x_30883), (3, .int x_30882), (0, .ref (ad 8 0)), (1, .int i1), (2, .ref (ad 10 0))]) hx hb dX0_net_93 hl (k := 4) rfl (by rw [ex_30883]; rfl) (by decide) rfl (fun ls hl => ?_)
                refine lv_goto (tgt := 13) hx hb dX0_net_96 (by decide) ?_
                exact ih13 _ (by rw [← hm13]; exact ms_up (m := 1) ex_30883 (show bn 1 1 (1 : Int32) from bn_k (by decide)) B_30859 (bn_w (bn_eq ex_30883 (bn_add B_30859 (show bn 1 1 (1 : Int32) from bn_k (by decide)) (by decide))) (by decide) : bn 0 14 x_30883) (by decide)) x_30882 x_30883  _ _ _  (bn_w (bn_eq ex_30883 (bn_add B_30859 (show bn 1 1 (1 : Int32) from bn_k (by decide)) (by decide))) (by decide)) rfl Y (lv_sub hl [2, 3, 4, 1, 0] rfl)
              · refine lv_aload_n hx hb dX0_net_80 rfl (lv_at hl 3 rfl) ?_
                refine lv_iload hx hb dX0_net_81 (lv_at hl 4 rfl) ?_
                refine lv_iconst (v := 3) hx hb dX0_net_83 (by decide) ?_
                refine cVp (As := [.int y13_4, .int 3]) (rest := [.int x_30879]) S Y (x_X4_get (l := l) (j := 0) I hW hT hQ (by decide)) cw_X4_get km0_34 p_ad_10_0 ok_X4.1 rfl rfl ⟨Nat.le_of_ble_eq_true rfl, Nat.le_of_ble_eq_true rfl⟩ hl.1 rfl (Nat.le_of_ble_eq_true rfl) ⟨Nat.le_of_ble_eq_true rfl, Nat.le_of_ble_eq_true rfl⟩ dX0_net_84 (fun r_30884 H locs er_30884 Y => ?_)
                refine lv_goto (tgt := 91) hx hb dX0_net_87 (by decide) ?_
                refine lv_isub hx hb dX0_net_91 ?_
                refine lv_topi (fun x_30885 ex_30885 => ?_)
                refine lv_istore_n (lv' := [(3, .int x_30885), (0, .ref (ad 8 0)), (1, .int i1), (2, .ref (ad 10 0)), (4, .int y13_4)]) hx hb dX0_net_92 rfl hl (by decide) rfl (fun ls hl => ?_)
                obtain ⟨x_30886, ex_30886⟩ : ∃ z : Int32, z = y13_4 + 1 := ⟨_, rfl⟩
                refine lv_iinc (v := x_30886) (lv' := [(4, .int x_30886), (3, .int x_30885), (0, .ref (ad 8 0)), (1, .int i1), (2, .ref (ad 10 0))]) hx hb dX0_net_93 hl (k := 4) rfl (by rw [ex_30886]; rfl) (by decide) rfl (fun ls hl => ?_)
                refine lv_goto (tgt := 13) hx hb dX0_net_96 (by decide) ?_
                exact ih13 _ (by rw [← hm13]; exact ms_up (m := 1) ex_30886 (show bn 1 1 (1 : Int32) from bn_k (by decide)) B_30859 (bn_w (bn_eq ex_30886 (bn_add B_30859 (show bn 1 1 (1 : Int32) from bn_k (by decide)) (by decide))) (by decide) : bn 0 14 x_30886) (by decide)) x_30885 x_30886  _ _ _  (bn_w (bn_eq ex_30886 (bn_add B_30859 (show bn 1 1 (1 : Int32) from bn_k (by decide)) (by decide))) (by decide)) rfl Y (lv_sub hl [2, 3, 4, 1, 0] rfl)
  refine lv_aload_n hx hb dX0_net_0 rfl (lv_at hl 0 rfl) ?_
  have p_ad_8_0 := opnC_8 (j := 0) I (by decide)
  have p_ad_8_0 : pt L f (ad 8 0) (.inr (0, [.ref (ad 1 0), .ref (ad 60 0), .ref (ad 61 0)])) := p_ad_8_0
  refine pg_get S Y ok_X0 0 (by decide) kf0_18 (v := .ref (ad 1 0)) p_ad_8_0 rfl dX0_net_1 ?_
  obtain ⟨v_30887, v_30889, v_30891, v_30893, v_30895, p_ad_1_0, b_30888, b_30890, b_30892, b_30894, b_30896⟩ := opnC_1 (j := 0) I (by decide)
  have p_ad_1_0 : pt L f (ad 1 0) (.inr (10, [.ref (ad 40 0), .ref (ad 41 0), .ref (ad 42 0), .ref (ad 10 0), .ref (ad 43 0), .ref (ad 20 0), .ref (ad 20 1), .ref (ad 20 2), .ref (ad 20 3), .ref (ad 20 4), .int v_30887, .int v_30889, .int v_30891, .int v_30893, .int v_30895])) := p_ad_1_0
  refine pg_getN S Y ok_X10 3 (by decide) kf0_22 (v := .ref (ad 10 0)) p_ad_1_0 rfl dX0_net_4 ?_
  refine lv_astore_n (lv' := [(2, .ref (ad 10 0)), (0, .ref (ad 8 0)), (1, .int i1)]) hx hb dX0_net_7 rfl hl (by decide) rfl (fun ls hl => ?_)
  refine lv_iconst (v := 0) hx hb dX0_net_8 (by decide) ?_
  refine lv_istore_n (lv' := [(3, .int 0), (2, .ref (ad 10 0)), (0, .ref (ad 8 0)), (1, .int i1)]) hx hb dX0_net_9 rfl hl (by decide) rfl (fun ls hl => ?_)
  refine lv_iconst (v := 0) hx hb dX0_net_10 (by decide) ?_
  refine lv_istore (lv' := [(4, .int 0), (3, .int 0), (2, .ref (ad 10 0)), (0, .ref (ad 8 0)), (1, .int i1)]) hx hb dX0_net_11 hl (by decide) rfl (fun ls hl => ?_)
  exact J_13 _ 0 0  _ _ _  (bn_w (show bn 0 0 (0 : Int32) from bn_k (by decide)) (by decide)) rfl Y (lv_sub hl [3, 4, 2, 1, 0] rfl)
set_option maxHeartbeats 4000000 in
set_option maxRecDepth 100000 in
theorem x_X0_gatherClashes {l : Launch} {G : GG}  {L : List Nat} {f : HF} {ad : Nat → Nat → Nat} {rs : RS} {fc : Int × Int} {tc w : Nat → Int × Int} {q : Nat → (Nat → Int32) → Prop} (I : SH (spC rs fc tc w q) nnC G ad L f) (hW : WBp w 8) (hT : WBp tc 4) (hQ : QIp q) : PMi l yX0_gatherClashes cX0_gatherClashes 5 .int 1 0 0 G [.ref (ad 8 0)] L f (fun r L1 f1 => bn 0 8 r ∧ SH (spC rs fc tc w q) nnC G ad L1 f1) := by
  refine PMi.of (post := fun r L1 f1 => bn 0 8 r ∧ SH (spC rs fc tc w q) nnC G ad L1 f1) (own := RX0) (by decide) rfl (Nat.le_of_ble_eq_true rfl) (fun sz p e s m args below meth c A ls hA1 hname S Y hl => ?_)
  have hx := S.hx
  have hb := S.hb
  have hl : lv_has ls 5 [(0, .ref (ad 8 0))] := hl
  have J_4 : ∀ (n4 : Nat) (y4_1 y4_2 : Int32) (L_4 : List Nat) (f_4 : HF) (H : Heap) (locs : List Loc) (ls : Array Slot), (SH (spC rs fc tc w q) nnC G ad L_4 f_4) → (bn 0 8 y4_1) → (bn 0 8 y4_2) → (lei y4_1 y4_2) → (((8 : Int) - y4_2.toInt).toNat = n4) → (DY G A s [] L_4 f_4 H locs) → (lv_has ls 5 [(0, .ref (ad 8 0)), (1, .int y4_1), (2, .int y4_2)]) → W p l e (rmD 1 0 0) s m args below meth c H locs (0) (0) (MQ below (va_Qi (fun r (u : List Nat × HF) => (fun r L1 f1 => bn 0 8 r ∧ SH (spC rs fc tc w q) nnC G ad L1 f1) r u.1 u.2) (fun u t => pOut G (va_A (va_pl L f) sz) u.1 u.2 t) (va_A (va_pl L f) sz)) args s 0 0 A) (F0 m 4 ls []) := by
    intro n4
    induction n4 using Nat.strongRecOn with
    | _ n4 ih4 =>
      intro y4_1 y4_2 L_4 f_4 H locs ls I b_y4_1 b_y4_2 r4_1_2 hm4 Y hl
      refine lv_iload_n hx hb dX0_gatherClashes_4 rfl (lv_at hl 2 rfl) ?_
      refine lv_aload_n hx hb dX0_gatherClashes_5 rfl (lv_at hl 0 rfl) ?_
      have p_ad_8_0 := opnC_8 (j := 0) I (by decide)
      have p_ad_8_0 : pt L_4 f_4 (ad 8 0) (.inr (0, [.ref (ad 1 0), .ref (ad 60 0), .ref (ad 61 0)])) := p_ad_8_0
      refine pg_get S Y ok_X0 0 (by decide) kf0_18 (v := .ref (ad 1 0)) p_ad_8_0 rfl dX0_gatherClashes_6 ?_
      obtain ⟨v_31267, v_31269, v_31271, v_31273, v_31275, p_ad_1_0, b_31268, b_31270, b_31272, b_31274, b_31276⟩ := opnC_1 (j := 0) I (by decide)
      have p_ad_1_0 : pt L_4 f_4 (ad 1 0) (.inr (10, [.ref (ad 40 0), .ref (ad 41 0), .ref (ad 42 0), .ref (ad 10 0), .ref (ad 43 0), .ref (ad 20 0), .ref (ad 20 1), .ref (ad 20 2), .ref (ad 20 3), .ref (ad 20 4), .int v_31267, .int v_31269, .int v_31271, .int v_31273, .int v_31275])) := p_ad_1_0
      refine pg_getN S Y ok_X10 6 (by decide) kf0_52 (v := .ref (ad 20 1)) p_ad_1_0 rfl dX0_gatherClashes_9 ?_
      obtain ⟨v_31277, v_31279, p_ad_20_1, b_31278, b_31280⟩ := opnC_20 (j := 1) I (by decide)
      have p_ad_20_1 : pt L_4 f_4 (ad 20 1) (.inr (9, [.ref (ad 21 1), .int v_31277, .int v_31279])) := p_ad_20_1
      refine pg_getN S Y ok_X9 2 (by decide) kf0_56 (v := .int v_31279) p_ad_20_1 rfl dX0_gatherClashes_12 ?_
      refine lv_icmp_ge (tgt := 105) hx hb dX0_gatherClashes_15 (by decide) (fun c_31281 => ?_) (fun c_31281 => ?_)
      · refine lv_iload_n hx hb dX0_gatherClashes_105 rfl (lv_at hl 1 rfl) ?_
        exact prI (post := fun r L1 f1 => bn 0 8 r ∧ SH (spC rs fc tc w q) nnC G ad L1 f1) S Y rfl (by decide) (by decide) hA1 ⟨bn_w b_y4_1 (by decide), I⟩ dX0_gatherClashes_106
      · have B_31282 : bn 1 8 v_31279 := bn_w (bn_gtl c_31281 (bn_w (a' := 0) (b' := 8) b_31280 (hW 1)) b_y4_2) (by decide)
        have B_31283 : bn 0 7 y4_2 := bn_w (bn_gtr c_31281 (bn_w (a' := 0) (b' := 8) b_31280 (hW 1)) b_y4_2) (by decide)
        refine lv_iload_n hx hb dX0_gatherClashes_18 rfl (lv_at hl 2 rfl) ?_
        refine lv_bipush (v := 8) hx hb dX0_gatherClashes_19 (by decide) ?_
        refine lv_icmp_ge (tgt := 105) hx hb dX0_gatherClashes_21 (by decide) (fun h => absurd h (bd_nle (show bn 8 8 (8 : Int32) from bn_k (by decide)) B_31283 (by decide))) (fun _ => ?_)
        have B_31284 : bn 0 7 y4_1 := ⟨by have := b_y4_1.1; omega, by have h8 := B_31283.2; have h9 := r4_1_2; have h7 := b_y4_1.2; omega⟩
        refine lv_aload_n hx hb dX0_gatherClashes_24 rfl (lv_at hl 0 rfl) ?_
        refine pg_get S Y ok_X0 0 (by decide) kf0_18 (v := .ref (ad 1 0)) p_ad_8_0 rfl dX0_gatherClashes_25 ?_
        refine pg_getN S Y ok_X10 6 (by decide) kf0_52 (v := .ref (ad 20 1)) p_ad_1_0 rfl dX0_gatherClashes_28 ?_
        refine lv_iload_n hx hb dX0_gatherClashes_31 rfl (lv_at hl 2 rfl) ?_
        refine lv_iconst (v := 0) hx hb dX0_gatherClashes_32 (by decide) ?_
        refine cVp (As := [.int y4_2, .int 0]) (rest := []) S Y (x_X9_get (l := l) (j := 1) I hW hT hQ (by decide)) cw_X9_get km0_61 p_ad_20_1 ok_X9.1 rfl rfl ⟨Nat.le_of_ble_eq_true rfl, Nat.le_of_ble_eq_true rfl⟩ hl.1 rfl (Nat.le_of_ble_eq_true rfl) ⟨Nat.le_of_ble_eq_true rfl, Nat.le_of_ble_eq_true rfl⟩ dX0_gatherClashes_33 (fun r_31285 H locs er_31285 Y => ?_)
        refine lv_istore_n (lv' := [(3, .int r_31285), (0, .ref (ad 8 0)), (1, .int y4_1), (2, .int y4_2)]) hx hb dX0_gatherClashes_36 rfl hl (by decide) rfl (fun ls hl => ?_)
        refine lv_aload_n hx hb dX0_gatherClashes_37 rfl (lv_at hl 1 rfl) ?_
        refine pg_get S Y ok_X0 0 (by decide) kf0_18 (v := .ref (ad 1 0)) p_ad_8_0 rfl dX0_gatherClashes_38 ?_
        refine pg_getN S Y ok_X10 6 (by decide) kf0_52 (v := .ref (ad 20 1)) p_ad_1_0 rfl dX0_gatherClashes_41 ?_
        refine lv_iload_n hx hb dX0_gatherClashes_44 rfl (lv_at hl 3 rfl) ?_
        refine lv_iconst (v := 1) hx hb dX0_gatherClashes_45 (by decide) ?_
        refine cVp (As := [.int y4_2, .int 1]) (rest := []) S Y (x_X9_get (l := l) (j := 1) I hW hT hQ (by decide)) cw_X9_get km0_61 p_ad_20_1 ok_X9.1 rfl rfl ⟨Nat.le_of_ble_eq_true rfl, Nat.le_of_ble_eq_true rfl⟩ hl.1 rfl (Nat.le_of_ble_eq_true rfl) ⟨Nat.le_of_ble_eq_true rfl, Nat.le_of_ble_eq_true rfl⟩ dX0_gatherClashes_46 (fun r_31286 H locs er_31286 Y => ?_)
        refine lv_istore (lv' := [(4, .int r_31286), (3, .int r_31285), (0, .ref (ad 8 0)), (1, .int y4_1), (2, .int y4_2)]) hx hb dX0_gatherClashes_49 hl (by decide) rfl (fun ls hl => ?_)
        refine lv_aload_n hx hb dX0_gatherClashes_51 rfl (lv_at hl 2 rfl) ?_
        refine pg_get S Y ok_X0 0 (by decide) kf0_18 (v := .ref (ad 1 0)) p_ad_8_0 rfl dX0_gatherClashes_52 ?_
        refine pg_getN S Y ok_X10 3 (by decide) kf0_22 (v := .ref (ad 10 0)) p_ad_1_0 rfl dX0_gatherClashes_55 ?_
        refine lv_iload_n hx hb dX0_gatherClashes_58 rfl (lv_at hl 1 rfl) ?_
        refine lv_iconst (v := 4) hx hb dX0_gatherClashes_59 (by decide) ?_
        refine cVp (As := [.int r_31285, .int 4]) (rest := []) S Y (x_X4_get (l := l) (j := 0) I hW hT hQ (by decide)) cw_X4_get km0_34 (I.opo (k := 10) (j := 0) (by decide) rfl).choose_spec.1 ok_X4.1 rfl rfl ⟨Nat.le_of_ble_eq_true rfl, Nat.le_of_ble_eq_true rfl⟩ hl.1 rfl (Nat.le_of_ble_eq_true rfl) ⟨Nat.le_of_ble_eq_true rfl, Nat.le_of_ble_eq_true rfl⟩ dX0_gatherClashes_60 (fun r_31287 H locs er_31287 Y => ?_)
        refine lv_if_ne (tgt := 99) hx hb dX0_gatherClashes_63 (by decide) (fun c_31288 => ?_) (fun c_31288 => ?_)
        · obtain ⟨x_31290, ex_31290⟩ : ∃ z : Int32, z = y4_2 + 1 := ⟨_, rfl⟩
          refine lv_iinc (v := x_31290) (lv' := [(2, .int x_31290), (4, .int r_31286), (3, .int r_31285), (0, .ref (ad 8 0)), (1, .int y4_1)]) hx hb dX0_gatherClashes_99 hl (k := 4) rfl (by rw [ex_31290]; rfl) (by decide) rfl (fun ls hl => ?_)
          refine lv_goto (tgt := 4) hx hb dX0_gatherClashes_102 (by decide) ?_
          exact ih4 _ (by rw [← hm4]; exact ms_up (m := 1) ex_31290 (show bn 1 1 (1 : Int32) from bn_k (by decide)) B_31283 (bn_w (bn_eq ex_31290 (bn_add B_31283 (show bn 1 1 (1 : Int32) from bn_k (by decide)) (by decide))) (by decide) : bn 0 8 x_31290) (by decide)) y4_1 x_31290 _ _  _ _ _ I (bn_w B_31284 (by decide)) (bn_w (bn_eq ex_31290 (bn_add B_31283 (show bn 1 1 (1 : Int32) from bn_k (by decide)) (by decide))) (by decide)) (by have z0 := B_31284.1; have z1 := B_31284.2; have z2 := (ti_inc (k := 1) ex_31290 (show bn 1 1 (1 : Int32) from bn_k (by decide)) B_31283 (by decide)); have z3 := (bn_eq ex_31290 (bn_add B_31283 (show bn 1 1 (1 : Int32) from bn_k (by decide)) (by decide))).1; have z4 := (bn_eq ex_31290 (bn_add B_31283 (show bn 1 1 (1 : Int32) from bn_k (by decide)) (by decide))).2; have z5 := r4_1_2; show _ ≤ _; omega) rfl Y (lv_sub hl [3, 4, 0] rfl)
        · have B_31289 : bn 0 0 r_31287 := bn_w (bn_eq c_31288 (show bn 0 0 (0 : Int32) from bn_k (by decide))) (by decide)
          refine lv_aload_n hx hb dX0_gatherClashes_66 rfl (lv_at hl 2 rfl) ?_
          refine pg_get S Y ok_X0 0 (by decide) kf0_18 (v := .ref (ad 1 0)) p_ad_8_0 rfl dX0_gatherClashes_67 ?_
          refine pg_getN S Y ok_X10 3 (by decide) kf0_22 (v := .ref (ad 10 0)) p_ad_1_0 rfl dX0_gatherClashes_70 ?_
          refine lv_iload hx hb dX0_gatherClashes_73 (lv_at hl 0 rfl) ?_
          refine lv_iconst (v := 4) hx hb dX0_gatherClashes_75 (by decide) ?_
          refine cVp (As := [.int r_31286, .int 4]) (rest := []) S Y (x_X4_get (l := l) (j := 0) I hW hT hQ (by decide)) cw_X4_get km0_34 (I.opo (k := 10) (j := 0) (by decide) rfl).choose_spec.1 ok_X4.1 rfl rfl ⟨Nat.le_of_ble_eq_true rfl, Nat.le_of_ble_eq_true rfl⟩ hl.1 rfl (Nat.le_of_ble_eq_true rfl) ⟨Nat.le_of_ble_eq_true rfl, Nat.le_of_ble_eq_true rfl⟩ dX0_gatherClashes_76 (fun r_31291 H locs er_31291 Y => ?_)
          refine lv_if_ne (tgt := 99) hx hb dX0_gatherClashes_79 (by decide) (fun c_31292 => ?_) (fun c_31292 => ?_)
          · obtain ⟨x_31294, ex_31294⟩ : ∃ z : Int32, z = y4_2 + 1 := ⟨_, rfl⟩
            refine lv_iinc (v := x_31294) (lv' := [(2, .int x_31294), (4, .int r_31286), (3, .int r_31285), (0, .ref (ad 8 0)), (1, .int y4_1)]) hx hb dX0_gatherClashes_99 hl (k := 4) rfl (by rw [ex_31294]; rfl) (by decide) rfl (fun ls hl => ?_)
            refine lv_goto (tgt := 4) hx hb dX0_gatherClashes_102 (by decide) ?_
            exact ih4 _ (by rw [← hm4]; exact ms_up (m := 1) ex_31294 (show bn 1 1 (1 : Int32) from bn_k (by decide)) B_31283 (bn_w (bn_eq ex_31294 (bn_add B_31283 (show bn 1 1 (1 : Int32) from bn_k (by decide)) (by decide))) (by decide) : bn 0 8 x_31294) (by decide)) y4_1 x_31294 _ _  _ _ _ I (bn_w B_31284 (by decide)) (bn_w (bn_eq ex_31294 (bn_add B_31283 (show bn 1 1 (1 : Int32) from bn_k (by decide)) (by decide))) (by decide)) (by have z0 := B_31284.1; have z1 := B_31284.2; have z2 := (ti_inc (k := 1) ex_31294 (show bn 1 1 (1 : Int32) from bn_k (by decide)) B_31283 (by decide)); have z3 := (bn_eq ex_31294 (bn_add B_31283 (show bn 1 1 (1 : Int32) from bn_k (by decide)) (by decide))).1; have z4 := (bn_eq ex_31294 (bn_add B_31283 (show bn 1 1 (1 : Int32) from bn_k (by decide)) (by decide))).2; have z5 := r4_1_2; show _ ≤ _; omega) rfl Y (lv_sub hl [3, 4, 0] rfl)
          · have B_31293 : bn 0 0 r_31291 := bn_w (bn_eq c_31292 (show bn 0 0 (0 : Int32) from bn_k (by decide))) (by decide)
            refine lv_aload_n hx hb dX0_gatherClashes_82 rfl (lv_at hl 2 rfl) ?_
            refine pg_get S Y ok_X0 1 (by decide) kf0_9 (v := .ref (ad 60 0)) p_ad_8_0 rfl dX0_gatherClashes_83 ?_
            refine lv_iload_n hx hb dX0_gatherClashes_86 rfl (lv_at hl 3 rfl) ?_
            refine lv_iconst (v := 1) hx hb dX0_gatherClashes_87 (by decide) ?_
            refine lv_iload_n hx hb dX0_gatherClashes_88 rfl (lv_at hl 1 rfl) ?_
            refine lv_ishl hx hb dX0_gatherClashes_89 ?_
            refine lv_topi (fun x_31295 ex_31295 => ?_)
            refine lv_iconst (v := 1) hx hb dX0_gatherClashes_90 (by decide) ?_
            refine lv_iload hx hb dX0_gatherClashes_91 (lv_at hl 0 rfl) ?_
            refine lv_ishl hx hb dX0_gatherClashes_93 ?_
            refine lv_topi (fun x_31296 ex_31296 => ?_)
            refine lv_ior hx hb dX0_gatherClashes_94 ?_
            refine lv_topi (fun x_31297 ex_31297 => ?_)
            obtain ⟨g_31298, p_ad_60_0, o_31299⟩ := I.opi (k := 60) (j := 0) (by decide) rfl
            have p_ad_60_0 : pt L_4 f_4 (ad 60 0) (.inl (G.2 0, 8, .inl g_31298)) := p_ad_60_0
            refine pg_iast S Y p_ad_60_0 (vp_bn B_31284 (by decide)) dX0_gatherClashes_95 (fun f_31301 H locs ef_31301 Y => ?_)
            obtain ⟨g_31300, eg_31300⟩ : ∃ z, z = upd (g_31298) (y4_1 : Int32).toNatClampNeg x_31297 := ⟨_, rfl⟩
            rw [← eg_31300] at ef_31301
            have p_ad_8_0 := p_ad_8_0.up ef_31301 (I.ne (k := 8) (j := 0) (k' := 60) (j' := 0) (by decide) (by decide) (Or.inl (by decide)))
            have p_ad_1_0 := p_ad_1_0.up ef_31301 (I.ne (k := 1) (j := 0) (k' := 60) (j' := 0) (by decide) (by decide) (Or.inl (by decide)))
            have p_ad_20_1 := p_ad_20_1.up ef_31301 (I.ne (k := 20) (j := 1) (k' := 60) (j' := 0) (by decide) (by decide) (Or.inl (by decide)))
            have p_ad_60_0 := p_ad_60_0.me ef_31301
            have I := I.up (k := 60) (j := 0) (by decide) ef_31301 (okE_a (g := g_31300) trivial)
            obtain ⟨x_31302, ex_31302⟩ : ∃ z : Int32, z = y4_1 + 1 := ⟨_, rfl⟩
            refine lv_iinc (v := x_31302) (lv' := [(1, .int x_31302), (4, .int r_31286), (3, .int r_31285), (0, .ref (ad 8 0)), (2, .int y4_2)]) hx hb dX0_gatherClashes_96 hl (k := 3) rfl (by rw [ex_31302]; rfl) (by decide) rfl (fun ls hl => ?_)
            obtain ⟨x_31303, ex_31303⟩ : ∃ z : Int32, z = y4_2 + 1 := ⟨_, rfl⟩
            refine lv_iinc (v := x_31303) (lv' := [(2, .int x_31303), (1, .int x_31302), (4, .int r_31286), (3, .int r_31285), (0, .ref (ad 8 0))]) hx hb dX0_gatherClashes_99 hl (k := 4) rfl (by rw [ex_31303]; rfl) (by decide) rfl (fun ls hl => ?_)
            refine lv_goto (tgt := 4) hx hb dX0_gatherClashes_102 (by decide) ?_
            exact ih4 _ (by rw [← hm4]; exact ms_up (m := 1) ex_31303 (show bn 1 1 (1 : Int32) from bn_k (by decide)) B_31283 (bn_w (bn_eq ex_31303 (bn_add B_31283 (show bn 1 1 (1 : Int32) from bn_k (by decide)) (by decide))) (by decide) : bn 0 8 x_31303) (by decide)) x_31302 x_31303 _ _  _ _ _ I (bn_w (bn_eq ex_31302 (bn_add B_31284 (show bn 1 1 (1 : Int32) from bn_k (by decide)) (by decide))) (by decide)) (bn_w (bn_eq ex_31303 (bn_add B_31283 (show bn 1 1 (1 : Int32) from bn_k (by decide)) (by decide))) (by decide)) (by have z0 := (ti_inc (k := 1) ex_31302 (show bn 1 1 (1 : Int32) from bn_k (by decide)) B_31284 (by decide)); have z1 := (bn_eq ex_31302 (bn_add B_31284 (show bn 1 1 (1 : Int32) from bn_k (by decide)) (by decide))).1; have z2 := (bn_eq ex_31302 (bn_add B_31284 (show bn 1 1 (1 : Int32) from bn_k (by decide)) (by decide))).2; have z3 := (ti_inc (k := 1) ex_31303 (show bn 1 1 (1 : Int32) from bn_k (by decide)) B_31283 (by decide)); have z4 := (bn_eq ex_31303 (bn_add B_31283 (show bn 1 1 (1 : Int32) from bn_k (by decide)) (by decide))).1; have z5 := (bn_eq ex_31303 (bn_add B_31283 (show bn 1 1 (1 : Int32) from bn_k (by decide)) (by decide))).2; have z6 := r4_1_2; show _ ≤ _; omega) rfl Y (lv_sub hl [4, 1, 0] rfl)
  refine lv_iconst (v := 0) hx hb dX0_gatherClashes_0 (by decide) ?_
  refine lv_istore_n (lv' := [(1, .int 0), (0, .ref (ad 8 0))]) hx hb dX0_gatherClashes_1 rfl hl (by decide) rfl (fun ls hl => ?_)
  refine lv_iconst (v := 0) hx hb dX0_gatherClashes_2 (by decide) ?_
  refine lv_istore_n (lv' := [(2, .int 0), (1, .int 0), (0, .ref (ad 8 0))]) hx hb dX0_gatherClashes_3 rfl hl (by decide) rfl (fun ls hl => ?_)
  exact J_4 _ 0 0 _ _  _ _ _ I (bn_w (show bn 0 0 (0 : Int32) from bn_k (by decide)) (by decide)) (bn_w (show bn 0 0 (0 : Int32) from bn_k (by decide)) (by decide)) (by have z0 := (show (0 : Int32).toInt = 0 from by decide); have z1 := (show (0 : Int32).toInt = 0 from by decide); show _ ≤ _; omega) rfl Y (lv_sub hl [2, 1, 0] rfl)
set_option maxHeartbeats 4000000 in
set_option maxRecDepth 100000 in
theorem x_X0_partsClashes {l : Launch} {G : GG}  {L : List Nat} {f : HF} {ad : Nat → Nat → Nat} {rs : RS} {fc : Int × Int} {tc w : Nat → Int × Int} {q : Nat → (Nat → Int32) → Prop} {i1 i2 : Int32} (I : SH (spC rs fc tc w q) nnC G ad L f) (hW : WBp w 8) (hT : WBp tc 4) (hQ : QIp q) (b_i2 : bn 0 8 i2) : PMp l yX0_partsClashes cX0_partsClashes 4 .boolean 0 0 0 G [.ref (ad 8 0), .int i1, .int i2] L f (fun r => bn 0 1 r) := by
  refine PMi.of (post := fun r L1 f1 => (bn 0 1 r) ∧ L1 = L ∧ f1 = f) (own := RX0) (by decide) rfl (Nat.le_of_ble_eq_true rfl) (fun sz p e s m args below meth c A ls hA1 hname S Y hl => ?_)
  have hx := S.hx
  have hb := S.hb
  have hl : lv_has ls 4 [(0, .ref (ad 8 0)), (1, .int i1), (2, .int i2)] := hl
  have J_2 : ∀ (n2 : Nat) (y2_3 : Int32) (H : Heap) (locs : List Loc) (ls : Array Slot), (bn 0 8 y2_3) → (((8 : Int) - y2_3.toInt).toNat = n2) → (DY G A s [] L f H locs) → (lv_has ls 4 [(0, .ref (ad 8 0)), (1, .int i1), (2, .int i2), (3, .int y2_3)]) → W p l e (rmD 0 0 0) s m args below meth c H locs (0) (0) (MQ below (va_Qi (fun r (u : List Nat × HF) => (fun r L1 f1 => (bn 0 1 r) ∧ L1 = L ∧ f1 = f) r u.1 u.2) (fun u t => pOut G (va_A (va_pl L f) sz) u.1 u.2 t) (va_A (va_pl L f) sz)) args s 0 0 A) (F0 m 2 ls []) := by
    intro n2
    induction n2 using Nat.strongRecOn with
    | _ n2 ih2 =>
      intro y2_3 H locs ls b_y2_3 hm2 Y hl
      refine lv_iload_n hx hb dX0_partsClashes_2 rfl (lv_at hl 3 rfl) ?_
      refine lv_iload_n hx hb dX0_partsClashes_3 rfl (lv_at hl 2 rfl) ?_
      refine lv_icmp_ge (tgt := 26) hx hb dX0_partsClashes_4 (by decide) (fun c_31404 => ?_) (fun c_31404 => ?_)
      · refine lv_iconst (v := 1) hx hb dX0_partsClashes_26 (by decide) ?_
        exact prI (post := fun r L1 f1 => (bn 0 1 r) ∧ L1 = L ∧ f1 = f) S Y rfl (by decide) (by decide) hA1 ⟨bn_w (show bn 1 1 (1 : Int32) from bn_k (by decide)) (by decide), rfl, rfl⟩ dX0_partsClashes_27
      · have B_31405 : bn 1 8 i2 := bn_w (bn_gtl c_31404 b_i2 b_y2_3) (by decide)
        have B_31406 : bn 0 7 y2_3 := bn_w (bn_gtr c_31404 b_i2 b_y2_3) (by decide)
        refine lv_iload_n hx hb dX0_partsClashes_7 rfl (lv_at hl 1 rfl) ?_
        refine lv_aload_n hx hb dX0_partsClashes_8 rfl (lv_at hl 0 rfl) ?_
        have p_ad_8_0 := opnC_8 (j := 0) I (by decide)
        have p_ad_8_0 : pt L f (ad 8 0) (.inr (0, [.ref (ad 1 0), .ref (ad 60 0), .ref (ad 61 0)])) := p_ad_8_0
        refine pg_get S Y ok_X0 1 (by decide) kf0_9 (v := .ref (ad 60 0)) p_ad_8_0 rfl dX0_partsClashes_9 ?_
        refine lv_iload_n hx hb dX0_partsClashes_12 rfl (lv_at hl 3 rfl) ?_
        obtain ⟨g_31407, p_ad_60_0, o_31408⟩ := I.opi (k := 60) (j := 0) (by decide) rfl
        have p_ad_60_0 : pt L f (ad 60 0) (.inl (G.2 0, 8, .inl g_31407)) := p_ad_60_0
        obtain ⟨v_31409, ev_31409⟩ : ∃ z, z = g_31407 (y2_3 : Int32).toNatClampNeg := ⟨_, rfl⟩
        refine pg_iald S Y (v := v_31409) p_ad_60_0 (vp_bn B_31406 (by decide)) ev_31409.symm dX0_partsClashes_13 ?_
        refine lv_iand hx hb dX0_partsClashes_14 ?_
        refine lv_topi (fun x_31410 ex_31410 => ?_)
        refine lv_if_ne (tgt := 20) hx hb dX0_partsClashes_15 (by decide) (fun c_31411 => ?_) (fun c_31411 => ?_)
        · obtain ⟨x_31413, ex_31413⟩ : ∃ z : Int32, z = y2_3 + 1 := ⟨_, rfl⟩
          refine lv_iinc (v := x_31413) (lv' := [(3, .int x_31413), (0, .ref (ad 8 0)), (1, .int i1), (2, .int i2)]) hx hb dX0_partsClashes_20 hl (k := 3) rfl (by rw [ex_31413]; rfl) (by decide) rfl (fun ls hl => ?_)
          refine lv_goto (tgt := 2) hx hb dX0_partsClashes_23 (by decide) ?_
          exact ih2 _ (by rw [← hm2]; exact ms_up (m := 1) ex_31413 (show bn 1 1 (1 : Int32) from bn_k (by decide)) B_31406 (bn_w (bn_eq ex_31413 (bn_add B_31406 (show bn 1 1 (1 : Int32) from bn_k (by decide)) (by decide))) (by decide) : bn 0 8 x_31413) (by decide)) x_31413  _ _ _  (bn_w (bn_eq ex_31413 (bn_add B_31406 (show bn 1 1 (1 : Int32) from bn_k (by decide)) (by decide))) (by decide)) rfl Y (lv_sub hl [1, 2, 3, 0] rfl)
        · have B_31412 : bn 0 0 x_31410 := bn_w (bn_eq c_31411 (show bn 0 0 (0 : Int32) from bn_k (by decide))) (by decide)
          refine lv_iconst (v := 0) hx hb dX0_partsClashes_18 (by decide) ?_
          exact prI (post := fun r L1 f1 => (bn 0 1 r) ∧ L1 = L ∧ f1 = f) S Y rfl (by decide) (by decide) hA1 ⟨bn_w (show bn 0 0 (0 : Int32) from bn_k (by decide)) (by decide), rfl, rfl⟩ dX0_partsClashes_19
  refine lv_iconst (v := 0) hx hb dX0_partsClashes_0 (by decide) ?_
  refine lv_istore_n (lv' := [(3, .int 0), (0, .ref (ad 8 0)), (1, .int i1), (2, .int i2)]) hx hb dX0_partsClashes_1 rfl hl (by decide) rfl (fun ls hl => ?_)
  exact J_2 _ 0  _ _ _  (bn_w (show bn 0 0 (0 : Int32) from bn_k (by decide)) (by decide)) rfl Y (lv_sub hl [1, 2, 3, 0] rfl)
set_option maxHeartbeats 4000000 in
set_option maxRecDepth 100000 in
theorem x_X0_fewestReleased {l : Launch} {G : GG}  {L : List Nat} {f : HF} {ad : Nat → Nat → Nat} {rs : RS} {fc : Int × Int} {tc w : Nat → Int × Int} {q : Nat → (Nat → Int32) → Prop} (I : SH (spC rs fc tc w q) nnC G ad L f) (hW : WBp w 8) (hT : WBp tc 4) (hQ : QIp q) : PMi l yX0_fewestReleased cX0_fewestReleased 5 .int 2 0 0 G [.ref (ad 8 0)] L f (fun r L1 f1 => SH (spC rs fc tc w q) nnC G ad L1 f1) := by
  refine PMi.of (post := fun r L1 f1 => SH (spC rs fc tc w q) nnC G ad L1 f1) (own := RX0) (by decide) rfl (Nat.le_of_ble_eq_true rfl) (fun sz p e s m args below meth c A ls hA1 hname S Y hl => ?_)
  have hx := S.hx
  have hb := S.hb
  have hl : lv_has ls 5 [(0, .ref (ad 8 0))] := hl
  have J_34 : ∀ (n34 : Nat) (y34_1 y34_2 y34_3 y34_4 : Int32) (L_34 : List Nat) (f_34 : HF) (H : Heap) (locs : List Loc) (ls : Array Slot), (SH (spC rs fc tc w q) nnC G ad L_34 f_34) → (bn 0 8 y34_1) → (bn 0 2147483647 y34_4) → (((2147483647 : Int) - y34_4.toInt).toNat = n34) → (DY G A s [] L_34 f_34 H locs) → (lv_has ls 5 [(0, .ref (ad 8 0)), (1, .int y34_1), (2, .int y34_2), (3, .int y34_3), (4, .int y34_4)]) → W p l e (rmD 2 0 0) s m args below meth c H locs (0) (0) (MQ below (va_Qi (fun r (u : List Nat × HF) => (fun r L1 f1 => SH (spC rs fc tc w q) nnC G ad L1 f1) r u.1 u.2) (fun u t => pOut G (va_A (va_pl L f) sz) u.1 u.2 t) (va_A (va_pl L f) sz)) args s 0 0 A) (F0 m 34 ls []) := by
    intro n34
    induction n34 using Nat.strongRecOn with
    | _ n34 ih34 =>
      intro y34_1 y34_2 y34_3 y34_4 L_34 f_34 H locs ls I b_y34_1 b_y34_4 hm34 Y hl
      refine lv_iload hx hb dX0_fewestReleased_34 (lv_at hl 4 rfl) ?_
      refine lv_iload_n hx hb dX0_fewestReleased_36 rfl (lv_at hl 2 rfl) ?_
      refine lv_icmp_ge (tgt := 80) hx hb dX0_fewestReleased_37 (by decide) (fun c_32520 => ?_) (fun c_32520 => ?_)
      · refine lv_iload_n hx hb dX0_fewestReleased_80 rfl (lv_at hl 3 rfl) ?_
        exact prI (post := fun r L1 f1 => SH (spC rs fc tc w q) nnC G ad L1 f1) S Y rfl (by decide) (by decide) hA1 I dX0_fewestReleased_81
      · have B_32521 : bn 1 2147483647 y34_2 := bn_w (bn_gtl c_32520 (bn_any y34_2) b_y34_4) (by decide)
        have B_32522 : bn 0 2147483646 y34_4 := bn_w (bn_gtr c_32520 (bn_any y34_2) b_y34_4) (by decide)
        refine lv_iload hx hb dX0_fewestReleased_40 (lv_at hl 4 rfl) ?_
        refine lv_iload_n hx hb dX0_fewestReleased_42 rfl (lv_at hl 2 rfl) ?_
        refine lv_iconst (v := (-1)) hx hb dX0_fewestReleased_43 (by decide) ?_
        refine lv_ixor hx hb dX0_fewestReleased_44 ?_
        refine lv_topi (fun x_32523 ex_32523 => ?_)
        refine lv_iand hx hb dX0_fewestReleased_45 ?_
        refine lv_topi (fun x_32524 ex_32524 => ?_)
        refine lv_if_ne (tgt := 74) hx hb dX0_fewestReleased_46 (by decide) (fun c_32525 => ?_) (fun c_32525 => ?_)
        · obtain ⟨x_32527, ex_32527⟩ : ∃ z : Int32, z = y34_4 + 1 := ⟨_, rfl⟩
          refine lv_iinc (v := x_32527) (lv' := [(4, .int x_32527), (0, .ref (ad 8 0)), (1, .int y34_1), (2, .int y34_2), (3, .int y34_3)]) hx hb dX0_fewestReleased_74 hl (k := 4) rfl (by rw [ex_32527]; rfl) (by decide) rfl (fun ls hl => ?_)
          refine lv_goto (tgt := 34) hx hb dX0_fewestReleased_77 (by decide) ?_
          exact ih34 _ (by rw [← hm34]; exact ms_up (m := 1) ex_32527 (show bn 1 1 (1 : Int32) from bn_k (by decide)) B_32522 (bn_w (bn_eq ex_32527 (bn_add B_32522 (show bn 1 1 (1 : Int32) from bn_k (by decide)) (by decide))) (by decide) : bn 0 2147483647 x_32527) (by decide)) y34_1 y34_2 y34_3 x_32527 _ _  _ _ _ I (bn_w b_y34_1 (by decide)) (bn_w (bn_eq ex_32527 (bn_add B_32522 (show bn 1 1 (1 : Int32) from bn_k (by decide)) (by decide))) (by decide)) rfl Y (lv_sub hl [1, 2, 3, 4, 0] rfl)
        · have B_32526 : bn 0 0 x_32524 := bn_w (bn_eq c_32525 (show bn 0 0 (0 : Int32) from bn_k (by decide))) (by decide)
          refine lv_iload hx hb dX0_fewestReleased_49 (lv_at hl 4 rfl) ?_
          refine cSp (As := [.int y34_4]) (rest := []) S Y (x_bitCount (l := l) ) cw_X106_bitCount_0f7a4 km0_42 rfl ⟨Nat.le_of_ble_eq_true rfl, Nat.le_of_ble_eq_true rfl⟩ hl.1 rfl (Nat.le_of_ble_eq_true rfl) ⟨Nat.le_of_ble_eq_true rfl, Nat.le_of_ble_eq_true rfl⟩ dX0_fewestReleased_51 (fun r_32528 H locs er_32528 Y => ?_)
          refine lv_iload_n hx hb dX0_fewestReleased_54 rfl (lv_at hl 3 rfl) ?_
          refine cSp (As := [.int y34_3]) (rest := [.int r_32528]) S Y (x_bitCount (l := l) ) cw_X106_bitCount_0f7a4 km0_42 rfl ⟨Nat.le_of_ble_eq_true rfl, Nat.le_of_ble_eq_true rfl⟩ hl.1 rfl (Nat.le_of_ble_eq_true rfl) ⟨Nat.le_of_ble_eq_true rfl, Nat.le_of_ble_eq_true rfl⟩ dX0_fewestReleased_55 (fun r_32529 H locs er_32529 Y => ?_)
          refine lv_icmp_ge (tgt := 74) hx hb dX0_fewestReleased_58 (by decide) (fun c_32530 => ?_) (fun c_32530 => ?_)
          · obtain ⟨x_32533, ex_32533⟩ : ∃ z : Int32, z = y34_4 + 1 := ⟨_, rfl⟩
            refine lv_iinc (v := x_32533) (lv' := [(4, .int x_32533), (0, .ref (ad 8 0)), (1, .int y34_1), (2, .int y34_2), (3, .int y34_3)]) hx hb dX0_fewestReleased_74 hl (k := 4) rfl (by rw [ex_32533]; rfl) (by decide) rfl (fun ls hl => ?_)
            refine lv_goto (tgt := 34) hx hb dX0_fewestReleased_77 (by decide) ?_
            exact ih34 _ (by rw [← hm34]; exact ms_up (m := 1) ex_32533 (show bn 1 1 (1 : Int32) from bn_k (by decide)) B_32522 (bn_w (bn_eq ex_32533 (bn_add B_32522 (show bn 1 1 (1 : Int32) from bn_k (by decide)) (by decide))) (by decide) : bn 0 2147483647 x_32533) (by decide)) y34_1 y34_2 y34_3 x_32533 _ _  _ _ _ I (bn_w b_y34_1 (by decide)) (bn_w (bn_eq ex_32533 (bn_add B_32522 (show bn 1 1 (1 : Int32) from bn_k (by decide)) (by decide))) (by decide)) rfl Y (lv_sub hl [1, 2, 3, 4, 0] rfl)
          · have B_32531 : bn (-2147483647) 2147483647 r_32529 := bn_w (bn_gtl c_32530 (bn_any r_32529) (bn_any r_32528)) (by decide)
            have B_32532 : bn (-2147483648) 2147483646 r_32528 := bn_w (bn_gtr c_32530 (bn_any r_32529) (bn_any r_32528)) (by decide)
            refine lv_aload_n hx hb dX0_fewestReleased_61 rfl (lv_at hl 0 rfl) ?_
            refine lv_iload hx hb dX0_fewestReleased_62 (lv_at hl 4 rfl) ?_
            refine lv_iload_n hx hb dX0_fewestReleased_64 rfl (lv_at hl 1 rfl) ?_
            refine cVp (As := [.int y34_4, .int y34_1]) (rest := []) S Y (x_X0_partsClashes (l := l) I hW hT hQ (bn_w b_y34_1 (by decide))) cw_X0_partsClashes km0_48 (I.opo (k := 8) (j := 0) (by decide) rfl).choose_spec.1 ok_X0.1 rfl rfl ⟨Nat.le_of_ble_eq_true rfl, Nat.le_of_ble_eq_true rfl⟩ hl.1 rfl (Nat.le_of_ble_eq_true rfl) ⟨Nat.le_of_ble_eq_true rfl, Nat.le_of_ble_eq_true rfl⟩ dX0_fewestReleased_65 (fun r_32534 H locs er_32534 Y => ?_)
            refine lv_if_eq (tgt := 74) hx hb dX0_fewestReleased_68 (by decide) (fun c_32535 => ?_) (fun c_32535 => ?_)
            · have B_32536 : bn 0 0 r_32534 := bn_w (bn_eq c_32535 (show bn 0 0 (0 : Int32) from bn_k (by decide))) (by decide)
              obtain ⟨x_32538, ex_32538⟩ : ∃ z : Int32, z = y34_4 + 1 := ⟨_, rfl⟩
              refine lv_iinc (v := x_32538) (lv' := [(4, .int x_32538), (0, .ref (ad 8 0)), (1, .int y34_1), (2, .int y34_2), (3, .int y34_3)]) hx hb dX0_fewestReleased_74 hl (k := 4) rfl (by rw [ex_32538]; rfl) (by decide) rfl (fun ls hl => ?_)
              refine lv_goto (tgt := 34) hx hb dX0_fewestReleased_77 (by decide) ?_
              exact ih34 _ (by rw [← hm34]; exact ms_up (m := 1) ex_32538 (show bn 1 1 (1 : Int32) from bn_k (by decide)) B_32522 (bn_w (bn_eq ex_32538 (bn_add B_32522 (show bn 1 1 (1 : Int32) from bn_k (by decide)) (by decide))) (by decide) : bn 0 2147483647 x_32538) (by decide)) y34_1 y34_2 y34_3 x_32538 _ _  _ _ _ I (bn_w b_y34_1 (by decide)) (bn_w (bn_eq ex_32538 (bn_add B_32522 (show bn 1 1 (1 : Int32) from bn_k (by decide)) (by decide))) (by decide)) rfl Y (lv_sub hl [1, 2, 3, 4, 0] rfl)
            · have B_32537 : bn 1 1 r_32534 := bn_w (bn_nel c_32535 er_32534 (show bn 0 0 (0 : Int32) from bn_k (by decide))) (by decide)
              refine lv_iload hx hb dX0_fewestReleased_71 (lv_at hl 4 rfl) ?_
              refine lv_istore_n (lv' := [(3, .int y34_4), (0, .ref (ad 8 0)), (1, .int y34_1), (2, .int y34_2), (4, .int y34_4)]) hx hb dX0_fewestReleased_73 rfl hl (by decide) rfl (fun ls hl => ?_)
              obtain ⟨x_32539, ex_32539⟩ : ∃ z : Int32, z = y34_4 + 1 := ⟨_, rfl⟩
              refine lv_iinc (v := x_32539) (lv' := [(4, .int x_32539), (3, .int y34_4), (0, .ref (ad 8 0)), (1, .int y34_1), (2, .int y34_2)]) hx hb dX0_fewestReleased_74 hl (k := 4) rfl (by rw [ex_32539]; rfl) (by decide) rfl (fun ls hl => ?_)
              refine lv_goto (tgt := 34) hx hb dX0_fewestReleased_77 (by decide) ?_
              exact ih34 _ (by rw [← hm34]; exact ms_up (m := 1) ex_32539 (show bn 1 1 (1 : Int32) from bn_k (by decide)) B_32522 (bn_w (bn_eq ex_32539 (bn_add B_32522 (show bn 1 1 (1 : Int32) from bn_k (by decide)) (by decide))) (by decide) : bn 0 2147483647 x_32539) (by decide)) y34_1 y34_2 y34_4 x_32539 _ _  _ _ _ I (bn_w b_y34_1 (by decide)) (bn_w (bn_eq ex_32539 (bn_add B_32522 (show bn 1 1 (1 : Int32) from bn_k (by decide)) (by decide))) (by decide)) rfl Y (lv_sub hl [2, 3, 4, 1, 0] rfl)
  have J_9 : ∀ (n9 : Nat) (y9_1 y9_2 y9_3 : Int32) (L_9 : List Nat) (f_9 : HF) (H : Heap) (locs : List Loc) (ls : Array Slot), (SH (spC rs fc tc w q) nnC G ad L_9 f_9) → (bn 0 8 y9_1) → (bn 0 8 y9_3) → (((8 : Int) - y9_3.toInt).toNat = n9) → (DY G A s [] L_9 f_9 H locs) → (lv_has ls 5 [(0, .ref (ad 8 0)), (1, .int y9_1), (2, .int y9_2), (3, .int y9_3)]) → W p l e (rmD 2 0 0) s m args below meth c H locs (0) (0) (MQ below (va_Qi (fun r (u : List Nat × HF) => (fun r L1 f1 => SH (spC rs fc tc w q) nnC G ad L1 f1) r u.1 u.2) (fun u t => pOut G (va_A (va_pl L f) sz) u.1 u.2 t) (va_A (va_pl L f) sz)) args s 0 0 A) (F0 m 9 ls []) := by
    intro n9
    induction n9 using Nat.strongRecOn with
    | _ n9 ih9 =>
      intro y9_1 y9_2 y9_3 L_9 f_9 H locs ls I b_y9_1 b_y9_3 hm9 Y hl
      refine lv_iload_n hx hb dX0_fewestReleased_9 rfl (lv_at hl 3 rfl) ?_
      refine lv_iload_n hx hb dX0_fewestReleased_10 rfl (lv_at hl 1 rfl) ?_
      refine lv_icmp_ge (tgt := 29) hx hb dX0_fewestReleased_11 (by decide) (fun c_32540 => ?_) (fun c_32540 => ?_)
      · refine lv_iload_n hx hb dX0_fewestReleased_29 rfl (lv_at hl 2 rfl) ?_
        refine lv_istore_n (lv' := [(3, .int y9_2), (0, .ref (ad 8 0)), (1, .int y9_1), (2, .int y9_2)]) hx hb dX0_fewestReleased_30 rfl hl (by decide) rfl (fun ls hl => ?_)
        refine lv_iconst (v := 0) hx hb dX0_fewestReleased_31 (by decide) ?_
        refine lv_istore (lv' := [(4, .int 0), (3, .int y9_2), (0, .ref (ad 8 0)), (1, .int y9_1), (2, .int y9_2)]) hx hb dX0_fewestReleased_32 hl (by decide) rfl (fun ls hl => ?_)
        exact J_34 _ y9_1 y9_2 y9_2 0 _ _  _ _ _ I (bn_w b_y9_1 (by decide)) (bn_w (show bn 0 0 (0 : Int32) from bn_k (by decide)) (by decide)) rfl Y (lv_sub hl [2, 3, 4, 1, 0] rfl)
      · have B_32541 : bn 1 8 y9_1 := bn_w (bn_gtl c_32540 b_y9_1 b_y9_3) (by decide)
        have B_32542 : bn 0 7 y9_3 := bn_w (bn_gtr c_32540 b_y9_1 b_y9_3) (by decide)
        refine lv_iload_n hx hb dX0_fewestReleased_14 rfl (lv_at hl 2 rfl) ?_
        refine lv_aload_n hx hb dX0_fewestReleased_15 rfl (lv_at hl 0 rfl) ?_
        have p_ad_8_0 := opnC_8 (j := 0) I (by decide)
        have p_ad_8_0 : pt L_9 f_9 (ad 8 0) (.inr (0, [.ref (ad 1 0), .ref (ad 60 0), .ref (ad 61 0)])) := p_ad_8_0
        refine pg_get S Y ok_X0 1 (by decide) kf0_9 (v := .ref (ad 60 0)) p_ad_8_0 rfl dX0_fewestReleased_16 ?_
        refine lv_iload_n hx hb dX0_fewestReleased_19 rfl (lv_at hl 3 rfl) ?_
        obtain ⟨g_32543, p_ad_60_0, o_32544⟩ := I.opi (k := 60) (j := 0) (by decide) rfl
        have p_ad_60_0 : pt L_9 f_9 (ad 60 0) (.inl (G.2 0, 8, .inl g_32543)) := p_ad_60_0
        obtain ⟨v_32545, ev_32545⟩ : ∃ z, z = g_32543 (y9_3 : Int32).toNatClampNeg := ⟨_, rfl⟩
        refine pg_iald S Y (v := v_32545) p_ad_60_0 (vp_bn B_32542 (by decide)) ev_32545.symm dX0_fewestReleased_20 ?_
        refine lv_ior hx hb dX0_fewestReleased_21 ?_
        refine lv_topi (fun x_32546 ex_32546 => ?_)
        refine lv_istore_n (lv' := [(2, .int x_32546), (0, .ref (ad 8 0)), (1, .int y9_1), (3, .int y9_3)]) hx hb dX0_fewestReleased_22 rfl hl (by decide) rfl (fun ls hl => ?_)
        obtain ⟨x_32547, ex_32547⟩ : ∃ z : Int32, z = y9_3 + 1 := ⟨_, rfl⟩
        refine lv_iinc (v := x_32547) (lv' := [(3, .int x_32547), (2, .int x_32546), (0, .ref (ad 8 0)), (1, .int y9_1)]) hx hb dX0_fewestReleased_23 hl (k := 3) rfl (by rw [ex_32547]; rfl) (by decide) rfl (fun ls hl => ?_)
        refine lv_goto (tgt := 9) hx hb dX0_fewestReleased_26 (by decide) ?_
        exact ih9 _ (by rw [← hm9]; exact ms_up (m := 1) ex_32547 (show bn 1 1 (1 : Int32) from bn_k (by decide)) B_32542 (bn_w (bn_eq ex_32547 (bn_add B_32542 (show bn 1 1 (1 : Int32) from bn_k (by decide)) (by decide))) (by decide) : bn 0 8 x_32547) (by decide)) y9_1 x_32546 x_32547 _ _  _ _ _ I (bn_w B_32541 (by decide)) (bn_w (bn_eq ex_32547 (bn_add B_32542 (show bn 1 1 (1 : Int32) from bn_k (by decide)) (by decide))) (by decide)) rfl Y (lv_sub hl [2, 3, 1, 0] rfl)
  refine lv_aload_n hx hb dX0_fewestReleased_0 rfl (lv_at hl 0 rfl) ?_
  refine cVi (As := []) (rest := []) S Y (x_X0_gatherClashes (l := l) I hW hT hQ) cw_X0_gatherClashes km0_38 (I.opo (k := 8) (j := 0) (by decide) rfl).choose_spec.1 ok_X0.1 rfl rfl ⟨Nat.le_of_ble_eq_true rfl, Nat.le_of_ble_eq_true rfl⟩ hl.1 rfl (Nat.le_of_ble_eq_true rfl) ⟨Nat.le_of_ble_eq_true rfl, Nat.le_of_ble_eq_true rfl⟩ dX0_fewestReleased_1 (fun r_32550 L_32548 f_32549 H locs hr_32550 Y => ?_)
  obtain ⟨er_32550, I⟩ := hr_32550
  refine lv_istore_n (lv' := [(1, .int r_32550), (0, .ref (ad 8 0))]) hx hb dX0_fewestReleased_4 rfl hl (by decide) rfl (fun ls hl => ?_)
  refine lv_iconst (v := 0) hx hb dX0_fewestReleased_5 (by decide) ?_
  refine lv_istore_n (lv' := [(2, .int 0), (1, .int r_32550), (0, .ref (ad 8 0))]) hx hb dX0_fewestReleased_6 rfl hl (by decide) rfl (fun ls hl => ?_)
  refine lv_iconst (v := 0) hx hb dX0_fewestReleased_7 (by decide) ?_
  refine lv_istore_n (lv' := [(3, .int 0), (2, .int 0), (1, .int r_32550), (0, .ref (ad 8 0))]) hx hb dX0_fewestReleased_8 rfl hl (by decide) rfl (fun ls hl => ?_)
  exact J_9 _ r_32550 0 0 _ _  _ _ _ I (bn_w er_32550 (by decide)) (bn_w (show bn 0 0 (0 : Int32) from bn_k (by decide)) (by decide)) rfl Y (lv_sub hl [3, 2, 1, 0] rfl)
set_option maxHeartbeats 4000000 in
set_option maxRecDepth 100000 in
theorem x_X0_workOf {l : Launch} {G : GG}  {L : List Nat} {f : HF} {ad : Nat → Nat → Nat} {rs : RS} {fc : Int × Int} {tc w : Nat → Int × Int} {q : Nat → (Nat → Int32) → Prop} {i1 i2 : Int32} (I : SH (spC rs fc tc w q) nnC G ad L f) (hW : WBp w 8) (hT : WBp tc 4) (hQ : QIp q) : PMp l yX0_workOf cX0_workOf 5 .int 1 0 0 G [.ref (ad 8 0), .int i1, .int i2] L f (fun r => True) := by
  refine PMi.of (post := fun r L1 f1 => (True) ∧ L1 = L ∧ f1 = f) (own := RX0) (by decide) rfl (Nat.le_of_ble_eq_true rfl) (fun sz p e s m args below meth c A ls hA1 hname S Y hl => ?_)
  have hx := S.hx
  have hb := S.hb
  have hl : lv_has ls 5 [(0, .ref (ad 8 0)), (1, .int i1), (2, .int i2)] := hl
  have J_5 : ∀ (n5 : Nat) (y5_3 y5_4 : Int32) (H : Heap) (locs : List Loc) (ls : Array Slot), (bn 0 8 y5_4) → (((8 : Int) - y5_4.toInt).toNat = n5) → (DY G A s [] L f H locs) → (lv_has ls 5 [(0, .ref (ad 8 0)), (1, .int i1), (2, .int i2), (3, .int y5_3), (4, .int y5_4)]) → W p l e (rmD 1 0 0) s m args below meth c H locs (0) (0) (MQ below (va_Qi (fun r (u : List Nat × HF) => (fun r L1 f1 => (True) ∧ L1 = L ∧ f1 = f) r u.1 u.2) (fun u t => pOut G (va_A (va_pl L f) sz) u.1 u.2 t) (va_A (va_pl L f) sz)) args s 0 0 A) (F0 m 5 ls []) := by
    intro n5
    induction n5 using Nat.strongRecOn with
    | _ n5 ih5 =>
      intro y5_3 y5_4 H locs ls b_y5_4 hm5 Y hl
      refine lv_iload hx hb dX0_workOf_5 (lv_at hl 4 rfl) ?_
      refine lv_aload_n hx hb dX0_workOf_7 rfl (lv_at hl 0 rfl) ?_
      have p_ad_8_0 := opnC_8 (j := 0) I (by decide)
      have p_ad_8_0 : pt L f (ad 8 0) (.inr (0, [.ref (ad 1 0), .ref (ad 60 0), .ref (ad 61 0)])) := p_ad_8_0
      refine pg_get S Y ok_X0 0 (by decide) kf0_18 (v := .ref (ad 1 0)) p_ad_8_0 rfl dX0_workOf_8 ?_
      obtain ⟨v_32851, v_32853, v_32855, v_32857, v_32859, p_ad_1_0, b_32852, b_32854, b_32856, b_32858, b_32860⟩ := opnC_1 (j := 0) I (by decide)
      have p_ad_1_0 : pt L f (ad 1 0) (.inr (10, [.ref (ad 40 0), .ref (ad 41 0), .ref (ad 42 0), .ref (ad 10 0), .ref (ad 43 0), .ref (ad 20 0), .ref (ad 20 1), .ref (ad 20 2), .ref (ad 20 3), .ref (ad 20 4), .int v_32851, .int v_32853, .int v_32855, .int v_32857, .int v_32859])) := p_ad_1_0
      refine pg_getN S Y ok_X10 7 (by decide) kf0_62 (v := .ref (ad 20 2)) p_ad_1_0 rfl dX0_workOf_11 ?_
      obtain ⟨v_32861, v_32863, p_ad_20_2, b_32862, b_32864⟩ := opnC_20 (j := 2) I (by decide)
      have p_ad_20_2 : pt L f (ad 20 2) (.inr (9, [.ref (ad 21 2), .int v_32861, .int v_32863])) := p_ad_20_2
      refine pg_getN S Y ok_X9 2 (by decide) kf0_56 (v := .int v_32863) p_ad_20_2 rfl dX0_workOf_14 ?_
      refine lv_icmp_ge (tgt := 68) hx hb dX0_workOf_17 (by decide) (fun c_32865 => ?_) (fun c_32865 => ?_)
      · refine lv_iload_n hx hb dX0_workOf_68 rfl (lv_at hl 3 rfl) ?_
        exact prI (post := fun r L1 f1 => (True) ∧ L1 = L ∧ f1 = f) S Y rfl (by decide) (by decide) hA1 ⟨trivial, rfl, rfl⟩ dX0_workOf_69
      · have B_32866 : bn 1 8 v_32863 := bn_w (bn_gtl c_32865 (bn_w (a' := 0) (b' := 8) b_32864 (hW 2)) b_y5_4) (by decide)
        have B_32867 : bn 0 7 y5_4 := bn_w (bn_gtr c_32865 (bn_w (a' := 0) (b' := 8) b_32864 (hW 2)) b_y5_4) (by decide)
        refine lv_iload_n hx hb dX0_workOf_20 rfl (lv_at hl 1 rfl) ?_
        refine lv_iload hx hb dX0_workOf_21 (lv_at hl 4 rfl) ?_
        refine lv_ishr hx hb dX0_workOf_23 ?_
        refine lv_topi (fun x_32868 ex_32868 => ?_)
        refine lv_iconst (v := 1) hx hb dX0_workOf_24 (by decide) ?_
        refine lv_iand hx hb dX0_workOf_25 ?_
        refine lv_topi (fun x_32869 ex_32869 => ?_)
        refine lv_if_eq (tgt := 62) hx hb dX0_workOf_26 (by decide) (fun c_32870 => ?_) (fun c_32870 => ?_)
        · have B_32871 : bn 0 0 x_32869 := bn_w (bn_eq c_32870 (show bn 0 0 (0 : Int32) from bn_k (by decide))) (by decide)
          obtain ⟨x_32872, ex_32872⟩ : ∃ z : Int32, z = y5_4 + 1 := ⟨_, rfl⟩
          refine lv_iinc (v := x_32872) (lv' := [(4, .int x_32872), (0, .ref (ad 8 0)), (1, .int i1), (2, .int i2), (3, .int y5_3)]) hx hb dX0_workOf_62 hl (k := 4) rfl (by rw [ex_32872]; rfl) (by decide) rfl (fun ls hl => ?_)
          refine lv_goto (tgt := 5) hx hb dX0_workOf_65 (by decide) ?_
          exact ih5 _ (by rw [← hm5]; exact ms_up (m := 1) ex_32872 (show bn 1 1 (1 : Int32) from bn_k (by decide)) B_32867 (bn_w (bn_eq ex_32872 (bn_add B_32867 (show bn 1 1 (1 : Int32) from bn_k (by decide)) (by decide))) (by decide) : bn 0 8 x_32872) (by decide)) y5_3 x_32872  _ _ _  (bn_w (bn_eq ex_32872 (bn_add B_32867 (show bn 1 1 (1 : Int32) from bn_k (by decide)) (by decide))) (by decide)) rfl Y (lv_sub hl [1, 2, 3, 4, 0] rfl)
        · refine lv_aload_n hx hb dX0_workOf_29 rfl (lv_at hl 0 rfl) ?_
          refine pg_get S Y ok_X0 0 (by decide) kf0_18 (v := .ref (ad 1 0)) p_ad_8_0 rfl dX0_workOf_30 ?_
          refine pg_getN S Y ok_X10 7 (by decide) kf0_62 (v := .ref (ad 20 2)) p_ad_1_0 rfl dX0_workOf_33 ?_
          refine lv_iload hx hb dX0_workOf_36 (lv_at hl 4 rfl) ?_
          refine lv_iconst (v := 1) hx hb dX0_workOf_38 (by decide) ?_
          refine cVp (As := [.int y5_4, .int 1]) (rest := []) S Y (x_X9_get (l := l) (j := 2) I hW hT hQ (by decide)) cw_X9_get km0_61 p_ad_20_2 ok_X9.1 rfl rfl ⟨Nat.le_of_ble_eq_true rfl, Nat.le_of_ble_eq_true rfl⟩ hl.1 rfl (Nat.le_of_ble_eq_true rfl) ⟨Nat.le_of_ble_eq_true rfl, Nat.le_of_ble_eq_true rfl⟩ dX0_workOf_39 (fun r_32873 H locs er_32873 Y => ?_)
          refine lv_iload_n hx hb dX0_workOf_42 rfl (lv_at hl 2 rfl) ?_
          refine lv_icmp_gt (tgt := 62) hx hb dX0_workOf_43 (by decide) (fun c_32874 => ?_) (fun c_32874 => ?_)
          · have B_32875 : bn (-2147483648) 2147483646 i2 := bn_w (bn_ltl c_32874 (bn_any i2) (bn_any r_32873)) (by decide)
            have B_32876 : bn (-2147483647) 2147483647 r_32873 := bn_w (bn_ltr c_32874 (bn_any i2) (bn_any r_32873)) (by decide)
            obtain ⟨x_32877, ex_32877⟩ : ∃ z : Int32, z = y5_4 + 1 := ⟨_, rfl⟩
            refine lv_iinc (v := x_32877) (lv' := [(4, .int x_32877), (0, .ref (ad 8 0)), (1, .int i1), (2, .int i2), (3, .int y5_3)]) hx hb dX0_workOf_62 hl (k := 4) rfl (by rw [ex_32877]; rfl) (by decide) rfl (fun ls hl => ?_)
            refine lv_goto (tgt := 5) hx hb dX0_workOf_65 (by decide) ?_
            exact ih5 _ (by rw [← hm5]; exact ms_up (m := 1) ex_32877 (show bn 1 1 (1 : Int32) from bn_k (by decide)) B_32867 (bn_w (bn_eq ex_32877 (bn_add B_32867 (show bn 1 1 (1 : Int32) from bn_k (by decide)) (by decide))) (by decide) : bn 0 8 x_32877) (by decide)) y5_3 x_32877  _ _ _  (bn_w (bn_eq ex_32877 (bn_add B_32867 (show bn 1 1 (1 : Int32) from bn_k (by decide)) (by decide))) (by decide)) rfl Y (lv_sub hl [1, 2, 3, 4, 0] rfl)
          · refine lv_iload_n hx hb dX0_workOf_46 rfl (lv_at hl 3 rfl) ?_
            refine lv_aload_n hx hb dX0_workOf_47 rfl (lv_at hl 0 rfl) ?_
            refine pg_get S Y ok_X0 0 (by decide) kf0_18 (v := .ref (ad 1 0)) p_ad_8_0 rfl dX0_workOf_48 ?_
            refine pg_getN S Y ok_X10 7 (by decide) kf0_62 (v := .ref (ad 20 2)) p_ad_1_0 rfl dX0_workOf_51 ?_
            refine lv_iload hx hb dX0_workOf_54 (lv_at hl 4 rfl) ?_
            refine lv_iconst (v := 0) hx hb dX0_workOf_56 (by decide) ?_
            refine cVp (As := [.int y5_4, .int 0]) (rest := [.int y5_3]) S Y (x_X9_get (l := l) (j := 2) I hW hT hQ (by decide)) cw_X9_get km0_61 p_ad_20_2 ok_X9.1 rfl rfl ⟨Nat.le_of_ble_eq_true rfl, Nat.le_of_ble_eq_true rfl⟩ hl.1 rfl (Nat.le_of_ble_eq_true rfl) ⟨Nat.le_of_ble_eq_true rfl, Nat.le_of_ble_eq_true rfl⟩ dX0_workOf_57 (fun r_32878 H locs er_32878 Y => ?_)
            refine lv_iadd hx hb dX0_workOf_60 ?_
            refine lv_topi (fun x_32879 ex_32879 => ?_)
            refine lv_istore_n (lv' := [(3, .int x_32879), (0, .ref (ad 8 0)), (1, .int i1), (2, .int i2), (4, .int y5_4)]) hx hb dX0_workOf_61 rfl hl (by decide) rfl (fun ls hl => ?_)
            obtain ⟨x_32880, ex_32880⟩ : ∃ z : Int32, z = y5_4 + 1 := ⟨_, rfl⟩
            refine lv_iinc (v := x_32880) (lv' := [(4, .int x_32880), (3, .int x_32879), (0, .ref (ad 8 0)), (1, .int i1), (2, .int i2)]) hx hb dX0_workOf_62 hl (k := 4) rfl (by rw [ex_32880]; rfl) (by decide) rfl (fun ls hl => ?_)
            refine lv_goto (tgt := 5) hx hb dX0_workOf_65 (by decide) ?_
            exact ih5 _ (by rw [← hm5]; exact ms_up (m := 1) ex_32880 (show bn 1 1 (1 : Int32) from bn_k (by decide)) B_32867 (bn_w (bn_eq ex_32880 (bn_add B_32867 (show bn 1 1 (1 : Int32) from bn_k (by decide)) (by decide))) (by decide) : bn 0 8 x_32880) (by decide)) x_32879 x_32880  _ _ _  (bn_w (bn_eq ex_32880 (bn_add B_32867 (show bn 1 1 (1 : Int32) from bn_k (by decide)) (by decide))) (by decide)) rfl Y (lv_sub hl [2, 3, 4, 1, 0] rfl)
  refine lv_iconst (v := 0) hx hb dX0_workOf_0 (by decide) ?_
  refine lv_istore_n (lv' := [(3, .int 0), (0, .ref (ad 8 0)), (1, .int i1), (2, .int i2)]) hx hb dX0_workOf_1 rfl hl (by decide) rfl (fun ls hl => ?_)
  refine lv_iconst (v := 0) hx hb dX0_workOf_2 (by decide) ?_
  refine lv_istore (lv' := [(4, .int 0), (3, .int 0), (0, .ref (ad 8 0)), (1, .int i1), (2, .int i2)]) hx hb dX0_workOf_3 hl (by decide) rfl (fun ls hl => ?_)
  exact J_5 _ 0 0  _ _ _  (bn_w (show bn 0 0 (0 : Int32) from bn_k (by decide)) (by decide)) rfl Y (lv_sub hl [2, 3, 4, 1, 0] rfl)
set_option maxHeartbeats 4000000 in
set_option maxRecDepth 100000 in
theorem x_X0_isInTime {l : Launch} {G : GG}  {L : List Nat} {f : HF} {ad : Nat → Nat → Nat} {rs : RS} {fc : Int × Int} {tc w : Nat → Int × Int} {q : Nat → (Nat → Int32) → Prop} {i1 : Int32} (I : SH (spC rs fc tc w q) nnC G ad L f) (hW : WBp w 8) (hT : WBp tc 4) (hQ : QIp q) : PMp l yX0_isInTime cX0_isInTime 4 .boolean 2 0 0 G [.ref (ad 8 0), .int i1] L f (fun r => bn 0 1 r) := by
  refine PMi.of (post := fun r L1 f1 => (bn 0 1 r) ∧ L1 = L ∧ f1 = f) (own := RX0) (by decide) rfl (Nat.le_of_ble_eq_true rfl) (fun sz p e s m args below meth c A ls hA1 hname S Y hl => ?_)
  have hx := S.hx
  have hb := S.hb
  have hl : lv_has ls 4 [(0, .ref (ad 8 0)), (1, .int i1)] := hl
  have J_2 : ∀ (n2 : Nat) (y2_2 : Int32) (H : Heap) (locs : List Loc) (ls : Array Slot), (bn 0 8 y2_2) → (((8 : Int) - y2_2.toInt).toNat = n2) → (DY G A s [] L f H locs) → (lv_has ls 4 [(0, .ref (ad 8 0)), (1, .int i1), (2, .int y2_2)]) → W p l e (rmD 2 0 0) s m args below meth c H locs (0) (0) (MQ below (va_Qi (fun r (u : List Nat × HF) => (fun r L1 f1 => (bn 0 1 r) ∧ L1 = L ∧ f1 = f) r u.1 u.2) (fun u t => pOut G (va_A (va_pl L f) sz) u.1 u.2 t) (va_A (va_pl L f) sz)) args s 0 0 A) (F0 m 2 ls []) := by
    intro n2
    induction n2 using Nat.strongRecOn with
    | _ n2 ih2 =>
      intro y2_2 H locs ls b_y2_2 hm2 Y hl
      refine lv_iload_n hx hb dX0_isInTime_2 rfl (lv_at hl 2 rfl) ?_
      refine lv_aload_n hx hb dX0_isInTime_3 rfl (lv_at hl 0 rfl) ?_
      have p_ad_8_0 := opnC_8 (j := 0) I (by decide)
      have p_ad_8_0 : pt L f (ad 8 0) (.inr (0, [.ref (ad 1 0), .ref (ad 60 0), .ref (ad 61 0)])) := p_ad_8_0
      refine pg_get S Y ok_X0 0 (by decide) kf0_18 (v := .ref (ad 1 0)) p_ad_8_0 rfl dX0_isInTime_4 ?_
      obtain ⟨v_33161, v_33163, v_33165, v_33167, v_33169, p_ad_1_0, b_33162, b_33164, b_33166, b_33168, b_33170⟩ := opnC_1 (j := 0) I (by decide)
      have p_ad_1_0 : pt L f (ad 1 0) (.inr (10, [.ref (ad 40 0), .ref (ad 41 0), .ref (ad 42 0), .ref (ad 10 0), .ref (ad 43 0), .ref (ad 20 0), .ref (ad 20 1), .ref (ad 20 2), .ref (ad 20 3), .ref (ad 20 4), .int v_33161, .int v_33163, .int v_33165, .int v_33167, .int v_33169])) := p_ad_1_0
      refine pg_getN S Y ok_X10 7 (by decide) kf0_62 (v := .ref (ad 20 2)) p_ad_1_0 rfl dX0_isInTime_7 ?_
      obtain ⟨v_33171, v_33173, p_ad_20_2, b_33172, b_33174⟩ := opnC_20 (j := 2) I (by decide)
      have p_ad_20_2 : pt L f (ad 20 2) (.inr (9, [.ref (ad 21 2), .int v_33171, .int v_33173])) := p_ad_20_2
      refine pg_getN S Y ok_X9 2 (by decide) kf0_56 (v := .int v_33173) p_ad_20_2 rfl dX0_isInTime_10 ?_
      refine lv_icmp_ge (tgt := 55) hx hb dX0_isInTime_13 (by decide) (fun c_33175 => ?_) (fun c_33175 => ?_)
      · refine lv_iconst (v := 1) hx hb dX0_isInTime_55 (by decide) ?_
        exact prI (post := fun r L1 f1 => (bn 0 1 r) ∧ L1 = L ∧ f1 = f) S Y rfl (by decide) (by decide) hA1 ⟨bn_w (show bn 1 1 (1 : Int32) from bn_k (by decide)) (by decide), rfl, rfl⟩ dX0_isInTime_56
      · have B_33176 : bn 1 8 v_33173 := bn_w (bn_gtl c_33175 (bn_w (a' := 0) (b' := 8) b_33174 (hW 2)) b_y2_2) (by decide)
        have B_33177 : bn 0 7 y2_2 := bn_w (bn_gtr c_33175 (bn_w (a' := 0) (b' := 8) b_33174 (hW 2)) b_y2_2) (by decide)
        refine lv_aload_n hx hb dX0_isInTime_16 rfl (lv_at hl 0 rfl) ?_
        refine pg_get S Y ok_X0 0 (by decide) kf0_18 (v := .ref (ad 1 0)) p_ad_8_0 rfl dX0_isInTime_17 ?_
        refine pg_getN S Y ok_X10 7 (by decide) kf0_62 (v := .ref (ad 20 2)) p_ad_1_0 rfl dX0_isInTime_20 ?_
        refine lv_iload_n hx hb dX0_isInTime_23 rfl (lv_at hl 2 rfl) ?_
        refine lv_iconst (v := 1) hx hb dX0_isInTime_24 (by decide) ?_
        refine cVp (As := [.int y2_2, .int 1]) (rest := []) S Y (x_X9_get (l := l) (j := 2) I hW hT hQ (by decide)) cw_X9_get km0_61 p_ad_20_2 ok_X9.1 rfl rfl ⟨Nat.le_of_ble_eq_true rfl, Nat.le_of_ble_eq_true rfl⟩ hl.1 rfl (Nat.le_of_ble_eq_true rfl) ⟨Nat.le_of_ble_eq_true rfl, Nat.le_of_ble_eq_true rfl⟩ dX0_isInTime_25 (fun r_33178 H locs er_33178 Y => ?_)
        refine lv_istore_n (lv' := [(3, .int r_33178), (0, .ref (ad 8 0)), (1, .int i1), (2, .int y2_2)]) hx hb dX0_isInTime_28 rfl hl (by decide) rfl (fun ls hl => ?_)
        refine lv_iload_n hx hb dX0_isInTime_29 rfl (lv_at hl 2 rfl) ?_
        refine lv_iload_n hx hb dX0_isInTime_30 rfl (lv_at hl 3 rfl) ?_
        refine lv_ishr hx hb dX0_isInTime_31 ?_
        refine lv_topi (fun x_33179 ex_33179 => ?_)
        refine lv_iconst (v := 1) hx hb dX0_isInTime_32 (by decide) ?_
        refine lv_iand hx hb dX0_isInTime_33 ?_
        refine lv_topi (fun x_33180 ex_33180 => ?_)
        refine lv_if_eq (tgt := 49) hx hb dX0_isInTime_34 (by decide) (fun c_33181 => ?_) (fun c_33181 => ?_)
        · have B_33182 : bn 0 0 x_33180 := bn_w (bn_eq c_33181 (show bn 0 0 (0 : Int32) from bn_k (by decide))) (by decide)
          obtain ⟨x_33183, ex_33183⟩ : ∃ z : Int32, z = y2_2 + 1 := ⟨_, rfl⟩
          refine lv_iinc (v := x_33183) (lv' := [(2, .int x_33183), (3, .int r_33178), (0, .ref (ad 8 0)), (1, .int i1)]) hx hb dX0_isInTime_49 hl (k := 3) rfl (by rw [ex_33183]; rfl) (by decide) rfl (fun ls hl => ?_)
          refine lv_goto (tgt := 2) hx hb dX0_isInTime_52 (by decide) ?_
          exact ih2 _ (by rw [← hm2]; exact ms_up (m := 1) ex_33183 (show bn 1 1 (1 : Int32) from bn_k (by decide)) B_33177 (bn_w (bn_eq ex_33183 (bn_add B_33177 (show bn 1 1 (1 : Int32) from bn_k (by decide)) (by decide))) (by decide) : bn 0 8 x_33183) (by decide)) x_33183  _ _ _  (bn_w (bn_eq ex_33183 (bn_add B_33177 (show bn 1 1 (1 : Int32) from bn_k (by decide)) (by decide))) (by decide)) rfl Y (lv_sub hl [2, 3, 0] rfl)
        · refine lv_aload_n hx hb dX0_isInTime_37 rfl (lv_at hl 1 rfl) ?_
          refine lv_iload_n hx hb dX0_isInTime_38 rfl (lv_at hl 2 rfl) ?_
          refine lv_iload_n hx hb dX0_isInTime_39 rfl (lv_at hl 0 rfl) ?_
          refine cVp (As := [.int i1, .int r_33178]) (rest := []) S Y (x_X0_workOf (l := l) I hW hT hQ) cw_X0_workOf km0_69 p_ad_8_0 ok_X0.1 rfl rfl ⟨Nat.le_of_ble_eq_true rfl, Nat.le_of_ble_eq_true rfl⟩ hl.1 rfl (Nat.le_of_ble_eq_true rfl) ⟨Nat.le_of_ble_eq_true rfl, Nat.le_of_ble_eq_true rfl⟩ dX0_isInTime_40 (fun r_33184 H locs er_33184 Y => ?_)
          refine lv_iload_n hx hb dX0_isInTime_43 rfl (lv_at hl 0 rfl) ?_
          refine lv_icmp_le (tgt := 49) hx hb dX0_isInTime_44 (by decide) (fun c_33185 => ?_) (fun c_33185 => ?_)
          · obtain ⟨x_33188, ex_33188⟩ : ∃ z : Int32, z = y2_2 + 1 := ⟨_, rfl⟩
            refine lv_iinc (v := x_33188) (lv' := [(2, .int x_33188), (3, .int r_33178), (0, .ref (ad 8 0)), (1, .int i1)]) hx hb dX0_isInTime_49 hl (k := 3) rfl (by rw [ex_33188]; rfl) (by decide) rfl (fun ls hl => ?_)
            refine lv_goto (tgt := 2) hx hb dX0_isInTime_52 (by decide) ?_
            exact ih2 _ (by rw [← hm2]; exact ms_up (m := 1) ex_33188 (show bn 1 1 (1 : Int32) from bn_k (by decide)) B_33177 (bn_w (bn_eq ex_33188 (bn_add B_33177 (show bn 1 1 (1 : Int32) from bn_k (by decide)) (by decide))) (by decide) : bn 0 8 x_33188) (by decide)) x_33188  _ _ _  (bn_w (bn_eq ex_33188 (bn_add B_33177 (show bn 1 1 (1 : Int32) from bn_k (by decide)) (by decide))) (by decide)) rfl Y (lv_sub hl [2, 3, 0] rfl)
          · have B_33186 : bn (-2147483647) 2147483647 r_33184 := bn_w (bn_gtl c_33185 (bn_any r_33184) (bn_any r_33178)) (by decide)
            have B_33187 : bn (-2147483648) 2147483646 r_33178 := bn_w (bn_gtr c_33185 (bn_any r_33184) (bn_any r_33178)) (by decide)
            refine lv_iconst (v := 0) hx hb dX0_isInTime_47 (by decide) ?_
            exact prI (post := fun r L1 f1 => (bn 0 1 r) ∧ L1 = L ∧ f1 = f) S Y rfl (by decide) (by decide) hA1 ⟨bn_w (show bn 0 0 (0 : Int32) from bn_k (by decide)) (by decide), rfl, rfl⟩ dX0_isInTime_48
  refine lv_iconst (v := 0) hx hb dX0_isInTime_0 (by decide) ?_
  refine lv_istore_n (lv' := [(2, .int 0), (0, .ref (ad 8 0)), (1, .int i1)]) hx hb dX0_isInTime_1 rfl hl (by decide) rfl (fun ls hl => ?_)
  exact J_2 _ 0  _ _ _  (bn_w (show bn 0 0 (0 : Int32) from bn_k (by decide)) (by decide)) rfl Y (lv_sub hl [1, 2, 0] rfl)
set_option maxHeartbeats 4000000 in
set_option maxRecDepth 100000 in
theorem x_X0_mostInTime {l : Launch} {G : GG}  {L : List Nat} {f : HF} {ad : Nat → Nat → Nat} {rs : RS} {fc : Int × Int} {tc w : Nat → Int × Int} {q : Nat → (Nat → Int32) → Prop} (I : SH (spC rs fc tc w q) nnC G ad L f) (hW : WBp w 8) (hT : WBp tc 4) (hQ : QIp q) : PMp l yX0_mostInTime cX0_mostInTime 3 .int 3 0 0 G [.ref (ad 8 0)] L f (fun r => True) := by
  refine PMi.of (post := fun r L1 f1 => (True) ∧ L1 = L ∧ f1 = f) (own := RX0) (by decide) rfl (Nat.le_of_ble_eq_true rfl) (fun sz p e s m args below meth c A ls hA1 hname S Y hl => ?_)
  have hx := S.hx
  have hb := S.hb
  have hl : lv_has ls 3 [(0, .ref (ad 8 0))] := hl
  have J_4 : ∀ (n4 : Nat) (y4_1 y4_2 : Int32) (H : Heap) (locs : List Loc) (ls : Array Slot), (bn 0 255 y4_1) → (bn 1 299 y4_2) → (((299 : Int) - y4_2.toInt).toNat = n4) → (DY G A s [] L f H locs) → (lv_has ls 3 [(0, .ref (ad 8 0)), (1, .int y4_1), (2, .int y4_2)]) → W p l e (rmD 3 0 0) s m args below meth c H locs (0) (0) (MQ below (va_Qi (fun r (u : List Nat × HF) => (fun r L1 f1 => (True) ∧ L1 = L ∧ f1 = f) r u.1 u.2) (fun u t => pOut G (va_A (va_pl L f) sz) u.1 u.2 t) (va_A (va_pl L f) sz)) args s 0 0 A) (F0 m 4 ls []) := by
    intro n4
    induction n4 using Nat.strongRecOn with
    | _ n4 ih4 =>
      intro y4_1 y4_2 H locs ls b_y4_1 b_y4_2 hm4 Y hl
      refine lv_iload_n hx hb dX0_mostInTime_4 rfl (lv_at hl 2 rfl) ?_
      refine lv_iconst (v := 1) hx hb dX0_mostInTime_5 (by decide) ?_
      refine lv_aload_n hx hb dX0_mostInTime_6 rfl (lv_at hl 0 rfl) ?_
      have p_ad_8_0 := opnC_8 (j := 0) I (by decide)
      have p_ad_8_0 : pt L f (ad 8 0) (.inr (0, [.ref (ad 1 0), .ref (ad 60 0), .ref (ad 61 0)])) := p_ad_8_0
      refine pg_get S Y ok_X0 0 (by decide) kf0_18 (v := .ref (ad 1 0)) p_ad_8_0 rfl dX0_mostInTime_7 ?_
      obtain ⟨v_34299, v_34301, v_34303, v_34305, v_34307, p_ad_1_0, b_34300, b_34302, b_34304, b_34306, b_34308⟩ := opnC_1 (j := 0) I (by decide)
      have p_ad_1_0 : pt L f (ad 1 0) (.inr (10, [.ref (ad 40 0), .ref (ad 41 0), .ref (ad 42 0), .ref (ad 10 0), .ref (ad 43 0), .ref (ad 20 0), .ref (ad 20 1), .ref (ad 20 2), .ref (ad 20 3), .ref (ad 20 4), .int v_34299, .int v_34301, .int v_34303, .int v_34305, .int v_34307])) := p_ad_1_0
      refine pg_getN S Y ok_X10 7 (by decide) kf0_62 (v := .ref (ad 20 2)) p_ad_1_0 rfl dX0_mostInTime_10 ?_
      obtain ⟨v_34309, v_34311, p_ad_20_2, b_34310, b_34312⟩ := opnC_20 (j := 2) I (by decide)
      have p_ad_20_2 : pt L f (ad 20 2) (.inr (9, [.ref (ad 21 2), .int v_34309, .int v_34311])) := p_ad_20_2
      refine pg_getN S Y ok_X9 2 (by decide) kf0_56 (v := .int v_34311) p_ad_20_2 rfl dX0_mostInTime_13 ?_
      refine lv_ishl hx hb dX0_mostInTime_16 ?_
      refine lv_topi (fun x_34313 ex_34313 => ?_)
      refine lv_icmp_ge (tgt := 47) hx hb dX0_mostInTime_17 (by decide) (fun c_34314 => ?_) (fun c_34314 => ?_)
      · refine lv_iload_n hx hb dX0_mostInTime_47 rfl (lv_at hl 1 rfl) ?_
        exact prI (post := fun r L1 f1 => (True) ∧ L1 = L ∧ f1 = f) S Y rfl (by decide) (by decide) hA1 ⟨trivial, rfl, rfl⟩ dX0_mostInTime_48
      · have B_34315 : bn 2 256 x_34313 := bn_w (bn_gtl c_34314 (bn_eq ex_34313 (bn_shl (n := 8) (bn_w (bn_w (a' := 0) (b' := 8) b_34312 (hW 2)) (by decide) : bn 0 8 v_34311) (by decide) (by decide))) b_y4_2) (by decide)
        have B_34316 : bn 1 255 y4_2 := bn_w (bn_gtr c_34314 (bn_eq ex_34313 (bn_shl (n := 8) (bn_w (bn_w (a' := 0) (b' := 8) b_34312 (hW 2)) (by decide) : bn 0 8 v_34311) (by decide) (by decide))) b_y4_2) (by decide)
        refine lv_iload_n hx hb dX0_mostInTime_20 rfl (lv_at hl 2 rfl) ?_
        refine cSp (As := [.int y4_2]) (rest := []) S Y (x_bitCount (l := l) ) cw_X106_bitCount_0f7a4 km0_42 rfl ⟨Nat.le_of_ble_eq_true rfl, Nat.le_of_ble_eq_true rfl⟩ hl.1 rfl (Nat.le_of_ble_eq_true rfl) ⟨Nat.le_of_ble_eq_true rfl, Nat.le_of_ble_eq_true rfl⟩ dX0_mostInTime_21 (fun r_34317 H locs er_34317 Y => ?_)
        refine lv_iload_n hx hb dX0_mostInTime_24 rfl (lv_at hl 1 rfl) ?_
        refine cSp (As := [.int y4_1]) (rest := [.int r_34317]) S Y (x_bitCount (l := l) ) cw_X106_bitCount_0f7a4 km0_42 rfl ⟨Nat.le_of_ble_eq_true rfl, Nat.le_of_ble_eq_true rfl⟩ hl.1 rfl (Nat.le_of_ble_eq_true rfl) ⟨Nat.le_of_ble_eq_true rfl, Nat.le_of_ble_eq_true rfl⟩ dX0_mostInTime_25 (fun r_34318 H locs er_34318 Y => ?_)
        refine lv_icmp_le (tgt := 41) hx hb dX0_mostInTime_28 (by decide) (fun c_34319 => ?_) (fun c_34319 => ?_)
        · obtain ⟨x_34322, ex_34322⟩ : ∃ z : Int32, z = y4_2 + 1 := ⟨_, rfl⟩
          refine lv_iinc (v := x_34322) (lv' := [(2, .int x_34322), (0, .ref (ad 8 0)), (1, .int y4_1)]) hx hb dX0_mostInTime_41 hl (k := 2) rfl (by rw [ex_34322]; rfl) (by decide) rfl (fun ls hl => ?_)
          refine lv_goto (tgt := 4) hx hb dX0_mostInTime_44 (by decide) ?_
          exact ih4 _ (by rw [← hm4]; exact ms_up (m := 1) ex_34322 (show bn 1 1 (1 : Int32) from bn_k (by decide)) B_34316 (bn_w (bn_eq ex_34322 (bn_add B_34316 (show bn 1 1 (1 : Int32) from bn_k (by decide)) (by decide))) (by decide) : bn 1 299 x_34322) (by decide)) y4_1 x_34322  _ _ _  (bn_w b_y4_1 (by decide)) (bn_w (bn_eq ex_34322 (bn_add B_34316 (show bn 1 1 (1 : Int32) from bn_k (by decide)) (by decide))) (by decide)) rfl Y (lv_sub hl [1, 2, 0] rfl)
        · have B_34320 : bn (-2147483647) 2147483647 r_34317 := bn_w (bn_gtl c_34319 (bn_any r_34317) (bn_any r_34318)) (by decide)
          have B_34321 : bn (-2147483648) 2147483646 r_34318 := bn_w (bn_gtr c_34319 (bn_any r_34317) (bn_any r_34318)) (by decide)
          refine lv_aload_n hx hb dX0_mostInTime_31 rfl (lv_at hl 0 rfl) ?_
          refine lv_iload_n hx hb dX0_mostInTime_32 rfl (lv_at hl 2 rfl) ?_
          refine cVp (As := [.int y4_2]) (rest := []) S Y (x_X0_isInTime (l := l) I hW hT hQ) cw_X0_isInTime km0_65 p_ad_8_0 ok_X0.1 rfl rfl ⟨Nat.le_of_ble_eq_true rfl, Nat.le_of_ble_eq_true rfl⟩ hl.1 rfl (Nat.le_of_ble_eq_true rfl) ⟨Nat.le_of_ble_eq_true rfl, Nat.le_of_ble_eq_true rfl⟩ dX0_mostInTime_33 (fun r_34323 H locs er_34323 Y => ?_)
          refine lv_if_eq (tgt := 41) hx hb dX0_mostInTime_36 (by decide) (fun c_34324 => ?_) (fun c_34324 => ?_)
          · have B_34325 : bn 0 0 r_34323 := bn_w (bn_eq c_34324 (show bn 0 0 (0 : Int32) from bn_k (by decide))) (by decide)
            obtain ⟨x_34327, ex_34327⟩ : ∃ z : Int32, z = y4_2 + 1 := ⟨_, rfl⟩
            refine lv_iinc (v := x_34327) (lv' := [(2, .int x_34327), (0, .ref (ad 8 0)), (1, .int y4_1)]) hx hb dX0_mostInTime_41 hl (k := 2) rfl (by rw [ex_34327]; rfl) (by decide) rfl (fun ls hl => ?_)
            refine lv_goto (tgt := 4) hx hb dX0_mostInTime_44 (by decide) ?_
            exact ih4 _ (by rw [← hm4]; exact ms_up (m := 1) ex_34327 (show bn 1 1 (1 : Int32) from bn_k (by decide)) B_34316 (bn_w (bn_eq ex_34327 (bn_add B_34316 (show bn 1 1 (1 : Int32) from bn_k (by decide)) (by decide))) (by decide) : bn 1 299 x_34327) (by decide)) y4_1 x_34327  _ _ _  (bn_w b_y4_1 (by decide)) (bn_w (bn_eq ex_34327 (bn_add B_34316 (show bn 1 1 (1 : Int32) from bn_k (by decide)) (by decide))) (by decide)) rfl Y (lv_sub hl [1, 2, 0] rfl)
          · have B_34326 : bn 1 1 r_34323 := bn_w (bn_nel c_34324 er_34323 (show bn 0 0 (0 : Int32) from bn_k (by decide))) (by decide)
            refine lv_iload_n hx hb dX0_mostInTime_39 rfl (lv_at hl 2 rfl) ?_
            refine lv_istore_n (lv' := [(1, .int y4_2), (0, .ref (ad 8 0)), (2, .int y4_2)]) hx hb dX0_mostInTime_40 rfl hl (by decide) rfl (fun ls hl => ?_)
            obtain ⟨x_34328, ex_34328⟩ : ∃ z : Int32, z = y4_2 + 1 := ⟨_, rfl⟩
            refine lv_iinc (v := x_34328) (lv' := [(2, .int x_34328), (1, .int y4_2), (0, .ref (ad 8 0))]) hx hb dX0_mostInTime_41 hl (k := 2) rfl (by rw [ex_34328]; rfl) (by decide) rfl (fun ls hl => ?_)
            refine lv_goto (tgt := 4) hx hb dX0_mostInTime_44 (by decide) ?_
            exact ih4 _ (by rw [← hm4]; exact ms_up (m := 1) ex_34328 (show bn 1 1 (1 : Int32) from bn_k (by decide)) B_34316 (bn_w (bn_eq ex_34328 (bn_add B_34316 (show bn 1 1 (1 : Int32) from bn_k (by decide)) (by decide))) (by decide) : bn 1 299 x_34328) (by decide)) y4_2 x_34328  _ _ _  (bn_w B_34316 (by decide)) (bn_w (bn_eq ex_34328 (bn_add B_34316 (show bn 1 1 (1 : Int32) from bn_k (by decide)) (by decide))) (by decide)) rfl Y (lv_sub hl [2, 1, 0] rfl)
  refine lv_iconst (v := 0) hx hb dX0_mostInTime_0 (by decide) ?_
  refine lv_istore_n (lv' := [(1, .int 0), (0, .ref (ad 8 0))]) hx hb dX0_mostInTime_1 rfl hl (by decide) rfl (fun ls hl => ?_)
  refine lv_iconst (v := 1) hx hb dX0_mostInTime_2 (by decide) ?_
  refine lv_istore_n (lv' := [(2, .int 1), (1, .int 0), (0, .ref (ad 8 0))]) hx hb dX0_mostInTime_3 rfl hl (by decide) rfl (fun ls hl => ?_)
  exact J_4 _ 0 1  _ _ _  (bn_w (show bn 0 0 (0 : Int32) from bn_k (by decide)) (by decide)) (bn_w (show bn 1 1 (1 : Int32) from bn_k (by decide)) (by decide)) rfl Y (lv_sub hl [2, 1, 0] rfl)
set_option maxHeartbeats 4000000 in
set_option maxRecDepth 100000 in
theorem x_X0_seesAll {l : Launch} {G : GG}  {L : List Nat} {f : HF} {ad : Nat → Nat → Nat} {rs : RS} {fc : Int × Int} {tc w : Nat → Int × Int} {q : Nat → (Nat → Int32) → Prop} {i1 : Int32} (I : SH (spC rs fc tc w q) nnC G ad L f) (hW : WBp w 8) (hT : WBp tc 4) (hQ : QIp q) : PMp l yX0_seesAll cX0_seesAll 5 .boolean 3 0 0 G [.ref (ad 8 0), .int i1] L f (fun r => bn 0 1 r) := by
  refine PMi.of (post := fun r L1 f1 => (bn 0 1 r) ∧ L1 = L ∧ f1 = f) (own := RX0) (by decide) rfl (Nat.le_of_ble_eq_true rfl) (fun sz p e s m args below meth c A ls hA1 hname S Y hl => ?_)
  have hx := S.hx
  have hb := S.hb
  have hl : lv_has ls 5 [(0, .ref (ad 8 0)), (1, .int i1)] := hl
  have J_10 : ∀ (n10 : Nat) (y10_3 : Int32) (H : Heap) (locs : List Loc) (ls : Array Slot), (bn 0 14 y10_3) → (((14 : Int) - y10_3.toInt).toNat = n10) → (DY G A s [] L f H locs) → (lv_has ls 5 [(0, .ref (ad 8 0)), (1, .int i1), (2, .ref (ad 10 0)), (3, .int y10_3)]) → W p l e (rmD 3 0 0) s m args below meth c H locs (0) (0) (MQ below (va_Qi (fun r (u : List Nat × HF) => (fun r L1 f1 => (bn 0 1 r) ∧ L1 = L ∧ f1 = f) r u.1 u.2) (fun u t => pOut G (va_A (va_pl L f) sz) u.1 u.2 t) (va_A (va_pl L f) sz)) args s 0 0 A) (F0 m 10 ls []) := by
    intro n10
    induction n10 using Nat.strongRecOn with
    | _ n10 ih10 =>
      intro y10_3 H locs ls b_y10_3 hm10 Y hl
      refine lv_iload_n hx hb dX0_seesAll_10 rfl (lv_at hl 3 rfl) ?_
      refine lv_aload_n hx hb dX0_seesAll_11 rfl (lv_at hl 2 rfl) ?_
      obtain ⟨v_34727, v_34729, v_34731, v_34733, v_34735, p_ad_10_0, b_34728, b_34730, b_34732, b_34734, b_34736⟩ := opnC_10 (j := 0) I (by decide)
      have p_ad_10_0 : pt L f (ad 10 0) (.inr (4, [.ref (ad 11 0), .ref (ad 12 0), .int v_34727, .int v_34729, .int v_34731, .int v_34733, .int v_34735])) := p_ad_10_0
      refine pg_getN S Y ok_X4 2 (by decide) kf0_28 (v := .int v_34727) p_ad_10_0 rfl dX0_seesAll_12 ?_
      refine lv_icmp_ge (tgt := 60) hx hb dX0_seesAll_15 (by decide) (fun c_34737 => ?_) (fun c_34737 => ?_)
      · refine lv_iconst (v := 1) hx hb dX0_seesAll_60 (by decide) ?_
        exact prI (post := fun r L1 f1 => (bn 0 1 r) ∧ L1 = L ∧ f1 = f) S Y rfl (by decide) (by decide) hA1 ⟨bn_w (show bn 1 1 (1 : Int32) from bn_k (by decide)) (by decide), rfl, rfl⟩ dX0_seesAll_61
      · have B_34738 : bn 1 14 v_34727 := bn_w (bn_gtl c_34737 b_34728 b_y10_3) (by decide)
        have B_34739 : bn 0 13 y10_3 := bn_w (bn_gtr c_34737 b_34728 b_y10_3) (by decide)
        refine lv_iconst (v := 1) hx hb dX0_seesAll_18 (by decide) ?_
        refine lv_aload_n hx hb dX0_seesAll_19 rfl (lv_at hl 2 rfl) ?_
        refine lv_iload_n hx hb dX0_seesAll_20 rfl (lv_at hl 3 rfl) ?_
        refine lv_iconst (v := 0) hx hb dX0_seesAll_21 (by decide) ?_
        refine cVp (As := [.int y10_3, .int 0]) (rest := [.int 1]) S Y (x_X4_get (l := l) (j := 0) I hW hT hQ (by decide)) cw_X4_get km0_34 p_ad_10_0 ok_X4.1 rfl rfl ⟨Nat.le_of_ble_eq_true rfl, Nat.le_of_ble_eq_true rfl⟩ hl.1 rfl (Nat.le_of_ble_eq_true rfl) ⟨Nat.le_of_ble_eq_true rfl, Nat.le_of_ble_eq_true rfl⟩ dX0_seesAll_22 (fun r_34740 H locs er_34740 Y => ?_)
        refine lv_ishl hx hb dX0_seesAll_25 ?_
        refine lv_topi (fun x_34741 ex_34741 => ?_)
        refine lv_iconst (v := 1) hx hb dX0_seesAll_26 (by decide) ?_
        refine lv_aload_n hx hb dX0_seesAll_27 rfl (lv_at hl 2 rfl) ?_
        refine lv_iload_n hx hb dX0_seesAll_28 rfl (lv_at hl 3 rfl) ?_
        refine lv_iconst (v := 1) hx hb dX0_seesAll_29 (by decide) ?_
        refine cVp (As := [.int y10_3, .int 1]) (rest := [.int 1, .int x_34741]) S Y (x_X4_get (l := l) (j := 0) I hW hT hQ (by decide)) cw_X4_get km0_34 p_ad_10_0 ok_X4.1 rfl rfl ⟨Nat.le_of_ble_eq_true rfl, Nat.le_of_ble_eq_true rfl⟩ hl.1 rfl (Nat.le_of_ble_eq_true rfl) ⟨Nat.le_of_ble_eq_true rfl, Nat.le_of_ble_eq_true rfl⟩ dX0_seesAll_30 (fun r_34742 H locs er_34742 Y => ?_)
        refine lv_ishl hx hb dX0_seesAll_33 ?_
        refine lv_topi (fun x_34743 ex_34743 => ?_)
        refine lv_ior hx hb dX0_seesAll_34 ?_
        refine lv_topi (fun x_34744 ex_34744 => ?_)
        refine lv_istore (lv' := [(4, .int x_34744), (0, .ref (ad 8 0)), (1, .int i1), (2, .ref (ad 10 0)), (3, .int y10_3)]) hx hb dX0_seesAll_35 hl (by decide) rfl (fun ls hl => ?_)
        refine lv_aload_n hx hb dX0_seesAll_37 rfl (lv_at hl 3 rfl) ?_
        refine lv_iload_n hx hb dX0_seesAll_38 rfl (lv_at hl 4 rfl) ?_
        refine cVp (As := [.int y10_3]) (rest := []) S Y (x_X4_legible (l := l) (j := 0) I hW hT hQ (by decide)) cw_X4_legible km0_78 p_ad_10_0 ok_X4.1 rfl rfl ⟨Nat.le_of_ble_eq_true rfl, Nat.le_of_ble_eq_true rfl⟩ hl.1 rfl (Nat.le_of_ble_eq_true rfl) ⟨Nat.le_of_ble_eq_true rfl, Nat.le_of_ble_eq_true rfl⟩ dX0_seesAll_39 (fun r_34745 H locs er_34745 Y => ?_)
        refine lv_if_eq (tgt := 54) hx hb dX0_seesAll_42 (by decide) (fun c_34746 => ?_) (fun c_34746 => ?_)
        · have B_34747 : bn 0 0 r_34745 := bn_w (bn_eq c_34746 (show bn 0 0 (0 : Int32) from bn_k (by decide))) (by decide)
          obtain ⟨x_34749, ex_34749⟩ : ∃ z : Int32, z = y10_3 + 1 := ⟨_, rfl⟩
          refine lv_iinc (v := x_34749) (lv' := [(3, .int x_34749), (4, .int x_34744), (0, .ref (ad 8 0)), (1, .int i1), (2, .ref (ad 10 0))]) hx hb dX0_seesAll_54 hl (k := 4) rfl (by rw [ex_34749]; rfl) (by decide) rfl (fun ls hl => ?_)
          refine lv_goto (tgt := 10) hx hb dX0_seesAll_57 (by decide) ?_
          exact ih10 _ (by rw [← hm10]; exact ms_up (m := 1) ex_34749 (show bn 1 1 (1 : Int32) from bn_k (by decide)) B_34739 (bn_w (bn_eq ex_34749 (bn_add B_34739 (show bn 1 1 (1 : Int32) from bn_k (by decide)) (by decide))) (by decide) : bn 0 14 x_34749) (by decide)) x_34749  _ _ _  (bn_w (bn_eq ex_34749 (bn_add B_34739 (show bn 1 1 (1 : Int32) from bn_k (by decide)) (by decide))) (by decide)) rfl Y (lv_sub hl [2, 3, 4, 0] rfl)
        · have B_34748 : bn 1 1 r_34745 := bn_w (bn_nel c_34746 er_34745 (show bn 0 0 (0 : Int32) from bn_k (by decide))) (by decide)
          refine lv_iload_n hx hb dX0_seesAll_45 rfl (lv_at hl 2 rfl) ?_
          refine lv_iload hx hb dX0_seesAll_46 (lv_at hl 0 rfl) ?_
          refine lv_iand hx hb dX0_seesAll_48 ?_
          refine lv_topi (fun x_34750 ex_34750 => ?_)
          refine lv_if_ne (tgt := 54) hx hb dX0_seesAll_49 (by decide) (fun c_34751 => ?_) (fun c_34751 => ?_)
          · obtain ⟨x_34753, ex_34753⟩ : ∃ z : Int32, z = y10_3 + 1 := ⟨_, rfl⟩
            refine lv_iinc (v := x_34753) (lv' := [(3, .int x_34753), (4, .int x_34744), (0, .ref (ad 8 0)), (1, .int i1), (2, .ref (ad 10 0))]) hx hb dX0_seesAll_54 hl (k := 4) rfl (by rw [ex_34753]; rfl) (by decide) rfl (fun ls hl => ?_)
            refine lv_goto (tgt := 10) hx hb dX0_seesAll_57 (by decide) ?_
            exact ih10 _ (by rw [← hm10]; exact ms_up (m := 1) ex_34753 (show bn 1 1 (1 : Int32) from bn_k (by decide)) B_34739 (bn_w (bn_eq ex_34753 (bn_add B_34739 (show bn 1 1 (1 : Int32) from bn_k (by decide)) (by decide))) (by decide) : bn 0 14 x_34753) (by decide)) x_34753  _ _ _  (bn_w (bn_eq ex_34753 (bn_add B_34739 (show bn 1 1 (1 : Int32) from bn_k (by decide)) (by decide))) (by decide)) rfl Y (lv_sub hl [2, 3, 4, 0] rfl)
          · have B_34752 : bn 0 0 x_34750 := bn_w (bn_eq c_34751 (show bn 0 0 (0 : Int32) from bn_k (by decide))) (by decide)
            refine lv_iconst (v := 0) hx hb dX0_seesAll_52 (by decide) ?_
            exact prI (post := fun r L1 f1 => (bn 0 1 r) ∧ L1 = L ∧ f1 = f) S Y rfl (by decide) (by decide) hA1 ⟨bn_w (show bn 0 0 (0 : Int32) from bn_k (by decide)) (by decide), rfl, rfl⟩ dX0_seesAll_53
  refine lv_aload_n hx hb dX0_seesAll_0 rfl (lv_at hl 0 rfl) ?_
  have p_ad_8_0 := opnC_8 (j := 0) I (by decide)
  have p_ad_8_0 : pt L f (ad 8 0) (.inr (0, [.ref (ad 1 0), .ref (ad 60 0), .ref (ad 61 0)])) := p_ad_8_0
  refine pg_get S Y ok_X0 0 (by decide) kf0_18 (v := .ref (ad 1 0)) p_ad_8_0 rfl dX0_seesAll_1 ?_
  obtain ⟨v_34754, v_34756, v_34758, v_34760, v_34762, p_ad_1_0, b_34755, b_34757, b_34759, b_34761, b_34763⟩ := opnC_1 (j := 0) I (by decide)
  have p_ad_1_0 : pt L f (ad 1 0) (.inr (10, [.ref (ad 40 0), .ref (ad 41 0), .ref (ad 42 0), .ref (ad 10 0), .ref (ad 43 0), .ref (ad 20 0), .ref (ad 20 1), .ref (ad 20 2), .ref (ad 20 3), .ref (ad 20 4), .int v_34754, .int v_34756, .int v_34758, .int v_34760, .int v_34762])) := p_ad_1_0
  refine pg_getN S Y ok_X10 3 (by decide) kf0_22 (v := .ref (ad 10 0)) p_ad_1_0 rfl dX0_seesAll_4 ?_
  refine lv_astore_n (lv' := [(2, .ref (ad 10 0)), (0, .ref (ad 8 0)), (1, .int i1)]) hx hb dX0_seesAll_7 rfl hl (by decide) rfl (fun ls hl => ?_)
  refine lv_iconst (v := 0) hx hb dX0_seesAll_8 (by decide) ?_
  refine lv_istore_n (lv' := [(3, .int 0), (2, .ref (ad 10 0)), (0, .ref (ad 8 0)), (1, .int i1)]) hx hb dX0_seesAll_9 rfl hl (by decide) rfl (fun ls hl => ?_)
  exact J_10 _ 0  _ _ _  (bn_w (show bn 0 0 (0 : Int32) from bn_k (by decide)) (by decide)) rfl Y (lv_sub hl [2, 3, 1, 0] rfl)
set_option maxHeartbeats 4000000 in
set_option maxRecDepth 100000 in
theorem x_X0_fewestAsked {l : Launch} {G : GG}  {L : List Nat} {f : HF} {ad : Nat → Nat → Nat} {rs : RS} {fc : Int × Int} {tc w : Nat → Int × Int} {q : Nat → (Nat → Int32) → Prop} (I : SH (spC rs fc tc w q) nnC G ad L f) (hW : WBp w 8) (hT : WBp tc 4) (hQ : QIp q) : PMp l yX0_fewestAsked cX0_fewestAsked 3 .int 4 0 0 G [.ref (ad 8 0)] L f (fun r => True) := by
  refine PMi.of (post := fun r L1 f1 => (True) ∧ L1 = L ∧ f1 = f) (own := RX0) (by decide) rfl (Nat.le_of_ble_eq_true rfl) (fun sz p e s m args below meth c A ls hA1 hname S Y hl => ?_)
  have hx := S.hx
  have hb := S.hb
  have hl : lv_has ls 3 [(0, .ref (ad 8 0))] := hl
  have J_14 : ∀ (n14 : Nat) (y14_1 y14_2 : Int32) (H : Heap) (locs : List Loc) (ls : Array Slot), (bn 0 63 y14_1) → (bn 0 64 y14_2) → (((64 : Int) - y14_2.toInt).toNat = n14) → (DY G A s [] L f H locs) → (lv_has ls 3 [(0, .ref (ad 8 0)), (1, .int y14_1), (2, .int y14_2)]) → W p l e (rmD 4 0 0) s m args below meth c H locs (0) (0) (MQ below (va_Qi (fun r (u : List Nat × HF) => (fun r L1 f1 => (True) ∧ L1 = L ∧ f1 = f) r u.1 u.2) (fun u t => pOut G (va_A (va_pl L f) sz) u.1 u.2 t) (va_A (va_pl L f) sz)) args s 0 0 A) (F0 m 14 ls []) := by
    intro n14
    induction n14 using Nat.strongRecOn with
    | _ n14 ih14 =>
      intro y14_1 y14_2 H locs ls b_y14_1 b_y14_2 hm14 Y hl
      refine lv_iload_n hx hb dX0_fewestAsked_14 rfl (lv_at hl 2 rfl) ?_
      refine lv_iconst (v := 1) hx hb dX0_fewestAsked_15 (by decide) ?_
      refine lv_aload_n hx hb dX0_fewestAsked_16 rfl (lv_at hl 0 rfl) ?_
      have p_ad_8_0 := opnC_8 (j := 0) I (by decide)
      have p_ad_8_0 : pt L f (ad 8 0) (.inr (0, [.ref (ad 1 0), .ref (ad 60 0), .ref (ad 61 0)])) := p_ad_8_0
      refine pg_get S Y ok_X0 0 (by decide) kf0_18 (v := .ref (ad 1 0)) p_ad_8_0 rfl dX0_fewestAsked_17 ?_
      obtain ⟨v_35539, v_35541, v_35543, v_35545, v_35547, p_ad_1_0, b_35540, b_35542, b_35544, b_35546, b_35548⟩ := opnC_1 (j := 0) I (by decide)
      have p_ad_1_0 : pt L f (ad 1 0) (.inr (10, [.ref (ad 40 0), .ref (ad 41 0), .ref (ad 42 0), .ref (ad 10 0), .ref (ad 43 0), .ref (ad 20 0), .ref (ad 20 1), .ref (ad 20 2), .ref (ad 20 3), .ref (ad 20 4), .int v_35539, .int v_35541, .int v_35543, .int v_35545, .int v_35547])) := p_ad_1_0
      refine pg_getN S Y ok_X10 10 (by decide) kf0_72 (v := .int v_35539) p_ad_1_0 rfl dX0_fewestAsked_20 ?_
      refine lv_ishl hx hb dX0_fewestAsked_23 ?_
      refine lv_topi (fun x_35549 ex_35549 => ?_)
      refine lv_icmp_ge (tgt := 54) hx hb dX0_fewestAsked_24 (by decide) (fun c_35550 => ?_) (fun c_35550 => ?_)
      · have B_35551 : bn 1 64 y14_2 := bn_w (bn_ler c_35550 (bn_eq ex_35549 (bn_shl (n := 6) (bn_w b_35540 (by decide) : bn 0 6 v_35539) (by decide) (by decide))) b_y14_2) (by decide)
        refine lv_iload_n hx hb dX0_fewestAsked_54 rfl (lv_at hl 1 rfl) ?_
        exact prI (post := fun r L1 f1 => (True) ∧ L1 = L ∧ f1 = f) S Y rfl (by decide) (by decide) hA1 ⟨trivial, rfl, rfl⟩ dX0_fewestAsked_55
      · have B_35552 : bn 0 63 y14_2 := bn_w (bn_gtr c_35550 (bn_eq ex_35549 (bn_shl (n := 6) (bn_w b_35540 (by decide) : bn 0 6 v_35539) (by decide) (by decide))) b_y14_2) (by decide)
        refine lv_iload_n hx hb dX0_fewestAsked_27 rfl (lv_at hl 2 rfl) ?_
        refine cSp (As := [.int y14_2]) (rest := []) S Y (x_bitCount (l := l) ) cw_X106_bitCount_0f7a4 km0_42 rfl ⟨Nat.le_of_ble_eq_true rfl, Nat.le_of_ble_eq_true rfl⟩ hl.1 rfl (Nat.le_of_ble_eq_true rfl) ⟨Nat.le_of_ble_eq_true rfl, Nat.le_of_ble_eq_true rfl⟩ dX0_fewestAsked_28 (fun r_35553 H locs er_35553 Y => ?_)
        refine lv_iload_n hx hb dX0_fewestAsked_31 rfl (lv_at hl 1 rfl) ?_
        refine cSp (As := [.int y14_1]) (rest := [.int r_35553]) S Y (x_bitCount (l := l) ) cw_X106_bitCount_0f7a4 km0_42 rfl ⟨Nat.le_of_ble_eq_true rfl, Nat.le_of_ble_eq_true rfl⟩ hl.1 rfl (Nat.le_of_ble_eq_true rfl) ⟨Nat.le_of_ble_eq_true rfl, Nat.le_of_ble_eq_true rfl⟩ dX0_fewestAsked_32 (fun r_35554 H locs er_35554 Y => ?_)
        refine lv_icmp_ge (tgt := 48) hx hb dX0_fewestAsked_35 (by decide) (fun c_35555 => ?_) (fun c_35555 => ?_)
        · obtain ⟨x_35558, ex_35558⟩ : ∃ z : Int32, z = y14_2 + 1 := ⟨_, rfl⟩
          refine lv_iinc (v := x_35558) (lv' := [(2, .int x_35558), (0, .ref (ad 8 0)), (1, .int y14_1)]) hx hb dX0_fewestAsked_48 hl (k := 2) rfl (by rw [ex_35558]; rfl) (by decide) rfl (fun ls hl => ?_)
          refine lv_goto (tgt := 14) hx hb dX0_fewestAsked_51 (by decide) ?_
          exact ih14 _ (by rw [← hm14]; exact ms_up (m := 1) ex_35558 (show bn 1 1 (1 : Int32) from bn_k (by decide)) B_35552 (bn_w (bn_eq ex_35558 (bn_add B_35552 (show bn 1 1 (1 : Int32) from bn_k (by decide)) (by decide))) (by decide) : bn 0 64 x_35558) (by decide)) y14_1 x_35558  _ _ _  (bn_w b_y14_1 (by decide)) (bn_w (bn_eq ex_35558 (bn_add B_35552 (show bn 1 1 (1 : Int32) from bn_k (by decide)) (by decide))) (by decide)) rfl Y (lv_sub hl [1, 2, 0] rfl)
        · have B_35556 : bn (-2147483647) 2147483647 r_35554 := bn_w (bn_gtl c_35555 (bn_any r_35554) (bn_any r_35553)) (by decide)
          have B_35557 : bn (-2147483648) 2147483646 r_35553 := bn_w (bn_gtr c_35555 (bn_any r_35554) (bn_any r_35553)) (by decide)
          refine lv_aload_n hx hb dX0_fewestAsked_38 rfl (lv_at hl 0 rfl) ?_
          refine lv_iload_n hx hb dX0_fewestAsked_39 rfl (lv_at hl 2 rfl) ?_
          refine cVp (As := [.int y14_2]) (rest := []) S Y (x_X0_seesAll (l := l) I hW hT hQ) cw_X0_seesAll km0_75 p_ad_8_0 ok_X0.1 rfl rfl ⟨Nat.le_of_ble_eq_true rfl, Nat.le_of_ble_eq_true rfl⟩ hl.1 rfl (Nat.le_of_ble_eq_true rfl) ⟨Nat.le_of_ble_eq_true rfl, Nat.le_of_ble_eq_true rfl⟩ dX0_fewestAsked_40 (fun r_35559 H locs er_35559 Y => ?_)
          refine lv_if_eq (tgt := 48) hx hb dX0_fewestAsked_43 (by decide) (fun c_35560 => ?_) (fun c_35560 => ?_)
          · have B_35561 : bn 0 0 r_35559 := bn_w (bn_eq c_35560 (show bn 0 0 (0 : Int32) from bn_k (by decide))) (by decide)
            obtain ⟨x_35563, ex_35563⟩ : ∃ z : Int32, z = y14_2 + 1 := ⟨_, rfl⟩
            refine lv_iinc (v := x_35563) (lv' := [(2, .int x_35563), (0, .ref (ad 8 0)), (1, .int y14_1)]) hx hb dX0_fewestAsked_48 hl (k := 2) rfl (by rw [ex_35563]; rfl) (by decide) rfl (fun ls hl => ?_)
            refine lv_goto (tgt := 14) hx hb dX0_fewestAsked_51 (by decide) ?_
            exact ih14 _ (by rw [← hm14]; exact ms_up (m := 1) ex_35563 (show bn 1 1 (1 : Int32) from bn_k (by decide)) B_35552 (bn_w (bn_eq ex_35563 (bn_add B_35552 (show bn 1 1 (1 : Int32) from bn_k (by decide)) (by decide))) (by decide) : bn 0 64 x_35563) (by decide)) y14_1 x_35563  _ _ _  (bn_w b_y14_1 (by decide)) (bn_w (bn_eq ex_35563 (bn_add B_35552 (show bn 1 1 (1 : Int32) from bn_k (by decide)) (by decide))) (by decide)) rfl Y (lv_sub hl [1, 2, 0] rfl)
          · have B_35562 : bn 1 1 r_35559 := bn_w (bn_nel c_35560 er_35559 (show bn 0 0 (0 : Int32) from bn_k (by decide))) (by decide)
            refine lv_iload_n hx hb dX0_fewestAsked_46 rfl (lv_at hl 2 rfl) ?_
            refine lv_istore_n (lv' := [(1, .int y14_2), (0, .ref (ad 8 0)), (2, .int y14_2)]) hx hb dX0_fewestAsked_47 rfl hl (by decide) rfl (fun ls hl => ?_)
            obtain ⟨x_35564, ex_35564⟩ : ∃ z : Int32, z = y14_2 + 1 := ⟨_, rfl⟩
            refine lv_iinc (v := x_35564) (lv' := [(2, .int x_35564), (1, .int y14_2), (0, .ref (ad 8 0))]) hx hb dX0_fewestAsked_48 hl (k := 2) rfl (by rw [ex_35564]; rfl) (by decide) rfl (fun ls hl => ?_)
            refine lv_goto (tgt := 14) hx hb dX0_fewestAsked_51 (by decide) ?_
            exact ih14 _ (by rw [← hm14]; exact ms_up (m := 1) ex_35564 (show bn 1 1 (1 : Int32) from bn_k (by decide)) B_35552 (bn_w (bn_eq ex_35564 (bn_add B_35552 (show bn 1 1 (1 : Int32) from bn_k (by decide)) (by decide))) (by decide) : bn 0 64 x_35564) (by decide)) y14_2 x_35564  _ _ _  (bn_w B_35552 (by decide)) (bn_w (bn_eq ex_35564 (bn_add B_35552 (show bn 1 1 (1 : Int32) from bn_k (by decide)) (by decide))) (by decide)) rfl Y (lv_sub hl [2, 1, 0] rfl)
  refine lv_iconst (v := 1) hx hb dX0_fewestAsked_0 (by decide) ?_
  refine lv_aload_n hx hb dX0_fewestAsked_1 rfl (lv_at hl 0 rfl) ?_
  have p_ad_8_0 := opnC_8 (j := 0) I (by decide)
  have p_ad_8_0 : pt L f (ad 8 0) (.inr (0, [.ref (ad 1 0), .ref (ad 60 0), .ref (ad 61 0)])) := p_ad_8_0
  refine pg_get S Y ok_X0 0 (by decide) kf0_18 (v := .ref (ad 1 0)) p_ad_8_0 rfl dX0_fewestAsked_2 ?_
  obtain ⟨v_35565, v_35567, v_35569, v_35571, v_35573, p_ad_1_0, b_35566, b_35568, b_35570, b_35572, b_35574⟩ := opnC_1 (j := 0) I (by decide)
  have p_ad_1_0 : pt L f (ad 1 0) (.inr (10, [.ref (ad 40 0), .ref (ad 41 0), .ref (ad 42 0), .ref (ad 10 0), .ref (ad 43 0), .ref (ad 20 0), .ref (ad 20 1), .ref (ad 20 2), .ref (ad 20 3), .ref (ad 20 4), .int v_35565, .int v_35567, .int v_35569, .int v_35571, .int v_35573])) := p_ad_1_0
  refine pg_getN S Y ok_X10 10 (by decide) kf0_72 (v := .int v_35565) p_ad_1_0 rfl dX0_fewestAsked_5 ?_
  refine lv_ishl hx hb dX0_fewestAsked_8 ?_
  refine lv_topi (fun x_35575 ex_35575 => ?_)
  refine lv_iconst (v := 1) hx hb dX0_fewestAsked_9 (by decide) ?_
  refine lv_isub hx hb dX0_fewestAsked_10 ?_
  refine lv_topi (fun x_35576 ex_35576 => ?_)
  refine lv_istore_n (lv' := [(1, .int x_35576), (0, .ref (ad 8 0))]) hx hb dX0_fewestAsked_11 rfl hl (by decide) rfl (fun ls hl => ?_)
  refine lv_iconst (v := 0) hx hb dX0_fewestAsked_12 (by decide) ?_
  refine lv_istore_n (lv' := [(2, .int 0), (1, .int x_35576), (0, .ref (ad 8 0))]) hx hb dX0_fewestAsked_13 rfl hl (by decide) rfl (fun ls hl => ?_)
  exact J_14 _ x_35576 0  _ _ _  (bn_w (bn_eq ex_35576 (bn_sub (bn_eq ex_35575 (bn_shl (n := 6) (bn_w b_35566 (by decide) : bn 0 6 v_35565) (by decide) (by decide))) (show bn 1 1 (1 : Int32) from bn_k (by decide)) (by decide))) (by decide)) (bn_w (show bn 0 0 (0 : Int32) from bn_k (by decide)) (by decide)) rfl Y (lv_sub hl [2, 1, 0] rfl)
set_option maxHeartbeats 4000000 in
set_option maxRecDepth 100000 in
theorem x_X0_wordsOf {l : Launch} {G : GG}  {L : List Nat} {f : HF} {ad : Nat → Nat → Nat} {rs : RS} {fc : Int × Int} {tc w : Nat → Int × Int} {q : Nat → (Nat → Int32) → Prop} {i1 : Int32} (I : SH (spC rs fc tc w q) nnC G ad L f) (hW : WBp w 8) (hT : WBp tc 4) (hQ : QIp q) : PMp l yX0_wordsOf cX0_wordsOf 7 .int 3 0 0 G [.ref (ad 8 0), .int i1] L f (fun r => True) := by
  refine PMi.of (post := fun r L1 f1 => (True) ∧ L1 = L ∧ f1 = f) (own := RX0) (by decide) rfl (Nat.le_of_ble_eq_true rfl) (fun sz p e s m args below meth c A ls hA1 hname S Y hl => ?_)
  have hx := S.hx
  have hb := S.hb
  have hl : lv_has ls 7 [(0, .ref (ad 8 0)), (1, .int i1)] := hl
  have J_77 : ∀ (n77 : Nat) (y77_3 y77_4 y77_5 : Int32) (H : Heap) (locs : List Loc) (ls : Array Slot), (bn 0 16383 y77_4) → (bn 0 14 y77_5) → (((14 : Int) - y77_5.toInt).toNat = n77) → (DY G A s [] L f H locs) → (lv_has ls 7 [(0, .ref (ad 8 0)), (1, .int i1), (2, .ref (ad 10 0)), (3, .int y77_3), (4, .int y77_4), (5, .int y77_5)]) → W p l e (rmD 3 0 0) s m args below meth c H locs (0) (0) (MQ below (va_Qi (fun r (u : List Nat × HF) => (fun r L1 f1 => (True) ∧ L1 = L ∧ f1 = f) r u.1 u.2) (fun u t => pOut G (va_A (va_pl L f) sz) u.1 u.2 t) (va_A (va_pl L f) sz)) args s 0 0 A) (F0 m 77 ls []) := by
    intro n77
    induction n77 using Nat.strongRecOn with
    | _ n77 ih77 =>
      intro y77_3 y77_4 y77_5 H locs ls b_y77_4 b_y77_5 hm77 Y hl
      refine lv_iload hx hb dX0_wordsOf_77 (lv_at hl 5 rfl) ?_
      refine lv_aload_n hx hb dX0_wordsOf_79 rfl (lv_at hl 2 rfl) ?_
      obtain ⟨v_36357, v_36359, v_36361, v_36363, v_36365, p_ad_10_0, b_36358, b_36360, b_36362, b_36364, b_36366⟩ := opnC_10 (j := 0) I (by decide)
      have p_ad_10_0 : pt L f (ad 10 0) (.inr (4, [.ref (ad 11 0), .ref (ad 12 0), .int v_36357, .int v_36359, .int v_36361, .int v_36363, .int v_36365])) := p_ad_10_0
      refine pg_getN S Y ok_X4 2 (by decide) kf0_28 (v := .int v_36357) p_ad_10_0 rfl dX0_wordsOf_80 ?_
      refine lv_icmp_ge (tgt := 147) hx hb dX0_wordsOf_83 (by decide) (fun c_36367 => ?_) (fun c_36367 => ?_)
      · refine lv_iload hx hb dX0_wordsOf_147 (lv_at hl 4 rfl) ?_
        exact prI (post := fun r L1 f1 => (True) ∧ L1 = L ∧ f1 = f) S Y rfl (by decide) (by decide) hA1 ⟨trivial, rfl, rfl⟩ dX0_wordsOf_149
      · have B_36368 : bn 1 14 v_36357 := bn_w (bn_gtl c_36367 b_36358 b_y77_5) (by decide)
        have B_36369 : bn 0 13 y77_5 := bn_w (bn_gtr c_36367 b_36358 b_y77_5) (by decide)
        refine lv_iload_n hx hb dX0_wordsOf_86 rfl (lv_at hl 3 rfl) ?_
        refine lv_aload_n hx hb dX0_wordsOf_87 rfl (lv_at hl 2 rfl) ?_
        refine lv_iload hx hb dX0_wordsOf_88 (lv_at hl 5 rfl) ?_
        refine lv_iconst (v := 1) hx hb dX0_wordsOf_90 (by decide) ?_
        refine cVp (As := [.int y77_5, .int 1]) (rest := [.int y77_3]) S Y (x_X4_get (l := l) (j := 0) I hW hT hQ (by decide)) cw_X4_get km0_34 p_ad_10_0 ok_X4.1 rfl rfl ⟨Nat.le_of_ble_eq_true rfl, Nat.le_of_ble_eq_true rfl⟩ hl.1 rfl (Nat.le_of_ble_eq_true rfl) ⟨Nat.le_of_ble_eq_true rfl, Nat.le_of_ble_eq_true rfl⟩ dX0_wordsOf_91 (fun r_36370 H locs er_36370 Y => ?_)
        refine lv_ishr hx hb dX0_wordsOf_94 ?_
        refine lv_topi (fun x_36371 ex_36371 => ?_)
        refine lv_iconst (v := 1) hx hb dX0_wordsOf_95 (by decide) ?_
        refine lv_iand hx hb dX0_wordsOf_96 ?_
        refine lv_topi (fun x_36372 ex_36372 => ?_)
        refine lv_if_ne (tgt := 111) hx hb dX0_wordsOf_97 (by decide) (fun c_36373 => ?_) (fun c_36373 => ?_)
        · refine lv_iconst (v := 1) hx hb dX0_wordsOf_111 (by decide) ?_
          refine lv_goto (tgt := 116) hx hb dX0_wordsOf_112 (by decide) ?_
          refine lv_istore (lv' := [(6, .int 1), (0, .ref (ad 8 0)), (1, .int i1), (2, .ref (ad 10 0)), (3, .int y77_3), (4, .int y77_4), (5, .int y77_5)]) hx hb dX0_wordsOf_116 hl (by decide) rfl (fun ls hl => ?_)
          refine lv_iload hx hb dX0_wordsOf_118 (lv_at hl 0 rfl) ?_
          refine lv_if_eq (tgt := 141) hx hb dX0_wordsOf_120 (by decide) (fun h => absurd h (by decide)) (fun _ => ?_)
          refine lv_aload_n hx hb dX0_wordsOf_123 rfl (lv_at hl 3 rfl) ?_
          refine lv_iload hx hb dX0_wordsOf_124 (lv_at hl 6 rfl) ?_
          refine cVp (As := [.int y77_5]) (rest := []) S Y (x_X4_legible (l := l) (j := 0) I hW hT hQ (by decide)) cw_X4_legible km0_78 p_ad_10_0 ok_X4.1 rfl rfl ⟨Nat.le_of_ble_eq_true rfl, Nat.le_of_ble_eq_true rfl⟩ hl.1 rfl (Nat.le_of_ble_eq_true rfl) ⟨Nat.le_of_ble_eq_true rfl, Nat.le_of_ble_eq_true rfl⟩ dX0_wordsOf_126 (fun r_36375 H locs er_36375 Y => ?_)
          refine lv_if_eq (tgt := 141) hx hb dX0_wordsOf_129 (by decide) (fun c_36376 => ?_) (fun c_36376 => ?_)
          · have B_36377 : bn 0 0 r_36375 := bn_w (bn_eq c_36376 (show bn 0 0 (0 : Int32) from bn_k (by decide))) (by decide)
            obtain ⟨x_36379, ex_36379⟩ : ∃ z : Int32, z = y77_5 + 1 := ⟨_, rfl⟩
            refine lv_iinc (v := x_36379) (lv' := [(5, .int x_36379), (6, .int 1), (0, .ref (ad 8 0)), (1, .int i1), (2, .ref (ad 10 0)), (3, .int y77_3), (4, .int y77_4)]) hx hb dX0_wordsOf_141 hl (k := 6) rfl (by rw [ex_36379]; rfl) (by decide) rfl (fun ls hl => ?_)
            refine lv_goto (tgt := 77) hx hb dX0_wordsOf_144 (by decide) ?_
            exact ih77 _ (by rw [← hm77]; exact ms_up (m := 1) ex_36379 (show bn 1 1 (1 : Int32) from bn_k (by decide)) B_36369 (bn_w (bn_eq ex_36379 (bn_add B_36369 (show bn 1 1 (1 : Int32) from bn_k (by decide)) (by decide))) (by decide) : bn 0 14 x_36379) (by decide)) y77_3 y77_4 x_36379  _ _ _  (bn_w b_y77_4 (by decide)) (bn_w (bn_eq ex_36379 (bn_add B_36369 (show bn 1 1 (1 : Int32) from bn_k (by decide)) (by decide))) (by decide)) rfl Y (lv_sub hl [2, 3, 4, 5, 6, 0] rfl)
          · have B_36378 : bn 1 1 r_36375 := bn_w (bn_nel c_36376 er_36375 (show bn 0 0 (0 : Int32) from bn_k (by decide))) (by decide)
            refine lv_iload hx hb dX0_wordsOf_132 (lv_at hl 5 rfl) ?_
            refine lv_iconst (v := 1) hx hb dX0_wordsOf_134 (by decide) ?_
            refine lv_iload hx hb dX0_wordsOf_135 (lv_at hl 6 rfl) ?_
            refine lv_ishl hx hb dX0_wordsOf_137 ?_
            refine lv_topi (fun x_36380 ex_36380 => ?_)
            refine lv_ior hx hb dX0_wordsOf_138 ?_
            refine lv_topi (fun x_36381 ex_36381 => ?_)
            refine lv_istore (lv' := [(4, .int x_36381), (6, .int 1), (0, .ref (ad 8 0)), (1, .int i1), (2, .ref (ad 10 0)), (3, .int y77_3), (5, .int y77_5)]) hx hb dX0_wordsOf_139 hl (by decide) rfl (fun ls hl => ?_)
            obtain ⟨x_36382, ex_36382⟩ : ∃ z : Int32, z = y77_5 + 1 := ⟨_, rfl⟩
            refine lv_iinc (v := x_36382) (lv' := [(5, .int x_36382), (4, .int x_36381), (6, .int 1), (0, .ref (ad 8 0)), (1, .int i1), (2, .ref (ad 10 0)), (3, .int y77_3)]) hx hb dX0_wordsOf_141 hl (k := 6) rfl (by rw [ex_36382]; rfl) (by decide) rfl (fun ls hl => ?_)
            refine lv_goto (tgt := 77) hx hb dX0_wordsOf_144 (by decide) ?_
            exact ih77 _ (by rw [← hm77]; exact ms_up (m := 1) ex_36382 (show bn 1 1 (1 : Int32) from bn_k (by decide)) B_36369 (bn_w (bn_eq ex_36382 (bn_add B_36369 (show bn 1 1 (1 : Int32) from bn_k (by decide)) (by decide))) (by decide) : bn 0 14 x_36382) (by decide)) y77_3 x_36381 x_36382  _ _ _  (bn_w (bn_eq ex_36381 (bn_or (n := 14) (bn_w b_y77_4 (by decide) : bn 0 16383 y77_4) (bn_w (bn_eq ex_36380 (bn_shl (n := 13) (bn_w B_36369 (by decide) : bn 0 13 y77_5) (by decide) (by decide))) (by decide) : bn 0 8192 x_36380) (by decide) (by decide))) (by decide)) (bn_w (bn_eq ex_36382 (bn_add B_36369 (show bn 1 1 (1 : Int32) from bn_k (by decide)) (by decide))) (by decide)) rfl Y (lv_sub hl [3, 4, 5, 6, 1, 0] rfl)
        · have B_36374 : bn 0 0 x_36372 := bn_w (bn_eq c_36373 (show bn 0 0 (0 : Int32) from bn_k (by decide))) (by decide)
          refine lv_aload_n hx hb dX0_wordsOf_100 rfl (lv_at hl 2 rfl) ?_
          refine lv_iload hx hb dX0_wordsOf_101 (lv_at hl 5 rfl) ?_
          refine lv_iconst (v := 0) hx hb dX0_wordsOf_103 (by decide) ?_
          refine cVp (As := [.int y77_5, .int 0]) (rest := []) S Y (x_X4_get (l := l) (j := 0) I hW hT hQ (by decide)) cw_X4_get km0_34 p_ad_10_0 ok_X4.1 rfl rfl ⟨Nat.le_of_ble_eq_true rfl, Nat.le_of_ble_eq_true rfl⟩ hl.1 rfl (Nat.le_of_ble_eq_true rfl) ⟨Nat.le_of_ble_eq_true rfl, Nat.le_of_ble_eq_true rfl⟩ dX0_wordsOf_104 (fun r_36383 H locs er_36383 Y => ?_)
          refine lv_iload_n hx hb dX0_wordsOf_107 rfl (lv_at hl 1 rfl) ?_
          refine lv_icmp_ne (tgt := 115) hx hb dX0_wordsOf_108 (by decide) (fun c_36384 => ?_) (fun c_36384 => ?_)
          · refine lv_iconst (v := 0) hx hb dX0_wordsOf_115 (by decide) ?_
            refine lv_istore (lv' := [(6, .int 0), (0, .ref (ad 8 0)), (1, .int i1), (2, .ref (ad 10 0)), (3, .int y77_3), (4, .int y77_4), (5, .int y77_5)]) hx hb dX0_wordsOf_116 hl (by decide) rfl (fun ls hl => ?_)
            refine lv_iload hx hb dX0_wordsOf_118 (lv_at hl 0 rfl) ?_
            refine lv_if_eq (tgt := 141) hx hb dX0_wordsOf_120 (by decide) (fun _ => ?_) (fun h => absurd (by decide) h)
            obtain ⟨x_36385, ex_36385⟩ : ∃ z : Int32, z = y77_5 + 1 := ⟨_, rfl⟩
            refine lv_iinc (v := x_36385) (lv' := [(5, .int x_36385), (6, .int 0), (0, .ref (ad 8 0)), (1, .int i1), (2, .ref (ad 10 0)), (3, .int y77_3), (4, .int y77_4)]) hx hb dX0_wordsOf_141 hl (k := 6) rfl (by rw [ex_36385]; rfl) (by decide) rfl (fun ls hl => ?_)
            refine lv_goto (tgt := 77) hx hb dX0_wordsOf_144 (by decide) ?_
            exact ih77 _ (by rw [← hm77]; exact ms_up (m := 1) ex_36385 (show bn 1 1 (1 : Int32) from bn_k (by decide)) B_36369 (bn_w (bn_eq ex_36385 (bn_add B_36369 (show bn 1 1 (1 : Int32) from bn_k (by decide)) (by decide))) (by decide) : bn 0 14 x_36385) (by decide)) y77_3 y77_4 x_36385  _ _ _  (bn_w b_y77_4 (by decide)) (bn_w (bn_eq ex_36385 (bn_add B_36369 (show bn 1 1 (1 : Int32) from bn_k (by decide)) (by decide))) (by decide)) rfl Y (lv_sub hl [2, 3, 4, 5, 6, 0] rfl)
          · refine lv_iconst (v := 1) hx hb dX0_wordsOf_111 (by decide) ?_
            refine lv_goto (tgt := 116) hx hb dX0_wordsOf_112 (by decide) ?_
            refine lv_istore (lv' := [(6, .int 1), (0, .ref (ad 8 0)), (1, .int i1), (2, .ref (ad 10 0)), (3, .int y77_3), (4, .int y77_4), (5, .int y77_5)]) hx hb dX0_wordsOf_116 hl (by decide) rfl (fun ls hl => ?_)
            refine lv_iload hx hb dX0_wordsOf_118 (lv_at hl 0 rfl) ?_
            refine lv_if_eq (tgt := 141) hx hb dX0_wordsOf_120 (by decide) (fun h => absurd h (by decide)) (fun _ => ?_)
            refine lv_aload_n hx hb dX0_wordsOf_123 rfl (lv_at hl 3 rfl) ?_
            refine lv_iload hx hb dX0_wordsOf_124 (lv_at hl 6 rfl) ?_
            refine cVp (As := [.int y77_5]) (rest := []) S Y (x_X4_legible (l := l) (j := 0) I hW hT hQ (by decide)) cw_X4_legible km0_78 p_ad_10_0 ok_X4.1 rfl rfl ⟨Nat.le_of_ble_eq_true rfl, Nat.le_of_ble_eq_true rfl⟩ hl.1 rfl (Nat.le_of_ble_eq_true rfl) ⟨Nat.le_of_ble_eq_true rfl, Nat.le_of_ble_eq_true rfl⟩ dX0_wordsOf_126 (fun r_36386 H locs er_36386 Y => ?_)
            refine lv_if_eq (tgt := 141) hx hb dX0_wordsOf_129 (by decide) (fun c_36387 => ?_) (fun c_36387 => ?_)
            · have B_36388 : bn 0 0 r_36386 := bn_w (bn_eq c_36387 (show bn 0 0 (0 : Int32) from bn_k (by decide))) (by decide)
              obtain ⟨x_36390, ex_36390⟩ : ∃ z : Int32, z = y77_5 + 1 := ⟨_, rfl⟩
              refine lv_iinc (v := x_36390) (lv' := [(5, .int x_36390), (6, .int 1), (0, .ref (ad 8 0)), (1, .int i1), (2, .ref (ad 10 0)), (3, .int y77_3), (4, .int y77_4)]) hx hb dX0_wordsOf_141 hl (k := 6) rfl (by rw [ex_36390]; rfl) (by decide) rfl (fun ls hl => ?_)
              refine lv_goto (tgt := 77) hx hb dX0_wordsOf_144 (by decide) ?_
              exact ih77 _ (by rw [← hm77]; exact ms_up (m := 1) ex_36390 (show bn 1 1 (1 : Int32) from bn_k (by decide)) B_36369 (bn_w (bn_eq ex_36390 (bn_add B_36369 (show bn 1 1 (1 : Int32) from bn_k (by decide)) (by decide))) (by decide) : bn 0 14 x_36390) (by decide)) y77_3 y77_4 x_36390  _ _ _  (bn_w b_y77_4 (by decide)) (bn_w (bn_eq ex_36390 (bn_add B_36369 (show bn 1 1 (1 : Int32) from bn_k (by decide)) (by decide))) (by decide)) rfl Y (lv_sub hl [2, 3, 4, 5, 6, 0] rfl)
            · have B_36389 : bn 1 1 r_36386 := bn_w (bn_nel c_36387 er_36386 (show bn 0 0 (0 : Int32) from bn_k (by decide))) (by decide)
              refine lv_iload hx hb dX0_wordsOf_132 (lv_at hl 5 rfl) ?_
              refine lv_iconst (v := 1) hx hb dX0_wordsOf_134 (by decide) ?_
              refine lv_iload hx hb dX0_wordsOf_135 (lv_at hl 6 rfl) ?_
              refine lv_ishl hx hb dX0_wordsOf_137 ?_
              refine lv_topi (fun x_36391 ex_36391 => ?_)
              refine lv_ior hx hb dX0_wordsOf_138 ?_
              refine lv_topi (fun x_36392 ex_36392 => ?_)
              refine lv_istore (lv' := [(4, .int x_36392), (6, .int 1), (0, .ref (ad 8 0)), (1, .int i1), (2, .ref (ad 10 0)), (3, .int y77_3), (5, .int y77_5)]) hx hb dX0_wordsOf_139 hl (by decide) rfl (fun ls hl => ?_)
              obtain ⟨x_36393, ex_36393⟩ : ∃ z : Int32, z = y77_5 + 1 := ⟨_, rfl⟩
              refine lv_iinc (v := x_36393) (lv' := [(5, .int x_36393), (4, .int x_36392), (6, .int 1), (0, .ref (ad 8 0)), (1, .int i1), (2, .ref (ad 10 0)), (3, .int y77_3)]) hx hb dX0_wordsOf_141 hl (k := 6) rfl (by rw [ex_36393]; rfl) (by decide) rfl (fun ls hl => ?_)
              refine lv_goto (tgt := 77) hx hb dX0_wordsOf_144 (by decide) ?_
              exact ih77 _ (by rw [← hm77]; exact ms_up (m := 1) ex_36393 (show bn 1 1 (1 : Int32) from bn_k (by decide)) B_36369 (bn_w (bn_eq ex_36393 (bn_add B_36369 (show bn 1 1 (1 : Int32) from bn_k (by decide)) (by decide))) (by decide) : bn 0 14 x_36393) (by decide)) y77_3 x_36392 x_36393  _ _ _  (bn_w (bn_eq ex_36392 (bn_or (n := 14) (bn_w b_y77_4 (by decide) : bn 0 16383 y77_4) (bn_w (bn_eq ex_36391 (bn_shl (n := 13) (bn_w B_36369 (by decide) : bn 0 13 y77_5) (by decide) (by decide))) (by decide) : bn 0 8192 x_36391) (by decide) (by decide))) (by decide)) (bn_w (bn_eq ex_36393 (bn_add B_36369 (show bn 1 1 (1 : Int32) from bn_k (by decide)) (by decide))) (by decide)) rfl Y (lv_sub hl [3, 4, 5, 6, 1, 0] rfl)
  have J_15 : ∀ (n15 : Nat) (y15_3 y15_4 : Int32) (H : Heap) (locs : List Loc) (ls : Array Slot), (bn 0 8 y15_4) → (((8 : Int) - y15_4.toInt).toNat = n15) → (DY G A s [] L f H locs) → (lv_has ls 7 [(0, .ref (ad 8 0)), (1, .int i1), (2, .ref (ad 10 0)), (3, .int y15_3), (4, .int y15_4)]) → W p l e (rmD 3 0 0) s m args below meth c H locs (0) (0) (MQ below (va_Qi (fun r (u : List Nat × HF) => (fun r L1 f1 => (True) ∧ L1 = L ∧ f1 = f) r u.1 u.2) (fun u t => pOut G (va_A (va_pl L f) sz) u.1 u.2 t) (va_A (va_pl L f) sz)) args s 0 0 A) (F0 m 15 ls []) := by
    intro n15
    induction n15 using Nat.strongRecOn with
    | _ n15 ih15 =>
      intro y15_3 y15_4 H locs ls b_y15_4 hm15 Y hl
      refine lv_iload hx hb dX0_wordsOf_15 (lv_at hl 4 rfl) ?_
      refine lv_aload_n hx hb dX0_wordsOf_17 rfl (lv_at hl 0 rfl) ?_
      have p_ad_8_0 := opnC_8 (j := 0) I (by decide)
      have p_ad_8_0 : pt L f (ad 8 0) (.inr (0, [.ref (ad 1 0), .ref (ad 60 0), .ref (ad 61 0)])) := p_ad_8_0
      refine pg_get S Y ok_X0 0 (by decide) kf0_18 (v := .ref (ad 1 0)) p_ad_8_0 rfl dX0_wordsOf_18 ?_
      obtain ⟨v_36394, v_36396, v_36398, v_36400, v_36402, p_ad_1_0, b_36395, b_36397, b_36399, b_36401, b_36403⟩ := opnC_1 (j := 0) I (by decide)
      have p_ad_1_0 : pt L f (ad 1 0) (.inr (10, [.ref (ad 40 0), .ref (ad 41 0), .ref (ad 42 0), .ref (ad 10 0), .ref (ad 43 0), .ref (ad 20 0), .ref (ad 20 1), .ref (ad 20 2), .ref (ad 20 3), .ref (ad 20 4), .int v_36394, .int v_36396, .int v_36398, .int v_36400, .int v_36402])) := p_ad_1_0
      refine pg_getN S Y ok_X10 8 (by decide) kf0_81 (v := .ref (ad 20 3)) p_ad_1_0 rfl dX0_wordsOf_21 ?_
      obtain ⟨v_36404, v_36406, p_ad_20_3, b_36405, b_36407⟩ := opnC_20 (j := 3) I (by decide)
      have p_ad_20_3 : pt L f (ad 20 3) (.inr (9, [.ref (ad 21 3), .int v_36404, .int v_36406])) := p_ad_20_3
      refine pg_getN S Y ok_X9 2 (by decide) kf0_56 (v := .int v_36406) p_ad_20_3 rfl dX0_wordsOf_24 ?_
      refine lv_icmp_ge (tgt := 71) hx hb dX0_wordsOf_27 (by decide) (fun c_36408 => ?_) (fun c_36408 => ?_)
      · refine lv_iconst (v := 0) hx hb dX0_wordsOf_71 (by decide) ?_
        refine lv_istore (lv' := [(4, .int 0), (0, .ref (ad 8 0)), (1, .int i1), (2, .ref (ad 10 0)), (3, .int y15_3)]) hx hb dX0_wordsOf_72 hl (by decide) rfl (fun ls hl => ?_)
        refine lv_iconst (v := 0) hx hb dX0_wordsOf_74 (by decide) ?_
        refine lv_istore (lv' := [(5, .int 0), (4, .int 0), (0, .ref (ad 8 0)), (1, .int i1), (2, .ref (ad 10 0)), (3, .int y15_3)]) hx hb dX0_wordsOf_75 hl (by decide) rfl (fun ls hl => ?_)
        exact J_77 _ y15_3 0 0  _ _ _  (bn_w (show bn 0 0 (0 : Int32) from bn_k (by decide)) (by decide)) (bn_w (show bn 0 0 (0 : Int32) from bn_k (by decide)) (by decide)) rfl Y (lv_sub hl [2, 3, 4, 5, 1, 0] rfl)
      · have B_36409 : bn 1 8 v_36406 := bn_w (bn_gtl c_36408 (bn_w (a' := 0) (b' := 8) b_36407 (hW 3)) b_y15_4) (by decide)
        have B_36410 : bn 0 7 y15_4 := bn_w (bn_gtr c_36408 (bn_w (a' := 0) (b' := 8) b_36407 (hW 3)) b_y15_4) (by decide)
        refine lv_aload_n hx hb dX0_wordsOf_30 rfl (lv_at hl 0 rfl) ?_
        refine pg_get S Y ok_X0 0 (by decide) kf0_18 (v := .ref (ad 1 0)) p_ad_8_0 rfl dX0_wordsOf_31 ?_
        refine pg_getN S Y ok_X10 8 (by decide) kf0_81 (v := .ref (ad 20 3)) p_ad_1_0 rfl dX0_wordsOf_34 ?_
        refine lv_iload hx hb dX0_wordsOf_37 (lv_at hl 4 rfl) ?_
        refine lv_iconst (v := 0) hx hb dX0_wordsOf_39 (by decide) ?_
        refine cVp (As := [.int y15_4, .int 0]) (rest := []) S Y (x_X9_get (l := l) (j := 3) I hW hT hQ (by decide)) cw_X9_get km0_61 p_ad_20_3 ok_X9.1 rfl rfl ⟨Nat.le_of_ble_eq_true rfl, Nat.le_of_ble_eq_true rfl⟩ hl.1 rfl (Nat.le_of_ble_eq_true rfl) ⟨Nat.le_of_ble_eq_true rfl, Nat.le_of_ble_eq_true rfl⟩ dX0_wordsOf_40 (fun r_36411 H locs er_36411 Y => ?_)
        refine lv_iload_n hx hb dX0_wordsOf_43 rfl (lv_at hl 1 rfl) ?_
        refine lv_icmp_ne (tgt := 65) hx hb dX0_wordsOf_44 (by decide) (fun c_36412 => ?_) (fun c_36412 => ?_)
        · obtain ⟨x_36413, ex_36413⟩ : ∃ z : Int32, z = y15_4 + 1 := ⟨_, rfl⟩
          refine lv_iinc (v := x_36413) (lv' := [(4, .int x_36413), (0, .ref (ad 8 0)), (1, .int i1), (2, .ref (ad 10 0)), (3, .int y15_3)]) hx hb dX0_wordsOf_65 hl (k := 4) rfl (by rw [ex_36413]; rfl) (by decide) rfl (fun ls hl => ?_)
          refine lv_goto (tgt := 15) hx hb dX0_wordsOf_68 (by decide) ?_
          exact ih15 _ (by rw [← hm15]; exact ms_up (m := 1) ex_36413 (show bn 1 1 (1 : Int32) from bn_k (by decide)) B_36410 (bn_w (bn_eq ex_36413 (bn_add B_36410 (show bn 1 1 (1 : Int32) from bn_k (by decide)) (by decide))) (by decide) : bn 0 8 x_36413) (by decide)) y15_3 x_36413  _ _ _  (bn_w (bn_eq ex_36413 (bn_add B_36410 (show bn 1 1 (1 : Int32) from bn_k (by decide)) (by decide))) (by decide)) rfl Y (lv_sub hl [1, 2, 3, 4, 0] rfl)
        · refine lv_iload_n hx hb dX0_wordsOf_47 rfl (lv_at hl 3 rfl) ?_
          refine lv_iconst (v := 1) hx hb dX0_wordsOf_48 (by decide) ?_
          refine lv_aload_n hx hb dX0_wordsOf_49 rfl (lv_at hl 0 rfl) ?_
          refine pg_get S Y ok_X0 0 (by decide) kf0_18 (v := .ref (ad 1 0)) p_ad_8_0 rfl dX0_wordsOf_50 ?_
          refine pg_getN S Y ok_X10 8 (by decide) kf0_81 (v := .ref (ad 20 3)) p_ad_1_0 rfl dX0_wordsOf_53 ?_
          refine lv_iload hx hb dX0_wordsOf_56 (lv_at hl 4 rfl) ?_
          refine lv_iconst (v := 1) hx hb dX0_wordsOf_58 (by decide) ?_
          refine cVp (As := [.int y15_4, .int 1]) (rest := [.int 1, .int y15_3]) S Y (x_X9_get (l := l) (j := 3) I hW hT hQ (by decide)) cw_X9_get km0_61 p_ad_20_3 ok_X9.1 rfl rfl ⟨Nat.le_of_ble_eq_true rfl, Nat.le_of_ble_eq_true rfl⟩ hl.1 rfl (Nat.le_of_ble_eq_true rfl) ⟨Nat.le_of_ble_eq_true rfl, Nat.le_of_ble_eq_true rfl⟩ dX0_wordsOf_59 (fun r_36414 H locs er_36414 Y => ?_)
          refine lv_ishl hx hb dX0_wordsOf_62 ?_
          refine lv_topi (fun x_36415 ex_36415 => ?_)
          refine lv_ior hx hb dX0_wordsOf_63 ?_
          refine lv_topi (fun x_36416 ex_36416 => ?_)
          refine lv_istore_n (lv' := [(3, .int x_36416), (0, .ref (ad 8 0)), (1, .int i1), (2, .ref (ad 10 0)), (4, .int y15_4)]) hx hb dX0_wordsOf_64 rfl hl (by decide) rfl (fun ls hl => ?_)
          obtain ⟨x_36417, ex_36417⟩ : ∃ z : Int32, z = y15_4 + 1 := ⟨_, rfl⟩
          refine lv_iinc (v := x_36417) (lv' := [(4, .int x_36417), (3, .int x_36416), (0, .ref (ad 8 0)), (1, .int i1), (2, .ref (ad 10 0))]) hx hb dX0_wordsOf_65 hl (k := 4) rfl (by rw [ex_36417]; rfl) (by decide) rfl (fun ls hl => ?_)
          refine lv_goto (tgt := 15) hx hb dX0_wordsOf_68 (by decide) ?_
          exact ih15 _ (by rw [← hm15]; exact ms_up (m := 1) ex_36417 (show bn 1 1 (1 : Int32) from bn_k (by decide)) B_36410 (bn_w (bn_eq ex_36417 (bn_add B_36410 (show bn 1 1 (1 : Int32) from bn_k (by decide)) (by decide))) (by decide) : bn 0 8 x_36417) (by decide)) x_36416 x_36417  _ _ _  (bn_w (bn_eq ex_36417 (bn_add B_36410 (show bn 1 1 (1 : Int32) from bn_k (by decide)) (by decide))) (by decide)) rfl Y (lv_sub hl [2, 3, 4, 1, 0] rfl)
  refine lv_aload_n hx hb dX0_wordsOf_0 rfl (lv_at hl 0 rfl) ?_
  have p_ad_8_0 := opnC_8 (j := 0) I (by decide)
  have p_ad_8_0 : pt L f (ad 8 0) (.inr (0, [.ref (ad 1 0), .ref (ad 60 0), .ref (ad 61 0)])) := p_ad_8_0
  refine pg_get S Y ok_X0 0 (by decide) kf0_18 (v := .ref (ad 1 0)) p_ad_8_0 rfl dX0_wordsOf_1 ?_
  obtain ⟨v_36418, v_36420, v_36422, v_36424, v_36426, p_ad_1_0, b_36419, b_36421, b_36423, b_36425, b_36427⟩ := opnC_1 (j := 0) I (by decide)
  have p_ad_1_0 : pt L f (ad 1 0) (.inr (10, [.ref (ad 40 0), .ref (ad 41 0), .ref (ad 42 0), .ref (ad 10 0), .ref (ad 43 0), .ref (ad 20 0), .ref (ad 20 1), .ref (ad 20 2), .ref (ad 20 3), .ref (ad 20 4), .int v_36418, .int v_36420, .int v_36422, .int v_36424, .int v_36426])) := p_ad_1_0
  refine pg_getN S Y ok_X10 3 (by decide) kf0_22 (v := .ref (ad 10 0)) p_ad_1_0 rfl dX0_wordsOf_4 ?_
  refine lv_astore_n (lv' := [(2, .ref (ad 10 0)), (0, .ref (ad 8 0)), (1, .int i1)]) hx hb dX0_wordsOf_7 rfl hl (by decide) rfl (fun ls hl => ?_)
  refine lv_iconst (v := 1) hx hb dX0_wordsOf_8 (by decide) ?_
  refine lv_iload_n hx hb dX0_wordsOf_9 rfl (lv_at hl 2 rfl) ?_
  refine lv_ishl hx hb dX0_wordsOf_10 ?_
  refine lv_topi (fun x_36428 ex_36428 => ?_)
  refine lv_istore_n (lv' := [(3, .int x_36428), (2, .ref (ad 10 0)), (0, .ref (ad 8 0)), (1, .int i1)]) hx hb dX0_wordsOf_11 rfl hl (by decide) rfl (fun ls hl => ?_)
  refine lv_iconst (v := 0) hx hb dX0_wordsOf_12 (by decide) ?_
  refine lv_istore (lv' := [(4, .int 0), (3, .int x_36428), (2, .ref (ad 10 0)), (0, .ref (ad 8 0)), (1, .int i1)]) hx hb dX0_wordsOf_13 hl (by decide) rfl (fun ls hl => ?_)
  exact J_15 _ x_36428 0  _ _ _  (bn_w (show bn 0 0 (0 : Int32) from bn_k (by decide)) (by decide)) rfl Y (lv_sub hl [3, 4, 2, 1, 0] rfl)
set_option maxHeartbeats 4000000 in
set_option maxRecDepth 100000 in
theorem x_X0_knownTo {l : Launch} {G : GG}  {L : List Nat} {f : HF} {ad : Nat → Nat → Nat} {rs : RS} {fc : Int × Int} {tc w : Nat → Int × Int} {q : Nat → (Nat → Int32) → Prop} {i1 : Int32} (I : SH (spC rs fc tc w q) nnC G ad L f) (hW : WBp w 8) (hT : WBp tc 4) (hQ : QIp q) : PMp l yX0_knownTo cX0_knownTo 4 .int 0 0 0 G [.ref (ad 8 0), .int i1] L f (fun r => True) := by
  refine PMi.of (post := fun r L1 f1 => (True) ∧ L1 = L ∧ f1 = f) (own := RX0) (by decide) rfl (Nat.le_of_ble_eq_true rfl) (fun sz p e s m args below meth c A ls hA1 hname S Y hl => ?_)
  have hx := S.hx
  have hb := S.hb
  have hl : lv_has ls 4 [(0, .ref (ad 8 0)), (1, .int i1)] := hl
  have J_4 : ∀ (n4 : Nat) (y4_2 y4_3 : Int32) (H : Heap) (locs : List Loc) (ls : Array Slot), (bn 0 6 y4_3) → (((6 : Int) - y4_3.toInt).toNat = n4) → (DY G A s [] L f H locs) → (lv_has ls 4 [(0, .ref (ad 8 0)), (1, .int i1), (2, .int y4_2), (3, .int y4_3)]) → W p l e (rmD 0 0 0) s m args below meth c H locs (0) (0) (MQ below (va_Qi (fun r (u : List Nat × HF) => (fun r L1 f1 => (True) ∧ L1 = L ∧ f1 = f) r u.1 u.2) (fun u t => pOut G (va_A (va_pl L f) sz) u.1 u.2 t) (va_A (va_pl L f) sz)) args s 0 0 A) (F0 m 4 ls []) := by
    intro n4
    induction n4 using Nat.strongRecOn with
    | _ n4 ih4 =>
      intro y4_2 y4_3 H locs ls b_y4_3 hm4 Y hl
      refine lv_iload_n hx hb dX0_knownTo_4 rfl (lv_at hl 3 rfl) ?_
      refine lv_bipush (v := 6) hx hb dX0_knownTo_5 (by decide) ?_
      refine lv_icmp_ge (tgt := 37) hx hb dX0_knownTo_7 (by decide) (fun c_36523 => ?_) (fun c_36523 => ?_)
      · have B_36524 : bn 6 6 y4_3 := bn_w (bn_ler c_36523 (show bn 6 6 (6 : Int32) from bn_k (by decide)) b_y4_3) (by decide)
        refine lv_iload_n hx hb dX0_knownTo_37 rfl (lv_at hl 2 rfl) ?_
        exact prI (post := fun r L1 f1 => (True) ∧ L1 = L ∧ f1 = f) S Y rfl (by decide) (by decide) hA1 ⟨trivial, rfl, rfl⟩ dX0_knownTo_38
      · have B_36525 : bn 0 5 y4_3 := bn_w (bn_gtr c_36523 (show bn 6 6 (6 : Int32) from bn_k (by decide)) b_y4_3) (by decide)
        refine lv_iload_n hx hb dX0_knownTo_10 rfl (lv_at hl 2 rfl) ?_
        refine lv_iload_n hx hb dX0_knownTo_11 rfl (lv_at hl 1 rfl) ?_
        refine lv_iload_n hx hb dX0_knownTo_12 rfl (lv_at hl 3 rfl) ?_
        refine lv_ishr hx hb dX0_knownTo_13 ?_
        refine lv_topi (fun x_36526 ex_36526 => ?_)
        refine lv_iconst (v := 1) hx hb dX0_knownTo_14 (by decide) ?_
        refine lv_iand hx hb dX0_knownTo_15 ?_
        refine lv_topi (fun x_36527 ex_36527 => ?_)
        refine lv_if_eq (tgt := 28) hx hb dX0_knownTo_16 (by decide) (fun c_36528 => ?_) (fun c_36528 => ?_)
        · have B_36529 : bn 0 0 x_36527 := bn_w (bn_eq c_36528 (show bn 0 0 (0 : Int32) from bn_k (by decide))) (by decide)
          refine lv_iconst (v := 0) hx hb dX0_knownTo_28 (by decide) ?_
          refine lv_ior hx hb dX0_knownTo_29 ?_
          refine lv_topi (fun x_36530 ex_36530 => ?_)
          refine lv_istore_n (lv' := [(2, .int x_36530), (0, .ref (ad 8 0)), (1, .int i1), (3, .int y4_3)]) hx hb dX0_knownTo_30 rfl hl (by decide) rfl (fun ls hl => ?_)
          obtain ⟨x_36531, ex_36531⟩ : ∃ z : Int32, z = y4_3 + 1 := ⟨_, rfl⟩
          refine lv_iinc (v := x_36531) (lv' := [(3, .int x_36531), (2, .int x_36530), (0, .ref (ad 8 0)), (1, .int i1)]) hx hb dX0_knownTo_31 hl (k := 3) rfl (by rw [ex_36531]; rfl) (by decide) rfl (fun ls hl => ?_)
          refine lv_goto (tgt := 4) hx hb dX0_knownTo_34 (by decide) ?_
          exact ih4 _ (by rw [← hm4]; exact ms_up (m := 1) ex_36531 (show bn 1 1 (1 : Int32) from bn_k (by decide)) B_36525 (bn_w (bn_eq ex_36531 (bn_add B_36525 (show bn 1 1 (1 : Int32) from bn_k (by decide)) (by decide))) (by decide) : bn 0 6 x_36531) (by decide)) x_36530 x_36531  _ _ _  (bn_w (bn_eq ex_36531 (bn_add B_36525 (show bn 1 1 (1 : Int32) from bn_k (by decide)) (by decide))) (by decide)) rfl Y (lv_sub hl [2, 3, 1, 0] rfl)
        · refine lv_aload_n hx hb dX0_knownTo_19 rfl (lv_at hl 0 rfl) ?_
          have p_ad_8_0 := opnC_8 (j := 0) I (by decide)
          have p_ad_8_0 : pt L f (ad 8 0) (.inr (0, [.ref (ad 1 0), .ref (ad 60 0), .ref (ad 61 0)])) := p_ad_8_0
          refine pg_get S Y ok_X0 2 (by decide) kf0_15 (v := .ref (ad 61 0)) p_ad_8_0 rfl dX0_knownTo_20 ?_
          refine lv_iload_n hx hb dX0_knownTo_23 rfl (lv_at hl 3 rfl) ?_
          obtain ⟨g_36532, p_ad_61_0, o_36533⟩ := I.opi (k := 61) (j := 0) (by decide) rfl
          have p_ad_61_0 : pt L f (ad 61 0) (.inl (G.2 0, 6, .inl g_36532)) := p_ad_61_0
          obtain ⟨v_36534, ev_36534⟩ : ∃ z, z = g_36532 (y4_3 : Int32).toNatClampNeg := ⟨_, rfl⟩
          refine pg_iald S Y (v := v_36534) p_ad_61_0 (vp_bn B_36525 (by decide)) ev_36534.symm dX0_knownTo_24 ?_
          refine lv_goto (tgt := 29) hx hb dX0_knownTo_25 (by decide) ?_
          refine lv_ior hx hb dX0_knownTo_29 ?_
          refine lv_topi (fun x_36535 ex_36535 => ?_)
          refine lv_istore_n (lv' := [(2, .int x_36535), (0, .ref (ad 8 0)), (1, .int i1), (3, .int y4_3)]) hx hb dX0_knownTo_30 rfl hl (by decide) rfl (fun ls hl => ?_)
          obtain ⟨x_36536, ex_36536⟩ : ∃ z : Int32, z = y4_3 + 1 := ⟨_, rfl⟩
          refine lv_iinc (v := x_36536) (lv' := [(3, .int x_36536), (2, .int x_36535), (0, .ref (ad 8 0)), (1, .int i1)]) hx hb dX0_knownTo_31 hl (k := 3) rfl (by rw [ex_36536]; rfl) (by decide) rfl (fun ls hl => ?_)
          refine lv_goto (tgt := 4) hx hb dX0_knownTo_34 (by decide) ?_
          exact ih4 _ (by rw [← hm4]; exact ms_up (m := 1) ex_36536 (show bn 1 1 (1 : Int32) from bn_k (by decide)) B_36525 (bn_w (bn_eq ex_36536 (bn_add B_36525 (show bn 1 1 (1 : Int32) from bn_k (by decide)) (by decide))) (by decide) : bn 0 6 x_36536) (by decide)) x_36535 x_36536  _ _ _  (bn_w (bn_eq ex_36536 (bn_add B_36525 (show bn 1 1 (1 : Int32) from bn_k (by decide)) (by decide))) (by decide)) rfl Y (lv_sub hl [2, 3, 1, 0] rfl)
  refine lv_iconst (v := 0) hx hb dX0_knownTo_0 (by decide) ?_
  refine lv_istore_n (lv' := [(2, .int 0), (0, .ref (ad 8 0)), (1, .int i1)]) hx hb dX0_knownTo_1 rfl hl (by decide) rfl (fun ls hl => ?_)
  refine lv_iconst (v := 0) hx hb dX0_knownTo_2 (by decide) ?_
  refine lv_istore_n (lv' := [(3, .int 0), (2, .int 0), (0, .ref (ad 8 0)), (1, .int i1)]) hx hb dX0_knownTo_3 rfl hl (by decide) rfl (fun ls hl => ?_)
  exact J_4 _ 0 0  _ _ _  (bn_w (show bn 0 0 (0 : Int32) from bn_k (by decide)) (by decide)) rfl Y (lv_sub hl [2, 3, 1, 0] rfl)
set_option maxHeartbeats 4000000 in
set_option maxRecDepth 100000 in
theorem x_X0_fewestKnowing {l : Launch} {G : GG}  {L : List Nat} {f : HF} {ad : Nat → Nat → Nat} {rs : RS} {fc : Int × Int} {tc w : Nat → Int × Int} {q : Nat → (Nat → Int32) → Prop} (I : SH (spC rs fc tc w q) nnC G ad L f) (hW : WBp w 8) (hT : WBp tc 4) (hQ : QIp q) : PMi l yX0_fewestKnowing cX0_fewestKnowing 4 .int 4 0 0 G [.ref (ad 8 0)] L f (fun r L1 f1 => SH (spC rs fc tc w q) nnC G ad L1 f1) := by
  refine PMi.of (post := fun r L1 f1 => SH (spC rs fc tc w q) nnC G ad L1 f1) (own := RX0) (by decide) rfl (Nat.le_of_ble_eq_true rfl) (fun sz p e s m args below meth c A ls hA1 hname S Y hl => ?_)
  have hx := S.hx
  have hb := S.hb
  have hl : lv_has ls 4 [(0, .ref (ad 8 0))] := hl
  have J_61 : ∀ (n61 : Nat) (y61_1 y61_2 y61_3 : Int32) (L_61 : List Nat) (f_61 : HF) (H : Heap) (locs : List Loc) (ls : Array Slot), (SH (spC rs fc tc w q) nnC G ad L_61 f_61) → (bn 0 63 y61_2) → (bn 0 64 y61_3) → (((64 : Int) - y61_3.toInt).toNat = n61) → (DY G A s [] L_61 f_61 H locs) → (lv_has ls 4 [(0, .ref (ad 8 0)), (1, .int y61_1), (2, .int y61_2), (3, .int y61_3)]) → W p l e (rmD 4 0 0) s m args below meth c H locs (0) (0) (MQ below (va_Qi (fun r (u : List Nat × HF) => (fun r L1 f1 => SH (spC rs fc tc w q) nnC G ad L1 f1) r u.1 u.2) (fun u t => pOut G (va_A (va_pl L f) sz) u.1 u.2 t) (va_A (va_pl L f) sz)) args s 0 0 A) (F0 m 61 ls []) := by
    intro n61
    induction n61 using Nat.strongRecOn with
    | _ n61 ih61 =>
      intro y61_1 y61_2 y61_3 L_61 f_61 H locs ls I b_y61_2 b_y61_3 hm61 Y hl
      refine lv_iload_n hx hb dX0_fewestKnowing_61 rfl (lv_at hl 3 rfl) ?_
      refine lv_iconst (v := 1) hx hb dX0_fewestKnowing_62 (by decide) ?_
      refine lv_aload_n hx hb dX0_fewestKnowing_63 rfl (lv_at hl 0 rfl) ?_
      have p_ad_8_0 := opnC_8 (j := 0) I (by decide)
      have p_ad_8_0 : pt L_61 f_61 (ad 8 0) (.inr (0, [.ref (ad 1 0), .ref (ad 60 0), .ref (ad 61 0)])) := p_ad_8_0
      refine pg_get S Y ok_X0 0 (by decide) kf0_18 (v := .ref (ad 1 0)) p_ad_8_0 rfl dX0_fewestKnowing_64 ?_
      obtain ⟨v_37415, v_37417, v_37419, v_37421, v_37423, p_ad_1_0, b_37416, b_37418, b_37420, b_37422, b_37424⟩ := opnC_1 (j := 0) I (by decide)
      have p_ad_1_0 : pt L_61 f_61 (ad 1 0) (.inr (10, [.ref (ad 40 0), .ref (ad 41 0), .ref (ad 42 0), .ref (ad 10 0), .ref (ad 43 0), .ref (ad 20 0), .ref (ad 20 1), .ref (ad 20 2), .ref (ad 20 3), .ref (ad 20 4), .int v_37415, .int v_37417, .int v_37419, .int v_37421, .int v_37423])) := p_ad_1_0
      refine pg_getN S Y ok_X10 10 (by decide) kf0_72 (v := .int v_37415) p_ad_1_0 rfl dX0_fewestKnowing_67 ?_
      refine lv_ishl hx hb dX0_fewestKnowing_70 ?_
      refine lv_topi (fun x_37425 ex_37425 => ?_)
      refine lv_icmp_ge (tgt := 102) hx hb dX0_fewestKnowing_71 (by decide) (fun c_37426 => ?_) (fun c_37426 => ?_)
      · have B_37427 : bn 1 64 y61_3 := bn_w (bn_ler c_37426 (bn_eq ex_37425 (bn_shl (n := 6) (bn_w b_37416 (by decide) : bn 0 6 v_37415) (by decide) (by decide))) b_y61_3) (by decide)
        refine lv_iload_n hx hb dX0_fewestKnowing_102 rfl (lv_at hl 2 rfl) ?_
        exact prI (post := fun r L1 f1 => SH (spC rs fc tc w q) nnC G ad L1 f1) S Y rfl (by decide) (by decide) hA1 I dX0_fewestKnowing_103
      · have B_37428 : bn 0 63 y61_3 := bn_w (bn_gtr c_37426 (bn_eq ex_37425 (bn_shl (n := 6) (bn_w b_37416 (by decide) : bn 0 6 v_37415) (by decide) (by decide))) b_y61_3) (by decide)
        refine lv_iload_n hx hb dX0_fewestKnowing_74 rfl (lv_at hl 3 rfl) ?_
        refine cSp (As := [.int y61_3]) (rest := []) S Y (x_bitCount (l := l) ) cw_X106_bitCount_0f7a4 km0_42 rfl ⟨Nat.le_of_ble_eq_true rfl, Nat.le_of_ble_eq_true rfl⟩ hl.1 rfl (Nat.le_of_ble_eq_true rfl) ⟨Nat.le_of_ble_eq_true rfl, Nat.le_of_ble_eq_true rfl⟩ dX0_fewestKnowing_75 (fun r_37429 H locs er_37429 Y => ?_)
        refine lv_iload_n hx hb dX0_fewestKnowing_78 rfl (lv_at hl 2 rfl) ?_
        refine cSp (As := [.int y61_2]) (rest := [.int r_37429]) S Y (x_bitCount (l := l) ) cw_X106_bitCount_0f7a4 km0_42 rfl ⟨Nat.le_of_ble_eq_true rfl, Nat.le_of_ble_eq_true rfl⟩ hl.1 rfl (Nat.le_of_ble_eq_true rfl) ⟨Nat.le_of_ble_eq_true rfl, Nat.le_of_ble_eq_true rfl⟩ dX0_fewestKnowing_79 (fun r_37430 H locs er_37430 Y => ?_)
        refine lv_icmp_ge (tgt := 96) hx hb dX0_fewestKnowing_82 (by decide) (fun c_37431 => ?_) (fun c_37431 => ?_)
        · obtain ⟨x_37434, ex_37434⟩ : ∃ z : Int32, z = y61_3 + 1 := ⟨_, rfl⟩
          refine lv_iinc (v := x_37434) (lv' := [(3, .int x_37434), (0, .ref (ad 8 0)), (1, .int y61_1), (2, .int y61_2)]) hx hb dX0_fewestKnowing_96 hl (k := 3) rfl (by rw [ex_37434]; rfl) (by decide) rfl (fun ls hl => ?_)
          refine lv_goto (tgt := 61) hx hb dX0_fewestKnowing_99 (by decide) ?_
          exact ih61 _ (by rw [← hm61]; exact ms_up (m := 1) ex_37434 (show bn 1 1 (1 : Int32) from bn_k (by decide)) B_37428 (bn_w (bn_eq ex_37434 (bn_add B_37428 (show bn 1 1 (1 : Int32) from bn_k (by decide)) (by decide))) (by decide) : bn 0 64 x_37434) (by decide)) y61_1 y61_2 x_37434 _ _  _ _ _ I (bn_w b_y61_2 (by decide)) (bn_w (bn_eq ex_37434 (bn_add B_37428 (show bn 1 1 (1 : Int32) from bn_k (by decide)) (by decide))) (by decide)) rfl Y (lv_sub hl [1, 2, 3, 0] rfl)
        · have B_37432 : bn (-2147483647) 2147483647 r_37430 := bn_w (bn_gtl c_37431 (bn_any r_37430) (bn_any r_37429)) (by decide)
          have B_37433 : bn (-2147483648) 2147483646 r_37429 := bn_w (bn_gtr c_37431 (bn_any r_37430) (bn_any r_37429)) (by decide)
          refine lv_aload_n hx hb dX0_fewestKnowing_85 rfl (lv_at hl 0 rfl) ?_
          refine lv_iload_n hx hb dX0_fewestKnowing_86 rfl (lv_at hl 3 rfl) ?_
          refine cVp (As := [.int y61_3]) (rest := []) S Y (x_X0_knownTo (l := l) I hW hT hQ) cw_X0_knownTo km0_87 p_ad_8_0 ok_X0.1 rfl rfl ⟨Nat.le_of_ble_eq_true rfl, Nat.le_of_ble_eq_true rfl⟩ hl.1 rfl (Nat.le_of_ble_eq_true rfl) ⟨Nat.le_of_ble_eq_true rfl, Nat.le_of_ble_eq_true rfl⟩ dX0_fewestKnowing_87 (fun r_37435 H locs er_37435 Y => ?_)
          refine lv_iload_n hx hb dX0_fewestKnowing_90 rfl (lv_at hl 1 rfl) ?_
          refine lv_icmp_ne (tgt := 96) hx hb dX0_fewestKnowing_91 (by decide) (fun c_37436 => ?_) (fun c_37436 => ?_)
          · obtain ⟨x_37437, ex_37437⟩ : ∃ z : Int32, z = y61_3 + 1 := ⟨_, rfl⟩
            refine lv_iinc (v := x_37437) (lv' := [(3, .int x_37437), (0, .ref (ad 8 0)), (1, .int y61_1), (2, .int y61_2)]) hx hb dX0_fewestKnowing_96 hl (k := 3) rfl (by rw [ex_37437]; rfl) (by decide) rfl (fun ls hl => ?_)
            refine lv_goto (tgt := 61) hx hb dX0_fewestKnowing_99 (by decide) ?_
            exact ih61 _ (by rw [← hm61]; exact ms_up (m := 1) ex_37437 (show bn 1 1 (1 : Int32) from bn_k (by decide)) B_37428 (bn_w (bn_eq ex_37437 (bn_add B_37428 (show bn 1 1 (1 : Int32) from bn_k (by decide)) (by decide))) (by decide) : bn 0 64 x_37437) (by decide)) y61_1 y61_2 x_37437 _ _  _ _ _ I (bn_w b_y61_2 (by decide)) (bn_w (bn_eq ex_37437 (bn_add B_37428 (show bn 1 1 (1 : Int32) from bn_k (by decide)) (by decide))) (by decide)) rfl Y (lv_sub hl [1, 2, 3, 0] rfl)
          · refine lv_iload_n hx hb dX0_fewestKnowing_94 rfl (lv_at hl 3 rfl) ?_
            refine lv_istore_n (lv' := [(2, .int y61_3), (0, .ref (ad 8 0)), (1, .int y61_1), (3, .int y61_3)]) hx hb dX0_fewestKnowing_95 rfl hl (by decide) rfl (fun ls hl => ?_)
            obtain ⟨x_37438, ex_37438⟩ : ∃ z : Int32, z = y61_3 + 1 := ⟨_, rfl⟩
            refine lv_iinc (v := x_37438) (lv' := [(3, .int x_37438), (2, .int y61_3), (0, .ref (ad 8 0)), (1, .int y61_1)]) hx hb dX0_fewestKnowing_96 hl (k := 3) rfl (by rw [ex_37438]; rfl) (by decide) rfl (fun ls hl => ?_)
            refine lv_goto (tgt := 61) hx hb dX0_fewestKnowing_99 (by decide) ?_
            exact ih61 _ (by rw [← hm61]; exact ms_up (m := 1) ex_37438 (show bn 1 1 (1 : Int32) from bn_k (by decide)) B_37428 (bn_w (bn_eq ex_37438 (bn_add B_37428 (show bn 1 1 (1 : Int32) from bn_k (by decide)) (by decide))) (by decide) : bn 0 64 x_37438) (by decide)) y61_1 y61_3 x_37438 _ _  _ _ _ I (bn_w B_37428 (by decide)) (bn_w (bn_eq ex_37438 (bn_add B_37428 (show bn 1 1 (1 : Int32) from bn_k (by decide)) (by decide))) (by decide)) rfl Y (lv_sub hl [2, 3, 1, 0] rfl)
  have J_4 : ∀ (n4 : Nat) (y4_1 y4_2 : Int32) (L_4 : List Nat) (f_4 : HF) (H : Heap) (locs : List Loc) (ls : Array Slot), (SH (spC rs fc tc w q) nnC G ad L_4 f_4) → (bn 0 6 y4_2) → (((6 : Int) - y4_2.toInt).toNat = n4) → (DY G A s [] L_4 f_4 H locs) → (lv_has ls 4 [(0, .ref (ad 8 0)), (1, .int y4_1), (2, .int y4_2)]) → W p l e (rmD 4 0 0) s m args below meth c H locs (0) (0) (MQ below (va_Qi (fun r (u : List Nat × HF) => (fun r L1 f1 => SH (spC rs fc tc w q) nnC G ad L1 f1) r u.1 u.2) (fun u t => pOut G (va_A (va_pl L f) sz) u.1 u.2 t) (va_A (va_pl L f) sz)) args s 0 0 A) (F0 m 4 ls []) := by
    intro n4
    induction n4 using Nat.strongRecOn with
    | _ n4 ih4 =>
      intro y4_1 y4_2 L_4 f_4 H locs ls I b_y4_2 hm4 Y hl
      refine lv_iload_n hx hb dX0_fewestKnowing_4 rfl (lv_at hl 2 rfl) ?_
      refine lv_aload_n hx hb dX0_fewestKnowing_5 rfl (lv_at hl 0 rfl) ?_
      have p_ad_8_0 := opnC_8 (j := 0) I (by decide)
      have p_ad_8_0 : pt L_4 f_4 (ad 8 0) (.inr (0, [.ref (ad 1 0), .ref (ad 60 0), .ref (ad 61 0)])) := p_ad_8_0
      refine pg_get S Y ok_X0 0 (by decide) kf0_18 (v := .ref (ad 1 0)) p_ad_8_0 rfl dX0_fewestKnowing_6 ?_
      obtain ⟨v_37439, v_37441, v_37443, v_37445, v_37447, p_ad_1_0, b_37440, b_37442, b_37444, b_37446, b_37448⟩ := opnC_1 (j := 0) I (by decide)
      have p_ad_1_0 : pt L_4 f_4 (ad 1 0) (.inr (10, [.ref (ad 40 0), .ref (ad 41 0), .ref (ad 42 0), .ref (ad 10 0), .ref (ad 43 0), .ref (ad 20 0), .ref (ad 20 1), .ref (ad 20 2), .ref (ad 20 3), .ref (ad 20 4), .int v_37439, .int v_37441, .int v_37443, .int v_37445, .int v_37447])) := p_ad_1_0
      refine pg_getN S Y ok_X10 10 (by decide) kf0_72 (v := .int v_37439) p_ad_1_0 rfl dX0_fewestKnowing_9 ?_
      refine lv_icmp_ge (tgt := 47) hx hb dX0_fewestKnowing_12 (by decide) (fun c_37449 => ?_) (fun c_37449 => ?_)
      · refine lv_iconst (v := 1) hx hb dX0_fewestKnowing_47 (by decide) ?_
        refine lv_aload_n hx hb dX0_fewestKnowing_48 rfl (lv_at hl 0 rfl) ?_
        refine pg_get S Y ok_X0 0 (by decide) kf0_18 (v := .ref (ad 1 0)) p_ad_8_0 rfl dX0_fewestKnowing_49 ?_
        refine pg_getN S Y ok_X10 10 (by decide) kf0_72 (v := .int v_37439) p_ad_1_0 rfl dX0_fewestKnowing_52 ?_
        refine lv_ishl hx hb dX0_fewestKnowing_55 ?_
        refine lv_topi (fun x_37452 ex_37452 => ?_)
        refine lv_iconst (v := 1) hx hb dX0_fewestKnowing_56 (by decide) ?_
        refine lv_isub hx hb dX0_fewestKnowing_57 ?_
        refine lv_topi (fun x_37453 ex_37453 => ?_)
        refine lv_istore_n (lv' := [(2, .int x_37453), (0, .ref (ad 8 0)), (1, .int y4_1)]) hx hb dX0_fewestKnowing_58 rfl hl (by decide) rfl (fun ls hl => ?_)
        refine lv_iconst (v := 0) hx hb dX0_fewestKnowing_59 (by decide) ?_
        refine lv_istore_n (lv' := [(3, .int 0), (2, .int x_37453), (0, .ref (ad 8 0)), (1, .int y4_1)]) hx hb dX0_fewestKnowing_60 rfl hl (by decide) rfl (fun ls hl => ?_)
        exact J_61 _ y4_1 x_37453 0 _ _  _ _ _ I (bn_w (bn_eq ex_37453 (bn_sub (bn_eq ex_37452 (bn_shl (n := 6) (bn_w b_37440 (by decide) : bn 0 6 v_37439) (by decide) (by decide))) (show bn 1 1 (1 : Int32) from bn_k (by decide)) (by decide))) (by decide)) (bn_w (show bn 0 0 (0 : Int32) from bn_k (by decide)) (by decide)) rfl Y (lv_sub hl [2, 3, 1, 0] rfl)
      · have B_37450 : bn 1 6 v_37439 := bn_w (bn_gtl c_37449 b_37440 b_y4_2) (by decide)
        have B_37451 : bn 0 5 y4_2 := bn_w (bn_gtr c_37449 b_37440 b_y4_2) (by decide)
        refine lv_iload_n hx hb dX0_fewestKnowing_15 rfl (lv_at hl 2 rfl) ?_
        refine lv_bipush (v := 6) hx hb dX0_fewestKnowing_16 (by decide) ?_
        refine lv_icmp_ge (tgt := 47) hx hb dX0_fewestKnowing_18 (by decide) (fun h => absurd h (bd_nle (show bn 6 6 (6 : Int32) from bn_k (by decide)) B_37451 (by decide))) (fun _ => ?_)
        refine lv_aload_n hx hb dX0_fewestKnowing_21 rfl (lv_at hl 0 rfl) ?_
        refine pg_get S Y ok_X0 2 (by decide) kf0_15 (v := .ref (ad 61 0)) p_ad_8_0 rfl dX0_fewestKnowing_22 ?_
        refine lv_iload_n hx hb dX0_fewestKnowing_25 rfl (lv_at hl 2 rfl) ?_
        refine lv_aload_n hx hb dX0_fewestKnowing_26 rfl (lv_at hl 0 rfl) ?_
        refine lv_iload_n hx hb dX0_fewestKnowing_27 rfl (lv_at hl 2 rfl) ?_
        refine cVp (As := [.int y4_2]) (rest := [.int y4_2, .ref (ad 61 0)]) S Y (x_X0_wordsOf (l := l) I hW hT hQ) cw_X0_wordsOf km0_84 p_ad_8_0 ok_X0.1 rfl rfl ⟨Nat.le_of_ble_eq_true rfl, Nat.le_of_ble_eq_true rfl⟩ hl.1 rfl (Nat.le_of_ble_eq_true rfl) ⟨Nat.le_of_ble_eq_true rfl, Nat.le_of_ble_eq_true rfl⟩ dX0_fewestKnowing_28 (fun r_37454 H locs er_37454 Y => ?_)
        obtain ⟨g_37455, p_ad_61_0, o_37456⟩ := I.opi (k := 61) (j := 0) (by decide) rfl
        have p_ad_61_0 : pt L_4 f_4 (ad 61 0) (.inl (G.2 0, 6, .inl g_37455)) := p_ad_61_0
        refine pg_iast S Y p_ad_61_0 (vp_bn B_37451 (by decide)) dX0_fewestKnowing_31 (fun f_37458 H locs ef_37458 Y => ?_)
        obtain ⟨g_37457, eg_37457⟩ : ∃ z, z = upd (g_37455) (y4_2 : Int32).toNatClampNeg r_37454 := ⟨_, rfl⟩
        rw [← eg_37457] at ef_37458
        have p_ad_8_0 := p_ad_8_0.up ef_37458 (I.ne (k := 8) (j := 0) (k' := 61) (j' := 0) (by decide) (by decide) (Or.inl (by decide)))
        have p_ad_1_0 := p_ad_1_0.up ef_37458 (I.ne (k := 1) (j := 0) (k' := 61) (j' := 0) (by decide) (by decide) (Or.inl (by decide)))
        have p_ad_61_0 := p_ad_61_0.me ef_37458
        have I := I.up (k := 61) (j := 0) (by decide) ef_37458 (okE_a (g := g_37457) trivial)
        refine lv_iload_n hx hb dX0_fewestKnowing_32 rfl (lv_at hl 1 rfl) ?_
        refine lv_aload_n hx hb dX0_fewestKnowing_33 rfl (lv_at hl 0 rfl) ?_
        refine pg_get S Y ok_X0 2 (by decide) kf0_15 (v := .ref (ad 61 0)) p_ad_8_0 rfl dX0_fewestKnowing_34 ?_
        refine lv_iload_n hx hb dX0_fewestKnowing_37 rfl (lv_at hl 2 rfl) ?_
        obtain ⟨v_37459, ev_37459⟩ : ∃ z, z = g_37457 (y4_2 : Int32).toNatClampNeg := ⟨_, rfl⟩
        refine pg_iald S Y (v := v_37459) p_ad_61_0 (vp_bn B_37451 (by decide)) ev_37459.symm dX0_fewestKnowing_38 ?_
        refine lv_ior hx hb dX0_fewestKnowing_39 ?_
        refine lv_topi (fun x_37460 ex_37460 => ?_)
        refine lv_istore_n (lv' := [(1, .int x_37460), (0, .ref (ad 8 0)), (2, .int y4_2)]) hx hb dX0_fewestKnowing_40 rfl hl (by decide) rfl (fun ls hl => ?_)
        obtain ⟨x_37461, ex_37461⟩ : ∃ z : Int32, z = y4_2 + 1 := ⟨_, rfl⟩
        refine lv_iinc (v := x_37461) (lv' := [(2, .int x_37461), (1, .int x_37460), (0, .ref (ad 8 0))]) hx hb dX0_fewestKnowing_41 hl (k := 2) rfl (by rw [ex_37461]; rfl) (by decide) rfl (fun ls hl => ?_)
        refine lv_goto (tgt := 4) hx hb dX0_fewestKnowing_44 (by decide) ?_
        exact ih4 _ (by rw [← hm4]; exact ms_up (m := 1) ex_37461 (show bn 1 1 (1 : Int32) from bn_k (by decide)) B_37451 (bn_w (bn_eq ex_37461 (bn_add B_37451 (show bn 1 1 (1 : Int32) from bn_k (by decide)) (by decide))) (by decide) : bn 0 6 x_37461) (by decide)) x_37460 x_37461 _ _  _ _ _ I (bn_w (bn_eq ex_37461 (bn_add B_37451 (show bn 1 1 (1 : Int32) from bn_k (by decide)) (by decide))) (by decide)) rfl Y (lv_sub hl [2, 1, 0] rfl)
  refine lv_iconst (v := 0) hx hb dX0_fewestKnowing_0 (by decide) ?_
  refine lv_istore_n (lv' := [(1, .int 0), (0, .ref (ad 8 0))]) hx hb dX0_fewestKnowing_1 rfl hl (by decide) rfl (fun ls hl => ?_)
  refine lv_iconst (v := 0) hx hb dX0_fewestKnowing_2 (by decide) ?_
  refine lv_istore_n (lv' := [(2, .int 0), (1, .int 0), (0, .ref (ad 8 0))]) hx hb dX0_fewestKnowing_3 rfl hl (by decide) rfl (fun ls hl => ?_)
  exact J_4 _ 0 0 _ _  _ _ _ I (bn_w (show bn 0 0 (0 : Int32) from bn_k (by decide)) (by decide)) rfl Y (lv_sub hl [2, 1, 0] rfl)
set_option maxHeartbeats 4000000 in
set_option maxRecDepth 100000 in
theorem x_X0_legibleBy {l : Launch} {G : GG}  {L : List Nat} {f : HF} {ad : Nat → Nat → Nat} {rs : RS} {fc : Int × Int} {tc w : Nat → Int × Int} {q : Nat → (Nat → Int32) → Prop} {i1 : Int32} (I : SH (spC rs fc tc w q) nnC G ad L f) (hW : WBp w 8) (hT : WBp tc 4) (hQ : QIp q) : PMp l yX0_legibleBy cX0_legibleBy 4 .int 3 0 0 G [.ref (ad 8 0), .int i1] L f (fun r => True) := by
  refine PMi.of (post := fun r L1 f1 => (True) ∧ L1 = L ∧ f1 = f) (own := RX0) (by decide) rfl (Nat.le_of_ble_eq_true rfl) (fun sz p e s m args below meth c A ls hA1 hname S Y hl => ?_)
  have hx := S.hx
  have hb := S.hb
  have hl : lv_has ls 4 [(0, .ref (ad 8 0)), (1, .int i1)] := hl
  have J_4 : ∀ (n4 : Nat) (y4_2 y4_3 : Int32) (H : Heap) (locs : List Loc) (ls : Array Slot), (bn 0 14 y4_3) → (((14 : Int) - y4_3.toInt).toNat = n4) → (DY G A s [] L f H locs) → (lv_has ls 4 [(0, .ref (ad 8 0)), (1, .int i1), (2, .int y4_2), (3, .int y4_3)]) → W p l e (rmD 3 0 0) s m args below meth c H locs (0) (0) (MQ below (va_Qi (fun r (u : List Nat × HF) => (fun r L1 f1 => (True) ∧ L1 = L ∧ f1 = f) r u.1 u.2) (fun u t => pOut G (va_A (va_pl L f) sz) u.1 u.2 t) (va_A (va_pl L f) sz)) args s 0 0 A) (F0 m 4 ls []) := by
    intro n4
    induction n4 using Nat.strongRecOn with
    | _ n4 ih4 =>
      intro y4_2 y4_3 H locs ls b_y4_3 hm4 Y hl
      refine lv_iload_n hx hb dX0_legibleBy_4 rfl (lv_at hl 3 rfl) ?_
      refine lv_aload_n hx hb dX0_legibleBy_5 rfl (lv_at hl 0 rfl) ?_
      have p_ad_8_0 := opnC_8 (j := 0) I (by decide)
      have p_ad_8_0 : pt L f (ad 8 0) (.inr (0, [.ref (ad 1 0), .ref (ad 60 0), .ref (ad 61 0)])) := p_ad_8_0
      refine pg_get S Y ok_X0 0 (by decide) kf0_18 (v := .ref (ad 1 0)) p_ad_8_0 rfl dX0_legibleBy_6 ?_
      obtain ⟨v_39178, v_39180, v_39182, v_39184, v_39186, p_ad_1_0, b_39179, b_39181, b_39183, b_39185, b_39187⟩ := opnC_1 (j := 0) I (by decide)
      have p_ad_1_0 : pt L f (ad 1 0) (.inr (10, [.ref (ad 40 0), .ref (ad 41 0), .ref (ad 42 0), .ref (ad 10 0), .ref (ad 43 0), .ref (ad 20 0), .ref (ad 20 1), .ref (ad 20 2), .ref (ad 20 3), .ref (ad 20 4), .int v_39178, .int v_39180, .int v_39182, .int v_39184, .int v_39186])) := p_ad_1_0
      refine pg_getN S Y ok_X10 3 (by decide) kf0_22 (v := .ref (ad 10 0)) p_ad_1_0 rfl dX0_legibleBy_9 ?_
      obtain ⟨v_39188, v_39190, v_39192, v_39194, v_39196, p_ad_10_0, b_39189, b_39191, b_39193, b_39195, b_39197⟩ := opnC_10 (j := 0) I (by decide)
      have p_ad_10_0 : pt L f (ad 10 0) (.inr (4, [.ref (ad 11 0), .ref (ad 12 0), .int v_39188, .int v_39190, .int v_39192, .int v_39194, .int v_39196])) := p_ad_10_0
      refine pg_getN S Y ok_X4 2 (by decide) kf0_28 (v := .int v_39188) p_ad_10_0 rfl dX0_legibleBy_12 ?_
      refine lv_icmp_ge (tgt := 57) hx hb dX0_legibleBy_15 (by decide) (fun c_39198 => ?_) (fun c_39198 => ?_)
      · refine lv_iload_n hx hb dX0_legibleBy_57 rfl (lv_at hl 2 rfl) ?_
        exact prI (post := fun r L1 f1 => (True) ∧ L1 = L ∧ f1 = f) S Y rfl (by decide) (by decide) hA1 ⟨trivial, rfl, rfl⟩ dX0_legibleBy_58
      · have B_39199 : bn 1 14 v_39188 := bn_w (bn_gtl c_39198 b_39189 b_y4_3) (by decide)
        have B_39200 : bn 0 13 y4_3 := bn_w (bn_gtr c_39198 b_39189 b_y4_3) (by decide)
        refine lv_aload_n hx hb dX0_legibleBy_18 rfl (lv_at hl 0 rfl) ?_
        refine pg_get S Y ok_X0 0 (by decide) kf0_18 (v := .ref (ad 1 0)) p_ad_8_0 rfl dX0_legibleBy_19 ?_
        refine pg_getN S Y ok_X10 3 (by decide) kf0_22 (v := .ref (ad 10 0)) p_ad_1_0 rfl dX0_legibleBy_22 ?_
        refine lv_iload_n hx hb dX0_legibleBy_25 rfl (lv_at hl 3 rfl) ?_
        refine lv_iconst (v := 0) hx hb dX0_legibleBy_26 (by decide) ?_
        refine cVp (As := [.int y4_3, .int 0]) (rest := []) S Y (x_X4_get (l := l) (j := 0) I hW hT hQ (by decide)) cw_X4_get km0_34 p_ad_10_0 ok_X4.1 rfl rfl ⟨Nat.le_of_ble_eq_true rfl, Nat.le_of_ble_eq_true rfl⟩ hl.1 rfl (Nat.le_of_ble_eq_true rfl) ⟨Nat.le_of_ble_eq_true rfl, Nat.le_of_ble_eq_true rfl⟩ dX0_legibleBy_27 (fun r_39201 H locs er_39201 Y => ?_)
        refine lv_iload_n hx hb dX0_legibleBy_30 rfl (lv_at hl 1 rfl) ?_
        refine lv_icmp_ne (tgt := 51) hx hb dX0_legibleBy_31 (by decide) (fun c_39202 => ?_) (fun c_39202 => ?_)
        · obtain ⟨x_39203, ex_39203⟩ : ∃ z : Int32, z = y4_3 + 1 := ⟨_, rfl⟩
          refine lv_iinc (v := x_39203) (lv' := [(3, .int x_39203), (0, .ref (ad 8 0)), (1, .int i1), (2, .int y4_2)]) hx hb dX0_legibleBy_51 hl (k := 3) rfl (by rw [ex_39203]; rfl) (by decide) rfl (fun ls hl => ?_)
          refine lv_goto (tgt := 4) hx hb dX0_legibleBy_54 (by decide) ?_
          exact ih4 _ (by rw [← hm4]; exact ms_up (m := 1) ex_39203 (show bn 1 1 (1 : Int32) from bn_k (by decide)) B_39200 (bn_w (bn_eq ex_39203 (bn_add B_39200 (show bn 1 1 (1 : Int32) from bn_k (by decide)) (by decide))) (by decide) : bn 0 14 x_39203) (by decide)) y4_2 x_39203  _ _ _  (bn_w (bn_eq ex_39203 (bn_add B_39200 (show bn 1 1 (1 : Int32) from bn_k (by decide)) (by decide))) (by decide)) rfl Y (lv_sub hl [1, 2, 3, 0] rfl)
        · refine lv_aload_n hx hb dX0_legibleBy_34 rfl (lv_at hl 0 rfl) ?_
          refine pg_get S Y ok_X0 0 (by decide) kf0_18 (v := .ref (ad 1 0)) p_ad_8_0 rfl dX0_legibleBy_35 ?_
          refine pg_getN S Y ok_X10 3 (by decide) kf0_22 (v := .ref (ad 10 0)) p_ad_1_0 rfl dX0_legibleBy_38 ?_
          refine lv_iload_n hx hb dX0_legibleBy_41 rfl (lv_at hl 3 rfl) ?_
          refine cVp (As := [.int y4_3]) (rest := []) S Y (x_X4_legible (l := l) (j := 0) I hW hT hQ (by decide)) cw_X4_legible km0_78 p_ad_10_0 ok_X4.1 rfl rfl ⟨Nat.le_of_ble_eq_true rfl, Nat.le_of_ble_eq_true rfl⟩ hl.1 rfl (Nat.le_of_ble_eq_true rfl) ⟨Nat.le_of_ble_eq_true rfl, Nat.le_of_ble_eq_true rfl⟩ dX0_legibleBy_42 (fun r_39204 H locs er_39204 Y => ?_)
          refine lv_if_eq (tgt := 51) hx hb dX0_legibleBy_45 (by decide) (fun c_39205 => ?_) (fun c_39205 => ?_)
          · have B_39206 : bn 0 0 r_39204 := bn_w (bn_eq c_39205 (show bn 0 0 (0 : Int32) from bn_k (by decide))) (by decide)
            obtain ⟨x_39208, ex_39208⟩ : ∃ z : Int32, z = y4_3 + 1 := ⟨_, rfl⟩
            refine lv_iinc (v := x_39208) (lv' := [(3, .int x_39208), (0, .ref (ad 8 0)), (1, .int i1), (2, .int y4_2)]) hx hb dX0_legibleBy_51 hl (k := 3) rfl (by rw [ex_39208]; rfl) (by decide) rfl (fun ls hl => ?_)
            refine lv_goto (tgt := 4) hx hb dX0_legibleBy_54 (by decide) ?_
            exact ih4 _ (by rw [← hm4]; exact ms_up (m := 1) ex_39208 (show bn 1 1 (1 : Int32) from bn_k (by decide)) B_39200 (bn_w (bn_eq ex_39208 (bn_add B_39200 (show bn 1 1 (1 : Int32) from bn_k (by decide)) (by decide))) (by decide) : bn 0 14 x_39208) (by decide)) y4_2 x_39208  _ _ _  (bn_w (bn_eq ex_39208 (bn_add B_39200 (show bn 1 1 (1 : Int32) from bn_k (by decide)) (by decide))) (by decide)) rfl Y (lv_sub hl [1, 2, 3, 0] rfl)
          · have B_39207 : bn 1 1 r_39204 := bn_w (bn_nel c_39205 er_39204 (show bn 0 0 (0 : Int32) from bn_k (by decide))) (by decide)
            obtain ⟨x_39209, ex_39209⟩ : ∃ z : Int32, z = y4_2 + 1 := ⟨_, rfl⟩
            refine lv_iinc (v := x_39209) (lv' := [(2, .int x_39209), (0, .ref (ad 8 0)), (1, .int i1), (3, .int y4_3)]) hx hb dX0_legibleBy_48 hl (k := 2) rfl (by rw [ex_39209]; rfl) (by decide) rfl (fun ls hl => ?_)
            obtain ⟨x_39210, ex_39210⟩ : ∃ z : Int32, z = y4_3 + 1 := ⟨_, rfl⟩
            refine lv_iinc (v := x_39210) (lv' := [(3, .int x_39210), (2, .int x_39209), (0, .ref (ad 8 0)), (1, .int i1)]) hx hb dX0_legibleBy_51 hl (k := 3) rfl (by rw [ex_39210]; rfl) (by decide) rfl (fun ls hl => ?_)
            refine lv_goto (tgt := 4) hx hb dX0_legibleBy_54 (by decide) ?_
            exact ih4 _ (by rw [← hm4]; exact ms_up (m := 1) ex_39210 (show bn 1 1 (1 : Int32) from bn_k (by decide)) B_39200 (bn_w (bn_eq ex_39210 (bn_add B_39200 (show bn 1 1 (1 : Int32) from bn_k (by decide)) (by decide))) (by decide) : bn 0 14 x_39210) (by decide)) x_39209 x_39210  _ _ _  (bn_w (bn_eq ex_39210 (bn_add B_39200 (show bn 1 1 (1 : Int32) from bn_k (by decide)) (by decide))) (by decide)) rfl Y (lv_sub hl [2, 3, 1, 0] rfl)
  refine lv_iconst (v := 0) hx hb dX0_legibleBy_0 (by decide) ?_
  refine lv_istore_n (lv' := [(2, .int 0), (0, .ref (ad 8 0)), (1, .int i1)]) hx hb dX0_legibleBy_1 rfl hl (by decide) rfl (fun ls hl => ?_)
  refine lv_iconst (v := 0) hx hb dX0_legibleBy_2 (by decide) ?_
  refine lv_istore_n (lv' := [(3, .int 0), (2, .int 0), (0, .ref (ad 8 0)), (1, .int i1)]) hx hb dX0_legibleBy_3 rfl hl (by decide) rfl (fun ls hl => ?_)
  exact J_4 _ 0 0  _ _ _  (bn_w (show bn 0 0 (0 : Int32) from bn_k (by decide)) (by decide)) rfl Y (lv_sub hl [2, 3, 1, 0] rfl)
set_option maxHeartbeats 4000000 in
set_option maxRecDepth 100000 in
theorem x_X0_mostOften {l : Launch} {G : GG}  {L : List Nat} {f : HF} {ad : Nat → Nat → Nat} {rs : RS} {fc : Int × Int} {tc w : Nat → Int × Int} {q : Nat → (Nat → Int32) → Prop} (I : SH (spC rs fc tc w q) nnC G ad L f) (hW : WBp w 8) (hT : WBp tc 4) (hQ : QIp q) : PMp l yX0_mostOften cX0_mostOften 5 .int 4 0 0 G [.ref (ad 8 0)] L f (fun r => True) := by
  refine PMi.of (post := fun r L1 f1 => (True) ∧ L1 = L ∧ f1 = f) (own := RX0) (by decide) rfl (Nat.le_of_ble_eq_true rfl) (fun sz p e s m args below meth c A ls hA1 hname S Y hl => ?_)
  have hx := S.hx
  have hb := S.hb
  have hl : lv_has ls 5 [(0, .ref (ad 8 0))] := hl
  have J_6 : ∀ (n6 : Nat) (y6_1 y6_2 y6_3 : Int32) (H : Heap) (locs : List Loc) (ls : Array Slot), (bn (-1) 5 y6_1) → (bn 0 2147483647 y6_2) → (bn 0 6 y6_3) → (((6 : Int) - y6_3.toInt).toNat = n6) → (DY G A s [] L f H locs) → (lv_has ls 5 [(0, .ref (ad 8 0)), (1, .int y6_1), (2, .int y6_2), (3, .int y6_3)]) → W p l e (rmD 4 0 0) s m args below meth c H locs (0) (0) (MQ below (va_Qi (fun r (u : List Nat × HF) => (fun r L1 f1 => (True) ∧ L1 = L ∧ f1 = f) r u.1 u.2) (fun u t => pOut G (va_A (va_pl L f) sz) u.1 u.2 t) (va_A (va_pl L f) sz)) args s 0 0 A) (F0 m 6 ls []) := by
    intro n6
    induction n6 using Nat.strongRecOn with
    | _ n6 ih6 =>
      intro y6_1 y6_2 y6_3 H locs ls b_y6_1 b_y6_2 b_y6_3 hm6 Y hl
      refine lv_iload_n hx hb dX0_mostOften_6 rfl (lv_at hl 3 rfl) ?_
      refine lv_aload_n hx hb dX0_mostOften_7 rfl (lv_at hl 0 rfl) ?_
      have p_ad_8_0 := opnC_8 (j := 0) I (by decide)
      have p_ad_8_0 : pt L f (ad 8 0) (.inr (0, [.ref (ad 1 0), .ref (ad 60 0), .ref (ad 61 0)])) := p_ad_8_0
      refine pg_get S Y ok_X0 0 (by decide) kf0_18 (v := .ref (ad 1 0)) p_ad_8_0 rfl dX0_mostOften_8 ?_
      obtain ⟨v_39363, v_39365, v_39367, v_39369, v_39371, p_ad_1_0, b_39364, b_39366, b_39368, b_39370, b_39372⟩ := opnC_1 (j := 0) I (by decide)
      have p_ad_1_0 : pt L f (ad 1 0) (.inr (10, [.ref (ad 40 0), .ref (ad 41 0), .ref (ad 42 0), .ref (ad 10 0), .ref (ad 43 0), .ref (ad 20 0), .ref (ad 20 1), .ref (ad 20 2), .ref (ad 20 3), .ref (ad 20 4), .int v_39363, .int v_39365, .int v_39367, .int v_39369, .int v_39371])) := p_ad_1_0
      refine pg_getN S Y ok_X10 10 (by decide) kf0_72 (v := .int v_39363) p_ad_1_0 rfl dX0_mostOften_11 ?_
      refine lv_icmp_ge (tgt := 41) hx hb dX0_mostOften_14 (by decide) (fun c_39373 => ?_) (fun c_39373 => ?_)
      · refine lv_iload_n hx hb dX0_mostOften_41 rfl (lv_at hl 1 rfl) ?_
        exact prI (post := fun r L1 f1 => (True) ∧ L1 = L ∧ f1 = f) S Y rfl (by decide) (by decide) hA1 ⟨trivial, rfl, rfl⟩ dX0_mostOften_42
      · have B_39374 : bn 1 6 v_39363 := bn_w (bn_gtl c_39373 b_39364 b_y6_3) (by decide)
        have B_39375 : bn 0 5 y6_3 := bn_w (bn_gtr c_39373 b_39364 b_y6_3) (by decide)
        refine lv_aload_n hx hb dX0_mostOften_17 rfl (lv_at hl 0 rfl) ?_
        refine lv_iload_n hx hb dX0_mostOften_18 rfl (lv_at hl 3 rfl) ?_
        refine cVp (As := [.int y6_3]) (rest := []) S Y (x_X0_legibleBy (l := l) I hW hT hQ) cw_X0_legibleBy km0_90 p_ad_8_0 ok_X0.1 rfl rfl ⟨Nat.le_of_ble_eq_true rfl, Nat.le_of_ble_eq_true rfl⟩ hl.1 rfl (Nat.le_of_ble_eq_true rfl) ⟨Nat.le_of_ble_eq_true rfl, Nat.le_of_ble_eq_true rfl⟩ dX0_mostOften_19 (fun r_39376 H locs er_39376 Y => ?_)
        refine lv_istore (lv' := [(4, .int r_39376), (0, .ref (ad 8 0)), (1, .int y6_1), (2, .int y6_2), (3, .int y6_3)]) hx hb dX0_mostOften_22 hl (by decide) rfl (fun ls hl => ?_)
        refine lv_iload hx hb dX0_mostOften_24 (lv_at hl 0 rfl) ?_
        refine lv_iload_n hx hb dX0_mostOften_26 rfl (lv_at hl 3 rfl) ?_
        refine lv_icmp_le (tgt := 35) hx hb dX0_mostOften_27 (by decide) (fun c_39377 => ?_) (fun c_39377 => ?_)
        · obtain ⟨x_39380, ex_39380⟩ : ∃ z : Int32, z = y6_3 + 1 := ⟨_, rfl⟩
          refine lv_iinc (v := x_39380) (lv' := [(3, .int x_39380), (4, .int r_39376), (0, .ref (ad 8 0)), (1, .int y6_1), (2, .int y6_2)]) hx hb dX0_mostOften_35 hl (k := 4) rfl (by rw [ex_39380]; rfl) (by decide) rfl (fun ls hl => ?_)
          refine lv_goto (tgt := 6) hx hb dX0_mostOften_38 (by decide) ?_
          exact ih6 _ (by rw [← hm6]; exact ms_up (m := 1) ex_39380 (show bn 1 1 (1 : Int32) from bn_k (by decide)) B_39375 (bn_w (bn_eq ex_39380 (bn_add B_39375 (show bn 1 1 (1 : Int32) from bn_k (by decide)) (by decide))) (by decide) : bn 0 6 x_39380) (by decide)) y6_1 y6_2 x_39380  _ _ _  (bn_w b_y6_1 (by decide)) (bn_w b_y6_2 (by decide)) (bn_w (bn_eq ex_39380 (bn_add B_39375 (show bn 1 1 (1 : Int32) from bn_k (by decide)) (by decide))) (by decide)) rfl Y (lv_sub hl [2, 3, 4, 0] rfl)
        · have B_39378 : bn 1 2147483647 r_39376 := bn_w (bn_gtl c_39377 (bn_any r_39376) b_y6_2) (by decide)
          have B_39379 : bn 0 2147483646 y6_2 := bn_w (bn_gtr c_39377 (bn_any r_39376) b_y6_2) (by decide)
          refine lv_iload_n hx hb dX0_mostOften_30 rfl (lv_at hl 4 rfl) ?_
          refine lv_istore_n (lv' := [(1, .int y6_3), (4, .int r_39376), (0, .ref (ad 8 0)), (2, .int y6_2), (3, .int y6_3)]) hx hb dX0_mostOften_31 rfl hl (by decide) rfl (fun ls hl => ?_)
          refine lv_iload hx hb dX0_mostOften_32 (lv_at hl 1 rfl) ?_
          refine lv_istore_n (lv' := [(2, .int r_39376), (1, .int y6_3), (4, .int r_39376), (0, .ref (ad 8 0)), (3, .int y6_3)]) hx hb dX0_mostOften_34 rfl hl (by decide) rfl (fun ls hl => ?_)
          obtain ⟨x_39381, ex_39381⟩ : ∃ z : Int32, z = y6_3 + 1 := ⟨_, rfl⟩
          refine lv_iinc (v := x_39381) (lv' := [(3, .int x_39381), (2, .int r_39376), (1, .int y6_3), (4, .int r_39376), (0, .ref (ad 8 0))]) hx hb dX0_mostOften_35 hl (k := 4) rfl (by rw [ex_39381]; rfl) (by decide) rfl (fun ls hl => ?_)
          refine lv_goto (tgt := 6) hx hb dX0_mostOften_38 (by decide) ?_
          exact ih6 _ (by rw [← hm6]; exact ms_up (m := 1) ex_39381 (show bn 1 1 (1 : Int32) from bn_k (by decide)) B_39375 (bn_w (bn_eq ex_39381 (bn_add B_39375 (show bn 1 1 (1 : Int32) from bn_k (by decide)) (by decide))) (by decide) : bn 0 6 x_39381) (by decide)) y6_3 r_39376 x_39381  _ _ _  (bn_w B_39375 (by decide)) (bn_w B_39378 (by decide)) (bn_w (bn_eq ex_39381 (bn_add B_39375 (show bn 1 1 (1 : Int32) from bn_k (by decide)) (by decide))) (by decide)) rfl Y (lv_sub hl [4, 2, 1, 0] rfl)
  refine lv_iconst (v := (-1)) hx hb dX0_mostOften_0 (by decide) ?_
  refine lv_istore_n (lv' := [(1, .int (-1)), (0, .ref (ad 8 0))]) hx hb dX0_mostOften_1 rfl hl (by decide) rfl (fun ls hl => ?_)
  refine lv_iconst (v := 0) hx hb dX0_mostOften_2 (by decide) ?_
  refine lv_istore_n (lv' := [(2, .int 0), (1, .int (-1)), (0, .ref (ad 8 0))]) hx hb dX0_mostOften_3 rfl hl (by decide) rfl (fun ls hl => ?_)
  refine lv_iconst (v := 0) hx hb dX0_mostOften_4 (by decide) ?_
  refine lv_istore_n (lv' := [(3, .int 0), (2, .int 0), (1, .int (-1)), (0, .ref (ad 8 0))]) hx hb dX0_mostOften_5 rfl hl (by decide) rfl (fun ls hl => ?_)
  exact J_6 _ (-1) 0 0  _ _ _  (bn_w (show bn (-1) (-1) ((-1) : Int32) from bn_k (by decide)) (by decide)) (bn_w (show bn 0 0 (0 : Int32) from bn_k (by decide)) (by decide)) (bn_w (show bn 0 0 (0 : Int32) from bn_k (by decide)) (by decide)) rfl Y (lv_sub hl [3, 2, 1, 0] rfl)
set_option maxHeartbeats 4000000 in
set_option maxRecDepth 100000 in
theorem x_X0_unbroken {l : Launch} {G : GG}  {L : List Nat} {f : HF} {ad : Nat → Nat → Nat} {rs : RS} {fc : Int × Int} {tc w : Nat → Int × Int} {q : Nat → (Nat → Int32) → Prop} (I : SH (spC rs fc tc w q) nnC G ad L f) (hW : WBp w 8) (hT : WBp tc 4) (hQ : QIp q) : PMp l yX0_unbroken cX0_unbroken 3 .int 1 0 0 G [.ref (ad 8 0)] L f (fun r => True) := by
  refine PMi.of (post := fun r L1 f1 => (True) ∧ L1 = L ∧ f1 = f) (own := RX0) (by decide) rfl (Nat.le_of_ble_eq_true rfl) (fun sz p e s m args below meth c A ls hA1 hname S Y hl => ?_)
  have hx := S.hx
  have hb := S.hb
  have hl : lv_has ls 3 [(0, .ref (ad 8 0))] := hl
  have J_14 : ∀ (n14 : Nat) (y14_1 y14_2 : Int32) (H : Heap) (locs : List Loc) (ls : Array Slot), (bn 0 14 y14_2) → (((14 : Int) - y14_2.toInt).toNat = n14) → (DY G A s [] L f H locs) → (lv_has ls 3 [(0, .ref (ad 8 0)), (1, .int y14_1), (2, .int y14_2)]) → W p l e (rmD 1 0 0) s m args below meth c H locs (0) (0) (MQ below (va_Qi (fun r (u : List Nat × HF) => (fun r L1 f1 => (True) ∧ L1 = L ∧ f1 = f) r u.1 u.2) (fun u t => pOut G (va_A (va_pl L f) sz) u.1 u.2 t) (va_A (va_pl L f) sz)) args s 0 0 A) (F0 m 14 ls []) := by
    intro n14
    induction n14 using Nat.strongRecOn with
    | _ n14 ih14 =>
      intro y14_1 y14_2 H locs ls b_y14_2 hm14 Y hl
      refine lv_iload_n hx hb dX0_unbroken_14 rfl (lv_at hl 2 rfl) ?_
      refine lv_aload_n hx hb dX0_unbroken_15 rfl (lv_at hl 0 rfl) ?_
      have p_ad_8_0 := opnC_8 (j := 0) I (by decide)
      have p_ad_8_0 : pt L f (ad 8 0) (.inr (0, [.ref (ad 1 0), .ref (ad 60 0), .ref (ad 61 0)])) := p_ad_8_0
      refine pg_get S Y ok_X0 0 (by decide) kf0_18 (v := .ref (ad 1 0)) p_ad_8_0 rfl dX0_unbroken_16 ?_
      obtain ⟨v_39854, v_39856, v_39858, v_39860, v_39862, p_ad_1_0, b_39855, b_39857, b_39859, b_39861, b_39863⟩ := opnC_1 (j := 0) I (by decide)
      have p_ad_1_0 : pt L f (ad 1 0) (.inr (10, [.ref (ad 40 0), .ref (ad 41 0), .ref (ad 42 0), .ref (ad 10 0), .ref (ad 43 0), .ref (ad 20 0), .ref (ad 20 1), .ref (ad 20 2), .ref (ad 20 3), .ref (ad 20 4), .int v_39854, .int v_39856, .int v_39858, .int v_39860, .int v_39862])) := p_ad_1_0
      refine pg_getN S Y ok_X10 3 (by decide) kf0_22 (v := .ref (ad 10 0)) p_ad_1_0 rfl dX0_unbroken_19 ?_
      obtain ⟨v_39864, v_39866, v_39868, v_39870, v_39872, p_ad_10_0, b_39865, b_39867, b_39869, b_39871, b_39873⟩ := opnC_10 (j := 0) I (by decide)
      have p_ad_10_0 : pt L f (ad 10 0) (.inr (4, [.ref (ad 11 0), .ref (ad 12 0), .int v_39864, .int v_39866, .int v_39868, .int v_39870, .int v_39872])) := p_ad_10_0
      refine pg_getN S Y ok_X4 2 (by decide) kf0_28 (v := .int v_39864) p_ad_10_0 rfl dX0_unbroken_22 ?_
      refine lv_icmp_ge (tgt := 69) hx hb dX0_unbroken_25 (by decide) (fun c_39874 => ?_) (fun c_39874 => ?_)
      · refine lv_iload_n hx hb dX0_unbroken_69 rfl (lv_at hl 1 rfl) ?_
        exact prI (post := fun r L1 f1 => (True) ∧ L1 = L ∧ f1 = f) S Y rfl (by decide) (by decide) hA1 ⟨trivial, rfl, rfl⟩ dX0_unbroken_70
      · have B_39875 : bn 1 14 v_39864 := bn_w (bn_gtl c_39874 b_39865 b_y14_2) (by decide)
        have B_39876 : bn 0 13 y14_2 := bn_w (bn_gtr c_39874 b_39865 b_y14_2) (by decide)
        refine lv_aload_n hx hb dX0_unbroken_28 rfl (lv_at hl 0 rfl) ?_
        refine pg_get S Y ok_X0 0 (by decide) kf0_18 (v := .ref (ad 1 0)) p_ad_8_0 rfl dX0_unbroken_29 ?_
        refine pg_getN S Y ok_X10 3 (by decide) kf0_22 (v := .ref (ad 10 0)) p_ad_1_0 rfl dX0_unbroken_32 ?_
        refine lv_iload_n hx hb dX0_unbroken_35 rfl (lv_at hl 2 rfl) ?_
        refine lv_iconst (v := 4) hx hb dX0_unbroken_36 (by decide) ?_
        refine cVp (As := [.int y14_2, .int 4]) (rest := []) S Y (x_X4_get (l := l) (j := 0) I hW hT hQ (by decide)) cw_X4_get km0_34 p_ad_10_0 ok_X4.1 rfl rfl ⟨Nat.le_of_ble_eq_true rfl, Nat.le_of_ble_eq_true rfl⟩ hl.1 rfl (Nat.le_of_ble_eq_true rfl) ⟨Nat.le_of_ble_eq_true rfl, Nat.le_of_ble_eq_true rfl⟩ dX0_unbroken_37 (fun r_39877 H locs er_39877 Y => ?_)
        refine lv_iconst (v := 1) hx hb dX0_unbroken_40 (by decide) ?_
        refine lv_icmp_ne (tgt := 63) hx hb dX0_unbroken_41 (by decide) (fun c_39878 => ?_) (fun c_39878 => ?_)
        · obtain ⟨x_39880, ex_39880⟩ : ∃ z : Int32, z = y14_2 + 1 := ⟨_, rfl⟩
          refine lv_iinc (v := x_39880) (lv' := [(2, .int x_39880), (0, .ref (ad 8 0)), (1, .int y14_1)]) hx hb dX0_unbroken_63 hl (k := 2) rfl (by rw [ex_39880]; rfl) (by decide) rfl (fun ls hl => ?_)
          refine lv_goto (tgt := 14) hx hb dX0_unbroken_66 (by decide) ?_
          exact ih14 _ (by rw [← hm14]; exact ms_up (m := 1) ex_39880 (show bn 1 1 (1 : Int32) from bn_k (by decide)) B_39876 (bn_w (bn_eq ex_39880 (bn_add B_39876 (show bn 1 1 (1 : Int32) from bn_k (by decide)) (by decide))) (by decide) : bn 0 14 x_39880) (by decide)) y14_1 x_39880  _ _ _  (bn_w (bn_eq ex_39880 (bn_add B_39876 (show bn 1 1 (1 : Int32) from bn_k (by decide)) (by decide))) (by decide)) rfl Y (lv_sub hl [1, 2, 0] rfl)
        · have B_39879 : bn 1 1 r_39877 := bn_w (bn_eq c_39878 (show bn 1 1 (1 : Int32) from bn_k (by decide))) (by decide)
          refine lv_iload_n hx hb dX0_unbroken_44 rfl (lv_at hl 1 rfl) ?_
          refine lv_iconst (v := 1) hx hb dX0_unbroken_45 (by decide) ?_
          refine lv_aload_n hx hb dX0_unbroken_46 rfl (lv_at hl 0 rfl) ?_
          refine pg_get S Y ok_X0 0 (by decide) kf0_18 (v := .ref (ad 1 0)) p_ad_8_0 rfl dX0_unbroken_47 ?_
          refine pg_getN S Y ok_X10 3 (by decide) kf0_22 (v := .ref (ad 10 0)) p_ad_1_0 rfl dX0_unbroken_50 ?_
          refine lv_iload_n hx hb dX0_unbroken_53 rfl (lv_at hl 2 rfl) ?_
          refine lv_iconst (v := 0) hx hb dX0_unbroken_54 (by decide) ?_
          refine cVp (As := [.int y14_2, .int 0]) (rest := [.int 1, .int y14_1]) S Y (x_X4_get (l := l) (j := 0) I hW hT hQ (by decide)) cw_X4_get km0_34 p_ad_10_0 ok_X4.1 rfl rfl ⟨Nat.le_of_ble_eq_true rfl, Nat.le_of_ble_eq_true rfl⟩ hl.1 rfl (Nat.le_of_ble_eq_true rfl) ⟨Nat.le_of_ble_eq_true rfl, Nat.le_of_ble_eq_true rfl⟩ dX0_unbroken_55 (fun r_39881 H locs er_39881 Y => ?_)
          refine lv_ishl hx hb dX0_unbroken_58 ?_
          refine lv_topi (fun x_39882 ex_39882 => ?_)
          refine lv_iconst (v := (-1)) hx hb dX0_unbroken_59 (by decide) ?_
          refine lv_ixor hx hb dX0_unbroken_60 ?_
          refine lv_topi (fun x_39883 ex_39883 => ?_)
          refine lv_iand hx hb dX0_unbroken_61 ?_
          refine lv_topi (fun x_39884 ex_39884 => ?_)
          refine lv_istore_n (lv' := [(1, .int x_39884), (0, .ref (ad 8 0)), (2, .int y14_2)]) hx hb dX0_unbroken_62 rfl hl (by decide) rfl (fun ls hl => ?_)
          obtain ⟨x_39885, ex_39885⟩ : ∃ z : Int32, z = y14_2 + 1 := ⟨_, rfl⟩
          refine lv_iinc (v := x_39885) (lv' := [(2, .int x_39885), (1, .int x_39884), (0, .ref (ad 8 0))]) hx hb dX0_unbroken_63 hl (k := 2) rfl (by rw [ex_39885]; rfl) (by decide) rfl (fun ls hl => ?_)
          refine lv_goto (tgt := 14) hx hb dX0_unbroken_66 (by decide) ?_
          exact ih14 _ (by rw [← hm14]; exact ms_up (m := 1) ex_39885 (show bn 1 1 (1 : Int32) from bn_k (by decide)) B_39876 (bn_w (bn_eq ex_39885 (bn_add B_39876 (show bn 1 1 (1 : Int32) from bn_k (by decide)) (by decide))) (by decide) : bn 0 14 x_39885) (by decide)) x_39884 x_39885  _ _ _  (bn_w (bn_eq ex_39885 (bn_add B_39876 (show bn 1 1 (1 : Int32) from bn_k (by decide)) (by decide))) (by decide)) rfl Y (lv_sub hl [2, 1, 0] rfl)
  refine lv_iconst (v := 1) hx hb dX0_unbroken_0 (by decide) ?_
  refine lv_aload_n hx hb dX0_unbroken_1 rfl (lv_at hl 0 rfl) ?_
  have p_ad_8_0 := opnC_8 (j := 0) I (by decide)
  have p_ad_8_0 : pt L f (ad 8 0) (.inr (0, [.ref (ad 1 0), .ref (ad 60 0), .ref (ad 61 0)])) := p_ad_8_0
  refine pg_get S Y ok_X0 0 (by decide) kf0_18 (v := .ref (ad 1 0)) p_ad_8_0 rfl dX0_unbroken_2 ?_
  obtain ⟨v_39886, v_39888, v_39890, v_39892, v_39894, p_ad_1_0, b_39887, b_39889, b_39891, b_39893, b_39895⟩ := opnC_1 (j := 0) I (by decide)
  have p_ad_1_0 : pt L f (ad 1 0) (.inr (10, [.ref (ad 40 0), .ref (ad 41 0), .ref (ad 42 0), .ref (ad 10 0), .ref (ad 43 0), .ref (ad 20 0), .ref (ad 20 1), .ref (ad 20 2), .ref (ad 20 3), .ref (ad 20 4), .int v_39886, .int v_39888, .int v_39890, .int v_39892, .int v_39894])) := p_ad_1_0
  refine pg_getN S Y ok_X10 10 (by decide) kf0_72 (v := .int v_39886) p_ad_1_0 rfl dX0_unbroken_5 ?_
  refine lv_ishl hx hb dX0_unbroken_8 ?_
  refine lv_topi (fun x_39896 ex_39896 => ?_)
  refine lv_iconst (v := 1) hx hb dX0_unbroken_9 (by decide) ?_
  refine lv_isub hx hb dX0_unbroken_10 ?_
  refine lv_topi (fun x_39897 ex_39897 => ?_)
  refine lv_istore_n (lv' := [(1, .int x_39897), (0, .ref (ad 8 0))]) hx hb dX0_unbroken_11 rfl hl (by decide) rfl (fun ls hl => ?_)
  refine lv_iconst (v := 0) hx hb dX0_unbroken_12 (by decide) ?_
  refine lv_istore_n (lv' := [(2, .int 0), (1, .int x_39897), (0, .ref (ad 8 0))]) hx hb dX0_unbroken_13 rfl hl (by decide) rfl (fun ls hl => ?_)
  exact J_14 _ x_39897 0  _ _ _  (bn_w (show bn 0 0 (0 : Int32) from bn_k (by decide)) (by decide)) rfl Y (lv_sub hl [2, 1, 0] rfl)
