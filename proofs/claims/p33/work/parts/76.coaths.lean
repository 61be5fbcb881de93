theorem dX11_init_0 : decode cX11_init 0 = .ok (.aload_n 0, 1) := by decide +kernel
theorem dX11_init_1 : decode cX11_init 1 = .ok (.invokespecial 1, 3) := by decide +kernel
theorem km11_1 : inW (Cond.methodLink RX11 1 objectInit) := ⟨List.mem_of_getElem? (i := 150) (by decide +kernel), by decide +kernel⟩
theorem dX11_init_4 : decode cX11_init 4 = .ok (.new 7, 3) := by decide +kernel
theorem kc11_7 : inW (Cond.classLink RX11 7 RX4) := ⟨List.mem_of_getElem? (i := 153) (by decide +kernel), by decide +kernel⟩
theorem dX11_init_7 : decode cX11_init 7 = .ok (.dup, 1) := by decide +kernel
theorem dX11_init_8 : decode cX11_init 8 = .ok (.invokespecial 9, 3) := by decide +kernel
theorem km11_9 : inW (Cond.methodLinkNest RX11 9 yX4_init "KneeOaths") := ⟨List.mem_of_getElem? (i := 155) (by decide +kernel), by decide +kernel⟩
theorem dX11_init_11 : decode cX11_init 11 = .ok (.astore_n 1, 1) := by decide +kernel
theorem dX11_init_12 : decode cX11_init 12 = .ok (.aload_n 0, 1) := by decide +kernel
theorem dX11_init_13 : decode cX11_init 13 = .ok (.new 10, 3) := by decide +kernel
theorem kc11_10 : inW (Cond.classLink RX11 10 RX10) := ⟨List.mem_of_getElem? (i := 198) (by decide +kernel), by decide +kernel⟩
theorem kn10 : inW (Cond.instantiable RX10 15) := ⟨List.mem_of_getElem? (i := 199) (by decide +kernel), by decide +kernel⟩
theorem ki10 : inW (Cond.initialized RX10) := ⟨List.mem_of_getElem? (i := 126) (by decide +kernel), by decide +kernel⟩
theorem dX11_init_16 : decode cX11_init 16 = .ok (.dup, 1) := by decide +kernel
theorem dX11_init_17 : decode cX11_init 17 = .ok (.invokespecial 12, 3) := by decide +kernel
theorem cw_X10_init : CWi yX10_init cX10_init 2 0 := ⟨⟨⟨List.mem_of_getElem? (i := 126) (by decide +kernel), by decide +kernel⟩, ⟨List.mem_of_getElem? (i := 202) (by decide +kernel), by decide +kernel⟩, by decide +kernel⟩, ⟨List.mem_of_getElem? (i := 201) (by decide +kernel), by decide +kernel⟩, rfl⟩
theorem km11_12 : inW (Cond.methodLink RX11 12 yX10_init) := ⟨List.mem_of_getElem? (i := 200) (by decide +kernel), by decide +kernel⟩
theorem dX11_init_20 : decode cX11_init 20 = .ok (.putfield 13, 3) := by decide +kernel
theorem dX11_init_23 : decode cX11_init 23 = .ok (.aload_n 0, 1) := by decide +kernel
theorem dX11_init_24 : decode cX11_init 24 = .ok (.new 10, 3) := by decide +kernel
theorem dX11_init_27 : decode cX11_init 27 = .ok (.dup, 1) := by decide +kernel
theorem dX11_init_28 : decode cX11_init 28 = .ok (.invokespecial 12, 3) := by decide +kernel
def gl_100 : List Nat := [0, 2, 0, 0, 0, 0, 0, 0, 0, 0, 62, 62, 62, 0, 0, 0, 0, 0, 0, 0, 10, 10, 0, 0, 0, 0, 0, 0, 0, 0, 8, 8, 8, 8, 8, 8, 0, 0, 0, 0, 2, 2, 2, 2, 0, 0, 0, 0, 0, 0, 0, 0, 0, 0, 0, 0, 0, 0, 0, 0, 0, 0]
def gl_101 : List Nat := [0, 2, 0, 0, 0, 0, 0, 0, 0, 0, 63, 63, 63, 0, 0, 0, 0, 0, 0, 0, 10, 10, 0, 0, 0, 0, 0, 0, 0, 0, 8, 8, 8, 8, 8, 8, 0, 0, 0, 0, 2, 2, 2, 2, 0, 0, 0, 0, 0, 0, 0, 0, 0, 0, 0, 0, 0, 0, 0, 0, 0, 0]
theorem dX11_init_31 : decode cX11_init 31 = .ok (.putfield 19, 3) := by decide +kernel
theorem dX11_init_34 : decode cX11_init 34 = .ok (.aload_n 0, 1) := by decide +kernel
theorem dX11_init_35 : decode cX11_init 35 = .ok (.new 22, 3) := by decide +kernel
theorem kc11_22 : inW (Cond.classLink RX11 22 RX5) := ⟨List.mem_of_getElem? (i := 333) (by decide +kernel), by decide +kernel⟩
theorem kn5 : inW (Cond.instantiable RX5 14) := ⟨List.mem_of_getElem? (i := 334) (by decide +kernel), by decide +kernel⟩
theorem ki5 : inW (Cond.initialized RX5) := ⟨List.mem_of_getElem? (i := 130) (by decide +kernel), by decide +kernel⟩
theorem dX11_init_38 : decode cX11_init 38 = .ok (.dup, 1) := by decide +kernel
theorem dX11_init_39 : decode cX11_init 39 = .ok (.invokespecial 24, 3) := by decide +kernel
theorem cw_X5_init : CWi yX5_init cX5_init 1 0 := ⟨⟨⟨List.mem_of_getElem? (i := 130) (by decide +kernel), by decide +kernel⟩, ⟨List.mem_of_getElem? (i := 337) (by decide +kernel), by decide +kernel⟩, by decide +kernel⟩, ⟨List.mem_of_getElem? (i := 336) (by decide +kernel), by decide +kernel⟩, rfl⟩
theorem km11_24 : inW (Cond.methodLinkNest RX11 24 yX5_init "KneeOaths") := ⟨List.mem_of_getElem? (i := 335) (by decide +kernel), by decide +kernel⟩
def gl_102 : List Nat := [0, 2, 0, 0, 0, 0, 0, 0, 0, 0, 63, 63, 63, 0, 0, 0, 0, 0, 0, 0, 10, 10, 0, 0, 0, 0, 0, 0, 0, 0, 8, 8, 8, 8, 8, 8, 0, 0, 0, 0, 2, 2, 2, 2, 0, 0, 0, 0, 0, 0, 1, 0, 0, 0, 0, 0, 0, 0, 0, 0, 0, 0]
def gl_103 : List Nat := [0, 2, 0, 0, 0, 0, 0, 0, 0, 0, 63, 63, 63, 0, 0, 0, 0, 0, 0, 0, 10, 10, 0, 0, 0, 0, 0, 0, 0, 0, 8, 8, 8, 8, 8, 8, 0, 0, 0, 0, 2, 2, 2, 2, 0, 0, 0, 0, 0, 0, 1, 1, 0, 0, 0, 0, 0, 0, 0, 0, 0, 0]
def gl_104 : List Nat := [0, 2, 0, 0, 0, 0, 0, 0, 0, 0, 63, 63, 63, 0, 0, 0, 0, 0, 0, 0, 10, 10, 0, 0, 0, 0, 0, 0, 0, 0, 8, 8, 8, 8, 8, 8, 0, 0, 0, 0, 2, 2, 2, 2, 0, 0, 0, 0, 0, 0, 1, 1, 1, 0, 0, 0, 0, 0, 0, 0, 0, 0]
def gl_105 : List Nat := [0, 2, 0, 0, 0, 0, 0, 0, 0, 0, 63, 63, 63, 0, 0, 0, 0, 0, 0, 0, 10, 10, 0, 0, 0, 0, 0, 0, 0, 0, 8, 8, 8, 8, 8, 8, 0, 0, 0, 0, 2, 2, 2, 2, 0, 0, 0, 0, 0, 0, 1, 1, 1, 1, 0, 0, 0, 0, 0, 0, 0, 0]
def gl_106 : List Nat := [0, 2, 1, 0, 0, 0, 0, 0, 0, 0, 63, 63, 63, 0, 0, 0, 0, 0, 0, 0, 10, 10, 0, 0, 0, 0, 0, 0, 0, 0, 8, 8, 8, 8, 8, 8, 0, 0, 0, 0, 2, 2, 2, 2, 0, 0, 0, 0, 0, 0, 1, 1, 1, 1, 0, 0, 0, 0, 0, 0, 0, 0]
theorem dX11_init_42 : decode cX11_init 42 = .ok (.putfield 25, 3) := by decide +kernel
theorem dX11_init_45 : decode cX11_init 45 = .ok (.aload_n 0, 1) := by decide +kernel
theorem dX11_init_46 : decode cX11_init 46 = .ok (.new 29, 3) := by decide +kernel
theorem kc11_29 : inW (Cond.classLink RX11 29 RX3) := ⟨List.mem_of_getElem? (i := 382) (by decide +kernel), by decide +kernel⟩
theorem kn3 : inW (Cond.instantiable RX3 3) := ⟨List.mem_of_getElem? (i := 383) (by decide +kernel), by decide +kernel⟩
theorem ki3 : inW (Cond.initialized RX3) := ⟨List.mem_of_getElem? (i := 131) (by decide +kernel), by decide +kernel⟩
theorem dX11_init_49 : decode cX11_init 49 = .ok (.dup, 1) := by decide +kernel
theorem dX11_init_50 : decode cX11_init 50 = .ok (.aload_n 0, 1) := by decide +kernel
theorem dX11_init_51 : decode cX11_init 51 = .ok (.getfield 13, 3) := by decide +kernel
theorem dX11_init_54 : decode cX11_init 54 = .ok (.invokespecial 31, 3) := by decide +kernel
theorem cw_X3_init : CWi yX3_init cX3_init 2 1 := ⟨⟨⟨List.mem_of_getElem? (i := 131) (by decide +kernel), by decide +kernel⟩, ⟨List.mem_of_getElem? (i := 386) (by decide +kernel), by decide +kernel⟩, by decide +kernel⟩, ⟨List.mem_of_getElem? (i := 385) (by decide +kernel), by decide +kernel⟩, rfl⟩
theorem km11_31 : inW (Cond.methodLink RX11 31 yX3_init) := ⟨List.mem_of_getElem? (i := 384) (by decide +kernel), by decide +kernel⟩
def gl_107 : List Nat := [0, 2, 1, 0, 0, 0, 0, 0, 0, 0, 63, 63, 63, 0, 0, 0, 0, 0, 0, 0, 10, 10, 0, 0, 0, 0, 0, 0, 0, 0, 8, 8, 8, 8, 8, 8, 0, 0, 0, 0, 2, 2, 2, 2, 0, 0, 0, 0, 0, 0, 1, 1, 1, 1, 1, 0, 0, 0, 0, 0, 0, 0]
def gl_108 : List Nat := [0, 2, 1, 1, 0, 0, 0, 0, 0, 0, 63, 63, 63, 0, 0, 0, 0, 0, 0, 0, 10, 10, 0, 0, 0, 0, 0, 0, 0, 0, 8, 8, 8, 8, 8, 8, 0, 0, 0, 0, 2, 2, 2, 2, 0, 0, 0, 0, 0, 0, 1, 1, 1, 1, 1, 0, 0, 0, 0, 0, 0, 0]
theorem dX11_init_57 : decode cX11_init 57 = .ok (.putfield 34, 3) := by decide +kernel
theorem dX11_init_60 : decode cX11_init 60 = .ok (.aload_n 0, 1) := by decide +kernel
theorem dX11_init_61 : decode cX11_init 61 = .ok (.new 38, 3) := by decide +kernel
theorem kc11_38 : inW (Cond.classLink RX11 38 RX6) := ⟨List.mem_of_getElem? (i := 398) (by decide +kernel), by decide +kernel⟩
theorem kn6 : inW (Cond.instantiable RX6 2) := ⟨List.mem_of_getElem? (i := 399) (by decide +kernel), by decide +kernel⟩
theorem ki6 : inW (Cond.initialized RX6) := ⟨List.mem_of_getElem? (i := 132) (by decide +kernel), by decide +kernel⟩
theorem dX11_init_64 : decode cX11_init 64 = .ok (.dup, 1) := by decide +kernel
theorem dX11_init_65 : decode cX11_init 65 = .ok (.aload_n 0, 1) := by decide +kernel
theorem dX11_init_66 : decode cX11_init 66 = .ok (.getfield 13, 3) := by decide +kernel
theorem dX11_init_69 : decode cX11_init 69 = .ok (.invokespecial 40, 3) := by decide +kernel
theorem cw_X6_init : CWi yX6_init cX6_init 2 1 := ⟨⟨⟨List.mem_of_getElem? (i := 132) (by decide +kernel), by decide +kernel⟩, ⟨List.mem_of_getElem? (i := 402) (by decide +kernel), by decide +kernel⟩, by decide +kernel⟩, ⟨List.mem_of_getElem? (i := 401) (by decide +kernel), by decide +kernel⟩, rfl⟩
theorem km11_40 : inW (Cond.methodLink RX11 40 yX6_init) := ⟨List.mem_of_getElem? (i := 400) (by decide +kernel), by decide +kernel⟩
def gl_109 : List Nat := [0, 2, 1, 1, 1, 0, 0, 0, 0, 0, 63, 63, 63, 0, 0, 0, 0, 0, 0, 0, 10, 10, 0, 0, 0, 0, 0, 0, 0, 0, 8, 8, 8, 8, 8, 8, 0, 0, 0, 0, 2, 2, 2, 2, 0, 0, 0, 0, 0, 0, 1, 1, 1, 1, 1, 0, 0, 0, 0, 0, 0, 0]
theorem dX11_init_72 : decode cX11_init 72 = .ok (.putfield 41, 3) := by decide +kernel
theorem dX11_init_75 : decode cX11_init 75 = .ok (.aload_n 0, 1) := by decide +kernel
theorem dX11_init_76 : decode cX11_init 76 = .ok (.new 45, 3) := by decide +kernel
theorem kc11_45 : inW (Cond.classLink RX11 45 RX1) := ⟨List.mem_of_getElem? (i := 411) (by decide +kernel), by decide +kernel⟩
theorem kn1 : inW (Cond.instantiable RX1 5) := ⟨List.mem_of_getElem? (i := 412) (by decide +kernel), by decide +kernel⟩
theorem ki1 : inW (Cond.initialized RX1) := ⟨List.mem_of_getElem? (i := 133) (by decide +kernel), by decide +kernel⟩
theorem dX11_init_79 : decode cX11_init 79 = .ok (.dup, 1) := by decide +kernel
theorem dX11_init_80 : decode cX11_init 80 = .ok (.aload_n 0, 1) := by decide +kernel
theorem dX11_init_81 : decode cX11_init 81 = .ok (.getfield 13, 3) := by decide +kernel
theorem dX11_init_84 : decode cX11_init 84 = .ok (.aload_n 0, 1) := by decide +kernel
theorem dX11_init_85 : decode cX11_init 85 = .ok (.getfield 34, 3) := by decide +kernel
theorem dX11_init_88 : decode cX11_init 88 = .ok (.aload_n 0, 1) := by decide +kernel
theorem dX11_init_89 : decode cX11_init 89 = .ok (.getfield 41, 3) := by decide +kernel
theorem dX11_init_92 : decode cX11_init 92 = .ok (.invokespecial 47, 3) := by decide +kernel
theorem cw_X1_init : CWi yX1_init cX1_init 4 3 := ⟨⟨⟨List.mem_of_getElem? (i := 133) (by decide +kernel), by decide +kernel⟩, ⟨List.mem_of_getElem? (i := 415) (by decide +kernel), by decide +kernel⟩, by decide +kernel⟩, ⟨List.mem_of_getElem? (i := 414) (by decide +kernel), by decide +kernel⟩, rfl⟩
theorem km11_47 : inW (Cond.methodLink RX11 47 yX1_init) := ⟨List.mem_of_getElem? (i := 413) (by decide +kernel), by decide +kernel⟩
def gl_110 : List Nat := [0, 2, 1, 1, 1, 0, 0, 0, 0, 0, 63, 63, 63, 0, 0, 0, 0, 0, 0, 0, 10, 10, 0, 0, 0, 0, 0, 0, 0, 0, 8, 8, 8, 8, 8, 8, 0, 0, 0, 0, 2, 2, 2, 2, 0, 0, 0, 0, 0, 0, 1, 1, 1, 1, 1, 1, 0, 0, 0, 0, 0, 0]
def gl_111 : List Nat := [0, 2, 1, 1, 1, 1, 0, 0, 0, 0, 63, 63, 63, 0, 0, 0, 0, 0, 0, 0, 10, 10, 0, 0, 0, 0, 0, 0, 0, 0, 8, 8, 8, 8, 8, 8, 0, 0, 0, 0, 2, 2, 2, 2, 0, 0, 0, 0, 0, 0, 1, 1, 1, 1, 1, 1, 0, 0, 0, 0, 0, 0]
theorem dX11_init_95 : decode cX11_init 95 = .ok (.putfield 50, 3) := by decide +kernel
theorem dX11_init_98 : decode cX11_init 98 = .ok (.aload_n 0, 1) := by decide +kernel
theorem dX11_init_99 : decode cX11_init 99 = .ok (.new 54, 3) := by decide +kernel
theorem kc11_54 : inW (Cond.classLink RX11 54 RX2) := ⟨List.mem_of_getElem? (i := 433) (by decide +kernel), by decide +kernel⟩
theorem kn2 : inW (Cond.instantiable RX2 4) := ⟨List.mem_of_getElem? (i := 434) (by decide +kernel), by decide +kernel⟩
theorem ki2 : inW (Cond.initialized RX2) := ⟨List.mem_of_getElem? (i := 134) (by decide +kernel), by decide +kernel⟩
theorem dX11_init_102 : decode cX11_init 102 = .ok (.dup, 1) := by decide +kernel
theorem dX11_init_103 : decode cX11_init 103 = .ok (.aload_n 0, 1) := by decide +kernel
theorem dX11_init_104 : decode cX11_init 104 = .ok (.getfield 13, 3) := by decide +kernel
theorem dX11_init_107 : decode cX11_init 107 = .ok (.aload_n 0, 1) := by decide +kernel
theorem dX11_init_108 : decode cX11_init 108 = .ok (.getfield 34, 3) := by decide +kernel
theorem dX11_init_111 : decode cX11_init 111 = .ok (.aload_n 0, 1) := by decide +kernel
theorem dX11_init_112 : decode cX11_init 112 = .ok (.getfield 50, 3) := by decide +kernel
theorem dX11_init_115 : decode cX11_init 115 = .ok (.aload_n 1, 1) := by decide +kernel
theorem dX11_init_116 : decode cX11_init 116 = .ok (.invokespecial 56, 3) := by decide +kernel
theorem cw_X2_init : CWi yX2_init cX2_init 5 4 := ⟨⟨⟨List.mem_of_getElem? (i := 134) (by decide +kernel), by decide +kernel⟩, ⟨List.mem_of_getElem? (i := 437) (by decide +kernel), by decide +kernel⟩, by decide +kernel⟩, ⟨List.mem_of_getElem? (i := 436) (by decide +kernel), by decide +kernel⟩, rfl⟩
theorem km11_56 : inW (Cond.methodLink RX11 56 yX2_init) := ⟨List.mem_of_getElem? (i := 435) (by decide +kernel), by decide +kernel⟩
def gl_112 : List Nat := [0, 2, 1, 1, 1, 1, 1, 0, 0, 0, 63, 63, 63, 0, 0, 0, 0, 0, 0, 0, 10, 10, 0, 0, 0, 0, 0, 0, 0, 0, 8, 8, 8, 8, 8, 8, 0, 0, 0, 0, 2, 2, 2, 2, 0, 0, 0, 0, 0, 0, 1, 1, 1, 1, 1, 1, 0, 0, 0, 0, 0, 0]
theorem dX11_init_119 : decode cX11_init 119 = .ok (.putfield 59, 3) := by decide +kernel
theorem dX11_init_122 : decode cX11_init 122 = .ok (.aload_n 0, 1) := by decide +kernel
theorem dX11_init_123 : decode cX11_init 123 = .ok (.new 63, 3) := by decide +kernel
theorem kc11_63 : inW (Cond.classLink RX11 63 RX8) := ⟨List.mem_of_getElem? (i := 452) (by decide +kernel), by decide +kernel⟩
theorem kn8 : inW (Cond.instantiable RX8 10) := ⟨List.mem_of_getElem? (i := 453) (by decide +kernel), by decide +kernel⟩
theorem ki8 : inW (Cond.initialized RX8) := ⟨List.mem_of_getElem? (i := 135) (by decide +kernel), by decide +kernel⟩
theorem dX11_init_126 : decode cX11_init 126 = .ok (.dup, 1) := by decide +kernel
theorem dX11_init_127 : decode cX11_init 127 = .ok (.aload_n 0, 1) := by decide +kernel
theorem dX11_init_128 : decode cX11_init 128 = .ok (.getfield 13, 3) := by decide +kernel
theorem dX11_init_131 : decode cX11_init 131 = .ok (.aload_n 0, 1) := by decide +kernel
theorem dX11_init_132 : decode cX11_init 132 = .ok (.getfield 34, 3) := by decide +kernel
theorem dX11_init_135 : decode cX11_init 135 = .ok (.aload_n 1, 1) := by decide +kernel
theorem dX11_init_136 : decode cX11_init 136 = .ok (.invokespecial 65, 3) := by decide +kernel
theorem cw_X8_init : CWi yX8_init cX8_init 4 3 := ⟨⟨⟨List.mem_of_getElem? (i := 135) (by decide +kernel), by decide +kernel⟩, ⟨List.mem_of_getElem? (i := 456) (by decide +kernel), by decide +kernel⟩, by decide +kernel⟩, ⟨List.mem_of_getElem? (i := 455) (by decide +kernel), by decide +kernel⟩, rfl⟩
theorem km11_65 : inW (Cond.methodLink RX11 65 yX8_init) := ⟨List.mem_of_getElem? (i := 454) (by decide +kernel), by decide +kernel⟩
def gl_113 : List Nat := [0, 2, 1, 1, 1, 1, 1, 0, 0, 0, 63, 63, 63, 0, 0, 0, 0, 0, 0, 0, 10, 10, 0, 0, 0, 0, 0, 0, 0, 0, 8, 8, 8, 8, 8, 8, 0, 0, 0, 0, 2, 2, 2, 2, 0, 0, 0, 0, 0, 0, 1, 1, 1, 1, 1, 1, 1, 0, 0, 0, 0, 0]
def gl_114 : List Nat := [0, 2, 1, 1, 1, 1, 1, 0, 0, 0, 63, 63, 63, 0, 0, 0, 0, 0, 0, 0, 10, 10, 0, 0, 0, 0, 0, 0, 0, 0, 8, 8, 8, 8, 8, 8, 0, 0, 0, 0, 2, 2, 2, 2, 0, 0, 0, 0, 0, 0, 1, 1, 1, 1, 1, 1, 1, 1, 0, 0, 0, 0]
def gl_115 : List Nat := [0, 2, 1, 1, 1, 1, 1, 0, 0, 0, 63, 63, 63, 0, 0, 0, 0, 0, 0, 0, 10, 10, 0, 0, 0, 0, 0, 0, 0, 0, 8, 8, 8, 8, 8, 8, 0, 0, 0, 0, 2, 2, 2, 2, 0, 0, 0, 0, 0, 0, 1, 1, 1, 1, 1, 1, 1, 1, 1, 0, 0, 0]
def gl_116 : List Nat := [0, 2, 1, 1, 1, 1, 1, 0, 0, 0, 63, 63, 63, 0, 0, 0, 0, 0, 0, 0, 10, 10, 0, 0, 0, 0, 0, 0, 0, 0, 8, 8, 8, 8, 8, 8, 0, 0, 0, 0, 2, 2, 2, 2, 0, 0, 0, 0, 0, 0, 1, 1, 1, 1, 1, 1, 1, 1, 1, 1, 0, 0]
def gl_117 : List Nat := [0, 2, 1, 1, 1, 1, 1, 1, 0, 0, 63, 63, 63, 0, 0, 0, 0, 0, 0, 0, 10, 10, 0, 0, 0, 0, 0, 0, 0, 0, 8, 8, 8, 8, 8, 8, 0, 0, 0, 0, 2, 2, 2, 2, 0, 0, 0, 0, 0, 0, 1, 1, 1, 1, 1, 1, 1, 1, 1, 1, 0, 0]
theorem dX11_init_139 : decode cX11_init 139 = .ok (.putfield 68, 3) := by decide +kernel
theorem dX11_init_142 : decode cX11_init 142 = .ok (.aload_n 0, 1) := by decide +kernel
theorem dX11_init_143 : decode cX11_init 143 = .ok (.new 72, 3) := by decide +kernel
theorem kc11_72 : inW (Cond.classLink RX11 72 RX0) := ⟨List.mem_of_getElem? (i := 489) (by decide +kernel), by decide +kernel⟩
theorem kn0 : inW (Cond.instantiable RX0 3) := ⟨List.mem_of_getElem? (i := 490) (by decide +kernel), by decide +kernel⟩
theorem ki0 : inW (Cond.initialized RX0) := ⟨List.mem_of_getElem? (i := 136) (by decide +kernel), by decide +kernel⟩
theorem dX11_init_146 : decode cX11_init 146 = .ok (.dup, 1) := by decide +kernel
theorem dX11_init_147 : decode cX11_init 147 = .ok (.aload_n 0, 1) := by decide +kernel
theorem dX11_init_148 : decode cX11_init 148 = .ok (.getfield 13, 3) := by decide +kernel
theorem dX11_init_151 : decode cX11_init 151 = .ok (.invokespecial 74, 3) := by decide +kernel
theorem cw_X0_init : CWi yX0_init cX0_init 2 1 := ⟨⟨⟨List.mem_of_getElem? (i := 136) (by decide +kernel), by decide +kernel⟩, ⟨List.mem_of_getElem? (i := 493) (by decide +kernel), by decide +kernel⟩, by decide +kernel⟩, ⟨List.mem_of_getElem? (i := 492) (by decide +kernel), by decide +kernel⟩, rfl⟩
theorem km11_74 : inW (Cond.methodLink RX11 74 yX0_init) := ⟨List.mem_of_getElem? (i := 491) (by decide +kernel), by decide +kernel⟩
def gl_118 : List Nat := [0, 2, 1, 1, 1, 1, 1, 1, 0, 0, 63, 63, 63, 0, 0, 0, 0, 0, 0, 0, 10, 10, 0, 0, 0, 0, 0, 0, 0, 0, 8, 8, 8, 8, 8, 8, 0, 0, 0, 0, 2, 2, 2, 2, 0, 0, 0, 0, 0, 0, 1, 1, 1, 1, 1, 1, 1, 1, 1, 1, 1, 0]
def gl_119 : List Nat := [0, 2, 1, 1, 1, 1, 1, 1, 0, 0, 63, 63, 63, 0, 0, 0, 0, 0, 0, 0, 10, 10, 0, 0, 0, 0, 0, 0, 0, 0, 8, 8, 8, 8, 8, 8, 0, 0, 0, 0, 2, 2, 2, 2, 0, 0, 0, 0, 0, 0, 1, 1, 1, 1, 1, 1, 1, 1, 1, 1, 1, 1]
def gl_120 : List Nat := [0, 2, 1, 1, 1, 1, 1, 1, 1, 0, 63, 63, 63, 0, 0, 0, 0, 0, 0, 0, 10, 10, 0, 0, 0, 0, 0, 0, 0, 0, 8, 8, 8, 8, 8, 8, 0, 0, 0, 0, 2, 2, 2, 2, 0, 0, 0, 0, 0, 0, 1, 1, 1, 1, 1, 1, 1, 1, 1, 1, 1, 1]
theorem dX11_init_154 : decode cX11_init 154 = .ok (.putfield 75, 3) := by decide +kernel
def gl_121 : List Nat := [1, 2, 1, 1, 1, 1, 1, 1, 1, 0, 63, 63, 63, 0, 0, 0, 0, 0, 0, 0, 10, 10, 0, 0, 0, 0, 0, 0, 0, 0, 8, 8, 8, 8, 8, 8, 0, 0, 0, 0, 2, 2, 2, 2, 0, 0, 0, 0, 0, 0, 1, 1, 1, 1, 1, 1, 1, 1, 1, 1, 1, 1]
theorem nn_fin : ∀ k, nL gl_121 k = nnC k := by
  have z : ∀ k : Fin 62, nL gl_121 k.1 = nnC k.1 := by decide
  intro k
  by_cases h : k < 62
  · exact z ⟨k, h⟩
  · have e1 : nL gl_121 k = 0 := by
      unfold nL
      rw [List.getD_eq_getElem?_getD, List.getElem?_eq_none (by show 62 ≤ k; omega)]; rfl
    rw [e1]
    unfold nnC
    split <;> first | omega | rfl
theorem dX11_init_157 : decode cX11_init 157 = .ok (.return_, 1) := by decide +kernel
theorem NR0 {ad : Nat → Nat → Nat} {x : Nat} : NRg (List.replicate 62 0) ad x := fun a b hb => by
  have z : nL (List.replicate 62 0) a = 0 := by
    unfold nL
    rw [List.getD_eq_getElem?_getD, List.getElem?_replicate]
    split <;> rfl
  rw [z] at hb
  exact absurd hb (Nat.not_lt_zero _)
set_option maxHeartbeats 4000000 in
set_option maxRecDepth 100000 in
theorem c_X11_init {l : Launch} {G : GG} {L : List Nat} {f : HF} {h : Nat}  (p_h : pt L f h (.inr (11, [.null, .null, .null, .null, .null, .null, .null, .null, .null])))  : PMv l yX11_init cX11_init 2 3 286 20231 G [.ref h] L f (fun L1 f1 => ∃ ad2 : Nat → Nat → Nat, kp L f L1 f1 [h] ∧ SH (spC (NR 30 0 4) ((0, 6) : Int × Int) t00 w00 q00) nnC G ad2 L1 f1 ∧ ad2 0 0 = h) := by
  refine PMv.of (post := fun L1 f1 => ∃ ad2 : Nat → Nat → Nat, kp L f L1 f1 [h] ∧ SH (spC (NR 30 0 4) ((0, 6) : Int × Int) t00 w00 q00) nnC G ad2 L1 f1 ∧ ad2 0 0 = h) (own := RX11) (by decide) rfl (Nat.le_of_ble_eq_true rfl) (fun sz p e s m args below meth c A ls hA1 hname S Y hl => ?_)
  have hx := S.hx
  have hb := S.hb
  have hl : lv_has ls 2 [(0, .ref h)] := hl
  have hk : kp L f L f [h] := kp.rf
  refine lv_aload_n hx hb dX11_init_0 rfl (lv_at hl 0 rfl) ?_
  refine pObj S km11_1 kObj1 kObj2 hl.1 (Nat.le_of_ble_eq_true rfl) (Nat.le_of_ble_eq_true rfl) dX11_init_1 ?_
  obtain ⟨ad, had⟩ : ∃ ad : Nat → Nat → Nat, ad = fun _ _ => 0 := ⟨_, rfl⟩
  have I : SHC gl_0 G ad L f := by rw [show gl_0 = List.replicate 62 0 from rfl]; exact SHC.none
  have nr_h : NRg gl_0 ad h := by rw [show gl_0 = List.replicate 62 0 from rfl]; exact NR0
  have hkI : kp L f L f [h] := kp.rf
  have hout : ∀ x, x ∈ L → NRg gl_0 ad x → NRg gl_0 ad x := fun _ _ h => h
  have hext : EXT gl_0 ad gl_0 ad := EXT.rf
  refine pg_new S Y ok_X4 kc11_7 kn4 ki4 (fs := [.null, .null, .int 0, .int 0, .int 0, .int 0, .int 0]) (by decide) (by decide) (by decide) dX11_init_4 (fun q_80821 f_80822 H nq_80821 ef_80822 Y => ?_)
  have whkq_80821 := hk.notin nq_80821
  have hk := hk.push ef_80822 nq_80821
  have whkIq_80821 := hkI.notin nq_80821
  have hkI := hkI.push ef_80822 nq_80821
  have p_h := p_h.push ef_80822 nq_80821
  have p_q_80821 := pt.new (L := L) ef_80822
  refine lv_dup hx hb dX11_init_7 rfl ?_
  refine cINv (b := q_80821) (As := []) (rest := [.ref q_80821]) S Y (c_X4_init (l := l) p_q_80821) cw_X4_init km11_9 rfl ⟨Nat.le_of_ble_eq_true rfl, Nat.le_of_ble_eq_true rfl⟩ hl.1 rfl (Nat.le_of_ble_eq_true rfl) ⟨Nat.le_of_ble_eq_true rfl, Nat.le_of_ble_eq_true rfl⟩ dX11_init_8 (fun L_80823 f_80824 H locs hf_80824 Y => ?_)
  obtain ⟨a__80825, a__80826, kf_80824, z_z_80827, z_z_80828, z_z_80829, v_80830, v_80831⟩ := hf_80824
  have w_80832 := hk.notin v_80830
  have w_80833 := hkI.notin v_80830
  have w_80834 := hk.notin v_80831
  have w_80835 := hkI.notin v_80831
  have p_h := kf_80824.1 h _ (nmc (p_h.neK p_q_80821 (by decide)) nm0) p_h
  have p_q_80821 := z_z_80827
  have p_a__80825 := z_z_80828
  have p_a__80826 := z_z_80829
  have hk := hk.call kf_80824 (fun b hb hp => (nmc (neL hp whkq_80821) nm0))
  have hkI := hkI.call kf_80824 (fun b hb hp => (nmc (neL hp whkIq_80821) nm0))
  have nr_q_80821 : NRg gl_0 ad q_80821 := (SHC.nr I whkIq_80821)
  have nr_a__80825 : NRg gl_0 ad a__80825 := (SHC.nr I w_80833)
  have nr_a__80826 : NRg gl_0 ad a__80826 := (SHC.nr I w_80835)
  have I := I.kp hkI (allc nr_h all0)
  have hkI : kp L_80823 f_80824 L_80823 f_80824 [h, q_80821, a__80825, a__80826] := kp.rf
  refine lv_astore_n (lv' := [(1, .ref q_80821), (0, .ref h)]) hx hb dX11_init_11 rfl hl (by decide) rfl (fun ls hl => ?_)
  refine lv_aload_n hx hb dX11_init_12 rfl (lv_at hl 1 rfl) ?_
  refine pg_new S Y ok_X10 kc11_10 kn10 ki10 (fs := [.null, .null, .null, .null, .null, .null, .null, .null, .null, .null, .int 0, .int 0, .int 0, .int 0, .int 0]) (by decide) (by decide) (by decide) dX11_init_13 (fun q_80836 f_80837 H nq_80836 ef_80837 Y => ?_)
  have whkq_80836 := hk.notin nq_80836
  have hk := hk.push ef_80837 nq_80836
  have whkIq_80836 := hkI.notin nq_80836
  have hkI := hkI.push ef_80837 nq_80836
  have p_h := p_h.push ef_80837 nq_80836
  have p_q_80821 := p_q_80821.push ef_80837 nq_80836
  have p_a__80825 := p_a__80825.push ef_80837 nq_80836
  have p_a__80826 := p_a__80826.push ef_80837 nq_80836
  have p_q_80836 := pt.new (L := L_80823) ef_80837
  refine lv_dup hx hb dX11_init_16 rfl ?_
  have nr_q_80836 : NRg gl_0 ad q_80836 := (SHC.nr I whkIq_80836)
  have I := I.kp hkI (allc nr_h (allc nr_q_80821 (allc nr_a__80825 (allc nr_a__80826 all0))))
  have hkI : kp (L_80823 ++ [q_80836]) f_80837 (L_80823 ++ [q_80836]) f_80837 [h, q_80821, a__80825, a__80826, q_80836] := kp.rf
  have mem_h := p_h.1
  have mem_q_80821 := p_q_80821.1
  have mem_a__80825 := p_a__80825.1
  have mem_a__80826 := p_a__80826.1
  have mem_q_80836 := p_q_80836.1
  have hkB := hk
  refine cIv (b := q_80836) (As := []) (rest := [.ref q_80836, .ref h]) S Y (c_world0 (l := l) p_q_80836 I nr_q_80836) cw_X10_init km11_12 rfl ⟨Nat.le_of_ble_eq_true rfl, Nat.le_of_ble_eq_true rfl⟩ hl.1 rfl (Nat.le_of_ble_eq_true rfl) ⟨Nat.le_of_ble_eq_true rfl, Nat.le_of_ble_eq_true rfl⟩ dX11_init_17 (fun L_80838 f_80839 H locs hf_80839 Y => ?_)
  obtain ⟨ad__80840, kf_80839, z_z_80841, hI_80842, hE_80843, hO_80844⟩ := hf_80839
  have p_h := kf_80839.1 h _ (nmc (p_h.neK p_q_80836 (by decide)) nm0) p_h
  have p_q_80821 := kf_80839.1 q_80821 _ (nmc (p_q_80821.neK p_q_80836 (by decide)) nm0) p_q_80821
  have p_a__80825 := kf_80839.1 a__80825 _ (nmc (p_a__80825.neB p_q_80836) nm0) p_a__80825
  have p_a__80826 := kf_80839.1 a__80826 _ (nmc (p_a__80826.neB p_q_80836) nm0) p_a__80826
  have p_q_80836 := z_z_80841
  have hk := hk.call kf_80839 (fun b hb hp => (nmc (neL hp whkq_80836) nm0))
  have hkI := hkI.call kf_80839 (fun b hb hp => (nmc (fun q => hb (by simp [q])) nm0))
  have I := hI_80842
  have nr_h := hO_80844 _ mem_h nr_h
  have nr_q_80821 := hO_80844 _ mem_q_80821 nr_q_80821
  have nr_a__80825 := hO_80844 _ mem_a__80825 nr_a__80825
  have nr_a__80826 := hO_80844 _ mem_a__80826 nr_a__80826
  have nr_q_80836 := hO_80844 _ mem_q_80836 nr_q_80836
  have hout : ∀ x, x ∈ L → NRg gl_0 ad x → NRg gl_1 ad__80840 x := fun x hx hn => hO_80844 x (hkB.2 x hx) (hout x hx hn)
  have hext := hext.tr hE_80843
  have hkI : kp L_80838 f_80839 L_80838 f_80839 [h, q_80821, a__80825, a__80826, q_80836] := kp.rf
  have I := I.kp hkI (allc nr_h (allc nr_q_80821 (allc nr_a__80825 (allc nr_a__80826 (allc nr_q_80836 all0)))))
  have hkI : kp L_80838 f_80839 L_80838 f_80839 [h, q_80821, a__80825, a__80826, q_80836] := kp.rf
  obtain ⟨ad1, I, X_80845, Y_80846, Z_80847⟩ := SHC.add (l2 := gl_50) I (k := 1) (n := 0) rfl (by decide) rfl p_q_80836 nr_q_80836 (okE_o (okFs_c (okV_re rfl) (okFs_c (okV_re rfl) (okFs_c (okV_re rfl) (okFs_c (okV_re rfl) (okFs_c (okV_re rfl) (okFs_c (okV_re rfl) (okFs_c (okV_re rfl) (okFs_c (okV_re rfl) (okFs_c (okV_re rfl) (okFs_c (okV_re rfl) (okFs_c (okV_i (by constructor <;> decide)) (okFs_c (okV_p (by constructor <;> decide)) (okFs_c (okV_i (by constructor <;> decide)) (okFs_c (okV_i (by constructor <;> decide)) (okFs_c (okV_i (by constructor <;> decide)) okFs_n)))))))))))))))) ⟨(show 0 < nL gl_1 40 from by decide), ⟨(show 0 < nL gl_1 41 from by decide), ⟨(show 0 < nL gl_1 42 from by decide), ⟨(show 0 < nL gl_1 10 from by decide), ⟨(show 0 < nL gl_1 43 from by decide), ⟨(show 0 < nL gl_1 20 from by decide), ⟨(show 1 < nL gl_1 20 from by decide), ⟨(show 2 < nL gl_1 20 from by decide), ⟨(show 3 < nL gl_1 20 from by decide), ⟨(show 4 < nL gl_1 20 from by decide), ⟨trivial, ⟨trivial, ⟨trivial, ⟨trivial, ⟨trivial, trivial⟩⟩⟩⟩⟩⟩⟩⟩⟩⟩⟩⟩⟩⟩⟩
  have nr_h := Z_80847 _ nr_h (p_h.neK p_q_80836 (by decide))
  have nr_q_80821 := Z_80847 _ nr_q_80821 (p_q_80821.neK p_q_80836 (by decide))
  have nr_a__80825 := Z_80847 _ nr_a__80825 (p_a__80825.neB p_q_80836)
  have nr_a__80826 := Z_80847 _ nr_a__80826 (p_a__80826.neB p_q_80836)
  have hout : ∀ x, x ∈ L → NRg gl_0 ad x → NRg gl_50 ad1 x := fun x hx hn => Z_80847 x (hout x hx hn) (fun e => whkq_80836 (by rw [← e]; exact hx))
  have hext := hext.tr X_80845
  have eq1_0 := Y_80846
  have hkI : kp L_80838 f_80839 L_80838 f_80839 [h, q_80821, a__80825, a__80826] := kp.rf
  refine pg_putF S Y hname ok_X11 0 (by decide) kf11_13 rfl rfl (fs' := [.ref q_80836, .null, .null, .null, .null, .null, .null, .null, .null]) (v := .ref q_80836) p_h rfl rfl rfl (Nat.le_of_ble_eq_true rfl) dX11_init_20 (fun f_80848 H locs ef_80848 Y => ?_)
  have p_q_80821 := p_q_80821.up ef_80848 ((p_q_80821.neK p_h (by decide)))
  have p_a__80825 := p_a__80825.up ef_80848 ((p_a__80825.neB p_h))
  have p_a__80826 := p_a__80826.up ef_80848 ((p_a__80826.neB p_h))
  have p_h := p_h.me ef_80848
  have hk := hk.up ef_80848 (by simp)
  have hkI := hkI.up ef_80848 (by simp)
  refine lv_aload_n hx hb dX11_init_23 rfl (lv_at hl 1 rfl) ?_
  refine pg_new S Y ok_X10 kc11_10 kn10 ki10 (fs := [.null, .null, .null, .null, .null, .null, .null, .null, .null, .null, .int 0, .int 0, .int 0, .int 0, .int 0]) (by decide) (by decide) (by decide) dX11_init_24 (fun q_80849 f_80850 H nq_80849 ef_80850 Y => ?_)
  have whkq_80849 := hk.notin nq_80849
  have hk := hk.push ef_80850 nq_80849
  have whkIq_80849 := hkI.notin nq_80849
  have hkI := hkI.push ef_80850 nq_80849
  have p_h := p_h.push ef_80850 nq_80849
  have p_q_80821 := p_q_80821.push ef_80850 nq_80849
  have p_a__80825 := p_a__80825.push ef_80850 nq_80849
  have p_a__80826 := p_a__80826.push ef_80850 nq_80849
  have p_q_80849 := pt.new (L := L_80838) ef_80850
  refine lv_dup hx hb dX11_init_27 rfl ?_
  have nr_q_80849 : NRg gl_50 ad1 q_80849 := (SHC.nr I whkIq_80849)
  have I := I.kp hkI (allc nr_h (allc nr_q_80821 (allc nr_a__80825 (allc nr_a__80826 all0))))
  have hkI : kp (L_80838 ++ [q_80849]) f_80850 (L_80838 ++ [q_80849]) f_80850 [h, q_80821, a__80825, a__80826, q_80849] := kp.rf
  have mem_h := p_h.1
  have mem_q_80821 := p_q_80821.1
  have mem_a__80825 := p_a__80825.1
  have mem_a__80826 := p_a__80826.1
  have mem_q_80849 := p_q_80849.1
  have hkB := hk
  refine cIv (b := q_80849) (As := []) (rest := [.ref q_80849, .ref h]) S Y (c_world1 (l := l) p_q_80849 I nr_q_80849) cw_X10_init km11_12 rfl ⟨Nat.le_of_ble_eq_true rfl, Nat.le_of_ble_eq_true rfl⟩ hl.1 rfl (Nat.le_of_ble_eq_true rfl) ⟨Nat.le_of_ble_eq_true rfl, Nat.le_of_ble_eq_true rfl⟩ dX11_init_28 (fun L_80851 f_80852 H locs hf_80852 Y => ?_)
  obtain ⟨ad__80853, kf_80852, z_z_80854, hI_80855, hE_80856, hO_80857⟩ := hf_80852
  have p_h := kf_80852.1 h _ (nmc (p_h.neK p_q_80849 (by decide)) nm0) p_h
  have p_q_80821 := kf_80852.1 q_80821 _ (nmc (p_q_80821.neK p_q_80849 (by decide)) nm0) p_q_80821
  have p_a__80825 := kf_80852.1 a__80825 _ (nmc (p_a__80825.neB p_q_80849) nm0) p_a__80825
  have p_a__80826 := kf_80852.1 a__80826 _ (nmc (p_a__80826.neB p_q_80849) nm0) p_a__80826
  have p_q_80849 := z_z_80854
  have hk := hk.call kf_80852 (fun b hb hp => (nmc (neL hp whkq_80849) nm0))
  have hkI := hkI.call kf_80852 (fun b hb hp => (nmc (fun q => hb (by simp [q])) nm0))
  have I := hI_80855
  have eq1_0 := (hE_80856.2 1 0 (by decide)).trans eq1_0
  have nr_h := hO_80857 _ mem_h nr_h
  have nr_q_80821 := hO_80857 _ mem_q_80821 nr_q_80821
  have nr_a__80825 := hO_80857 _ mem_a__80825 nr_a__80825
  have nr_a__80826 := hO_80857 _ mem_a__80826 nr_a__80826
  have nr_q_80849 := hO_80857 _ mem_q_80849 nr_q_80849
  have hout : ∀ x, x ∈ L → NRg gl_0 ad x → NRg gl_51 ad__80853 x := fun x hx hn => hO_80857 x (hkB.2 x hx) (hout x hx hn)
  have hext := hext.tr hE_80856
  have hkI : kp L_80851 f_80852 L_80851 f_80852 [h, q_80821, a__80825, a__80826, q_80849] := kp.rf
  have I := I.kp hkI (allc nr_h (allc nr_q_80821 (allc nr_a__80825 (allc nr_a__80826 (allc nr_q_80849 all0)))))
  have hkI : kp L_80851 f_80852 L_80851 f_80852 [h, q_80821, a__80825, a__80826, q_80849] := kp.rf
  obtain ⟨ad2, I, X_80858, Y_80859, Z_80860⟩ := SHC.add (l2 := gl_100) I (k := 1) (n := 1) rfl (by decide) rfl p_q_80849 nr_q_80849 (okE_o (okFs_c (okV_re rfl) (okFs_c (okV_re rfl) (okFs_c (okV_re rfl) (okFs_c (okV_re rfl) (okFs_c (okV_re rfl) (okFs_c (okV_re rfl) (okFs_c (okV_re rfl) (okFs_c (okV_re rfl) (okFs_c (okV_re rfl) (okFs_c (okV_re rfl) (okFs_c (okV_i (by constructor <;> decide)) (okFs_c (okV_p (by constructor <;> decide)) (okFs_c (okV_i (by constructor <;> decide)) (okFs_c (okV_i (by constructor <;> decide)) (okFs_c (okV_i (by constructor <;> decide)) okFs_n)))))))))))))))) ⟨(show 1 < nL gl_51 40 from by decide), ⟨(show 1 < nL gl_51 41 from by decide), ⟨(show 1 < nL gl_51 42 from by decide), ⟨(show 31 < nL gl_51 10 from by decide), ⟨(show 1 < nL gl_51 43 from by decide), ⟨(show 5 < nL gl_51 20 from by decide), ⟨(show 6 < nL gl_51 20 from by decide), ⟨(show 7 < nL gl_51 20 from by decide), ⟨(show 8 < nL gl_51 20 from by decide), ⟨(show 9 < nL gl_51 20 from by decide), ⟨trivial, ⟨trivial, ⟨trivial, ⟨trivial, ⟨trivial, trivial⟩⟩⟩⟩⟩⟩⟩⟩⟩⟩⟩⟩⟩⟩⟩
  have eq1_0 := (X_80858.2 1 0 (by decide)).trans eq1_0
  have nr_h := Z_80860 _ nr_h (p_h.neK p_q_80849 (by decide))
  have nr_q_80821 := Z_80860 _ nr_q_80821 (p_q_80821.neK p_q_80849 (by decide))
  have nr_a__80825 := Z_80860 _ nr_a__80825 (p_a__80825.neB p_q_80849)
  have nr_a__80826 := Z_80860 _ nr_a__80826 (p_a__80826.neB p_q_80849)
  have hout : ∀ x, x ∈ L → NRg gl_0 ad x → NRg gl_100 ad2 x := fun x hx hn => Z_80860 x (hout x hx hn) (fun e => whkq_80849 (by rw [← e]; exact hx))
  have hext := hext.tr X_80858
  have eq1_1 := Y_80859
  have hkI : kp L_80851 f_80852 L_80851 f_80852 [h, q_80821, a__80825, a__80826] := kp.rf
  have I := I.kp hkI (allc nr_h (allc nr_q_80821 (allc nr_a__80825 (allc nr_a__80826 all0))))
  have hkI : kp L_80851 f_80852 L_80851 f_80852 [h, q_80821, a__80825, a__80826] := kp.rf
  obtain ⟨ad3, I, X_80861, Y_80862, Z_80863⟩ := SHC.led (l2 := gl_101) (n := 62) I rfl rfl rfl (by decide) rfl p_q_80821 p_a__80825 p_a__80826 nr_q_80821 nr_a__80825 nr_a__80826
  have eq1_0 := (X_80861.2 1 0 (by decide)).trans eq1_0
  have eq1_1 := (X_80861.2 1 1 (by decide)).trans eq1_1
  have nr_h := Z_80863 _ nr_h (p_h.neK p_q_80821 (by decide)) (p_h.neA p_a__80825) (p_h.neA p_a__80826)
  have hout : ∀ x, x ∈ L → NRg gl_0 ad x → NRg gl_101 ad3 x := fun x hx hn => Z_80863 x (hout x hx hn) (fun e => whkq_80821 (by rw [← e]; exact hx)) (fun e => w_80832 (by rw [← e]; exact hx)) (fun e => w_80834 (by rw [← e]; exact hx))
  have hext := hext.tr X_80861
  have eq10_62 := Y_80862
  have hkI : kp L_80851 f_80852 L_80851 f_80852 [h] := kp.rf
  refine pg_putF S Y hname ok_X11 1 (by decide) kf11_19 rfl rfl (fs' := [.ref q_80836, .ref q_80849, .null, .null, .null, .null, .null, .null, .null]) (v := .ref q_80849) p_h rfl rfl rfl (Nat.le_of_ble_eq_true rfl) dX11_init_31 (fun f_80864 H locs ef_80864 Y => ?_)
  have p_h := p_h.me ef_80864
  have hk := hk.up ef_80864 (by simp)
  have hkI := hkI.up ef_80864 (by simp)
  refine lv_aload_n hx hb dX11_init_34 rfl (lv_at hl 1 rfl) ?_
  refine pg_new S Y ok_X5 kc11_22 kn5 ki5 (fs := [.null, .null, .null, .null, .int 0, .int 0, .int 0, .int 0, .int 0, .int 0, .int 0, .null, .int 0, .int 0]) (by decide) (by decide) (by decide) dX11_init_35 (fun q_80865 f_80866 H nq_80865 ef_80866 Y => ?_)
  have whkq_80865 := hk.notin nq_80865
  have hk := hk.push ef_80866 nq_80865
  have whkIq_80865 := hkI.notin nq_80865
  have hkI := hkI.push ef_80866 nq_80865
  have p_h := p_h.push ef_80866 nq_80865
  have p_q_80865 := pt.new (L := L_80851) ef_80866
  refine lv_dup hx hb dX11_init_38 rfl ?_
  refine cINv (b := q_80865) (As := []) (rest := [.ref q_80865, .ref h]) S Y (c_X5_init (l := l) p_q_80865) cw_X5_init km11_24 rfl ⟨Nat.le_of_ble_eq_true rfl, Nat.le_of_ble_eq_true rfl⟩ hl.1 rfl (Nat.le_of_ble_eq_true rfl) ⟨Nat.le_of_ble_eq_true rfl, Nat.le_of_ble_eq_true rfl⟩ dX11_init_39 (fun L_80867 f_80868 H locs hf_80868 Y => ?_)
  obtain ⟨a__80869, a__80870, a__80871, a__80872, kf_80868, z_z_80873, z_z_80874, z_z_80875, z_z_80876, z_z_80877, na2a3_80878, na2a4_80879, na3a4_80880, v_80881, v_80882, v_80883, v_80884⟩ := hf_80868
  have w_80885 := hk.notin v_80881
  have w_80886 := hkI.notin v_80881
  have w_80887 := hk.notin v_80882
  have w_80888 := hkI.notin v_80882
  have w_80889 := hk.notin v_80883
  have w_80890 := hkI.notin v_80883
  have w_80891 := hk.notin v_80884
  have w_80892 := hkI.notin v_80884
  have p_h := kf_80868.1 h _ (nmc (p_h.neK p_q_80865 (by decide)) nm0) p_h
  have p_q_80865 := z_z_80873
  have p_a__80869 := z_z_80874
  have p_a__80870 := z_z_80875
  have p_a__80871 := z_z_80876
  have p_a__80872 := z_z_80877
  have hk := hk.call kf_80868 (fun b hb hp => (nmc (neL hp whkq_80865) nm0))
  have hkI := hkI.call kf_80868 (fun b hb hp => (nmc (neL hp whkIq_80865) nm0))
  have nr_q_80865 : NRg gl_101 ad3 q_80865 := (SHC.nr I whkIq_80865)
  have nr_a__80869 : NRg gl_101 ad3 a__80869 := (SHC.nr I w_80886)
  have nr_a__80870 : NRg gl_101 ad3 a__80870 := (SHC.nr I w_80888)
  have nr_a__80871 : NRg gl_101 ad3 a__80871 := (SHC.nr I w_80890)
  have nr_a__80872 : NRg gl_101 ad3 a__80872 := (SHC.nr I w_80892)
  have I := I.kp hkI (allc nr_h all0)
  have hkI : kp L_80867 f_80868 L_80867 f_80868 [h, q_80865, a__80869, a__80870, a__80871, a__80872] := kp.rf
  obtain ⟨ad4, I, X_80893, Y_80894, Z_80895⟩ := SHC.add (l2 := gl_102) I (k := 50) (n := 0) rfl (by decide) rfl p_a__80869 nr_a__80869 (okE_a (g := (fun _ => 0)) trivial) trivial
  have eq1_0 := (X_80893.2 1 0 (by decide)).trans eq1_0
  have eq1_1 := (X_80893.2 1 1 (by decide)).trans eq1_1
  have eq10_62 := (X_80893.2 10 62 (by decide)).trans eq10_62
  have nr_h := Z_80895 _ nr_h (p_h.neA p_a__80869)
  have nr_q_80865 := Z_80895 _ nr_q_80865 (p_q_80865.neA p_a__80869)
  have nr_a__80870 := Z_80895 _ nr_a__80870 (p_a__80870.neN p_a__80869 (by decide))
  have nr_a__80871 := Z_80895 _ nr_a__80871 (p_a__80871.neN p_a__80869 (by decide))
  have nr_a__80872 := Z_80895 _ nr_a__80872 (p_a__80872.neN p_a__80869 (by decide))
  have hout : ∀ x, x ∈ L → NRg gl_0 ad x → NRg gl_102 ad4 x := fun x hx hn => Z_80895 x (hout x hx hn) (fun e => w_80885 (by rw [← e]; exact hx))
  have hext := hext.tr X_80893
  have eq50_0 := Y_80894
  have hkI : kp L_80867 f_80868 L_80867 f_80868 [h, q_80865, a__80870, a__80871, a__80872] := kp.rf
  have I := I.kp hkI (allc nr_h (allc nr_q_80865 (allc nr_a__80870 (allc nr_a__80871 (allc nr_a__80872 all0)))))
  have hkI : kp L_80867 f_80868 L_80867 f_80868 [h, q_80865, a__80870, a__80871, a__80872] := kp.rf
  obtain ⟨ad5, I, X_80896, Y_80897, Z_80898⟩ := SHC.add (l2 := gl_103) I (k := 51) (n := 0) rfl (by decide) rfl p_a__80870 nr_a__80870 (okE_a (g := (fun _ => 0)) trivial) trivial
  have eq1_0 := (X_80896.2 1 0 (by decide)).trans eq1_0
  have eq1_1 := (X_80896.2 1 1 (by decide)).trans eq1_1
  have eq10_62 := (X_80896.2 10 62 (by decide)).trans eq10_62
  have eq50_0 := (X_80896.2 50 0 (by decide)).trans eq50_0
  have nr_h := Z_80898 _ nr_h (p_h.neA p_a__80870)
  have nr_q_80865 := Z_80898 _ nr_q_80865 (p_q_80865.neA p_a__80870)
  have nr_a__80871 := Z_80898 _ nr_a__80871 (Ne.symm (na2a3_80878))
  have nr_a__80872 := Z_80898 _ nr_a__80872 (Ne.symm (na2a4_80879))
  have hout : ∀ x, x ∈ L → NRg gl_0 ad x → NRg gl_103 ad5 x := fun x hx hn => Z_80898 x (hout x hx hn) (fun e => w_80887 (by rw [← e]; exact hx))
  have hext := hext.tr X_80896
  have eq51_0 := Y_80897
  have hkI : kp L_80867 f_80868 L_80867 f_80868 [h, q_80865, a__80871, a__80872] := kp.rf
  have I := I.kp hkI (allc nr_h (allc nr_q_80865 (allc nr_a__80871 (allc nr_a__80872 all0))))
  have hkI : kp L_80867 f_80868 L_80867 f_80868 [h, q_80865, a__80871, a__80872] := kp.rf
  obtain ⟨ad6, I, X_80899, Y_80900, Z_80901⟩ := SHC.add (l2 := gl_104) I (k := 52) (n := 0) rfl (by decide) rfl p_a__80871 nr_a__80871 (okE_a (g := (fun _ => 0)) trivial) trivial
  have eq1_0 := (X_80899.2 1 0 (by decide)).trans eq1_0
  have eq1_1 := (X_80899.2 1 1 (by decide)).trans eq1_1
  have eq10_62 := (X_80899.2 10 62 (by decide)).trans eq10_62
  have eq50_0 := (X_80899.2 50 0 (by decide)).trans eq50_0
  have eq51_0 := (X_80899.2 51 0 (by decide)).trans eq51_0
  have nr_h := Z_80901 _ nr_h (p_h.neA p_a__80871)
  have nr_q_80865 := Z_80901 _ nr_q_80865 (p_q_80865.neA p_a__80871)
  have nr_a__80872 := Z_80901 _ nr_a__80872 (Ne.symm (na3a4_80880))
  have hout : ∀ x, x ∈ L → NRg gl_0 ad x → NRg gl_104 ad6 x := fun x hx hn => Z_80901 x (hout x hx hn) (fun e => w_80889 (by rw [← e]; exact hx))
  have hext := hext.tr X_80899
  have eq52_0 := Y_80900
  have hkI : kp L_80867 f_80868 L_80867 f_80868 [h, q_80865, a__80872] := kp.rf
  have I := I.kp hkI (allc nr_h (allc nr_q_80865 (allc nr_a__80872 all0)))
  have hkI : kp L_80867 f_80868 L_80867 f_80868 [h, q_80865, a__80872] := kp.rf
  obtain ⟨ad7, I, X_80902, Y_80903, Z_80904⟩ := SHC.add (l2 := gl_105) I (k := 53) (n := 0) rfl (by decide) rfl p_a__80872 nr_a__80872 (okE_a (g := (fun _ => 0)) trivial) trivial
  have eq1_0 := (X_80902.2 1 0 (by decide)).trans eq1_0
  have eq1_1 := (X_80902.2 1 1 (by decide)).trans eq1_1
  have eq10_62 := (X_80902.2 10 62 (by decide)).trans eq10_62
  have eq50_0 := (X_80902.2 50 0 (by decide)).trans eq50_0
  have eq51_0 := (X_80902.2 51 0 (by decide)).trans eq51_0
  have eq52_0 := (X_80902.2 52 0 (by decide)).trans eq52_0
  have nr_h := Z_80904 _ nr_h (p_h.neA p_a__80872)
  have nr_q_80865 := Z_80904 _ nr_q_80865 (p_q_80865.neA p_a__80872)
  have hout : ∀ x, x ∈ L → NRg gl_0 ad x → NRg gl_105 ad7 x := fun x hx hn => Z_80904 x (hout x hx hn) (fun e => w_80891 (by rw [← e]; exact hx))
  have hext := hext.tr X_80902
  have eq53_0 := Y_80903
  have hkI : kp L_80867 f_80868 L_80867 f_80868 [h, q_80865] := kp.rf
  have I := I.kp hkI (allc nr_h (allc nr_q_80865 all0))
  have hkI : kp L_80867 f_80868 L_80867 f_80868 [h, q_80865] := kp.rf
  obtain ⟨ad8, I, X_80905, Y_80906, Z_80907⟩ := SHC.add (l2 := gl_106) I (k := 2) (n := 0) rfl (by decide) rfl p_q_80865 nr_q_80865 (okE_o (okFs_c (okV_re eq50_0) (okFs_c (okV_re eq51_0) (okFs_c (okV_re eq52_0) (okFs_c (okV_re eq53_0) (okFs_c (okV_i (by constructor <;> decide)) (okFs_c (okV_i (by constructor <;> decide)) (okFs_c (okV_i (by constructor <;> decide)) (okFs_c (okV_i (by constructor <;> decide)) (okFs_c (okV_i (by constructor <;> decide)) (okFs_c (okV_i (by constructor <;> decide)) (okFs_c (okV_i (by constructor <;> decide)) (okFs_c okV_n0 (okFs_c (okV_i (by constructor <;> decide)) (okFs_c (okV_i (by constructor <;> decide)) okFs_n))))))))))))))) ⟨(show 0 < nL gl_105 50 from by decide), ⟨(show 0 < nL gl_105 51 from by decide), ⟨(show 0 < nL gl_105 52 from by decide), ⟨(show 0 < nL gl_105 53 from by decide), ⟨trivial, ⟨trivial, ⟨trivial, ⟨trivial, ⟨trivial, ⟨trivial, ⟨trivial, ⟨(show ∀ t, t < 4 → 0 + t < nL gl_105 30 from fun t ht => (show t < 4 from ht) |> fun h => by show 0 + t < 8; omega), ⟨trivial, ⟨trivial, trivial⟩⟩⟩⟩⟩⟩⟩⟩⟩⟩⟩⟩⟩⟩
  have eq1_0 := (X_80905.2 1 0 (by decide)).trans eq1_0
  have eq1_1 := (X_80905.2 1 1 (by decide)).trans eq1_1
  have eq10_62 := (X_80905.2 10 62 (by decide)).trans eq10_62
  have eq50_0 := (X_80905.2 50 0 (by decide)).trans eq50_0
  have eq51_0 := (X_80905.2 51 0 (by decide)).trans eq51_0
  have eq52_0 := (X_80905.2 52 0 (by decide)).trans eq52_0
  have eq53_0 := (X_80905.2 53 0 (by decide)).trans eq53_0
  have nr_h := Z_80907 _ nr_h (p_h.neK p_q_80865 (by decide))
  have hout : ∀ x, x ∈ L → NRg gl_0 ad x → NRg gl_106 ad8 x := fun x hx hn => Z_80907 x (hout x hx hn) (fun e => whkq_80865 (by rw [← e]; exact hx))
  have hext := hext.tr X_80905
  have eq2_0 := Y_80906
  have hkI : kp L_80867 f_80868 L_80867 f_80868 [h] := kp.rf
  refine pg_putF S Y hname ok_X11 2 (by decide) kf11_25 rfl rfl (fs' := [.ref q_80836, .ref q_80849, .ref q_80865, .null, .null, .null, .null, .null, .null]) (v := .ref q_80865) p_h rfl rfl rfl (Nat.le_of_ble_eq_true rfl) dX11_init_42 (fun f_80908 H locs ef_80908 Y => ?_)
  have p_h := p_h.me ef_80908
  have hk := hk.up ef_80908 (by simp)
  have hkI := hkI.up ef_80908 (by simp)
  refine lv_aload_n hx hb dX11_init_45 rfl (lv_at hl 1 rfl) ?_
  refine pg_new S Y ok_X3 kc11_29 kn3 ki3 (fs := [.null, .null, .int 0]) (by decide) (by decide) (by decide) dX11_init_46 (fun q_80909 f_80910 H nq_80909 ef_80910 Y => ?_)
  have whkq_80909 := hk.notin nq_80909
  have hk := hk.push ef_80910 nq_80909
  have whkIq_80909 := hkI.notin nq_80909
  have hkI := hkI.push ef_80910 nq_80909
  have p_h := p_h.push ef_80910 nq_80909
  have p_q_80909 := pt.new (L := L_80867) ef_80910
  refine lv_dup hx hb dX11_init_49 rfl ?_
  refine lv_aload_n hx hb dX11_init_50 rfl (lv_at hl 1 rfl) ?_
  refine pg_get S Y ok_X11 0 (by decide) kf11_13 (v := .ref q_80836) p_h rfl dX11_init_51 ?_
  refine cIv (b := q_80909) (As := [.ref q_80836]) (rest := [.ref q_80909, .ref h]) S Y (c_X3_init (l := l) p_q_80909) cw_X3_init km11_31 rfl ⟨Nat.le_of_ble_eq_true rfl, Nat.le_of_ble_eq_true rfl⟩ hl.1 rfl (Nat.le_of_ble_eq_true rfl) ⟨Nat.le_of_ble_eq_true rfl, Nat.le_of_ble_eq_true rfl⟩ dX11_init_54 (fun L_80911 f_80912 H locs hf_80912 Y => ?_)
  obtain ⟨a__80913, kf_80912, z_z_80914, z_z_80915, v_80916⟩ := hf_80912
  have w_80917 := hk.notin v_80916
  have w_80918 := hkI.notin v_80916
  have p_h := kf_80912.1 h _ (nmc (p_h.neK p_q_80909 (by decide)) nm0) p_h
  have p_q_80909 := z_z_80914
  have p_a__80913 := z_z_80915
  have hk := hk.call kf_80912 (fun b hb hp => (nmc (neL hp whkq_80909) nm0))
  have hkI := hkI.call kf_80912 (fun b hb hp => (nmc (neL hp whkIq_80909) nm0))
  have nr_q_80909 : NRg gl_106 ad8 q_80909 := (SHC.nr I whkIq_80909)
  have nr_a__80913 : NRg gl_106 ad8 a__80913 := (SHC.nr I w_80918)
  have I := I.kp hkI (allc nr_h all0)
  have hkI : kp L_80911 f_80912 L_80911 f_80912 [h, q_80909, a__80913] := kp.rf
  obtain ⟨ad9, I, X_80919, Y_80920, Z_80921⟩ := SHC.add (l2 := gl_107) I (k := 54) (n := 0) rfl (by decide) rfl p_a__80913 nr_a__80913 (okE_a (g := (fun _ => 0)) trivial) trivial
  have eq1_0 := (X_80919.2 1 0 (by decide)).trans eq1_0
  have eq1_1 := (X_80919.2 1 1 (by decide)).trans eq1_1
  have eq10_62 := (X_80919.2 10 62 (by decide)).trans eq10_62
  have eq2_0 := (X_80919.2 2 0 (by decide)).trans eq2_0
  have nr_h := Z_80921 _ nr_h (p_h.neA p_a__80913)
  have nr_q_80909 := Z_80921 _ nr_q_80909 (p_q_80909.neA p_a__80913)
  have hout : ∀ x, x ∈ L → NRg gl_0 ad x → NRg gl_107 ad9 x := fun x hx hn => Z_80921 x (hout x hx hn) (fun e => w_80917 (by rw [← e]; exact hx))
  have hext := hext.tr X_80919
  have eq54_0 := Y_80920
  have hkI : kp L_80911 f_80912 L_80911 f_80912 [h, q_80909] := kp.rf
  have I := I.kp hkI (allc nr_h (allc nr_q_80909 all0))
  have hkI : kp L_80911 f_80912 L_80911 f_80912 [h, q_80909] := kp.rf
  obtain ⟨ad10, I, X_80922, Y_80923, Z_80924⟩ := SHC.add (l2 := gl_108) I (k := 3) (n := 0) rfl (by decide) rfl p_q_80909 nr_q_80909 (okE_o (okFs_c (okV_re eq1_0) (okFs_c (okV_re eq54_0) (okFs_c (okV_i (by constructor <;> decide)) okFs_n)))) ⟨(show 0 < nL gl_107 1 from by decide), ⟨(show 0 < nL gl_107 54 from by decide), ⟨trivial, trivial⟩⟩⟩
  have eq1_0 := (X_80922.2 1 0 (by decide)).trans eq1_0
  have eq1_1 := (X_80922.2 1 1 (by decide)).trans eq1_1
  have eq10_62 := (X_80922.2 10 62 (by decide)).trans eq10_62
  have eq2_0 := (X_80922.2 2 0 (by decide)).trans eq2_0
  have eq54_0 := (X_80922.2 54 0 (by decide)).trans eq54_0
  have nr_h := Z_80924 _ nr_h (p_h.neK p_q_80909 (by decide))
  have hout : ∀ x, x ∈ L → NRg gl_0 ad x → NRg gl_108 ad10 x := fun x hx hn => Z_80924 x (hout x hx hn) (fun e => whkq_80909 (by rw [← e]; exact hx))
  have hext := hext.tr X_80922
  have eq3_0 := Y_80923
  have hkI : kp L_80911 f_80912 L_80911 f_80912 [h] := kp.rf
  refine pg_putF S Y hname ok_X11 3 (by decide) kf11_34 rfl rfl (fs' := [.ref q_80836, .ref q_80849, .ref q_80865, .ref q_80909, .null, .null, .null, .null, .null]) (v := .ref q_80909) p_h rfl rfl rfl (Nat.le_of_ble_eq_true rfl) dX11_init_57 (fun f_80925 H locs ef_80925 Y => ?_)
  have p_h := p_h.me ef_80925
  have hk := hk.up ef_80925 (by simp)
  have hkI := hkI.up ef_80925 (by simp)
  refine lv_aload_n hx hb dX11_init_60 rfl (lv_at hl 1 rfl) ?_
  refine pg_new S Y ok_X6 kc11_38 kn6 ki6 (fs := [.null, .int 0]) (by decide) (by decide) (by decide) dX11_init_61 (fun q_80926 f_80927 H nq_80926 ef_80927 Y => ?_)
  have whkq_80926 := hk.notin nq_80926
  have hk := hk.push ef_80927 nq_80926
  have whkIq_80926 := hkI.notin nq_80926
  have hkI := hkI.push ef_80927 nq_80926
  have p_h := p_h.push ef_80927 nq_80926
  have p_q_80926 := pt.new (L := L_80911) ef_80927
  refine lv_dup hx hb dX11_init_64 rfl ?_
  refine lv_aload_n hx hb dX11_init_65 rfl (lv_at hl 1 rfl) ?_
  refine pg_get S Y ok_X11 0 (by decide) kf11_13 (v := .ref q_80836) p_h rfl dX11_init_66 ?_
  refine cIv (b := q_80926) (As := [.ref q_80836]) (rest := [.ref q_80926, .ref h]) S Y (c_X6_init (l := l) p_q_80926) cw_X6_init km11_40 rfl ⟨Nat.le_of_ble_eq_true rfl, Nat.le_of_ble_eq_true rfl⟩ hl.1 rfl (Nat.le_of_ble_eq_true rfl) ⟨Nat.le_of_ble_eq_true rfl, Nat.le_of_ble_eq_true rfl⟩ dX11_init_69 (fun L_80928 f_80929 H locs hf_80929 Y => ?_)
  obtain ⟨kf_80929, z_z_80930⟩ := hf_80929
  have p_h := kf_80929.1 h _ (nmc (p_h.neK p_q_80926 (by decide)) nm0) p_h
  have p_q_80926 := z_z_80930
  have hk := hk.call kf_80929 (fun b hb hp => (nmc (neL hp whkq_80926) nm0))
  have hkI := hkI.call kf_80929 (fun b hb hp => (nmc (neL hp whkIq_80926) nm0))
  have nr_q_80926 : NRg gl_108 ad10 q_80926 := (SHC.nr I whkIq_80926)
  have I := I.kp hkI (allc nr_h all0)
  have hkI : kp L_80928 f_80929 L_80928 f_80929 [h, q_80926] := kp.rf
  obtain ⟨ad11, I, X_80931, Y_80932, Z_80933⟩ := SHC.add (l2 := gl_109) I (k := 4) (n := 0) rfl (by decide) rfl p_q_80926 nr_q_80926 (okE_o (okFs_c (okV_re eq1_0) (okFs_c (okV_i (by constructor <;> decide)) okFs_n))) ⟨(show 0 < nL gl_108 1 from by decide), ⟨trivial, trivial⟩⟩
  have eq1_0 := (X_80931.2 1 0 (by decide)).trans eq1_0
  have eq1_1 := (X_80931.2 1 1 (by decide)).trans eq1_1
  have eq10_62 := (X_80931.2 10 62 (by decide)).trans eq10_62
  have eq2_0 := (X_80931.2 2 0 (by decide)).trans eq2_0
  have eq3_0 := (X_80931.2 3 0 (by decide)).trans eq3_0
  have nr_h := Z_80933 _ nr_h (p_h.neK p_q_80926 (by decide))
  have hout : ∀ x, x ∈ L → NRg gl_0 ad x → NRg gl_109 ad11 x := fun x hx hn => Z_80933 x (hout x hx hn) (fun e => whkq_80926 (by rw [← e]; exact hx))
  have hext := hext.tr X_80931
  have eq4_0 := Y_80932
  have hkI : kp L_80928 f_80929 L_80928 f_80929 [h] := kp.rf
  refine pg_putF S Y hname ok_X11 4 (by decide) kf11_41 rfl rfl (fs' := [.ref q_80836, .ref q_80849, .ref q_80865, .ref q_80909, .ref q_80926, .null, .null, .null, .null]) (v := .ref q_80926) p_h rfl rfl rfl (Nat.le_of_ble_eq_true rfl) dX11_init_72 (fun f_80934 H locs ef_80934 Y => ?_)
  have p_h := p_h.me ef_80934
  have hk := hk.up ef_80934 (by simp)
  have hkI := hkI.up ef_80934 (by simp)
  refine lv_aload_n hx hb dX11_init_75 rfl (lv_at hl 1 rfl) ?_
  refine pg_new S Y ok_X1 kc11_45 kn1 ki1 (fs := [.null, .null, .null, .null, .int 0]) (by decide) (by decide) (by decide) dX11_init_76 (fun q_80935 f_80936 H nq_80935 ef_80936 Y => ?_)
  have whkq_80935 := hk.notin nq_80935
  have hk := hk.push ef_80936 nq_80935
  have whkIq_80935 := hkI.notin nq_80935
  have hkI := hkI.push ef_80936 nq_80935
  have p_h := p_h.push ef_80936 nq_80935
  have p_q_80935 := pt.new (L := L_80928) ef_80936
  refine lv_dup hx hb dX11_init_79 rfl ?_
  refine lv_aload_n hx hb dX11_init_80 rfl (lv_at hl 1 rfl) ?_
  refine pg_get S Y ok_X11 0 (by decide) kf11_13 (v := .ref q_80836) p_h rfl dX11_init_81 ?_
  refine lv_aload_n hx hb dX11_init_84 rfl (lv_at hl 1 rfl) ?_
  refine pg_get S Y ok_X11 3 (by decide) kf11_34 (v := .ref q_80909) p_h rfl dX11_init_85 ?_
  refine lv_aload_n hx hb dX11_init_88 rfl (lv_at hl 1 rfl) ?_
  refine pg_get S Y ok_X11 4 (by decide) kf11_41 (v := .ref q_80926) p_h rfl dX11_init_89 ?_
  refine cIv (b := q_80935) (As := [.ref q_80836, .ref q_80909, .ref q_80926]) (rest := [.ref q_80935, .ref h]) S Y (c_X1_init (l := l) p_q_80935) cw_X1_init km11_47 rfl ⟨Nat.le_of_ble_eq_true rfl, Nat.le_of_ble_eq_true rfl⟩ hl.1 rfl (Nat.le_of_ble_eq_true rfl) ⟨Nat.le_of_ble_eq_true rfl, Nat.le_of_ble_eq_true rfl⟩ dX11_init_92 (fun L_80937 f_80938 H locs hf_80938 Y => ?_)
  obtain ⟨a__80939, kf_80938, z_z_80940, z_z_80941, v_80942⟩ := hf_80938
  have w_80943 := hk.notin v_80942
  have w_80944 := hkI.notin v_80942
  have p_h := kf_80938.1 h _ (nmc (p_h.neK p_q_80935 (by decide)) nm0) p_h
  have p_q_80935 := z_z_80940
  have p_a__80939 := z_z_80941
  have hk := hk.call kf_80938 (fun b hb hp => (nmc (neL hp whkq_80935) nm0))
  have hkI := hkI.call kf_80938 (fun b hb hp => (nmc (neL hp whkIq_80935) nm0))
  have nr_q_80935 : NRg gl_109 ad11 q_80935 := (SHC.nr I whkIq_80935)
  have nr_a__80939 : NRg gl_109 ad11 a__80939 := (SHC.nr I w_80944)
  have I := I.kp hkI (allc nr_h all0)
  have hkI : kp L_80937 f_80938 L_80937 f_80938 [h, q_80935, a__80939] := kp.rf
  obtain ⟨ad12, I, X_80945, Y_80946, Z_80947⟩ := SHC.add (l2 := gl_110) I (k := 55) (n := 0) rfl (by decide) rfl p_a__80939 nr_a__80939 (okE_a (g := (fun _ => 0)) trivial) trivial
  have eq1_0 := (X_80945.2 1 0 (by decide)).trans eq1_0
  have eq1_1 := (X_80945.2 1 1 (by decide)).trans eq1_1
  have eq10_62 := (X_80945.2 10 62 (by decide)).trans eq10_62
  have eq2_0 := (X_80945.2 2 0 (by decide)).trans eq2_0
  have eq3_0 := (X_80945.2 3 0 (by decide)).trans eq3_0
  have eq4_0 := (X_80945.2 4 0 (by decide)).trans eq4_0
  have nr_h := Z_80947 _ nr_h (p_h.neA p_a__80939)
  have nr_q_80935 := Z_80947 _ nr_q_80935 (p_q_80935.neA p_a__80939)
  have hout : ∀ x, x ∈ L → NRg gl_0 ad x → NRg gl_110 ad12 x := fun x hx hn => Z_80947 x (hout x hx hn) (fun e => w_80943 (by rw [← e]; exact hx))
  have hext := hext.tr X_80945
  have eq55_0 := Y_80946
  have hkI : kp L_80937 f_80938 L_80937 f_80938 [h, q_80935] := kp.rf
  have I := I.kp hkI (allc nr_h (allc nr_q_80935 all0))
  have hkI : kp L_80937 f_80938 L_80937 f_80938 [h, q_80935] := kp.rf
  obtain ⟨ad13, I, X_80948, Y_80949, Z_80950⟩ := SHC.add (l2 := gl_111) I (k := 5) (n := 0) rfl (by decide) rfl p_q_80935 nr_q_80935 (okE_o (okFs_c (okV_re eq1_0) (okFs_c (okV_re eq3_0) (okFs_c (okV_re eq4_0) (okFs_c (okV_re eq55_0) (okFs_c (okV_i (by constructor <;> decide)) okFs_n)))))) ⟨(show 0 < nL gl_110 1 from by decide), ⟨(show 0 < nL gl_110 3 from by decide), ⟨(show 0 < nL gl_110 4 from by decide), ⟨(show 0 < nL gl_110 55 from by decide), ⟨trivial, trivial⟩⟩⟩⟩⟩
  have eq1_0 := (X_80948.2 1 0 (by decide)).trans eq1_0
  have eq1_1 := (X_80948.2 1 1 (by decide)).trans eq1_1
  have eq10_62 := (X_80948.2 10 62 (by decide)).trans eq10_62
  have eq2_0 := (X_80948.2 2 0 (by decide)).trans eq2_0
  have eq3_0 := (X_80948.2 3 0 (by decide)).trans eq3_0
  have eq4_0 := (X_80948.2 4 0 (by decide)).trans eq4_0
  have eq55_0 := (X_80948.2 55 0 (by decide)).trans eq55_0
  have nr_h := Z_80950 _ nr_h (p_h.neK p_q_80935 (by decide))
  have hout : ∀ x, x ∈ L → NRg gl_0 ad x → NRg gl_111 ad13 x := fun x hx hn => Z_80950 x (hout x hx hn) (fun e => whkq_80935 (by rw [← e]; exact hx))
  have hext := hext.tr X_80948
  have eq5_0 := Y_80949
  have hkI : kp L_80937 f_80938 L_80937 f_80938 [h] := kp.rf
  refine pg_putF S Y hname ok_X11 5 (by decide) kf11_50 rfl rfl (fs' := [.ref q_80836, .ref q_80849, .ref q_80865, .ref q_80909, .ref q_80926, .ref q_80935, .null, .null, .null]) (v := .ref q_80935) p_h rfl rfl rfl (Nat.le_of_ble_eq_true rfl) dX11_init_95 (fun f_80951 H locs ef_80951 Y => ?_)
  have p_h := p_h.me ef_80951
  have hk := hk.up ef_80951 (by simp)
  have hkI := hkI.up ef_80951 (by simp)
  refine lv_aload_n hx hb dX11_init_98 rfl (lv_at hl 1 rfl) ?_
  refine pg_new S Y ok_X2 kc11_54 kn2 ki2 (fs := [.null, .null, .null, .null]) (by decide) (by decide) (by decide) dX11_init_99 (fun q_80952 f_80953 H nq_80952 ef_80953 Y => ?_)
  have whkq_80952 := hk.notin nq_80952
  have hk := hk.push ef_80953 nq_80952
  have whkIq_80952 := hkI.notin nq_80952
  have hkI := hkI.push ef_80953 nq_80952
  have p_h := p_h.push ef_80953 nq_80952
  have p_q_80952 := pt.new (L := L_80937) ef_80953
  refine lv_dup hx hb dX11_init_102 rfl ?_
  refine lv_aload_n hx hb dX11_init_103 rfl (lv_at hl 1 rfl) ?_
  refine pg_get S Y ok_X11 0 (by decide) kf11_13 (v := .ref q_80836) p_h rfl dX11_init_104 ?_
  refine lv_aload_n hx hb dX11_init_107 rfl (lv_at hl 1 rfl) ?_
  refine pg_get S Y ok_X11 3 (by decide) kf11_34 (v := .ref q_80909) p_h rfl dX11_init_108 ?_
  refine lv_aload_n hx hb dX11_init_111 rfl (lv_at hl 1 rfl) ?_
  refine pg_get S Y ok_X11 5 (by decide) kf11_50 (v := .ref q_80935) p_h rfl dX11_init_112 ?_
  refine lv_aload_n hx hb dX11_init_115 rfl (lv_at hl 0 rfl) ?_
  refine cIv (b := q_80952) (As := [.ref q_80836, .ref q_80909, .ref q_80935, .ref q_80821]) (rest := [.ref q_80952, .ref h]) S Y (c_X2_init (l := l) p_q_80952) cw_X2_init km11_56 rfl ⟨Nat.le_of_ble_eq_true rfl, Nat.le_of_ble_eq_true rfl⟩ hl.1 rfl (Nat.le_of_ble_eq_true rfl) ⟨Nat.le_of_ble_eq_true rfl, Nat.le_of_ble_eq_true rfl⟩ dX11_init_116 (fun L_80954 f_80955 H locs hf_80955 Y => ?_)
  obtain ⟨kf_80955, z_z_80956⟩ := hf_80955
  have p_h := kf_80955.1 h _ (nmc (p_h.neK p_q_80952 (by decide)) nm0) p_h
  have p_q_80952 := z_z_80956
  have hk := hk.call kf_80955 (fun b hb hp => (nmc (neL hp whkq_80952) nm0))
  have hkI := hkI.call kf_80955 (fun b hb hp => (nmc (neL hp whkIq_80952) nm0))
  have nr_q_80952 : NRg gl_111 ad13 q_80952 := (SHC.nr I whkIq_80952)
  have I := I.kp hkI (allc nr_h all0)
  have hkI : kp L_80954 f_80955 L_80954 f_80955 [h, q_80952] := kp.rf
  obtain ⟨ad14, I, X_80957, Y_80958, Z_80959⟩ := SHC.add (l2 := gl_112) I (k := 6) (n := 0) rfl (by decide) rfl p_q_80952 nr_q_80952 (okE_o (okFs_c (okV_re eq1_0) (okFs_c (okV_re eq3_0) (okFs_c (okV_re eq5_0) (okFs_c (okV_re eq10_62) okFs_n))))) ⟨(show 0 < nL gl_111 1 from by decide), ⟨(show 0 < nL gl_111 3 from by decide), ⟨(show 0 < nL gl_111 5 from by decide), ⟨(show 62 < nL gl_111 10 from by decide), trivial⟩⟩⟩⟩
  have eq1_0 := (X_80957.2 1 0 (by decide)).trans eq1_0
  have eq1_1 := (X_80957.2 1 1 (by decide)).trans eq1_1
  have eq10_62 := (X_80957.2 10 62 (by decide)).trans eq10_62
  have eq2_0 := (X_80957.2 2 0 (by decide)).trans eq2_0
  have eq3_0 := (X_80957.2 3 0 (by decide)).trans eq3_0
  have eq4_0 := (X_80957.2 4 0 (by decide)).trans eq4_0
  have eq5_0 := (X_80957.2 5 0 (by decide)).trans eq5_0
  have nr_h := Z_80959 _ nr_h (p_h.neK p_q_80952 (by decide))
  have hout : ∀ x, x ∈ L → NRg gl_0 ad x → NRg gl_112 ad14 x := fun x hx hn => Z_80959 x (hout x hx hn) (fun e => whkq_80952 (by rw [← e]; exact hx))
  have hext := hext.tr X_80957
  have eq6_0 := Y_80958
  have hkI : kp L_80954 f_80955 L_80954 f_80955 [h] := kp.rf
  refine pg_putF S Y hname ok_X11 6 (by decide) kf11_59 rfl rfl (fs' := [.ref q_80836, .ref q_80849, .ref q_80865, .ref q_80909, .ref q_80926, .ref q_80935, .ref q_80952, .null, .null]) (v := .ref q_80952) p_h rfl rfl rfl (Nat.le_of_ble_eq_true rfl) dX11_init_119 (fun f_80960 H locs ef_80960 Y => ?_)
  have p_h := p_h.me ef_80960
  have hk := hk.up ef_80960 (by simp)
  have hkI := hkI.up ef_80960 (by simp)
  refine lv_aload_n hx hb dX11_init_122 rfl (lv_at hl 1 rfl) ?_
  refine pg_new S Y ok_X8 kc11_63 kn8 ki8 (fs := [.null, .null, .null, .null, .null, .null, .null, .int 0, .int 0, .int 0]) (by decide) (by decide) (by decide) dX11_init_123 (fun q_80961 f_80962 H nq_80961 ef_80962 Y => ?_)
  have whkq_80961 := hk.notin nq_80961
  have hk := hk.push ef_80962 nq_80961
  have whkIq_80961 := hkI.notin nq_80961
  have hkI := hkI.push ef_80962 nq_80961
  have p_h := p_h.push ef_80962 nq_80961
  have p_q_80961 := pt.new (L := L_80954) ef_80962
  refine lv_dup hx hb dX11_init_126 rfl ?_
  refine lv_aload_n hx hb dX11_init_127 rfl (lv_at hl 1 rfl) ?_
  refine pg_get S Y ok_X11 0 (by decide) kf11_13 (v := .ref q_80836) p_h rfl dX11_init_128 ?_
  refine lv_aload_n hx hb dX11_init_131 rfl (lv_at hl 1 rfl) ?_
  refine pg_get S Y ok_X11 3 (by decide) kf11_34 (v := .ref q_80909) p_h rfl dX11_init_132 ?_
  refine lv_aload_n hx hb dX11_init_135 rfl (lv_at hl 0 rfl) ?_
  refine cIv (b := q_80961) (As := [.ref q_80836, .ref q_80909, .ref q_80821]) (rest := [.ref q_80961, .ref h]) S Y (c_X8_init (l := l) p_q_80961) cw_X8_init km11_65 rfl ⟨Nat.le_of_ble_eq_true rfl, Nat.le_of_ble_eq_true rfl⟩ hl.1 rfl (Nat.le_of_ble_eq_true rfl) ⟨Nat.le_of_ble_eq_true rfl, Nat.le_of_ble_eq_true rfl⟩ dX11_init_136 (fun L_80963 f_80964 H locs hf_80964 Y => ?_)
  obtain ⟨a__80965, a__80966, a__80967, a__80968, kf_80964, z_z_80969, z_z_80970, z_z_80971, z_z_80972, z_z_80973, na1a2_80974, v_80975, v_80976, v_80977, v_80978⟩ := hf_80964
  have w_80979 := hk.notin v_80975
  have w_80980 := hkI.notin v_80975
  have w_80981 := hk.notin v_80976
  have w_80982 := hkI.notin v_80976
  have w_80983 := hk.notin v_80977
  have w_80984 := hkI.notin v_80977
  have w_80985 := hk.notin v_80978
  have w_80986 := hkI.notin v_80978
  have p_h := kf_80964.1 h _ (nmc (p_h.neK p_q_80961 (by decide)) nm0) p_h
  have p_q_80961 := z_z_80969
  have p_a__80965 := z_z_80970
  have p_a__80966 := z_z_80971
  have p_a__80967 := z_z_80972
  have p_a__80968 := z_z_80973
  have hk := hk.call kf_80964 (fun b hb hp => (nmc (neL hp whkq_80961) nm0))
  have hkI := hkI.call kf_80964 (fun b hb hp => (nmc (neL hp whkIq_80961) nm0))
  have nr_q_80961 : NRg gl_112 ad14 q_80961 := (SHC.nr I whkIq_80961)
  have nr_a__80965 : NRg gl_112 ad14 a__80965 := (SHC.nr I w_80980)
  have nr_a__80966 : NRg gl_112 ad14 a__80966 := (SHC.nr I w_80982)
  have nr_a__80967 : NRg gl_112 ad14 a__80967 := (SHC.nr I w_80984)
  have nr_a__80968 : NRg gl_112 ad14 a__80968 := (SHC.nr I w_80986)
  have I := I.kp hkI (allc nr_h all0)
  have hkI : kp L_80963 f_80964 L_80963 f_80964 [h, q_80961, a__80965, a__80966, a__80967, a__80968] := kp.rf
  obtain ⟨ad15, I, X_80987, Y_80988, Z_80989⟩ := SHC.add (l2 := gl_113) I (k := 56) (n := 0) rfl (by decide) rfl p_a__80965 nr_a__80965 (okE_a (g := (fun _ => 0)) trivial) trivial
  have eq1_0 := (X_80987.2 1 0 (by decide)).trans eq1_0
  have eq1_1 := (X_80987.2 1 1 (by decide)).trans eq1_1
  have eq10_62 := (X_80987.2 10 62 (by decide)).trans eq10_62
  have eq2_0 := (X_80987.2 2 0 (by decide)).trans eq2_0
  have eq3_0 := (X_80987.2 3 0 (by decide)).trans eq3_0
  have eq4_0 := (X_80987.2 4 0 (by decide)).trans eq4_0
  have eq5_0 := (X_80987.2 5 0 (by decide)).trans eq5_0
  have eq6_0 := (X_80987.2 6 0 (by decide)).trans eq6_0
  have nr_h := Z_80989 _ nr_h (p_h.neA p_a__80965)
  have nr_q_80961 := Z_80989 _ nr_q_80961 (p_q_80961.neA p_a__80965)
  have nr_a__80966 := Z_80989 _ nr_a__80966 (Ne.symm (na1a2_80974))
  have nr_a__80967 := Z_80989 _ nr_a__80967 (p_a__80967.neN p_a__80965 (by decide))
  have nr_a__80968 := Z_80989 _ nr_a__80968 (p_a__80968.neN p_a__80965 (by decide))
  have hout : ∀ x, x ∈ L → NRg gl_0 ad x → NRg gl_113 ad15 x := fun x hx hn => Z_80989 x (hout x hx hn) (fun e => w_80979 (by rw [← e]; exact hx))
  have hext := hext.tr X_80987
  have eq56_0 := Y_80988
  have hkI : kp L_80963 f_80964 L_80963 f_80964 [h, q_80961, a__80966, a__80967, a__80968] := kp.rf
  have I := I.kp hkI (allc nr_h (allc nr_q_80961 (allc nr_a__80966 (allc nr_a__80967 (allc nr_a__80968 all0)))))
  have hkI : kp L_80963 f_80964 L_80963 f_80964 [h, q_80961, a__80966, a__80967, a__80968] := kp.rf
  obtain ⟨ad16, I, X_80990, Y_80991, Z_80992⟩ := SHC.add (l2 := gl_114) I (k := 57) (n := 0) rfl (by decide) rfl p_a__80966 nr_a__80966 (okE_a (g := (fun _ => 0)) trivial) trivial
  have eq1_0 := (X_80990.2 1 0 (by decide)).trans eq1_0
  have eq1_1 := (X_80990.2 1 1 (by decide)).trans eq1_1
  have eq10_62 := (X_80990.2 10 62 (by decide)).trans eq10_62
  have eq2_0 := (X_80990.2 2 0 (by decide)).trans eq2_0
  have eq3_0 := (X_80990.2 3 0 (by decide)).trans eq3_0
  have eq4_0 := (X_80990.2 4 0 (by decide)).trans eq4_0
  have eq5_0 := (X_80990.2 5 0 (by decide)).trans eq5_0
  have eq6_0 := (X_80990.2 6 0 (by decide)).trans eq6_0
  have eq56_0 := (X_80990.2 56 0 (by decide)).trans eq56_0
  have nr_h := Z_80992 _ nr_h (p_h.neA p_a__80966)
  have nr_q_80961 := Z_80992 _ nr_q_80961 (p_q_80961.neA p_a__80966)
  have nr_a__80967 := Z_80992 _ nr_a__80967 (p_a__80967.neN p_a__80966 (by decide))
  have nr_a__80968 := Z_80992 _ nr_a__80968 (p_a__80968.neN p_a__80966 (by decide))
  have hout : ∀ x, x ∈ L → NRg gl_0 ad x → NRg gl_114 ad16 x := fun x hx hn => Z_80992 x (hout x hx hn) (fun e => w_80981 (by rw [← e]; exact hx))
  have hext := hext.tr X_80990
  have eq57_0 := Y_80991
  have hkI : kp L_80963 f_80964 L_80963 f_80964 [h, q_80961, a__80967, a__80968] := kp.rf
  have I := I.kp hkI (allc nr_h (allc nr_q_80961 (allc nr_a__80967 (allc nr_a__80968 all0))))
  have hkI : kp L_80963 f_80964 L_80963 f_80964 [h, q_80961, a__80967, a__80968] := kp.rf
  obtain ⟨ad17, I, X_80993, Y_80994, Z_80995⟩ := SHC.add (l2 := gl_115) I (k := 58) (n := 0) rfl (by decide) rfl p_a__80967 nr_a__80967 (okE_a (g := (fun _ => 0)) trivial) trivial
  have eq1_0 := (X_80993.2 1 0 (by decide)).trans eq1_0
  have eq1_1 := (X_80993.2 1 1 (by decide)).trans eq1_1
  have eq10_62 := (X_80993.2 10 62 (by decide)).trans eq10_62
  have eq2_0 := (X_80993.2 2 0 (by decide)).trans eq2_0
  have eq3_0 := (X_80993.2 3 0 (by decide)).trans eq3_0
  have eq4_0 := (X_80993.2 4 0 (by decide)).trans eq4_0
  have eq5_0 := (X_80993.2 5 0 (by decide)).trans eq5_0
  have eq6_0 := (X_80993.2 6 0 (by decide)).trans eq6_0
  have eq56_0 := (X_80993.2 56 0 (by decide)).trans eq56_0
  have eq57_0 := (X_80993.2 57 0 (by decide)).trans eq57_0
  have nr_h := Z_80995 _ nr_h (p_h.neA p_a__80967)
  have nr_q_80961 := Z_80995 _ nr_q_80961 (p_q_80961.neA p_a__80967)
  have nr_a__80968 := Z_80995 _ nr_a__80968 (p_a__80968.neN p_a__80967 (by decide))
  have hout : ∀ x, x ∈ L → NRg gl_0 ad x → NRg gl_115 ad17 x := fun x hx hn => Z_80995 x (hout x hx hn) (fun e => w_80983 (by rw [← e]; exact hx))
  have hext := hext.tr X_80993
  have eq58_0 := Y_80994
  have hkI : kp L_80963 f_80964 L_80963 f_80964 [h, q_80961, a__80968] := kp.rf
  have I := I.kp hkI (allc nr_h (allc nr_q_80961 (allc nr_a__80968 all0)))
  have hkI : kp L_80963 f_80964 L_80963 f_80964 [h, q_80961, a__80968] := kp.rf
  obtain ⟨ad18, I, X_80996, Y_80997, Z_80998⟩ := SHC.add (l2 := gl_116) I (k := 59) (n := 0) rfl (by decide) rfl p_a__80968 nr_a__80968 (okE_a (g := (fun _ => 0)) trivial) trivial
  have eq1_0 := (X_80996.2 1 0 (by decide)).trans eq1_0
  have eq1_1 := (X_80996.2 1 1 (by decide)).trans eq1_1
  have eq10_62 := (X_80996.2 10 62 (by decide)).trans eq10_62
  have eq2_0 := (X_80996.2 2 0 (by decide)).trans eq2_0
  have eq3_0 := (X_80996.2 3 0 (by decide)).trans eq3_0
  have eq4_0 := (X_80996.2 4 0 (by decide)).trans eq4_0
  have eq5_0 := (X_80996.2 5 0 (by decide)).trans eq5_0
  have eq6_0 := (X_80996.2 6 0 (by decide)).trans eq6_0
  have eq56_0 := (X_80996.2 56 0 (by decide)).trans eq56_0
  have eq57_0 := (X_80996.2 57 0 (by decide)).trans eq57_0
  have eq58_0 := (X_80996.2 58 0 (by decide)).trans eq58_0
  have nr_h := Z_80998 _ nr_h (p_h.neA p_a__80968)
  have nr_q_80961 := Z_80998 _ nr_q_80961 (p_q_80961.neA p_a__80968)
  have hout : ∀ x, x ∈ L → NRg gl_0 ad x → NRg gl_116 ad18 x := fun x hx hn => Z_80998 x (hout x hx hn) (fun e => w_80985 (by rw [← e]; exact hx))
  have hext := hext.tr X_80996
  have eq59_0 := Y_80997
  have hkI : kp L_80963 f_80964 L_80963 f_80964 [h, q_80961] := kp.rf
  have I := I.kp hkI (allc nr_h (allc nr_q_80961 all0))
  have hkI : kp L_80963 f_80964 L_80963 f_80964 [h, q_80961] := kp.rf
  obtain ⟨ad19, I, X_80999, Y_81000, Z_81001⟩ := SHC.add (l2 := gl_117) I (k := 7) (n := 0) rfl (by decide) rfl p_q_80961 nr_q_80961 (okE_o (okFs_c (okV_re eq1_0) (okFs_c (okV_re eq3_0) (okFs_c (okV_re eq10_62) (okFs_c (okV_re eq56_0) (okFs_c (okV_re eq57_0) (okFs_c (okV_re eq58_0) (okFs_c (okV_re eq59_0) (okFs_c (okV_i (by constructor <;> decide)) (okFs_c (okV_p (by constructor <;> decide)) (okFs_c (okV_i (by constructor <;> decide)) okFs_n))))))))))) ⟨(show 0 < nL gl_116 1 from by decide), ⟨(show 0 < nL gl_116 3 from by decide), ⟨(show 62 < nL gl_116 10 from by decide), ⟨(show 0 < nL gl_116 56 from by decide), ⟨(show 0 < nL gl_116 57 from by decide), ⟨(show 0 < nL gl_116 58 from by decide), ⟨(show 0 < nL gl_116 59 from by decide), ⟨trivial, ⟨trivial, ⟨trivial, trivial⟩⟩⟩⟩⟩⟩⟩⟩⟩⟩
  have eq1_0 := (X_80999.2 1 0 (by decide)).trans eq1_0
  have eq1_1 := (X_80999.2 1 1 (by decide)).trans eq1_1
  have eq10_62 := (X_80999.2 10 62 (by decide)).trans eq10_62
  have eq2_0 := (X_80999.2 2 0 (by decide)).trans eq2_0
  have eq3_0 := (X_80999.2 3 0 (by decide)).trans eq3_0
  have eq4_0 := (X_80999.2 4 0 (by decide)).trans eq4_0
  have eq5_0 := (X_80999.2 5 0 (by decide)).trans eq5_0
  have eq6_0 := (X_80999.2 6 0 (by decide)).trans eq6_0
  have eq56_0 := (X_80999.2 56 0 (by decide)).trans eq56_0
  have eq57_0 := (X_80999.2 57 0 (by decide)).trans eq57_0
  have eq58_0 := (X_80999.2 58 0 (by decide)).trans eq58_0
  have eq59_0 := (X_80999.2 59 0 (by decide)).trans eq59_0
  have nr_h := Z_81001 _ nr_h (p_h.neK p_q_80961 (by decide))
  have hout : ∀ x, x ∈ L → NRg gl_0 ad x → NRg gl_117 ad19 x := fun x hx hn => Z_81001 x (hout x hx hn) (fun e => whkq_80961 (by rw [← e]; exact hx))
  have hext := hext.tr X_80999
  have eq7_0 := Y_81000
  have hkI : kp L_80963 f_80964 L_80963 f_80964 [h] := kp.rf
  refine pg_putF S Y hname ok_X11 7 (by decide) kf11_68 rfl rfl (fs' := [.ref q_80836, .ref q_80849, .ref q_80865, .ref q_80909, .ref q_80926, .ref q_80935, .ref q_80952, .ref q_80961, .null]) (v := .ref q_80961) p_h rfl rfl rfl (Nat.le_of_ble_eq_true rfl) dX11_init_139 (fun f_81002 H locs ef_81002 Y => ?_)
  have p_h := p_h.me ef_81002
  have hk := hk.up ef_81002 (by simp)
  have hkI := hkI.up ef_81002 (by simp)
  refine lv_aload_n hx hb dX11_init_142 rfl (lv_at hl 1 rfl) ?_
  refine pg_new S Y ok_X0 kc11_72 kn0 ki0 (fs := [.null, .null, .null]) (by decide) (by decide) (by decide) dX11_init_143 (fun q_81003 f_81004 H nq_81003 ef_81004 Y => ?_)
  have whkq_81003 := hk.notin nq_81003
  have hk := hk.push ef_81004 nq_81003
  have whkIq_81003 := hkI.notin nq_81003
  have hkI := hkI.push ef_81004 nq_81003
  have p_h := p_h.push ef_81004 nq_81003
  have p_q_81003 := pt.new (L := L_80963) ef_81004
  refine lv_dup hx hb dX11_init_146 rfl ?_
  refine lv_aload_n hx hb dX11_init_147 rfl (lv_at hl 1 rfl) ?_
  refine pg_get S Y ok_X11 0 (by decide) kf11_13 (v := .ref q_80836) p_h rfl dX11_init_148 ?_
  refine cIv (b := q_81003) (As := [.ref q_80836]) (rest := [.ref q_81003, .ref h]) S Y (c_X0_init (l := l) p_q_81003) cw_X0_init km11_74 rfl ⟨Nat.le_of_ble_eq_true rfl, Nat.le_of_ble_eq_true rfl⟩ hl.1 rfl (Nat.le_of_ble_eq_true rfl) ⟨Nat.le_of_ble_eq_true rfl, Nat.le_of_ble_eq_true rfl⟩ dX11_init_151 (fun L_81005 f_81006 H locs hf_81006 Y => ?_)
  obtain ⟨a__81007, a__81008, kf_81006, z_z_81009, z_z_81010, z_z_81011, v_81012, v_81013⟩ := hf_81006
  have w_81014 := hk.notin v_81012
  have w_81015 := hkI.notin v_81012
  have w_81016 := hk.notin v_81013
  have w_81017 := hkI.notin v_81013
  have p_h := kf_81006.1 h _ (nmc (p_h.neK p_q_81003 (by decide)) nm0) p_h
  have p_q_81003 := z_z_81009
  have p_a__81007 := z_z_81010
  have p_a__81008 := z_z_81011
  have hk := hk.call kf_81006 (fun b hb hp => (nmc (neL hp whkq_81003) nm0))
  have hkI := hkI.call kf_81006 (fun b hb hp => (nmc (neL hp whkIq_81003) nm0))
  have nr_q_81003 : NRg gl_117 ad19 q_81003 := (SHC.nr I whkIq_81003)
  have nr_a__81007 : NRg gl_117 ad19 a__81007 := (SHC.nr I w_81015)
  have nr_a__81008 : NRg gl_117 ad19 a__81008 := (SHC.nr I w_81017)
  have I := I.kp hkI (allc nr_h all0)
  have hkI : kp L_81005 f_81006 L_81005 f_81006 [h, q_81003, a__81007, a__81008] := kp.rf
  obtain ⟨ad20, I, X_81018, Y_81019, Z_81020⟩ := SHC.add (l2 := gl_118) I (k := 60) (n := 0) rfl (by decide) rfl p_a__81007 nr_a__81007 (okE_a (g := (fun _ => 0)) trivial) trivial
  have eq1_0 := (X_81018.2 1 0 (by decide)).trans eq1_0
  have eq1_1 := (X_81018.2 1 1 (by decide)).trans eq1_1
  have eq10_62 := (X_81018.2 10 62 (by decide)).trans eq10_62
  have eq2_0 := (X_81018.2 2 0 (by decide)).trans eq2_0
  have eq3_0 := (X_81018.2 3 0 (by decide)).trans eq3_0
  have eq4_0 := (X_81018.2 4 0 (by decide)).trans eq4_0
  have eq5_0 := (X_81018.2 5 0 (by decide)).trans eq5_0
  have eq6_0 := (X_81018.2 6 0 (by decide)).trans eq6_0
  have eq7_0 := (X_81018.2 7 0 (by decide)).trans eq7_0
  have nr_h := Z_81020 _ nr_h (p_h.neA p_a__81007)
  have nr_q_81003 := Z_81020 _ nr_q_81003 (p_q_81003.neA p_a__81007)
  have nr_a__81008 := Z_81020 _ nr_a__81008 (p_a__81008.neN p_a__81007 (by decide))
  have hout : ∀ x, x ∈ L → NRg gl_0 ad x → NRg gl_118 ad20 x := fun x hx hn => Z_81020 x (hout x hx hn) (fun e => w_81014 (by rw [← e]; exact hx))
  have hext := hext.tr X_81018
  have eq60_0 := Y_81019
  have hkI : kp L_81005 f_81006 L_81005 f_81006 [h, q_81003, a__81008] := kp.rf
  have I := I.kp hkI (allc nr_h (allc nr_q_81003 (allc nr_a__81008 all0)))
  have hkI : kp L_81005 f_81006 L_81005 f_81006 [h, q_81003, a__81008] := kp.rf
  obtain ⟨ad21, I, X_81021, Y_81022, Z_81023⟩ := SHC.add (l2 := gl_119) I (k := 61) (n := 0) rfl (by decide) rfl p_a__81008 nr_a__81008 (okE_a (g := (fun _ => 0)) trivial) trivial
  have eq1_0 := (X_81021.2 1 0 (by decide)).trans eq1_0
  have eq1_1 := (X_81021.2 1 1 (by decide)).trans eq1_1
  have eq10_62 := (X_81021.2 10 62 (by decide)).trans eq10_62
  have eq2_0 := (X_81021.2 2 0 (by decide)).trans eq2_0
  have eq3_0 := (X_81021.2 3 0 (by decide)).trans eq3_0
  have eq4_0 := (X_81021.2 4 0 (by decide)).trans eq4_0
  have eq5_0 := (X_81021.2 5 0 (by decide)).trans eq5_0
  have eq6_0 := (X_81021.2 6 0 (by decide)).trans eq6_0
  have eq7_0 := (X_81021.2 7 0 (by decide)).trans eq7_0
  have eq60_0 := (X_81021.2 60 0 (by decide)).trans eq60_0
  have nr_h := Z_81023 _ nr_h (p_h.neA p_a__81008)
  have nr_q_81003 := Z_81023 _ nr_q_81003 (p_q_81003.neA p_a__81008)
  have hout : ∀ x, x ∈ L → NRg gl_0 ad x → NRg gl_119 ad21 x := fun x hx hn => Z_81023 x (hout x hx hn) (fun e => w_81016 (by rw [← e]; exact hx))
  have hext := hext.tr X_81021
  have eq61_0 := Y_81022
  have hkI : kp L_81005 f_81006 L_81005 f_81006 [h, q_81003] := kp.rf
  have I := I.kp hkI (allc nr_h (allc nr_q_81003 all0))
  have hkI : kp L_81005 f_81006 L_81005 f_81006 [h, q_81003] := kp.rf
  obtain ⟨ad22, I, X_81024, Y_81025, Z_81026⟩ := SHC.add (l2 := gl_120) I (k := 8) (n := 0) rfl (by decide) rfl p_q_81003 nr_q_81003 (okE_o (okFs_c (okV_re eq1_0) (okFs_c (okV_re eq60_0) (okFs_c (okV_re eq61_0) okFs_n)))) ⟨(show 0 < nL gl_119 1 from by decide), ⟨(show 0 < nL gl_119 60 from by decide), ⟨(show 0 < nL gl_119 61 from by decide), trivial⟩⟩⟩
  have eq1_0 := (X_81024.2 1 0 (by decide)).trans eq1_0
  have eq1_1 := (X_81024.2 1 1 (by decide)).trans eq1_1
  have eq10_62 := (X_81024.2 10 62 (by decide)).trans eq10_62
  have eq2_0 := (X_81024.2 2 0 (by decide)).trans eq2_0
  have eq3_0 := (X_81024.2 3 0 (by decide)).trans eq3_0
  have eq4_0 := (X_81024.2 4 0 (by decide)).trans eq4_0
  have eq5_0 := (X_81024.2 5 0 (by decide)).trans eq5_0
  have eq6_0 := (X_81024.2 6 0 (by decide)).trans eq6_0
  have eq7_0 := (X_81024.2 7 0 (by decide)).trans eq7_0
  have eq60_0 := (X_81024.2 60 0 (by decide)).trans eq60_0
  have eq61_0 := (X_81024.2 61 0 (by decide)).trans eq61_0
  have nr_h := Z_81026 _ nr_h (p_h.neK p_q_81003 (by decide))
  have hout : ∀ x, x ∈ L → NRg gl_0 ad x → NRg gl_120 ad22 x := fun x hx hn => Z_81026 x (hout x hx hn) (fun e => whkq_81003 (by rw [← e]; exact hx))
  have hext := hext.tr X_81024
  have eq8_0 := Y_81025
  have hkI : kp L_81005 f_81006 L_81005 f_81006 [h] := kp.rf
  refine pg_putF S Y hname ok_X11 8 (by decide) kf11_75 rfl rfl (fs' := [.ref q_80836, .ref q_80849, .ref q_80865, .ref q_80909, .ref q_80926, .ref q_80935, .ref q_80952, .ref q_80961, .ref q_81003]) (v := .ref q_81003) p_h rfl rfl rfl (Nat.le_of_ble_eq_true rfl) dX11_init_154 (fun f_81027 H locs ef_81027 Y => ?_)
  have p_h := p_h.me ef_81027
  have hk := hk.up ef_81027 (by simp)
  have hkI := hkI.up ef_81027 (by simp)
  have I := I.kp hkI (allc nr_h all0)
  have hkI : kp L_81005 f_81027 L_81005 f_81027 [h] := kp.rf
  obtain ⟨adF, I, X_81028, Y_81029, Z_81030⟩ := SHC.add (l2 := gl_121) I (k := 0) (n := 0) rfl (by decide) rfl p_h nr_h (okE_o (okFs_c (okV_re eq1_0) (okFs_c (okV_re eq1_1) (okFs_c (okV_re eq2_0) (okFs_c (okV_re eq3_0) (okFs_c (okV_re eq4_0) (okFs_c (okV_re eq5_0) (okFs_c (okV_re eq6_0) (okFs_c (okV_re eq7_0) (okFs_c (okV_re eq8_0) okFs_n)))))))))) ⟨(show 0 < nL gl_120 1 from by decide), ⟨(show 1 < nL gl_120 1 from by decide), ⟨(show 0 < nL gl_120 2 from by decide), ⟨(show 0 < nL gl_120 3 from by decide), ⟨(show 0 < nL gl_120 4 from by decide), ⟨(show 0 < nL gl_120 5 from by decide), ⟨(show 0 < nL gl_120 6 from by decide), ⟨(show 0 < nL gl_120 7 from by decide), ⟨(show 0 < nL gl_120 8 from by decide), trivial⟩⟩⟩⟩⟩⟩⟩⟩⟩
  have h0 := Y_81029
  exact prV (post := fun L1 f1 => ∃ ad2 : Nat → Nat → Nat, kp L f L1 f1 [h] ∧ SH (spC (NR 30 0 4) ((0, 6) : Int × Int) t00 w00 q00) nnC G ad2 L1 f1 ∧ ad2 0 0 = h) S Y (by decide) (by decide) hA1 ⟨adF, hk, (SH.nnE I.1 nn_fin), h0⟩ dX11_init_157
