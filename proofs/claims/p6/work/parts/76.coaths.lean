theorem dX11_init_0 : decode cX11_init 0 = .ok (.aload_n 0, 1) := by decide +kernel
theorem dX11_init_1 : decode cX11_init 1 = .ok (.invokespecial 1, 3) := by decide +kernel
theorem km11_1 : inW (Cond.methodLink RX11 1 objectInit) := ⟨List.mem_of_getElem? (i := 150) (by decide +kernel), by decide +kernel⟩
theorem dX11_init_4 : decode cX11_init 4 = .ok (.new 7, 3) := by decide +kernel
theorem kc11_7 : inW (Cond.classLink RX11 7 RX4) := ⟨List.mem_of_getElem? (i := 153) (by decide +kernel), by decide +kernel⟩
theorem dX11_init_7 : decode cX11_init 7 = .ok (.dup, 1) := by decide +kernel
theorem dX11_init_8 : decode cX11_init 8 = .ok (.invokespecial 9, 3) := by decide +kernel
theorem km11_9 : inW (Cond.methodLinkNest RX11 9 yX4_init "KneeOaths") := ⟨List.mem_of_getElem? (i := 155) (by decide +kernel), by decide +kernel⟩
theorem dX11_init_11 : decode cX11_init 11 = .ok (.astore_n 1, 1) := by decide +kernel
theorem dX11_init_12 : decode cX11_init 12 = .ok (.aload_n 0, 1) := by decide +kernel
theorem dX11_init_13 : decode cX11_init 13 = .ok (.new 10, 3) := by decide +kernel
theorem kc11_10 : inW (Cond.classLink RX11 10 RX10) := ⟨List.mem_of_getElem? (i := 198) (by decide +kernel), by decide +kernel⟩
theorem kn10 : inW (Cond.instantiable RX10 15) := ⟨List.mem_of_getElem? (i := 199) (by decide +kernel), by decide +kernel⟩
theorem ki10 : inW (Cond.initialized RX10) := ⟨List.mem_of_getElem? (i := 126) (by decide +kernel), by decide +kernel⟩
theorem dX11_init_16 : decode cX11_init 16 = .ok (.dup, 1) := by decide +kernel
theorem dX11_init_17 : decode cX11_init 17 = .ok (.invokespecial 12, 3) := by decide +kernel
theorem cw_X10_init : CWi yX10_init cX10_init 2 0 := ⟨⟨⟨List.mem_of_getElem? (i := 126) (by decide +kernel), by decide +kernel⟩, ⟨List.mem_of_getElem? (i := 202) (by decide +kernel), by decide +kernel⟩, by decide +kernel⟩, ⟨List.mem_of_getElem? (i := 201) (by decide +kernel), by decide +kernel⟩, rfl⟩
theorem km11_12 : inW (Cond.methodLink RX11 12 yX10_init) := ⟨List.mem_of_getElem? (i := 200) (by decide +kernel), by decide +kernel⟩
theorem dX11_init_20 : decode cX11_init 20 = .ok (.putfield 13, 3) := by decide +kernel
theorem dX11_init_23 : decode cX11_init 23 = .ok (.aload_n 0, 1) := by decide +kernel
theorem dX11_init_24 : decode cX11_init 24 = .ok (.new 10, 3) := by decide +kernel
theorem dX11_init_27 : decode cX11_init 27 = .ok (.dup, 1) := by decide +kernel
theorem dX11_init_28 : decode cX11_init 28 = .ok (.invokespecial 12, 3) := by decide +kernel
def gl_100 : List Nat := [0, 2, 0, 0, 0, 0, 0, 0, 0, 0, 62, 62, 62, 0, 0, 0, 0, 0, 0, 0, 10, 10, 0, 0, 0, 0, 0, 0, 0, 0, 8, 8, 8, 8, 8, 8, 0, 0, 0, 0, 2, 2, 2, 2, 0, 0, 0, 0, 0, 0, 0, 0, 0, 0, 0, 0, 0, 0, 0, 0, 0, 0]
def gl_101 : List Nat := [0, 2, 0, 0, 0, 0, 0, 0, 0, 0, 63, 63, 63, 0, 0, 0, 0, 0, 0, 0, 10, 10, 0, 0, 0, 0, 0, 0, 0, 0, 8, 8, 8, 8, 8, 8, 0, 0, 0, 0, 2, 2, 2, 2, 0, 0, 0, 0, 0, 0, 0, 0, 0, 0, 0, 0, 0, 0, 0, 0, 0, 0]
theorem dX11_init_31 : decode cX11_init 31 = .ok (.putfield 19, 3) := by decide +kernel
theorem dX11_init_34 : decode cX11_init 34 = .ok (.aload_n 0, 1) := by decide +kernel
theorem dX11_init_35 : decode cX11_init 35 = .ok (.new 22, 3) := by decide +kernel
theorem kc11_22 : inW (Cond.classLink RX11 22 RX5) := ⟨List.mem_of_getElem? (i := 333) (by decide +kernel), by decide +kernel⟩
theorem kn5 : inW (Cond.instantiable RX5 14) := ⟨List.mem_of_getElem? (i := 334) (by decide +kernel), by decide +kernel⟩
theorem ki5 : inW (Cond.initialized RX5) := ⟨List.mem_of_getElem? (i := 130) (by decide +kernel), by decide +kernel⟩
theorem dX11_init_38 : decode cX11_init 38 = .ok (.dup, 1) := by decide +kernel
theorem dX11_init_39 : decode cX11_init 39 = .ok (.invokespecial 24, 3) := by decide +kernel
theorem cw_X5_init : CWi yX5_init cX5_init 1 0 := ⟨⟨⟨List.mem_of_getElem? (i := 130) (by decide +kernel), by decide +kernel⟩, ⟨List.mem_of_getElem? (i := 337) (by decide +kernel), by decide +kernel⟩, by decide +kernel⟩, ⟨List.mem_of_getElem? (i := 336) (by decide +kernel), by decide +kernel⟩, rfl⟩
theorem km11_24 : inW (Cond.methodLinkNest RX11 24 yX5_init "KneeOaths") := ⟨List.mem_of_getElem? (i := 335) (by decide +kernel), by decide +kernel⟩
def gl_102 : List Nat := [0, 2, 0, 0, 0, 0, 0, 0, 0, 0, 63, 63, 63, 0, 0, 0, 0, 0, 0, 0, 10, 10, 0, 0, 0, 0, 0, 0, 0, 0, 8, 8, 8, 8, 8, 8, 0, 0, 0, 0, 2, 2, 2, 2, 0, 0, 0, 0, 0, 0, 1, 0, 0, 0, 0, 0, 0, 0, 0, 0, 0, 0]
def gl_103 : List Nat := [0, 2, 0, 0, 0, 0, 0, 0, 0, 0, 63, 63, 63, 0, 0, 0, 0, 0, 0, 0, 10, 10, 0, 0, 0, 0, 0, 0, 0, 0, 8, 8, 8, 8, 8, 8, 0, 0, 0, 0, 2, 2, 2, 2, 0, 0, 0, 0, 0, 0, 1, 1, 0, 0, 0, 0, 0, 0, 0, 0, 0, 0]
def gl_104 : List Nat := [0, 2, 0, 0, 0, 0, 0, 0, 0, 0, 63, 63, 63, 0, 0, 0, 0, 0, 0, 0, 10, 10, 0, 0, 0, 0, 0, 0, 0, 0, 8, 8, 8, 8, 8, 8, 0, 0, 0, 0, 2, 2, 2, 2, 0, 0, 0, 0, 0, 0, 1, 1, 1, 0, 0, 0, 0, 0, 0, 0, 0, 0]
def gl_105 : List Nat := [0, 2, 0, 0, 0, 0, 0, 0, 0, 0, 63, 63, 63, 0, 0, 0, 0, 0, 0, 0, 10, 10, 0, 0, 0, 0, 0, 0, 0, 0, 8, 8, 8, 8, 8, 8, 0, 0, 0, 0, 2, 2, 2, 2, 0, 0, 0, 0, 0, 0, 1, 1, 1, 1, 0, 0, 0, 0, 0, 0, 0, 0]
def gl_106 : List Nat := [0, 2, 1, 0, 0, 0, 0, 0, 0, 0, 63, 63, 63, 0, 0, 0, 0, 0, 0, 0, 10, 10, 0, 0, 0, 0, 0, 0, 0, 0, 8, 8, 8, 8, 8, 8, 0, 0, 0, 0, 2, 2, 2, 2, 0, 0, 0, 0, 0, 0, 1, 1, 1, 1, 0, 0, 0, 0, 0, 0, 0, 0]
theorem dX11_init_42 : decode cX11_init 42 = .ok (.putfield 25, 3) := by decide +kernel
theorem dX11_init_45 : decode cX11_init 45 = .ok (.aload_n 0, 1) := by decide +kernel
theorem dX11_init_46 : decode cX11_init 46 = .ok (.new 29, 3) := by decide +kernel
theorem kc11_29 : inW (Cond.classLink RX11 29 RX3) := ⟨List.mem_of_getElem? (i := 382) (by decide +kernel), by decide +kernel⟩
theorem kn3 : inW (Cond.instantiable RX3 3) := ⟨List.mem_of_getElem? (i := 383) (by decide +kernel), by decide +kernel⟩
theorem ki3 : inW (Cond.initialized RX3) := ⟨List.mem_of_getElem? (i := 131) (by decide +kernel), by decide +kernel⟩
theorem dX11_init_49 : decode cX11_init 49 = .ok (.dup, 1) := by decide +kernel
theorem dX11_init_50 : decode cX11_init 50 = .ok (.aload_n 0, 1) := by decide +kernel
theorem dX11_init_51 : decode cX11_init 51 = .ok (.getfield 13, 3) := by decide +kernel
theorem dX11_init_54 : decode cX11_init 54 = .ok (.invokespecial 31, 3) := by decide +kernel
theorem cw_X3_init : CWi yX3_init cX3_init 2 1 := ⟨⟨⟨List.mem_of_getElem? (i := 131) (by decide +kernel), by decide +kernel⟩, ⟨List.mem_of_getElem? (i := 386) (by decide +kernel), by decide +kernel⟩, by decide +kernel⟩, ⟨List.mem_of_getElem? (i := 385) (by decide +kernel), by decide +kernel⟩, rfl⟩
theorem km11_31 : inW (Cond.methodLink RX11 31 yX3_init) := ⟨List.mem_of_getElem? (i := 384) (by decide +kernel), by decide +kernel⟩
def gl_107 : List Nat := [0, 2, 1, 0, 0, 0, 0, 0, 0, 0, 63, 63, 63, 0, 0, 0, 0, 0, 0, 0, 10, 10, 0, 0, 0, 0, 0, 0, 0, 0, 8, 8, 8, 8, 8, 8, 0, 0, 0, 0, 2, 2, 2, 2, 0, 0, 0, 0, 0, 0, 1, 1, 1, 1, 1, 0, 0, 0, 0, 0, 0, 0]
def gl_108 : List Nat := [0, 2, 1, 1, 0, 0, 0, 0, 0, 0, 63, 63, 63, 0, 0, 0, 0, 0, 0, 0, 10, 10, 0, 0, 0, 0, 0, 0, 0, 0, 8, 8, 8, 8, 8, 8, 0, 0, 0, 0, 2, 2, 2, 2, 0, 0, 0, 0, 0, 0, 1, 1, 1, 1, 1, 0, 0, 0, 0, 0, 0, 0]
theorem dX11_init_57 : decode cX11_init 57 = .ok (.putfield 34, 3) := by decide +kernel
theorem dX11_init_60 : decode cX11_init 60 = .ok (.aload_n 0, 1) := by decide +kernel
theorem dX11_init_61 : decode cX11_init 61 = .ok (.new 38, 3) := by decide +kernel
theorem kc11_38 : inW (Cond.classLink RX11 38 RX6) := ⟨List.mem_of_getElem? (i := 398) (by decide +kernel), by decide +kernel⟩
theorem kn6 : inW (Cond.instantiable RX6 2) := ⟨List.mem_of_getElem? (i := 399) (by decide +kernel), by decide +kernel⟩
theorem ki6 : inW (Cond.initialized RX6) := ⟨List.mem_of_getElem? (i := 132) (by decide +kernel), by decide +kernel⟩
theorem dX11_init_64 : decode cX11_init 64 = .ok (.dup, 1) := by decide +kernel
theorem dX11_init_65 : decode cX11_init 65 = .ok (.aload_n 0, 1) := by decide +kernel
theorem dX11_init_66 : decode cX11_init 66 = .ok (.getfield 13, 3) := by decide +kernel
theorem dX11_init_69 : decode cX11_init 69 = .ok (.invokespecial 40, 3) := by decide +kernel
theorem cw_X6_init : CWi yX6_init cX6_init 2 1 := ⟨⟨⟨List.mem_of_getElem? (i := 132) (by decide +kernel), by decide +kernel⟩, ⟨List.mem_of_getElem? (i := 402) (by decide +kernel), by decide +kernel⟩, by decide +kernel⟩, ⟨List.mem_of_getElem? (i := 401) (by decide +kernel), by decide +kernel⟩, rfl⟩
theorem km11_40 : inW (Cond.methodLink RX11 40 yX6_init) := ⟨List.mem_of_getElem? (i := 400) (by decide +kernel), by decide +kernel⟩
def gl_109 : List Nat := [0, 2, 1, 1, 1, 0, 0, 0, 0, 0, 63, 63, 63, 0, 0, 0, 0, 0, 0, 0, 10, 10, 0, 0, 0, 0, 0, 0, 0, 0, 8, 8, 8, 8, 8, 8, 0, 0, 0, 0, 2, 2, 2, 2, 0, 0, 0, 0, 0, 0, 1, 1, 1, 1, 1, 0, 0, 0, 0, 0, 0, 0]
theorem dX11_init_72 : decode cX11_init 72 = .ok (.putfield 41, 3) := by decide +kernel
theorem dX11_init_75 : decode cX11_init 75 = .ok (.aload_n 0, 1) := by decide +kernel
theorem dX11_init_76 : decode cX11_init 76 = .ok (.new 45, 3) := by decide +kernel
theorem kc11_45 : inW (Cond.classLink RX11 45 RX1) := ⟨List.mem_of_getElem? (i := 411) (by decide +kernel), by decide +kernel⟩
theorem kn1 : inW (Cond.instantiable RX1 5) := ⟨List.mem_of_getElem? (i := 412) (by decide +kernel), by decide +kernel⟩
theorem ki1 : inW (Cond.initialized RX1) := ⟨List.mem_of_getElem? (i := 133) (by decide +kernel), by decide +kernel⟩
theorem dX11_init_79 : decode cX11_init 79 = .ok (.dup, 1) := by decide +kernel
theorem dX11_init_80 : decode cX11_init 80 = .ok (.aload_n 0, 1) := by decide +kernel
theorem dX11_init_81 : decode cX11_init 81 = .ok (.getfield 13, 3) := by decide +kernel
theorem dX11_init_84 : decode cX11_init 84 = .ok (.aload_n 0, 1) := by decide +kernel
theorem dX11_init_85 : decode cX11_init 85 = .ok (.getfield 34, 3) := by decide +kernel
theorem dX11_init_88 : decode cX11_init 88 = .ok (.aload_n 0, 1) := by decide +kernel
theorem dX11_init_89 : decode cX11_init 89 = .ok (.getfield 41, 3) := by decide +kernel
theorem dX11_init_92 : decode cX11_init 92 = .ok (.invokespecial 47, 3) := by decide +kernel
theorem cw_X1_init : CWi yX1_init cX1_init 4 3 := ⟨⟨⟨List.mem_of_getElem? (i := 133) (by decide +kernel), by decide +kernel⟩, ⟨List.mem_of_getElem? (i := 415) (by decide +kernel), by decide +kernel⟩, by decide +kernel⟩, ⟨List.mem_of_getElem? (i := 414) (by decide +kernel), by decide +kernel⟩, rfl⟩
theorem km11_47 : inW (Cond.methodLink RX11 47 yX1_init) := ⟨List.mem_of_getElem? (i := 413) (by decide +kernel), by decide +kernel⟩
def gl_110 : List Nat := [0, 2, 1, 1, 1, 0, 0, 0, 0, 0, 63, 63, 63, 0, 0, 0, 0, 0, 0, 0, 10, 10, 0, 0, 0, 0, 0, 0, 0, 0, 8, 8, 8, 8, 8, 8, 0, 0, 0, 0, 2, 2, 2, 2, 0, 0, 0, 0, 0, 0, 1, 1, 1, 1, 1, 1, 0, 0, 0, 0, 0, 0]
def gl_111 : List Nat := [0, 2, 1, 1, 1, 1, 0, 0, 0, 0, 63, 63, 63, 0, 0, 0, 0, 0, 0, 0, 10, 10, 0, 0, 0, 0, 0, 0, 0, 0, 8, 8, 8, 8, 8, 8, 0, 0, 0, 0, 2, 2, 2, 2, 0, 0, 0, 0, 0, 0, 1, 1, 1, 1, 1, 1, 0, 0, 0, 0, 0, 0]
theorem dX11_init_95 : decode cX11_init 95 = .ok (.putfield 50, 3) := by decide +kernel
theorem dX11_init_98 : decode cX11_init 98 = .ok (.aload_n 0, 1) := by decide +kernel
theorem dX11_init_99 : decode cX11_init 99 = .ok (.new 54, 3) := by decide +kernel
theorem kc11_54 : inW (Cond.classLink RX11 54 RX2) := ⟨List.mem_of_getElem? (i := 433) (by decide +kernel), by decide +kernel⟩
theorem kn2 : inW (Cond.instantiable RX2 4) := ⟨List.mem_of_getElem? (i := 434) (by decide +kernel), by decide +kernel⟩
theorem ki2 : inW (Cond.initialized RX2) := ⟨List.mem_of_getElem? (i := 134) (by decide +kernel), by decide +kernel⟩
theorem dX11_init_102 : decode cX11_init 102 = .ok (.dup, 1) := by decide +kernel
theorem dX11_init_103 : decode cX11_init 103 = .ok (.aload_n 0, 1) := by decide +kernel
theorem dX11_init_104 : decode cX11_init 104 = .ok (.getfield 13, 3) := by decide +kernel
theorem dX11_init_107 : decode cX11_init 107 = .ok (.aload_n 0, 1) := by decide +kernel
theorem dX11_init_108 : decode cX11_init 108 = .ok (.getfield 34, 3) := by decide +kernel
theorem dX11_init_111 : decode cX11_init 111 = .ok (.aload_n 0, 1) := by decide +kernel
theorem dX11_init_112 : decode cX11_init 112 = .ok (.getfield 50, 3) := by decide +kernel
theorem dX11_init_115 : decode cX11_init 115 = .ok (.aload_n 1, 1) := by decide +kernel
theorem dX11_init_116 : decode cX11_init 116 = .ok (.invokespecial 56, 3) := by decide +kernel
theorem cw_X2_init : CWi yX2_init cX2_init 5 4 := ⟨⟨⟨List.mem_of_getElem? (i := 134) (by decide +kernel), by decide +kernel⟩, ⟨List.mem_of_getElem? (i := 437) (by decide +kernel), by decide +kernel⟩, by decide +kernel⟩, ⟨List.mem_of_getElem? (i := 436) (by decide +kernel), by decide +kernel⟩, rfl⟩
theorem km11_56 : inW (Cond.methodLink RX11 56 yX2_init) := ⟨List.mem_of_getElem? (i := 435) (by decide +kernel), by decide +kernel⟩
def gl_112 : List Nat := [0, 2, 1, 1, 1, 1, 1, 0, 0, 0, 63, 63, 63, 0, 0, 0, 0, 0, 0, 0, 10, 10, 0, 0, 0, 0, 0, 0, 0, 0, 8, 8, 8, 8, 8, 8, 0, 0, 0, 0, 2, 2, 2, 2, 0, 0, 0, 0, 0, 0, 1, 1, 1, 1, 1, 1, 0, 0, 0, 0, 0, 0]
theorem dX11_init_119 : decode cX11_init 119 = .ok (.putfield 59, 3) := by decide +kernel
theorem dX11_init_122 : decode cX11_init 122 = .ok (.aload_n 0, 1) := by decide +kernel
theorem dX11_init_123 : decode cX11_init 123 = .ok (.new 63, 3) := by decide +kernel
theorem kc11_63 : inW (Cond.classLink RX11 63 RX8) := ⟨List.mem_of_getElem? (i := 452) (by decide +kernel), by decide +kernel⟩
theorem kn8 : inW (Cond.instantiable RX8 10) := ⟨List.mem_of_getElem? (i := 453) (by decide +kernel), by decide +kernel⟩
theorem ki8 : inW (Cond.initialized RX8) := ⟨List.mem_of_getElem? (i := 135) (by decide +kernel), by decide +kernel⟩
theorem dX11_init_126 : decode cX11_init 126 = .ok (.dup, 1) := by decide +kernel
theorem dX11_init_127 : decode cX11_init 127 = .ok (.aload_n 0, 1) := by decide +kernel
theorem dX11_init_128 : decode cX11_init 128 = .ok (.getfield 13, 3) := by decide +kernel
theorem dX11_init_131 : decode cX11_init 131 = .ok (.aload_n 0, 1) := by decide +kernel
theorem dX11_init_132 : decode cX11_init 132 = .ok (.getfield 34, 3) := by decide +kernel
theorem dX11_init_135 : decode cX11_init 135 = .ok (.aload_n 1, 1) := by decide +kernel
theorem dX11_init_136 : decode cX11_init 136 = .ok (.invokespecial 65, 3) := by decide +kernel
theorem cw_X8_init : CWi yX8_init cX8_init 4 3 := ⟨⟨⟨List.mem_of_getElem? (i := 135) (by decide +kernel), by decide +kernel⟩, ⟨List.mem_of_getElem? (i := 456) (by decide +kernel), by decide +kernel⟩, by decide +kernel⟩, ⟨List.mem_of_getElem? (i := 455) (by decide +kernel), by decide +kernel⟩, rfl⟩
theorem km11_65 : inW (Cond.methodLink RX11 65 yX8_init) := ⟨List.mem_of_getElem? (i := 454) (by decide +kernel), by decide +kernel⟩
def gl_113 : List Nat := [0, 2, 1, 1, 1, 1, 1, 0, 0, 0, 63, 63, 63, 0, 0, 0, 0, 0, 0, 0, 10, 10, 0, 0, 0, 0, 0, 0, 0, 0, 8, 8, 8, 8, 8, 8, 0, 0, 0, 0, 2, 2, 2, 2, 0, 0, 0, 0, 0, 0, 1, 1, 1, 1, 1, 1, 1, 0, 0, 0, 0, 0]
def gl_114 : List Nat := [0, 2, 1, 1, 1, 1, 1, 0, 0, 0, 63, 63, 63, 0, 0, 0, 0, 0, 0, 0, 10, 10, 0, 0, 0, 0, 0, 0, 0, 0, 8, 8, 8, 8, 8, 8, 0, 0, 0, 0, 2, 2, 2, 2, 0, 0, 0, 0, 0, 0, 1, 1, 1, 1, 1, 1, 1, 1, 0, 0, 0, 0]
def gl_115 : List Nat := [0, 2, 1, 1, 1, 1, 1, 0, 0, 0, 63, 63, 63, 0, 0, 0, 0, 0, 0, 0, 10, 10, 0, 0, 0, 0, 0, 0, 0, 0, 8, 8, 8, 8, 8, 8, 0, 0, 0, 0, 2, 2, 2, 2, 0, 0, 0, 0, 0, 0, 1, 1, 1, 1, 1, 1, 1, 1, 1, 0, 0, 0]
def gl_116 : List Nat := [0, 2, 1, 1, 1, 1, 1, 0, 0, 0, 63, 63, 63, 0, 0, 0, 0, 0, 0, 0, 10, 10, 0, 0, 0, 0, 0, 0, 0, 0, 8, 8, 8, 8, 8, 8, 0, 0, 0, 0, 2, 2, 2, 2, 0, 0, 0, 0, 0, 0, 1, 1, 1, 1, 1, 1, 1, 1, 1, 1, 0, 0]
def gl_117 : List Nat := [0, 2, 1, 1, 1, 1, 1, 1, 0, 0, 63, 63, 63, 0, 0, 0, 0, 0, 0, 0, 10, 10, 0, 0, 0, 0, 0, 0, 0, 0, 8, 8, 8, 8, 8, 8, 0, 0, 0, 0, 2, 2, 2, 2, 0, 0, 0, 0, 0, 0, 1, 1, 1, 1, 1, 1, 1, 1, 1, 1, 0, 0]
theorem dX11_init_139 : decode cX11_init 139 = .ok (.putfield 68, 3) := by decide +kernel
theorem dX11_init_142 : decode cX11_init 142 = .ok (.aload_n 0, 1) := by decide +kernel
theorem dX11_init_143 : decode cX11_init 143 = .ok (.new 72, 3) := by decide +kernel
theorem kc11_72 : inW (Cond.classLink RX11 72 RX0) := ⟨List.mem_of_getElem? (i := 489) (by decide +kernel), by decide +kernel⟩
theorem kn0 : inW (Cond.instantiable RX0 3) := ⟨List.mem_of_getElem? (i := 490) (by decide +kernel), by decide +kernel⟩
theorem ki0 : inW (Cond.initialized RX0) := ⟨List.mem_of_getElem? (i := 136) (by decide +kernel), by decide +kernel⟩
theorem dX11_init_146 : decode cX11_init 146 = .ok (.dup, 1) := by decide +kernel
theorem dX11_init_147 : decode cX11_init 147 = .ok (.aload_n 0, 1) := by decide +kernel
theorem dX11_init_148 : decode cX11_init 148 = .ok (.getfield 13, 3) := by decide +kernel
theorem dX11_init_151 : decode cX11_init 151 = .ok (.invokespecial 74, 3) := by decide +kernel
theorem cw_X0_init : CWi yX0_init cX0_init 2 1 := ⟨⟨⟨List.mem_of_getElem? (i := 136) (by decide +kernel), by decide +kernel⟩, ⟨List.mem_of_getElem? (i := 493) (by decide +kernel), by decide +kernel⟩, by decide +kernel⟩, ⟨List.mem_of_getElem? (i := 492) (by decide +kernel), by decide +kernel⟩, rfl⟩
theorem km11_74 : inW (Cond.methodLink RX11 74 yX0_init) := ⟨List.mem_of_getElem? (i := 491) (by decide +kernel), by decide +kernel⟩
def gl_118 : List Nat := [0, 2, 1, 1, 1, 1, 1, 1, 0, 0, 63, 63, 63, 0, 0, 0, 0, 0, 0, 0, 10, 10, 0, 0, 0, 0, 0, 0, 0, 0, 8, 8, 8, 8, 8, 8, 0, 0, 0, 0, 2, 2, 2, 2, 0, 0, 0, 0, 0, 0, 1, 1, 1, 1, 1, 1, 1, 1, 1, 1, 1, 0]
def gl_119 : List Nat := [0, 2, 1, 1, 1, 1, 1, 1, 0, 0, 63, 63, 63, 0, 0, 0, 0, 0, 0, 0, 10, 10, 0, 0, 0, 0, 0, 0, 0, 0, 8, 8, 8, 8, 8, 8, 0, 0, 0, 0, 2, 2, 2, 2, 0, 0, 0, 0, 0, 0, 1, 1, 1, 1, 1, 1, 1, 1, 1, 1, 1, 1]
def gl_120 : List Nat := [0, 2, 1, 1, 1, 1, 1, 1, 1, 0, 63, 63, 63, 0, 0, 0, 0, 0, 0, 0, 10, 10, 0, 0, 0, 0, 0, 0, 0, 0, 8, 8, 8, 8, 8, 8, 0, 0, 0, 0, 2, 2, 2, 2, 0, 0, 0, 0, 0, 0, 1, 1, 1, 1, 1, 1, 1, 1, 1, 1, 1, 1]
theorem dX11_init_154 : decode cX11_init 154 = .ok (.putfield 75, 3) := by decide +kernel
def gl_121 : List Nat := [1, 2, 1, 1, 1, 1, 1, 1, 1, 0, 63, 63, 63, 0, 0, 0, 0, 0, 0, 0, 10, 10, 0, 0, 0, 0, 0, 0, 0, 0, 8, 8, 8, 8, 8, 8, 0, 0, 0, 0, 2, 2, 2, 2, 0, 0, 0, 0, 0, 0, 1, 1, 1, 1, 1, 1, 1, 1, 1, 1, 1, 1]
theorem nn_fin : ∀ k, nL gl_121 k = nnC k := by
  have z : ∀ k : Fin 62, nL gl_121 k.1 = nnC k.1 := by decide
  intro k
  by_cases h : k < 62
  · exact z ⟨k, h⟩
  · have e1 : nL gl_121 k = 0 := by
      unfold nL
      rw [List.getD_eq_getElem?_getD, List.getElem?_eq_none (by show 62 ≤ k; omega)]; rfl
    rw [e1]
    unfold nnC
    split <;> first | omega | rfl
theorem dX11_init_157 : decode cX11_init 157 = .ok (.return_, 1) := by decide +kernel
theorem NR0 {ad : Nat → Nat → Nat} {x : Nat} : NRg (List.replicate 62 0) ad x := fun a b hb => by
  have z : nL (List.replicate 62 0) a = 0 := by
    unfold nL
    rw [List.getD_eq_getElem?_getD, List.getElem?_replicate]
    split <;> rfl
  rw [z] at hb
  exact absurd hb (Nat.not_lt_zero _)
set_option maxHeartbeats 4000000 in
set_option maxRecDepth 100000 in
theorem c_X11_init {l : Launch} {G : GG} {L : List Nat} {f : HF} {h : Nat}  (p_h : pt L f h (.inr (11, [.null, .null, .null, .null, .null, .null, .null, .null, .null])))  : PMv l yX11_init cX11_init 2 3 286 20231 G [.ref h] L f (fun L1 f1 => ∃ ad2 : Nat → Nat → Nat, kp L f L1 f1 [h] ∧ SH (spC RS0 ((0, 6) : Int × Int) t00 w00 q00) nnC G ad2 L1 f1 ∧ ad2 0 0 = h) := by
  refine PMv.of (post := fun L1 f1 => ∃ ad2 : Nat → Nat → Nat, kp L f L1 f1 [h] ∧ SH (spC RS0 ((0, 6) : Int × Int) t00 w00 q00) nnC G ad2 L1 f1 ∧ ad2 0 0 = h) (own := RX11) (by decide) rfl (Nat.le_of_ble_eq_true rfl) (fun sz p e s m args below meth c A ls hA1 hname S Y hl => ?_)
  have hx := S.hx
  have hb := S.hb
  have hl : lv_has ls 2 [(0, .ref h)] := hl
  have hk : kp L f L f [h] := kp.rf
  refine lv_aload_n hx hb dX11_init_0 rfl (lv_at hl 0 rfl) ?_
  refine pObj S km11_1 kObj1 kObj2 hl.1 (Nat.le_of_ble_eq_true rfl) (Nat.le_of_ble_eq_true rfl) dX11_init_1 ?_
  obtain ⟨ad, had⟩ : ∃ ad : Nat → Nat → Nat, ad = fun _ _ => 0 := ⟨_, rfl⟩
  have I : SHC gl_0 G ad L f := by rw [show gl_0 = List.replicate 62 0 from rfl]; exact SHC.none
  have nr_h : NRg gl_0 ad h := by rw [show gl_0 = List.replicate 62 0 from rfl]; exact NR0
  have hkI : kp L f L f [h] := kp.rf
  have hout : ∀ x, x ∈ L → NRg gl_0 ad x → NRg gl_0 ad x := fun _ _ h => h
  have hext : EXT gl_0 ad gl_0 ad := EXT.rf
  refine pg_new S Y ok_X4 kc11_7 kn4 ki4 (fs := [.null, .null, .int 0, .int 0, .int 0, .int 0, .int 0]) (by decide) (by decide) (by decide) dX11_init_4 (fun q_94323 f_94324 H nq_94323 ef_94324 Y => ?_)
  have whkq_94323 := hk.notin nq_94323
  have hk := hk.push ef_94324 nq_94323
  have whkIq_94323 := hkI.notin nq_94323
  have hkI := hkI.push ef_94324 nq_94323
  have p_h := p_h.push ef_94324 nq_94323
  have p_q_94323 := pt.new (L := L) ef_94324
  refine lv_dup hx hb dX11_init_7 rfl ?_
  refine cINv (b := q_94323) (As := []) (rest := [.ref q_94323]) S Y (c_X4_init (l := l) p_q_94323) cw_X4_init km11_9 rfl ⟨Nat.le_of_ble_eq_true rfl, Nat.le_of_ble_eq_true rfl⟩ hl.1 rfl (Nat.le_of_ble_eq_true rfl) ⟨Nat.le_of_ble_eq_true rfl, Nat.le_of_ble_eq_true rfl⟩ dX11_init_8 (fun L_94325 f_94326 H locs hf_94326 Y => ?_)
  obtain ⟨a__94327, a__94328, kf_94326, z_z_94329, z_z_94330, z_z_94331, v_94332, v_94333⟩ := hf_94326
  have w_94334 := hk.notin v_94332
  have w_94335 := hkI.notin v_94332
  have w_94336 := hk.notin v_94333
  have w_94337 := hkI.notin v_94333
  have p_h := kf_94326.1 h _ (nmc (p_h.neK p_q_94323 (by decide)) nm0) p_h
  have p_q_94323 := z_z_94329
  have p_a__94327 := z_z_94330
  have p_a__94328 := z_z_94331
  have hk := hk.call kf_94326 (fun b hb hp => (nmc (neL hp whkq_94323) nm0))
  have hkI := hkI.call kf_94326 (fun b hb hp => (nmc (neL hp whkIq_94323) nm0))
  have nr_q_94323 : NRg gl_0 ad q_94323 := (SHC.nr I whkIq_94323)
  have nr_a__94327 : NRg gl_0 ad a__94327 := (SHC.nr I w_94335)
  have nr_a__94328 : NRg gl_0 ad a__94328 := (SHC.nr I w_94337)
  have I := I.kp hkI (allc nr_h all0)
  have hkI : kp L_94325 f_94326 L_94325 f_94326 [h, q_94323, a__94327, a__94328] := kp.rf
  refine lv_astore_n (lv' := [(1, .ref q_94323), (0, .ref h)]) hx hb dX11_init_11 rfl hl (by decide) rfl (fun ls hl => ?_)
  refine lv_aload_n hx hb dX11_init_12 rfl (lv_at hl 1 rfl) ?_
  refine pg_new S Y ok_X10 kc11_10 kn10 ki10 (fs := [.null, .null, .null, .null, .null, .null, .null, .null, .null, .null, .int 0, .int 0, .int 0, .int 0, .int 0]) (by decide) (by decide) (by decide) dX11_init_13 (fun q_94338 f_94339 H nq_94338 ef_94339 Y => ?_)
  have whkq_94338 := hk.notin nq_94338
  have hk := hk.push ef_94339 nq_94338
  have whkIq_94338 := hkI.notin nq_94338
  have hkI := hkI.push ef_94339 nq_94338
  have p_h := p_h.push ef_94339 nq_94338
  have p_q_94323 := p_q_94323.push ef_94339 nq_94338
  have p_a__94327 := p_a__94327.push ef_94339 nq_94338
  have p_a__94328 := p_a__94328.push ef_94339 nq_94338
  have p_q_94338 := pt.new (L := L_94325) ef_94339
  refine lv_dup hx hb dX11_init_16 rfl ?_
  have nr_q_94338 : NRg gl_0 ad q_94338 := (SHC.nr I whkIq_94338)
  have I := I.kp hkI (allc nr_h (allc nr_q_94323 (allc nr_a__94327 (allc nr_a__94328 all0))))
  have hkI : kp (L_94325 ++ [q_94338]) f_94339 (L_94325 ++ [q_94338]) f_94339 [h, q_94323, a__94327, a__94328, q_94338] := kp.rf
  have mem_h := p_h.1
  have mem_q_94323 := p_q_94323.1
  have mem_a__94327 := p_a__94327.1
  have mem_a__94328 := p_a__94328.1
  have mem_q_94338 := p_q_94338.1
  have hkB := hk
  refine cIv (b := q_94338) (As := []) (rest := [.ref q_94338, .ref h]) S Y (c_world0 (l := l) p_q_94338 I nr_q_94338) cw_X10_init km11_12 rfl ⟨Nat.le_of_ble_eq_true rfl, Nat.le_of_ble_eq_true rfl⟩ hl.1 rfl (Nat.le_of_ble_eq_true rfl) ⟨Nat.le_of_ble_eq_true rfl, Nat.le_of_ble_eq_true rfl⟩ dX11_init_17 (fun L_94340 f_94341 H locs hf_94341 Y => ?_)
  obtain ⟨ad__94342, kf_94341, z_z_94343, hI_94344, hE_94345, hO_94346⟩ := hf_94341
  have p_h := kf_94341.1 h _ (nmc (p_h.neK p_q_94338 (by decide)) nm0) p_h
  have p_q_94323 := kf_94341.1 q_94323 _ (nmc (p_q_94323.neK p_q_94338 (by decide)) nm0) p_q_94323
  have p_a__94327 := kf_94341.1 a__94327 _ (nmc (p_a__94327.neB p_q_94338) nm0) p_a__94327
  have p_a__94328 := kf_94341.1 a__94328 _ (nmc (p_a__94328.neB p_q_94338) nm0) p_a__94328
  have p_q_94338 := z_z_94343
  have hk := hk.call kf_94341 (fun b hb hp => (nmc (neL hp whkq_94338) nm0))
  have hkI := hkI.call kf_94341 (fun b hb hp => (nmc (fun q => hb (by simp [q])) nm0))
  have I := hI_94344
  have nr_h := hO_94346 _ mem_h nr_h
  have nr_q_94323 := hO_94346 _ mem_q_94323 nr_q_94323
  have nr_a__94327 := hO_94346 _ mem_a__94327 nr_a__94327
  have nr_a__94328 := hO_94346 _ mem_a__94328 nr_a__94328
  have nr_q_94338 := hO_94346 _ mem_q_94338 nr_q_94338
  have hout : ∀ x, x ∈ L → NRg gl_0 ad x → NRg gl_1 ad__94342 x := fun x hx hn => hO_94346 x (hkB.2 x hx) (hout x hx hn)
  have hext := hext.tr hE_94345
  have hkI : kp L_94340 f_94341 L_94340 f_94341 [h, q_94323, a__94327, a__94328, q_94338] := kp.rf
  have I := I.kp hkI (allc nr_h (allc nr_q_94323 (allc nr_a__94327 (allc nr_a__94328 (allc nr_q_94338 all0)))))
  have hkI : kp L_94340 f_94341 L_94340 f_94341 [h, q_94323, a__94327, a__94328, q_94338] := kp.rf
  obtain ⟨ad1, I, X_94347, Y_94348, Z_94349⟩ := SHC.add (l2 := gl_50) I (k := 1) (n := 0) rfl (by decide) rfl p_q_94338 nr_q_94338 (okE_o (okFs_c (okV_re rfl) (okFs_c (okV_re rfl) (okFs_c (okV_re rfl) (okFs_c (okV_re rfl) (okFs_c (okV_re rfl) (okFs_c (okV_re rfl) (okFs_c (okV_re rfl) (okFs_c (okV_re rfl) (okFs_c (okV_re rfl) (okFs_c (okV_re rfl) (okFs_c (okV_i (by constructor <;> decide)) (okFs_c (okV_p (by constructor <;> decide)) (okFs_c (okV_i (by constructor <;> decide)) (okFs_c (okV_i (by constructor <;> decide)) (okFs_c (okV_i (by constructor <;> decide)) okFs_n)))))))))))))))) ⟨(show 0 < nL gl_1 40 from by decide), ⟨(show 0 < nL gl_1 41 from by decide), ⟨(show 0 < nL gl_1 42 from by decide), ⟨(show 0 < nL gl_1 10 from by decide), ⟨(show 0 < nL gl_1 43 from by decide), ⟨(show 0 < nL gl_1 20 from by decide), ⟨(show 1 < nL gl_1 20 from by decide), ⟨(show 2 < nL gl_1 20 from by decide), ⟨(show 3 < nL gl_1 20 from by decide), ⟨(show 4 < nL gl_1 20 from by decide), ⟨trivial, ⟨trivial, ⟨trivial, ⟨trivial, ⟨trivial, trivial⟩⟩⟩⟩⟩⟩⟩⟩⟩⟩⟩⟩⟩⟩⟩
  have nr_h := Z_94349 _ nr_h (p_h.neK p_q_94338 (by decide))
  have nr_q_94323 := Z_94349 _ nr_q_94323 (p_q_94323.neK p_q_94338 (by decide))
  have nr_a__94327 := Z_94349 _ nr_a__94327 (p_a__94327.neB p_q_94338)
  have nr_a__94328 := Z_94349 _ nr_a__94328 (p_a__94328.neB p_q_94338)
  have hout : ∀ x, x ∈ L → NRg gl_0 ad x → NRg gl_50 ad1 x := fun x hx hn => Z_94349 x (hout x hx hn) (fun e => whkq_94338 (by rw [← e]; exact hx))
  have hext := hext.tr X_94347
  have eq1_0 := Y_94348
  have hkI : kp L_94340 f_94341 L_94340 f_94341 [h, q_94323, a__94327, a__94328] := kp.rf
  refine pg_putF S Y hname ok_X11 0 (by decide) kf11_13 rfl rfl (fs' := [.ref q_94338, .null, .null, .null, .null, .null, .null, .null, .null]) (v := .ref q_94338) p_h rfl rfl rfl (Nat.le_of_ble_eq_true rfl) dX11_init_20 (fun f_94350 H locs ef_94350 Y => ?_)
  have p_q_94323 := p_q_94323.up ef_94350 ((p_q_94323.neK p_h (by decide)))
  have p_a__94327 := p_a__94327.up ef_94350 ((p_a__94327.neB p_h))
  have p_a__94328 := p_a__94328.up ef_94350 ((p_a__94328.neB p_h))
  have p_h := p_h.me ef_94350
  have hk := hk.up ef_94350 (by simp)
  have hkI := hkI.up ef_94350 (by simp)
  refine lv_aload_n hx hb dX11_init_23 rfl (lv_at hl 1 rfl) ?_
  refine pg_new S Y ok_X10 kc11_10 kn10 ki10 (fs := [.null, .null, .null, .null, .null, .null, .null, .null, .null, .null, .int 0, .int 0, .int 0, .int 0, .int 0]) (by decide) (by decide) (by decide) dX11_init_24 (fun q_94351 f_94352 H nq_94351 ef_94352 Y => ?_)
  have whkq_94351 := hk.notin nq_94351
  have hk := hk.push ef_94352 nq_94351
  have whkIq_94351 := hkI.notin nq_94351
  have hkI := hkI.push ef_94352 nq_94351
  have p_h := p_h.push ef_94352 nq_94351
  have p_q_94323 := p_q_94323.push ef_94352 nq_94351
  have p_a__94327 := p_a__94327.push ef_94352 nq_94351
  have p_a__94328 := p_a__94328.push ef_94352 nq_94351
  have p_q_94351 := pt.new (L := L_94340) ef_94352
  refine lv_dup hx hb dX11_init_27 rfl ?_
  have nr_q_94351 : NRg gl_50 ad1 q_94351 := (SHC.nr I whkIq_94351)
  have I := I.kp hkI (allc nr_h (allc nr_q_94323 (allc nr_a__94327 (allc nr_a__94328 all0))))
  have hkI : kp (L_94340 ++ [q_94351]) f_94352 (L_94340 ++ [q_94351]) f_94352 [h, q_94323, a__94327, a__94328, q_94351] := kp.rf
  have mem_h := p_h.1
  have mem_q_94323 := p_q_94323.1
  have mem_a__94327 := p_a__94327.1
  have mem_a__94328 := p_a__94328.1
  have mem_q_94351 := p_q_94351.1
  have hkB := hk
  refine cIv (b := q_94351) (As := []) (rest := [.ref q_94351, .ref h]) S Y (c_world1 (l := l) p_q_94351 I nr_q_94351) cw_X10_init km11_12 rfl ⟨Nat.le_of_ble_eq_true rfl, Nat.le_of_ble_eq_true rfl⟩ hl.1 rfl (Nat.le_of_ble_eq_true rfl) ⟨Nat.le_of_ble_eq_true rfl, Nat.le_of_ble_eq_true rfl⟩ dX11_init_28 (fun L_94353 f_94354 H locs hf_94354 Y => ?_)
  obtain ⟨ad__94355, kf_94354, z_z_94356, hI_94357, hE_94358, hO_94359⟩ := hf_94354
  have p_h := kf_94354.1 h _ (nmc (p_h.neK p_q_94351 (by decide)) nm0) p_h
  have p_q_94323 := kf_94354.1 q_94323 _ (nmc (p_q_94323.neK p_q_94351 (by decide)) nm0) p_q_94323
  have p_a__94327 := kf_94354.1 a__94327 _ (nmc (p_a__94327.neB p_q_94351) nm0) p_a__94327
  have p_a__94328 := kf_94354.1 a__94328 _ (nmc (p_a__94328.neB p_q_94351) nm0) p_a__94328
  have p_q_94351 := z_z_94356
  have hk := hk.call kf_94354 (fun b hb hp => (nmc (neL hp whkq_94351) nm0))
  have hkI := hkI.call kf_94354 (fun b hb hp => (nmc (fun q => hb (by simp [q])) nm0))
  have I := hI_94357
  have eq1_0 := (hE_94358.2 1 0 (by decide)).trans eq1_0
  have nr_h := hO_94359 _ mem_h nr_h
  have nr_q_94323 := hO_94359 _ mem_q_94323 nr_q_94323
  have nr_a__94327 := hO_94359 _ mem_a__94327 nr_a__94327
  have nr_a__94328 := hO_94359 _ mem_a__94328 nr_a__94328
  have nr_q_94351 := hO_94359 _ mem_q_94351 nr_q_94351
  have hout : ∀ x, x ∈ L → NRg gl_0 ad x → NRg gl_51 ad__94355 x := fun x hx hn => hO_94359 x (hkB.2 x hx) (hout x hx hn)
  have hext := hext.tr hE_94358
  have hkI : kp L_94353 f_94354 L_94353 f_94354 [h, q_94323, a__94327, a__94328, q_94351] := kp.rf
  have I := I.kp hkI (allc nr_h (allc nr_q_94323 (allc nr_a__94327 (allc nr_a__94328 (allc nr_q_94351 all0)))))
  have hkI : kp L_94353 f_94354 L_94353 f_94354 [h, q_94323, a__94327, a__94328, q_94351] := kp.rf
  obtain ⟨ad2, I, X_94360, Y_94361, Z_94362⟩ := SHC.add (l2 := gl_100) I (k := 1) (n := 1) rfl (by decide) rfl p_q_94351 nr_q_94351 (okE_o (okFs_c (okV_re rfl) (okFs_c (okV_re rfl) (okFs_c (okV_re rfl) (okFs_c (okV_re rfl) (okFs_c (okV_re rfl) (okFs_c (okV_re rfl) (okFs_c (okV_re rfl) (okFs_c (okV_re rfl) (okFs_c (okV_re rfl) (okFs_c (okV_re rfl) (okFs_c (okV_i (by constructor <;> decide)) (okFs_c (okV_p (by constructor <;> decide)) (okFs_c (okV_i (by constructor <;> decide)) (okFs_c (okV_i (by constructor <;> decide)) (okFs_c (okV_i (by constructor <;> decide)) okFs_n)))))))))))))))) ⟨(show 1 < nL gl_51 40 from by decide), ⟨(show 1 < nL gl_51 41 from by decide), ⟨(show 1 < nL gl_51 42 from by decide), ⟨(show 31 < nL gl_51 10 from by decide), ⟨(show 1 < nL gl_51 43 from by decide), ⟨(show 5 < nL gl_51 20 from by decide), ⟨(show 6 < nL gl_51 20 from by decide), ⟨(show 7 < nL gl_51 20 from by decide), ⟨(show 8 < nL gl_51 20 from by decide), ⟨(show 9 < nL gl_51 20 from by decide), ⟨trivial, ⟨trivial, ⟨trivial, ⟨trivial, ⟨trivial, trivial⟩⟩⟩⟩⟩⟩⟩⟩⟩⟩⟩⟩⟩⟩⟩
  have eq1_0 := (X_94360.2 1 0 (by decide)).trans eq1_0
  have nr_h := Z_94362 _ nr_h (p_h.neK p_q_94351 (by decide))
  have nr_q_94323 := Z_94362 _ nr_q_94323 (p_q_94323.neK p_q_94351 (by decide))
  have nr_a__94327 := Z_94362 _ nr_a__94327 (p_a__94327.neB p_q_94351)
  have nr_a__94328 := Z_94362 _ nr_a__94328 (p_a__94328.neB p_q_94351)
  have hout : ∀ x, x ∈ L → NRg gl_0 ad x → NRg gl_100 ad2 x := fun x hx hn => Z_94362 x (hout x hx hn) (fun e => whkq_94351 (by rw [← e]; exact hx))
  have hext := hext.tr X_94360
  have eq1_1 := Y_94361
  have hkI : kp L_94353 f_94354 L_94353 f_94354 [h, q_94323, a__94327, a__94328] := kp.rf
  have I := I.kp hkI (allc nr_h (allc nr_q_94323 (allc nr_a__94327 (allc nr_a__94328 all0))))
  have hkI : kp L_94353 f_94354 L_94353 f_94354 [h, q_94323, a__94327, a__94328] := kp.rf
  obtain ⟨ad3, I, X_94363, Y_94364, Z_94365⟩ := SHC.led (l2 := gl_101) (n := 62) I rfl rfl rfl (by decide) rfl p_q_94323 p_a__94327 p_a__94328 nr_q_94323 nr_a__94327 nr_a__94328
  have eq1_0 := (X_94363.2 1 0 (by decide)).trans eq1_0
  have eq1_1 := (X_94363.2 1 1 (by decide)).trans eq1_1
  have nr_h := Z_94365 _ nr_h (p_h.neK p_q_94323 (by decide)) (p_h.neA p_a__94327) (p_h.neA p_a__94328)
  have hout : ∀ x, x ∈ L → NRg gl_0 ad x → NRg gl_101 ad3 x := fun x hx hn => Z_94365 x (hout x hx hn) (fun e => whkq_94323 (by rw [← e]; exact hx)) (fun e => w_94334 (by rw [← e]; exact hx)) (fun e => w_94336 (by rw [← e]; exact hx))
  have hext := hext.tr X_94363
  have eq10_62 := Y_94364
  have hkI : kp L_94353 f_94354 L_94353 f_94354 [h] := kp.rf
  refine pg_putF S Y hname ok_X11 1 (by decide) kf11_19 rfl rfl (fs' := [.ref q_94338, .ref q_94351, .null, .null, .null, .null, .null, .null, .null]) (v := .ref q_94351) p_h rfl rfl rfl (Nat.le_of_ble_eq_true rfl) dX11_init_31 (fun f_94366 H locs ef_94366 Y => ?_)
  have p_h := p_h.me ef_94366
  have hk := hk.up ef_94366 (by simp)
  have hkI := hkI.up ef_94366 (by simp)
  refine lv_aload_n hx hb dX11_init_34 rfl (lv_at hl 1 rfl) ?_
  refine pg_new S Y ok_X5 kc11_22 kn5 ki5 (fs := [.null, .null, .null, .null, .int 0, .int 0, .int 0, .int 0, .int 0, .int 0, .int 0, .null, .int 0, .int 0]) (by decide) (by decide) (by decide) dX11_init_35 (fun q_94367 f_94368 H nq_94367 ef_94368 Y => ?_)
  have whkq_94367 := hk.notin nq_94367
  have hk := hk.push ef_94368 nq_94367
  have whkIq_94367 := hkI.notin nq_94367
  have hkI := hkI.push ef_94368 nq_94367
  have p_h := p_h.push ef_94368 nq_94367
  have p_q_94367 := pt.new (L := L_94353) ef_94368
  refine lv_dup hx hb dX11_init_38 rfl ?_
  refine cINv (b := q_94367) (As := []) (rest := [.ref q_94367, .ref h]) S Y (c_X5_init (l := l) p_q_94367) cw_X5_init km11_24 rfl ⟨Nat.le_of_ble_eq_true rfl, Nat.le_of_ble_eq_true rfl⟩ hl.1 rfl (Nat.le_of_ble_eq_true rfl) ⟨Nat.le_of_ble_eq_true rfl, Nat.le_of_ble_eq_true rfl⟩ dX11_init_39 (fun L_94369 f_94370 H locs hf_94370 Y => ?_)
  obtain ⟨a__94371, a__94372, a__94373, a__94374, kf_94370, z_z_94375, z_z_94376, z_z_94377, z_z_94378, z_z_94379, na2a3_94380, na2a4_94381, na3a4_94382, v_94383, v_94384, v_94385, v_94386⟩ := hf_94370
  have w_94387 := hk.notin v_94383
  have w_94388 := hkI.notin v_94383
  have w_94389 := hk.notin v_94384
  have w_94390 := hkI.notin v_94384
  have w_94391 := hk.notin v_94385
  have w_94392 := hkI.notin v_94385
  have w_94393 := hk.notin v_94386
  have w_94394 := hkI.notin v_94386
  have p_h := kf_94370.1 h _ (nmc (p_h.neK p_q_94367 (by decide)) nm0) p_h
  have p_q_94367 := z_z_94375
  have p_a__94371 := z_z_94376
  have p_a__94372 := z_z_94377
  have p_a__94373 := z_z_94378
  have p_a__94374 := z_z_94379
  have hk := hk.call kf_94370 (fun b hb hp => (nmc (neL hp whkq_94367) nm0))
  have hkI := hkI.call kf_94370 (fun b hb hp => (nmc (neL hp whkIq_94367) nm0))
  have nr_q_94367 : NRg gl_101 ad3 q_94367 := (SHC.nr I whkIq_94367)
  have nr_a__94371 : NRg gl_101 ad3 a__94371 := (SHC.nr I w_94388)
  have nr_a__94372 : NRg gl_101 ad3 a__94372 := (SHC.nr I w_94390)
  have nr_a__94373 : NRg gl_101 ad3 a__94373 := (SHC.nr I w_94392)
  have nr_a__94374 : NRg gl_101 ad3 a__94374 := (SHC.nr I w_94394)
  have I := I.kp hkI (allc nr_h all0)
  have hkI : kp L_94369 f_94370 L_94369 f_94370 [h, q_94367, a__94371, a__94372, a__94373, a__94374] := kp.rf
  obtain ⟨ad4, I, X_94395, Y_94396, Z_94397⟩ := SHC.add (l2 := gl_102) I (k := 50) (n := 0) rfl (by decide) rfl p_a__94371 nr_a__94371 (okE_a (g := (fun _ => 0)) rfl) trivial
  have eq1_0 := (X_94395.2 1 0 (by decide)).trans eq1_0
  have eq1_1 := (X_94395.2 1 1 (by decide)).trans eq1_1
  have eq10_62 := (X_94395.2 10 62 (by decide)).trans eq10_62
  have nr_h := Z_94397 _ nr_h (p_h.neA p_a__94371)
  have nr_q_94367 := Z_94397 _ nr_q_94367 (p_q_94367.neA p_a__94371)
  have nr_a__94372 := Z_94397 _ nr_a__94372 (p_a__94372.neN p_a__94371 (by decide))
  have nr_a__94373 := Z_94397 _ nr_a__94373 (p_a__94373.neN p_a__94371 (by decide))
  have nr_a__94374 := Z_94397 _ nr_a__94374 (p_a__94374.neN p_a__94371 (by decide))
  have hout : ∀ x, x ∈ L → NRg gl_0 ad x → NRg gl_102 ad4 x := fun x hx hn => Z_94397 x (hout x hx hn) (fun e => w_94387 (by rw [← e]; exact hx))
  have hext := hext.tr X_94395
  have eq50_0 := Y_94396
  have hkI : kp L_94369 f_94370 L_94369 f_94370 [h, q_94367, a__94372, a__94373, a__94374] := kp.rf
  have I := I.kp hkI (allc nr_h (allc nr_q_94367 (allc nr_a__94372 (allc nr_a__94373 (allc nr_a__94374 all0)))))
  have hkI : kp L_94369 f_94370 L_94369 f_94370 [h, q_94367, a__94372, a__94373, a__94374] := kp.rf
  obtain ⟨ad5, I, X_94398, Y_94399, Z_94400⟩ := SHC.add (l2 := gl_103) I (k := 51) (n := 0) rfl (by decide) rfl p_a__94372 nr_a__94372 (okE_a (g := (fun _ => 0)) trivial) trivial
  have eq1_0 := (X_94398.2 1 0 (by decide)).trans eq1_0
  have eq1_1 := (X_94398.2 1 1 (by decide)).trans eq1_1
  have eq10_62 := (X_94398.2 10 62 (by decide)).trans eq10_62
  have eq50_0 := (X_94398.2 50 0 (by decide)).trans eq50_0
  have nr_h := Z_94400 _ nr_h (p_h.neA p_a__94372)
  have nr_q_94367 := Z_94400 _ nr_q_94367 (p_q_94367.neA p_a__94372)
  have nr_a__94373 := Z_94400 _ nr_a__94373 (Ne.symm (na2a3_94380))
  have nr_a__94374 := Z_94400 _ nr_a__94374 (Ne.symm (na2a4_94381))
  have hout : ∀ x, x ∈ L → NRg gl_0 ad x → NRg gl_103 ad5 x := fun x hx hn => Z_94400 x (hout x hx hn) (fun e => w_94389 (by rw [← e]; exact hx))
  have hext := hext.tr X_94398
  have eq51_0 := Y_94399
  have hkI : kp L_94369 f_94370 L_94369 f_94370 [h, q_94367, a__94373, a__94374] := kp.rf
  have I := I.kp hkI (allc nr_h (allc nr_q_94367 (allc nr_a__94373 (allc nr_a__94374 all0))))
  have hkI : kp L_94369 f_94370 L_94369 f_94370 [h, q_94367, a__94373, a__94374] := kp.rf
  obtain ⟨ad6, I, X_94401, Y_94402, Z_94403⟩ := SHC.add (l2 := gl_104) I (k := 52) (n := 0) rfl (by decide) rfl p_a__94373 nr_a__94373 (okE_a (g := (fun _ => 0)) trivial) trivial
  have eq1_0 := (X_94401.2 1 0 (by decide)).trans eq1_0
  have eq1_1 := (X_94401.2 1 1 (by decide)).trans eq1_1
  have eq10_62 := (X_94401.2 10 62 (by decide)).trans eq10_62
  have eq50_0 := (X_94401.2 50 0 (by decide)).trans eq50_0
  have eq51_0 := (X_94401.2 51 0 (by decide)).trans eq51_0
  have nr_h := Z_94403 _ nr_h (p_h.neA p_a__94373)
  have nr_q_94367 := Z_94403 _ nr_q_94367 (p_q_94367.neA p_a__94373)
  have nr_a__94374 := Z_94403 _ nr_a__94374 (Ne.symm (na3a4_94382))
  have hout : ∀ x, x ∈ L → NRg gl_0 ad x → NRg gl_104 ad6 x := fun x hx hn => Z_94403 x (hout x hx hn) (fun e => w_94391 (by rw [← e]; exact hx))
  have hext := hext.tr X_94401
  have eq52_0 := Y_94402
  have hkI : kp L_94369 f_94370 L_94369 f_94370 [h, q_94367, a__94374] := kp.rf
  have I := I.kp hkI (allc nr_h (allc nr_q_94367 (allc nr_a__94374 all0)))
  have hkI : kp L_94369 f_94370 L_94369 f_94370 [h, q_94367, a__94374] := kp.rf
  obtain ⟨ad7, I, X_94404, Y_94405, Z_94406⟩ := SHC.add (l2 := gl_105) I (k := 53) (n := 0) rfl (by decide) rfl p_a__94374 nr_a__94374 (okE_a (g := (fun _ => 0)) trivial) trivial
  have eq1_0 := (X_94404.2 1 0 (by decide)).trans eq1_0
  have eq1_1 := (X_94404.2 1 1 (by decide)).trans eq1_1
  have eq10_62 := (X_94404.2 10 62 (by decide)).trans eq10_62
  have eq50_0 := (X_94404.2 50 0 (by decide)).trans eq50_0
  have eq51_0 := (X_94404.2 51 0 (by decide)).trans eq51_0
  have eq52_0 := (X_94404.2 52 0 (by decide)).trans eq52_0
  have nr_h := Z_94406 _ nr_h (p_h.neA p_a__94374)
  have nr_q_94367 := Z_94406 _ nr_q_94367 (p_q_94367.neA p_a__94374)
  have hout : ∀ x, x ∈ L → NRg gl_0 ad x → NRg gl_105 ad7 x := fun x hx hn => Z_94406 x (hout x hx hn) (fun e => w_94393 (by rw [← e]; exact hx))
  have hext := hext.tr X_94404
  have eq53_0 := Y_94405
  have hkI : kp L_94369 f_94370 L_94369 f_94370 [h, q_94367] := kp.rf
  have I := I.kp hkI (allc nr_h (allc nr_q_94367 all0))
  have hkI : kp L_94369 f_94370 L_94369 f_94370 [h, q_94367] := kp.rf
  obtain ⟨ad8, I, X_94407, Y_94408, Z_94409⟩ := SHC.add (l2 := gl_106) I (k := 2) (n := 0) rfl (by decide) rfl p_q_94367 nr_q_94367 (okE_o (okFs_c (okV_re eq50_0) (okFs_c (okV_re eq51_0) (okFs_c (okV_re eq52_0) (okFs_c (okV_re eq53_0) (okFs_c (okV_p (lim_mk (v := 0) (bn_k (by constructor <;> decide)) rfl)) (okFs_c (okV_p (lim_F (bn_k (by constructor <;> decide)))) (okFs_c (okV_p (lim_F (bn_k (by constructor <;> decide)))) (okFs_c (okV_p (lim_F (bn_k (by constructor <;> decide)))) (okFs_c (okV_p (lim_F (bn_k (by constructor <;> decide)))) (okFs_c (okV_p (lim_F (bn_k (by constructor <;> decide)))) (okFs_c (okV_p (lim_F (bn_k (by constructor <;> decide)))) (okFs_c okV_n0 (okFs_c (okV_p (lim_mk (v := -1) (bn_k (by constructor <;> decide)) rfl)) (okFs_c (okV_p (lim_mk (v := -1) (bn_k (by constructor <;> decide)) rfl)) okFs_n))))))))))))))) ⟨(show 0 < nL gl_105 50 from by decide), ⟨(show 0 < nL gl_105 51 from by decide), ⟨(show 0 < nL gl_105 52 from by decide), ⟨(show 0 < nL gl_105 53 from by decide), ⟨trivial, ⟨trivial, ⟨trivial, ⟨trivial, ⟨trivial, ⟨trivial, ⟨trivial, ⟨(show ∀ t, t < 4 → 0 + t < nL gl_105 30 from fun t ht => (show t < 4 from ht) |> fun h => by show 0 + t < 8; omega), ⟨trivial, ⟨trivial, trivial⟩⟩⟩⟩⟩⟩⟩⟩⟩⟩⟩⟩⟩⟩
  have eq1_0 := (X_94407.2 1 0 (by decide)).trans eq1_0
  have eq1_1 := (X_94407.2 1 1 (by decide)).trans eq1_1
  have eq10_62 := (X_94407.2 10 62 (by decide)).trans eq10_62
  have eq50_0 := (X_94407.2 50 0 (by decide)).trans eq50_0
  have eq51_0 := (X_94407.2 51 0 (by decide)).trans eq51_0
  have eq52_0 := (X_94407.2 52 0 (by decide)).trans eq52_0
  have eq53_0 := (X_94407.2 53 0 (by decide)).trans eq53_0
  have nr_h := Z_94409 _ nr_h (p_h.neK p_q_94367 (by decide))
  have hout : ∀ x, x ∈ L → NRg gl_0 ad x → NRg gl_106 ad8 x := fun x hx hn => Z_94409 x (hout x hx hn) (fun e => whkq_94367 (by rw [← e]; exact hx))
  have hext := hext.tr X_94407
  have eq2_0 := Y_94408
  have hkI : kp L_94369 f_94370 L_94369 f_94370 [h] := kp.rf
  refine pg_putF S Y hname ok_X11 2 (by decide) kf11_25 rfl rfl (fs' := [.ref q_94338, .ref q_94351, .ref q_94367, .null, .null, .null, .null, .null, .null]) (v := .ref q_94367) p_h rfl rfl rfl (Nat.le_of_ble_eq_true rfl) dX11_init_42 (fun f_94410 H locs ef_94410 Y => ?_)
  have p_h := p_h.me ef_94410
  have hk := hk.up ef_94410 (by simp)
  have hkI := hkI.up ef_94410 (by simp)
  refine lv_aload_n hx hb dX11_init_45 rfl (lv_at hl 1 rfl) ?_
  refine pg_new S Y ok_X3 kc11_29 kn3 ki3 (fs := [.null, .null, .int 0]) (by decide) (by decide) (by decide) dX11_init_46 (fun q_94411 f_94412 H nq_94411 ef_94412 Y => ?_)
  have whkq_94411 := hk.notin nq_94411
  have hk := hk.push ef_94412 nq_94411
  have whkIq_94411 := hkI.notin nq_94411
  have hkI := hkI.push ef_94412 nq_94411
  have p_h := p_h.push ef_94412 nq_94411
  have p_q_94411 := pt.new (L := L_94369) ef_94412
  refine lv_dup hx hb dX11_init_49 rfl ?_
  refine lv_aload_n hx hb dX11_init_50 rfl (lv_at hl 1 rfl) ?_
  refine pg_get S Y ok_X11 0 (by decide) kf11_13 (v := .ref q_94338) p_h rfl dX11_init_51 ?_
  refine cIv (b := q_94411) (As := [.ref q_94338]) (rest := [.ref q_94411, .ref h]) S Y (c_X3_init (l := l) p_q_94411) cw_X3_init km11_31 rfl ⟨Nat.le_of_ble_eq_true rfl, Nat.le_of_ble_eq_true rfl⟩ hl.1 rfl (Nat.le_of_ble_eq_true rfl) ⟨Nat.le_of_ble_eq_true rfl, Nat.le_of_ble_eq_true rfl⟩ dX11_init_54 (fun L_94413 f_94414 H locs hf_94414 Y => ?_)
  obtain ⟨a__94415, kf_94414, z_z_94416, z_z_94417, v_94418⟩ := hf_94414
  have w_94419 := hk.notin v_94418
  have w_94420 := hkI.notin v_94418
  have p_h := kf_94414.1 h _ (nmc (p_h.neK p_q_94411 (by decide)) nm0) p_h
  have p_q_94411 := z_z_94416
  have p_a__94415 := z_z_94417
  have hk := hk.call kf_94414 (fun b hb hp => (nmc (neL hp whkq_94411) nm0))
  have hkI := hkI.call kf_94414 (fun b hb hp => (nmc (neL hp whkIq_94411) nm0))
  have nr_q_94411 : NRg gl_106 ad8 q_94411 := (SHC.nr I whkIq_94411)
  have nr_a__94415 : NRg gl_106 ad8 a__94415 := (SHC.nr I w_94420)
  have I := I.kp hkI (allc nr_h all0)
  have hkI : kp L_94413 f_94414 L_94413 f_94414 [h, q_94411, a__94415] := kp.rf
  obtain ⟨ad9, I, X_94421, Y_94422, Z_94423⟩ := SHC.add (l2 := gl_107) I (k := 54) (n := 0) rfl (by decide) rfl p_a__94415 nr_a__94415 (okE_a (g := (fun _ => 0)) trivial) trivial
  have eq1_0 := (X_94421.2 1 0 (by decide)).trans eq1_0
  have eq1_1 := (X_94421.2 1 1 (by decide)).trans eq1_1
  have eq10_62 := (X_94421.2 10 62 (by decide)).trans eq10_62
  have eq2_0 := (X_94421.2 2 0 (by decide)).trans eq2_0
  have nr_h := Z_94423 _ nr_h (p_h.neA p_a__94415)
  have nr_q_94411 := Z_94423 _ nr_q_94411 (p_q_94411.neA p_a__94415)
  have hout : ∀ x, x ∈ L → NRg gl_0 ad x → NRg gl_107 ad9 x := fun x hx hn => Z_94423 x (hout x hx hn) (fun e => w_94419 (by rw [← e]; exact hx))
  have hext := hext.tr X_94421
  have eq54_0 := Y_94422
  have hkI : kp L_94413 f_94414 L_94413 f_94414 [h, q_94411] := kp.rf
  have I := I.kp hkI (allc nr_h (allc nr_q_94411 all0))
  have hkI : kp L_94413 f_94414 L_94413 f_94414 [h, q_94411] := kp.rf
  obtain ⟨ad10, I, X_94424, Y_94425, Z_94426⟩ := SHC.add (l2 := gl_108) I (k := 3) (n := 0) rfl (by decide) rfl p_q_94411 nr_q_94411 (okE_o (okFs_c (okV_re eq1_0) (okFs_c (okV_re eq54_0) (okFs_c (okV_i (by constructor <;> decide)) okFs_n)))) ⟨(show 0 < nL gl_107 1 from by decide), ⟨(show 0 < nL gl_107 54 from by decide), ⟨trivial, trivial⟩⟩⟩
  have eq1_0 := (X_94424.2 1 0 (by decide)).trans eq1_0
  have eq1_1 := (X_94424.2 1 1 (by decide)).trans eq1_1
  have eq10_62 := (X_94424.2 10 62 (by decide)).trans eq10_62
  have eq2_0 := (X_94424.2 2 0 (by decide)).trans eq2_0
  have eq54_0 := (X_94424.2 54 0 (by decide)).trans eq54_0
  have nr_h := Z_94426 _ nr_h (p_h.neK p_q_94411 (by decide))
  have hout : ∀ x, x ∈ L → NRg gl_0 ad x → NRg gl_108 ad10 x := fun x hx hn => Z_94426 x (hout x hx hn) (fun e => whkq_94411 (by rw [← e]; exact hx))
  have hext := hext.tr X_94424
  have eq3_0 := Y_94425
  have hkI : kp L_94413 f_94414 L_94413 f_94414 [h] := kp.rf
  refine pg_putF S Y hname ok_X11 3 (by decide) kf11_34 rfl rfl (fs' := [.ref q_94338, .ref q_94351, .ref q_94367, .ref q_94411, .null, .null, .null, .null, .null]) (v := .ref q_94411) p_h rfl rfl rfl (Nat.le_of_ble_eq_true rfl) dX11_init_57 (fun f_94427 H locs ef_94427 Y => ?_)
  have p_h := p_h.me ef_94427
  have hk := hk.up ef_94427 (by simp)
  have hkI := hkI.up ef_94427 (by simp)
  refine lv_aload_n hx hb dX11_init_60 rfl (lv_at hl 1 rfl) ?_
  refine pg_new S Y ok_X6 kc11_38 kn6 ki6 (fs := [.null, .int 0]) (by decide) (by decide) (by decide) dX11_init_61 (fun q_94428 f_94429 H nq_94428 ef_94429 Y => ?_)
  have whkq_94428 := hk.notin nq_94428
  have hk := hk.push ef_94429 nq_94428
  have whkIq_94428 := hkI.notin nq_94428
  have hkI := hkI.push ef_94429 nq_94428
  have p_h := p_h.push ef_94429 nq_94428
  have p_q_94428 := pt.new (L := L_94413) ef_94429
  refine lv_dup hx hb dX11_init_64 rfl ?_
  refine lv_aload_n hx hb dX11_init_65 rfl (lv_at hl 1 rfl) ?_
  refine pg_get S Y ok_X11 0 (by decide) kf11_13 (v := .ref q_94338) p_h rfl dX11_init_66 ?_
  refine cIv (b := q_94428) (As := [.ref q_94338]) (rest := [.ref q_94428, .ref h]) S Y (c_X6_init (l := l) p_q_94428) cw_X6_init km11_40 rfl ⟨Nat.le_of_ble_eq_true rfl, Nat.le_of_ble_eq_true rfl⟩ hl.1 rfl (Nat.le_of_ble_eq_true rfl) ⟨Nat.le_of_ble_eq_true rfl, Nat.le_of_ble_eq_true rfl⟩ dX11_init_69 (fun L_94430 f_94431 H locs hf_94431 Y => ?_)
  obtain ⟨kf_94431, z_z_94432⟩ := hf_94431
  have p_h := kf_94431.1 h _ (nmc (p_h.neK p_q_94428 (by decide)) nm0) p_h
  have p_q_94428 := z_z_94432
  have hk := hk.call kf_94431 (fun b hb hp => (nmc (neL hp whkq_94428) nm0))
  have hkI := hkI.call kf_94431 (fun b hb hp => (nmc (neL hp whkIq_94428) nm0))
  have nr_q_94428 : NRg gl_108 ad10 q_94428 := (SHC.nr I whkIq_94428)
  have I := I.kp hkI (allc nr_h all0)
  have hkI : kp L_94430 f_94431 L_94430 f_94431 [h, q_94428] := kp.rf
  obtain ⟨ad11, I, X_94433, Y_94434, Z_94435⟩ := SHC.add (l2 := gl_109) I (k := 4) (n := 0) rfl (by decide) rfl p_q_94428 nr_q_94428 (okE_o (okFs_c (okV_re eq1_0) (okFs_c (okV_i (by constructor <;> decide)) okFs_n))) ⟨(show 0 < nL gl_108 1 from by decide), ⟨trivial, trivial⟩⟩
  have eq1_0 := (X_94433.2 1 0 (by decide)).trans eq1_0
  have eq1_1 := (X_94433.2 1 1 (by decide)).trans eq1_1
  have eq10_62 := (X_94433.2 10 62 (by decide)).trans eq10_62
  have eq2_0 := (X_94433.2 2 0 (by decide)).trans eq2_0
  have eq3_0 := (X_94433.2 3 0 (by decide)).trans eq3_0
  have nr_h := Z_94435 _ nr_h (p_h.neK p_q_94428 (by decide))
  have hout : ∀ x, x ∈ L → NRg gl_0 ad x → NRg gl_109 ad11 x := fun x hx hn => Z_94435 x (hout x hx hn) (fun e => whkq_94428 (by rw [← e]; exact hx))
  have hext := hext.tr X_94433
  have eq4_0 := Y_94434
  have hkI : kp L_94430 f_94431 L_94430 f_94431 [h] := kp.rf
  refine pg_putF S Y hname ok_X11 4 (by decide) kf11_41 rfl rfl (fs' := [.ref q_94338, .ref q_94351, .ref q_94367, .ref q_94411, .ref q_94428, .null, .null, .null, .null]) (v := .ref q_94428) p_h rfl rfl rfl (Nat.le_of_ble_eq_true rfl) dX11_init_72 (fun f_94436 H locs ef_94436 Y => ?_)
  have p_h := p_h.me ef_94436
  have hk := hk.up ef_94436 (by simp)
  have hkI := hkI.up ef_94436 (by simp)
  refine lv_aload_n hx hb dX11_init_75 rfl (lv_at hl 1 rfl) ?_
  refine pg_new S Y ok_X1 kc11_45 kn1 ki1 (fs := [.null, .null, .null, .null, .int 0]) (by decide) (by decide) (by decide) dX11_init_76 (fun q_94437 f_94438 H nq_94437 ef_94438 Y => ?_)
  have whkq_94437 := hk.notin nq_94437
  have hk := hk.push ef_94438 nq_94437
  have whkIq_94437 := hkI.notin nq_94437
  have hkI := hkI.push ef_94438 nq_94437
  have p_h := p_h.push ef_94438 nq_94437
  have p_q_94437 := pt.new (L := L_94430) ef_94438
  refine lv_dup hx hb dX11_init_79 rfl ?_
  refine lv_aload_n hx hb dX11_init_80 rfl (lv_at hl 1 rfl) ?_
  refine pg_get S Y ok_X11 0 (by decide) kf11_13 (v := .ref q_94338) p_h rfl dX11_init_81 ?_
  refine lv_aload_n hx hb dX11_init_84 rfl (lv_at hl 1 rfl) ?_
  refine pg_get S Y ok_X11 3 (by decide) kf11_34 (v := .ref q_94411) p_h rfl dX11_init_85 ?_
  refine lv_aload_n hx hb dX11_init_88 rfl (lv_at hl 1 rfl) ?_
  refine pg_get S Y ok_X11 4 (by decide) kf11_41 (v := .ref q_94428) p_h rfl dX11_init_89 ?_
  refine cIv (b := q_94437) (As := [.ref q_94338, .ref q_94411, .ref q_94428]) (rest := [.ref q_94437, .ref h]) S Y (c_X1_init (l := l) p_q_94437) cw_X1_init km11_47 rfl ⟨Nat.le_of_ble_eq_true rfl, Nat.le_of_ble_eq_true rfl⟩ hl.1 rfl (Nat.le_of_ble_eq_true rfl) ⟨Nat.le_of_ble_eq_true rfl, Nat.le_of_ble_eq_true rfl⟩ dX11_init_92 (fun L_94439 f_94440 H locs hf_94440 Y => ?_)
  obtain ⟨a__94441, kf_94440, z_z_94442, z_z_94443, v_94444⟩ := hf_94440
  have w_94445 := hk.notin v_94444
  have w_94446 := hkI.notin v_94444
  have p_h := kf_94440.1 h _ (nmc (p_h.neK p_q_94437 (by decide)) nm0) p_h
  have p_q_94437 := z_z_94442
  have p_a__94441 := z_z_94443
  have hk := hk.call kf_94440 (fun b hb hp => (nmc (neL hp whkq_94437) nm0))
  have hkI := hkI.call kf_94440 (fun b hb hp => (nmc (neL hp whkIq_94437) nm0))
  have nr_q_94437 : NRg gl_109 ad11 q_94437 := (SHC.nr I whkIq_94437)
  have nr_a__94441 : NRg gl_109 ad11 a__94441 := (SHC.nr I w_94446)
  have I := I.kp hkI (allc nr_h all0)
  have hkI : kp L_94439 f_94440 L_94439 f_94440 [h, q_94437, a__94441] := kp.rf
  obtain ⟨ad12, I, X_94447, Y_94448, Z_94449⟩ := SHC.add (l2 := gl_110) I (k := 55) (n := 0) rfl (by decide) rfl p_a__94441 nr_a__94441 (okE_a (g := (fun _ => 0)) trivial) trivial
  have eq1_0 := (X_94447.2 1 0 (by decide)).trans eq1_0
  have eq1_1 := (X_94447.2 1 1 (by decide)).trans eq1_1
  have eq10_62 := (X_94447.2 10 62 (by decide)).trans eq10_62
  have eq2_0 := (X_94447.2 2 0 (by decide)).trans eq2_0
  have eq3_0 := (X_94447.2 3 0 (by decide)).trans eq3_0
  have eq4_0 := (X_94447.2 4 0 (by decide)).trans eq4_0
  have nr_h := Z_94449 _ nr_h (p_h.neA p_a__94441)
  have nr_q_94437 := Z_94449 _ nr_q_94437 (p_q_94437.neA p_a__94441)
  have hout : ∀ x, x ∈ L → NRg gl_0 ad x → NRg gl_110 ad12 x := fun x hx hn => Z_94449 x (hout x hx hn) (fun e => w_94445 (by rw [← e]; exact hx))
  have hext := hext.tr X_94447
  have eq55_0 := Y_94448
  have hkI : kp L_94439 f_94440 L_94439 f_94440 [h, q_94437] := kp.rf
  have I := I.kp hkI (allc nr_h (allc nr_q_94437 all0))
  have hkI : kp L_94439 f_94440 L_94439 f_94440 [h, q_94437] := kp.rf
  obtain ⟨ad13, I, X_94450, Y_94451, Z_94452⟩ := SHC.add (l2 := gl_111) I (k := 5) (n := 0) rfl (by decide) rfl p_q_94437 nr_q_94437 (okE_o (okFs_c (okV_re eq1_0) (okFs_c (okV_re eq3_0) (okFs_c (okV_re eq4_0) (okFs_c (okV_re eq55_0) (okFs_c (okV_i (by constructor <;> decide)) okFs_n)))))) ⟨(show 0 < nL gl_110 1 from by decide), ⟨(show 0 < nL gl_110 3 from by decide), ⟨(show 0 < nL gl_110 4 from by decide), ⟨(show 0 < nL gl_110 55 from by decide), ⟨trivial, trivial⟩⟩⟩⟩⟩
  have eq1_0 := (X_94450.2 1 0 (by decide)).trans eq1_0
  have eq1_1 := (X_94450.2 1 1 (by decide)).trans eq1_1
  have eq10_62 := (X_94450.2 10 62 (by decide)).trans eq10_62
  have eq2_0 := (X_94450.2 2 0 (by decide)).trans eq2_0
  have eq3_0 := (X_94450.2 3 0 (by decide)).trans eq3_0
  have eq4_0 := (X_94450.2 4 0 (by decide)).trans eq4_0
  have eq55_0 := (X_94450.2 55 0 (by decide)).trans eq55_0
  have nr_h := Z_94452 _ nr_h (p_h.neK p_q_94437 (by decide))
  have hout : ∀ x, x ∈ L → NRg gl_0 ad x → NRg gl_111 ad13 x := fun x hx hn => Z_94452 x (hout x hx hn) (fun e => whkq_94437 (by rw [← e]; exact hx))
  have hext := hext.tr X_94450
  have eq5_0 := Y_94451
  have hkI : kp L_94439 f_94440 L_94439 f_94440 [h] := kp.rf
  refine pg_putF S Y hname ok_X11 5 (by decide) kf11_50 rfl rfl (fs' := [.ref q_94338, .ref q_94351, .ref q_94367, .ref q_94411, .ref q_94428, .ref q_94437, .null, .null, .null]) (v := .ref q_94437) p_h rfl rfl rfl (Nat.le_of_ble_eq_true rfl) dX11_init_95 (fun f_94453 H locs ef_94453 Y => ?_)
  have p_h := p_h.me ef_94453
  have hk := hk.up ef_94453 (by simp)
  have hkI := hkI.up ef_94453 (by simp)
  refine lv_aload_n hx hb dX11_init_98 rfl (lv_at hl 1 rfl) ?_
  refine pg_new S Y ok_X2 kc11_54 kn2 ki2 (fs := [.null, .null, .null, .null]) (by decide) (by decide) (by decide) dX11_init_99 (fun q_94454 f_94455 H nq_94454 ef_94455 Y => ?_)
  have whkq_94454 := hk.notin nq_94454
  have hk := hk.push ef_94455 nq_94454
  have whkIq_94454 := hkI.notin nq_94454
  have hkI := hkI.push ef_94455 nq_94454
  have p_h := p_h.push ef_94455 nq_94454
  have p_q_94454 := pt.new (L := L_94439) ef_94455
  refine lv_dup hx hb dX11_init_102 rfl ?_
  refine lv_aload_n hx hb dX11_init_103 rfl (lv_at hl 1 rfl) ?_
  refine pg_get S Y ok_X11 0 (by decide) kf11_13 (v := .ref q_94338) p_h rfl dX11_init_104 ?_
  refine lv_aload_n hx hb dX11_init_107 rfl (lv_at hl 1 rfl) ?_
  refine pg_get S Y ok_X11 3 (by decide) kf11_34 (v := .ref q_94411) p_h rfl dX11_init_108 ?_
  refine lv_aload_n hx hb dX11_init_111 rfl (lv_at hl 1 rfl) ?_
  refine pg_get S Y ok_X11 5 (by decide) kf11_50 (v := .ref q_94437) p_h rfl dX11_init_112 ?_
  refine lv_aload_n hx hb dX11_init_115 rfl (lv_at hl 0 rfl) ?_
  refine cIv (b := q_94454) (As := [.ref q_94338, .ref q_94411, .ref q_94437, .ref q_94323]) (rest := [.ref q_94454, .ref h]) S Y (c_X2_init (l := l) p_q_94454) cw_X2_init km11_56 rfl ⟨Nat.le_of_ble_eq_true rfl, Nat.le_of_ble_eq_true rfl⟩ hl.1 rfl (Nat.le_of_ble_eq_true rfl) ⟨Nat.le_of_ble_eq_true rfl, Nat.le_of_ble_eq_true rfl⟩ dX11_init_116 (fun L_94456 f_94457 H locs hf_94457 Y => ?_)
  obtain ⟨kf_94457, z_z_94458⟩ := hf_94457
  have p_h := kf_94457.1 h _ (nmc (p_h.neK p_q_94454 (by decide)) nm0) p_h
  have p_q_94454 := z_z_94458
  have hk := hk.call kf_94457 (fun b hb hp => (nmc (neL hp whkq_94454) nm0))
  have hkI := hkI.call kf_94457 (fun b hb hp => (nmc (neL hp whkIq_94454) nm0))
  have nr_q_94454 : NRg gl_111 ad13 q_94454 := (SHC.nr I whkIq_94454)
  have I := I.kp hkI (allc nr_h all0)
  have hkI : kp L_94456 f_94457 L_94456 f_94457 [h, q_94454] := kp.rf
  obtain ⟨ad14, I, X_94459, Y_94460, Z_94461⟩ := SHC.add (l2 := gl_112) I (k := 6) (n := 0) rfl (by decide) rfl p_q_94454 nr_q_94454 (okE_o (okFs_c (okV_re eq1_0) (okFs_c (okV_re eq3_0) (okFs_c (okV_re eq5_0) (okFs_c (okV_re eq10_62) okFs_n))))) ⟨(show 0 < nL gl_111 1 from by decide), ⟨(show 0 < nL gl_111 3 from by decide), ⟨(show 0 < nL gl_111 5 from by decide), ⟨(show 62 < nL gl_111 10 from by decide), trivial⟩⟩⟩⟩
  have eq1_0 := (X_94459.2 1 0 (by decide)).trans eq1_0
  have eq1_1 := (X_94459.2 1 1 (by decide)).trans eq1_1
  have eq10_62 := (X_94459.2 10 62 (by decide)).trans eq10_62
  have eq2_0 := (X_94459.2 2 0 (by decide)).trans eq2_0
  have eq3_0 := (X_94459.2 3 0 (by decide)).trans eq3_0
  have eq4_0 := (X_94459.2 4 0 (by decide)).trans eq4_0
  have eq5_0 := (X_94459.2 5 0 (by decide)).trans eq5_0
  have nr_h := Z_94461 _ nr_h (p_h.neK p_q_94454 (by decide))
  have hout : ∀ x, x ∈ L → NRg gl_0 ad x → NRg gl_112 ad14 x := fun x hx hn => Z_94461 x (hout x hx hn) (fun e => whkq_94454 (by rw [← e]; exact hx))
  have hext := hext.tr X_94459
  have eq6_0 := Y_94460
  have hkI : kp L_94456 f_94457 L_94456 f_94457 [h] := kp.rf
  refine pg_putF S Y hname ok_X11 6 (by decide) kf11_59 rfl rfl (fs' := [.ref q_94338, .ref q_94351, .ref q_94367, .ref q_94411, .ref q_94428, .ref q_94437, .ref q_94454, .null, .null]) (v := .ref q_94454) p_h rfl rfl rfl (Nat.le_of_ble_eq_true rfl) dX11_init_119 (fun f_94462 H locs ef_94462 Y => ?_)
  have p_h := p_h.me ef_94462
  have hk := hk.up ef_94462 (by simp)
  have hkI := hkI.up ef_94462 (by simp)
  refine lv_aload_n hx hb dX11_init_122 rfl (lv_at hl 1 rfl) ?_
  refine pg_new S Y ok_X8 kc11_63 kn8 ki8 (fs := [.null, .null, .null, .null, .null, .null, .null, .int 0, .int 0, .int 0]) (by decide) (by decide) (by decide) dX11_init_123 (fun q_94463 f_94464 H nq_94463 ef_94464 Y => ?_)
  have whkq_94463 := hk.notin nq_94463
  have hk := hk.push ef_94464 nq_94463
  have whkIq_94463 := hkI.notin nq_94463
  have hkI := hkI.push ef_94464 nq_94463
  have p_h := p_h.push ef_94464 nq_94463
  have p_q_94463 := pt.new (L := L_94456) ef_94464
  refine lv_dup hx hb dX11_init_126 rfl ?_
  refine lv_aload_n hx hb dX11_init_127 rfl (lv_at hl 1 rfl) ?_
  refine pg_get S Y ok_X11 0 (by decide) kf11_13 (v := .ref q_94338) p_h rfl dX11_init_128 ?_
  refine lv_aload_n hx hb dX11_init_131 rfl (lv_at hl 1 rfl) ?_
  refine pg_get S Y ok_X11 3 (by decide) kf11_34 (v := .ref q_94411) p_h rfl dX11_init_132 ?_
  refine lv_aload_n hx hb dX11_init_135 rfl (lv_at hl 0 rfl) ?_
  refine cIv (b := q_94463) (As := [.ref q_94338, .ref q_94411, .ref q_94323]) (rest := [.ref q_94463, .ref h]) S Y (c_X8_init (l := l) p_q_94463) cw_X8_init km11_65 rfl ⟨Nat.le_of_ble_eq_true rfl, Nat.le_of_ble_eq_true rfl⟩ hl.1 rfl (Nat.le_of_ble_eq_true rfl) ⟨Nat.le_of_ble_eq_true rfl, Nat.le_of_ble_eq_true rfl⟩ dX11_init_136 (fun L_94465 f_94466 H locs hf_94466 Y => ?_)
  obtain ⟨a__94467, a__94468, a__94469, a__94470, kf_94466, z_z_94471, z_z_94472, z_z_94473, z_z_94474, z_z_94475, na1a2_94476, v_94477, v_94478, v_94479, v_94480⟩ := hf_94466
  have w_94481 := hk.notin v_94477
  have w_94482 := hkI.notin v_94477
  have w_94483 := hk.notin v_94478
  have w_94484 := hkI.notin v_94478
  have w_94485 := hk.notin v_94479
  have w_94486 := hkI.notin v_94479
  have w_94487 := hk.notin v_94480
  have w_94488 := hkI.notin v_94480
  have p_h := kf_94466.1 h _ (nmc (p_h.neK p_q_94463 (by decide)) nm0) p_h
  have p_q_94463 := z_z_94471
  have p_a__94467 := z_z_94472
  have p_a__94468 := z_z_94473
  have p_a__94469 := z_z_94474
  have p_a__94470 := z_z_94475
  have hk := hk.call kf_94466 (fun b hb hp => (nmc (neL hp whkq_94463) nm0))
  have hkI := hkI.call kf_94466 (fun b hb hp => (nmc (neL hp whkIq_94463) nm0))
  have nr_q_94463 : NRg gl_112 ad14 q_94463 := (SHC.nr I whkIq_94463)
  have nr_a__94467 : NRg gl_112 ad14 a__94467 := (SHC.nr I w_94482)
  have nr_a__94468 : NRg gl_112 ad14 a__94468 := (SHC.nr I w_94484)
  have nr_a__94469 : NRg gl_112 ad14 a__94469 := (SHC.nr I w_94486)
  have nr_a__94470 : NRg gl_112 ad14 a__94470 := (SHC.nr I w_94488)
  have I := I.kp hkI (allc nr_h all0)
  have hkI : kp L_94465 f_94466 L_94465 f_94466 [h, q_94463, a__94467, a__94468, a__94469, a__94470] := kp.rf
  obtain ⟨ad15, I, X_94489, Y_94490, Z_94491⟩ := SHC.add (l2 := gl_113) I (k := 56) (n := 0) rfl (by decide) rfl p_a__94467 nr_a__94467 (okE_a (g := (fun _ => 0)) trivial) trivial
  have eq1_0 := (X_94489.2 1 0 (by decide)).trans eq1_0
  have eq1_1 := (X_94489.2 1 1 (by decide)).trans eq1_1
  have eq10_62 := (X_94489.2 10 62 (by decide)).trans eq10_62
  have eq2_0 := (X_94489.2 2 0 (by decide)).trans eq2_0
  have eq3_0 := (X_94489.2 3 0 (by decide)).trans eq3_0
  have eq4_0 := (X_94489.2 4 0 (by decide)).trans eq4_0
  have eq5_0 := (X_94489.2 5 0 (by decide)).trans eq5_0
  have eq6_0 := (X_94489.2 6 0 (by decide)).trans eq6_0
  have nr_h := Z_94491 _ nr_h (p_h.neA p_a__94467)
  have nr_q_94463 := Z_94491 _ nr_q_94463 (p_q_94463.neA p_a__94467)
  have nr_a__94468 := Z_94491 _ nr_a__94468 (Ne.symm (na1a2_94476))
  have nr_a__94469 := Z_94491 _ nr_a__94469 (p_a__94469.neN p_a__94467 (by decide))
  have nr_a__94470 := Z_94491 _ nr_a__94470 (p_a__94470.neN p_a__94467 (by decide))
  have hout : ∀ x, x ∈ L → NRg gl_0 ad x → NRg gl_113 ad15 x := fun x hx hn => Z_94491 x (hout x hx hn) (fun e => w_94481 (by rw [← e]; exact hx))
  have hext := hext.tr X_94489
  have eq56_0 := Y_94490
  have hkI : kp L_94465 f_94466 L_94465 f_94466 [h, q_94463, a__94468, a__94469, a__94470] := kp.rf
  have I := I.kp hkI (allc nr_h (allc nr_q_94463 (allc nr_a__94468 (allc nr_a__94469 (allc nr_a__94470 all0)))))
  have hkI : kp L_94465 f_94466 L_94465 f_94466 [h, q_94463, a__94468, a__94469, a__94470] := kp.rf
  obtain ⟨ad16, I, X_94492, Y_94493, Z_94494⟩ := SHC.add (l2 := gl_114) I (k := 57) (n := 0) rfl (by decide) rfl p_a__94468 nr_a__94468 (okE_a (g := (fun _ => 0)) trivial) trivial
  have eq1_0 := (X_94492.2 1 0 (by decide)).trans eq1_0
  have eq1_1 := (X_94492.2 1 1 (by decide)).trans eq1_1
  have eq10_62 := (X_94492.2 10 62 (by decide)).trans eq10_62
  have eq2_0 := (X_94492.2 2 0 (by decide)).trans eq2_0
  have eq3_0 := (X_94492.2 3 0 (by decide)).trans eq3_0
  have eq4_0 := (X_94492.2 4 0 (by decide)).trans eq4_0
  have eq5_0 := (X_94492.2 5 0 (by decide)).trans eq5_0
  have eq6_0 := (X_94492.2 6 0 (by decide)).trans eq6_0
  have eq56_0 := (X_94492.2 56 0 (by decide)).trans eq56_0
  have nr_h := Z_94494 _ nr_h (p_h.neA p_a__94468)
  have nr_q_94463 := Z_94494 _ nr_q_94463 (p_q_94463.neA p_a__94468)
  have nr_a__94469 := Z_94494 _ nr_a__94469 (p_a__94469.neN p_a__94468 (by decide))
  have nr_a__94470 := Z_94494 _ nr_a__94470 (p_a__94470.neN p_a__94468 (by decide))
  have hout : ∀ x, x ∈ L → NRg gl_0 ad x → NRg gl_114 ad16 x := fun x hx hn => Z_94494 x (hout x hx hn) (fun e => w_94483 (by rw [← e]; exact hx))
  have hext := hext.tr X_94492
  have eq57_0 := Y_94493
  have hkI : kp L_94465 f_94466 L_94465 f_94466 [h, q_94463, a__94469, a__94470] := kp.rf
  have I := I.kp hkI (allc nr_h (allc nr_q_94463 (allc nr_a__94469 (allc nr_a__94470 all0))))
  have hkI : kp L_94465 f_94466 L_94465 f_94466 [h, q_94463, a__94469, a__94470] := kp.rf
  obtain ⟨ad17, I, X_94495, Y_94496, Z_94497⟩ := SHC.add (l2 := gl_115) I (k := 58) (n := 0) rfl (by decide) rfl p_a__94469 nr_a__94469 (okE_a (g := (fun _ => 0)) trivial) trivial
  have eq1_0 := (X_94495.2 1 0 (by decide)).trans eq1_0
  have eq1_1 := (X_94495.2 1 1 (by decide)).trans eq1_1
  have eq10_62 := (X_94495.2 10 62 (by decide)).trans eq10_62
  have eq2_0 := (X_94495.2 2 0 (by decide)).trans eq2_0
  have eq3_0 := (X_94495.2 3 0 (by decide)).trans eq3_0
  have eq4_0 := (X_94495.2 4 0 (by decide)).trans eq4_0
  have eq5_0 := (X_94495.2 5 0 (by decide)).trans eq5_0
  have eq6_0 := (X_94495.2 6 0 (by decide)).trans eq6_0
  have eq56_0 := (X_94495.2 56 0 (by decide)).trans eq56_0
  have eq57_0 := (X_94495.2 57 0 (by decide)).trans eq57_0
  have nr_h := Z_94497 _ nr_h (p_h.neA p_a__94469)
  have nr_q_94463 := Z_94497 _ nr_q_94463 (p_q_94463.neA p_a__94469)
  have nr_a__94470 := Z_94497 _ nr_a__94470 (p_a__94470.neN p_a__94469 (by decide))
  have hout : ∀ x, x ∈ L → NRg gl_0 ad x → NRg gl_115 ad17 x := fun x hx hn => Z_94497 x (hout x hx hn) (fun e => w_94485 (by rw [← e]; exact hx))
  have hext := hext.tr X_94495
  have eq58_0 := Y_94496
  have hkI : kp L_94465 f_94466 L_94465 f_94466 [h, q_94463, a__94470] := kp.rf
  have I := I.kp hkI (allc nr_h (allc nr_q_94463 (allc nr_a__94470 all0)))
  have hkI : kp L_94465 f_94466 L_94465 f_94466 [h, q_94463, a__94470] := kp.rf
  obtain ⟨ad18, I, X_94498, Y_94499, Z_94500⟩ := SHC.add (l2 := gl_116) I (k := 59) (n := 0) rfl (by decide) rfl p_a__94470 nr_a__94470 (okE_a (g := (fun _ => 0)) trivial) trivial
  have eq1_0 := (X_94498.2 1 0 (by decide)).trans eq1_0
  have eq1_1 := (X_94498.2 1 1 (by decide)).trans eq1_1
  have eq10_62 := (X_94498.2 10 62 (by decide)).trans eq10_62
  have eq2_0 := (X_94498.2 2 0 (by decide)).trans eq2_0
  have eq3_0 := (X_94498.2 3 0 (by decide)).trans eq3_0
  have eq4_0 := (X_94498.2 4 0 (by decide)).trans eq4_0
  have eq5_0 := (X_94498.2 5 0 (by decide)).trans eq5_0
  have eq6_0 := (X_94498.2 6 0 (by decide)).trans eq6_0
  have eq56_0 := (X_94498.2 56 0 (by decide)).trans eq56_0
  have eq57_0 := (X_94498.2 57 0 (by decide)).trans eq57_0
  have eq58_0 := (X_94498.2 58 0 (by decide)).trans eq58_0
  have nr_h := Z_94500 _ nr_h (p_h.neA p_a__94470)
  have nr_q_94463 := Z_94500 _ nr_q_94463 (p_q_94463.neA p_a__94470)
  have hout : ∀ x, x ∈ L → NRg gl_0 ad x → NRg gl_116 ad18 x := fun x hx hn => Z_94500 x (hout x hx hn) (fun e => w_94487 (by rw [← e]; exact hx))
  have hext := hext.tr X_94498
  have eq59_0 := Y_94499
  have hkI : kp L_94465 f_94466 L_94465 f_94466 [h, q_94463] := kp.rf
  have I := I.kp hkI (allc nr_h (allc nr_q_94463 all0))
  have hkI : kp L_94465 f_94466 L_94465 f_94466 [h, q_94463] := kp.rf
  obtain ⟨ad19, I, X_94501, Y_94502, Z_94503⟩ := SHC.add (l2 := gl_117) I (k := 7) (n := 0) rfl (by decide) rfl p_q_94463 nr_q_94463 (okE_o (okFs_c (okV_re eq1_0) (okFs_c (okV_re eq3_0) (okFs_c (okV_re eq10_62) (okFs_c (okV_re eq56_0) (okFs_c (okV_re eq57_0) (okFs_c (okV_re eq58_0) (okFs_c (okV_re eq59_0) (okFs_c (okV_i (by constructor <;> decide)) (okFs_c (okV_p (by constructor <;> decide)) (okFs_c (okV_i (by constructor <;> decide)) okFs_n))))))))))) ⟨(show 0 < nL gl_116 1 from by decide), ⟨(show 0 < nL gl_116 3 from by decide), ⟨(show 62 < nL gl_116 10 from by decide), ⟨(show 0 < nL gl_116 56 from by decide), ⟨(show 0 < nL gl_116 57 from by decide), ⟨(show 0 < nL gl_116 58 from by decide), ⟨(show 0 < nL gl_116 59 from by decide), ⟨trivial, ⟨trivial, ⟨trivial, trivial⟩⟩⟩⟩⟩⟩⟩⟩⟩⟩
  have eq1_0 := (X_94501.2 1 0 (by decide)).trans eq1_0
  have eq1_1 := (X_94501.2 1 1 (by decide)).trans eq1_1
  have eq10_62 := (X_94501.2 10 62 (by decide)).trans eq10_62
  have eq2_0 := (X_94501.2 2 0 (by decide)).trans eq2_0
  have eq3_0 := (X_94501.2 3 0 (by decide)).trans eq3_0
  have eq4_0 := (X_94501.2 4 0 (by decide)).trans eq4_0
  have eq5_0 := (X_94501.2 5 0 (by decide)).trans eq5_0
  have eq6_0 := (X_94501.2 6 0 (by decide)).trans eq6_0
  have eq56_0 := (X_94501.2 56 0 (by decide)).trans eq56_0
  have eq57_0 := (X_94501.2 57 0 (by decide)).trans eq57_0
  have eq58_0 := (X_94501.2 58 0 (by decide)).trans eq58_0
  have eq59_0 := (X_94501.2 59 0 (by decide)).trans eq59_0
  have nr_h := Z_94503 _ nr_h (p_h.neK p_q_94463 (by decide))
  have hout : ∀ x, x ∈ L → NRg gl_0 ad x → NRg gl_117 ad19 x := fun x hx hn => Z_94503 x (hout x hx hn) (fun e => whkq_94463 (by rw [← e]; exact hx))
  have hext := hext.tr X_94501
  have eq7_0 := Y_94502
  have hkI : kp L_94465 f_94466 L_94465 f_94466 [h] := kp.rf
  refine pg_putF S Y hname ok_X11 7 (by decide) kf11_68 rfl rfl (fs' := [.ref q_94338, .ref q_94351, .ref q_94367, .ref q_94411, .ref q_94428, .ref q_94437, .ref q_94454, .ref q_94463, .null]) (v := .ref q_94463) p_h rfl rfl rfl (Nat.le_of_ble_eq_true rfl) dX11_init_139 (fun f_94504 H locs ef_94504 Y => ?_)
  have p_h := p_h.me ef_94504
  have hk := hk.up ef_94504 (by simp)
  have hkI := hkI.up ef_94504 (by simp)
  refine lv_aload_n hx hb dX11_init_142 rfl (lv_at hl 1 rfl) ?_
  refine pg_new S Y ok_X0 kc11_72 kn0 ki0 (fs := [.null, .null, .null]) (by decide) (by decide) (by decide) dX11_init_143 (fun q_94505 f_94506 H nq_94505 ef_94506 Y => ?_)
  have whkq_94505 := hk.notin nq_94505
  have hk := hk.push ef_94506 nq_94505
  have whkIq_94505 := hkI.notin nq_94505
  have hkI := hkI.push ef_94506 nq_94505
  have p_h := p_h.push ef_94506 nq_94505
  have p_q_94505 := pt.new (L := L_94465) ef_94506
  refine lv_dup hx hb dX11_init_146 rfl ?_
  refine lv_aload_n hx hb dX11_init_147 rfl (lv_at hl 1 rfl) ?_
  refine pg_get S Y ok_X11 0 (by decide) kf11_13 (v := .ref q_94338) p_h rfl dX11_init_148 ?_
  refine cIv (b := q_94505) (As := [.ref q_94338]) (rest := [.ref q_94505, .ref h]) S Y (c_X0_init (l := l) p_q_94505) cw_X0_init km11_74 rfl ⟨Nat.le_of_ble_eq_true rfl, Nat.le_of_ble_eq_true rfl⟩ hl.1 rfl (Nat.le_of_ble_eq_true rfl) ⟨Nat.le_of_ble_eq_true rfl, Nat.le_of_ble_eq_true rfl⟩ dX11_init_151 (fun L_94507 f_94508 H locs hf_94508 Y => ?_)
  obtain ⟨a__94509, a__94510, kf_94508, z_z_94511, z_z_94512, z_z_94513, v_94514, v_94515⟩ := hf_94508
  have w_94516 := hk.notin v_94514
  have w_94517 := hkI.notin v_94514
  have w_94518 := hk.notin v_94515
  have w_94519 := hkI.notin v_94515
  have p_h := kf_94508.1 h _ (nmc (p_h.neK p_q_94505 (by decide)) nm0) p_h
  have p_q_94505 := z_z_94511
  have p_a__94509 := z_z_94512
  have p_a__94510 := z_z_94513
  have hk := hk.call kf_94508 (fun b hb hp => (nmc (neL hp whkq_94505) nm0))
  have hkI := hkI.call kf_94508 (fun b hb hp => (nmc (neL hp whkIq_94505) nm0))
  have nr_q_94505 : NRg gl_117 ad19 q_94505 := (SHC.nr I whkIq_94505)
  have nr_a__94509 : NRg gl_117 ad19 a__94509 := (SHC.nr I w_94517)
  have nr_a__94510 : NRg gl_117 ad19 a__94510 := (SHC.nr I w_94519)
  have I := I.kp hkI (allc nr_h all0)
  have hkI : kp L_94507 f_94508 L_94507 f_94508 [h, q_94505, a__94509, a__94510] := kp.rf
  obtain ⟨ad20, I, X_94520, Y_94521, Z_94522⟩ := SHC.add (l2 := gl_118) I (k := 60) (n := 0) rfl (by decide) rfl p_a__94509 nr_a__94509 (okE_a (g := (fun _ => 0)) trivial) trivial
  have eq1_0 := (X_94520.2 1 0 (by decide)).trans eq1_0
  have eq1_1 := (X_94520.2 1 1 (by decide)).trans eq1_1
  have eq10_62 := (X_94520.2 10 62 (by decide)).trans eq10_62
  have eq2_0 := (X_94520.2 2 0 (by decide)).trans eq2_0
  have eq3_0 := (X_94520.2 3 0 (by decide)).trans eq3_0
  have eq4_0 := (X_94520.2 4 0 (by decide)).trans eq4_0
  have eq5_0 := (X_94520.2 5 0 (by decide)).trans eq5_0
  have eq6_0 := (X_94520.2 6 0 (by decide)).trans eq6_0
  have eq7_0 := (X_94520.2 7 0 (by decide)).trans eq7_0
  have nr_h := Z_94522 _ nr_h (p_h.neA p_a__94509)
  have nr_q_94505 := Z_94522 _ nr_q_94505 (p_q_94505.neA p_a__94509)
  have nr_a__94510 := Z_94522 _ nr_a__94510 (p_a__94510.neN p_a__94509 (by decide))
  have hout : ∀ x, x ∈ L → NRg gl_0 ad x → NRg gl_118 ad20 x := fun x hx hn => Z_94522 x (hout x hx hn) (fun e => w_94516 (by rw [← e]; exact hx))
  have hext := hext.tr X_94520
  have eq60_0 := Y_94521
  have hkI : kp L_94507 f_94508 L_94507 f_94508 [h, q_94505, a__94510] := kp.rf
  have I := I.kp hkI (allc nr_h (allc nr_q_94505 (allc nr_a__94510 all0)))
  have hkI : kp L_94507 f_94508 L_94507 f_94508 [h, q_94505, a__94510] := kp.rf
  obtain ⟨ad21, I, X_94523, Y_94524, Z_94525⟩ := SHC.add (l2 := gl_119) I (k := 61) (n := 0) rfl (by decide) rfl p_a__94510 nr_a__94510 (okE_a (g := (fun _ => 0)) trivial) trivial
  have eq1_0 := (X_94523.2 1 0 (by decide)).trans eq1_0
  have eq1_1 := (X_94523.2 1 1 (by decide)).trans eq1_1
  have eq10_62 := (X_94523.2 10 62 (by decide)).trans eq10_62
  have eq2_0 := (X_94523.2 2 0 (by decide)).trans eq2_0
  have eq3_0 := (X_94523.2 3 0 (by decide)).trans eq3_0
  have eq4_0 := (X_94523.2 4 0 (by decide)).trans eq4_0
  have eq5_0 := (X_94523.2 5 0 (by decide)).trans eq5_0
  have eq6_0 := (X_94523.2 6 0 (by decide)).trans eq6_0
  have eq7_0 := (X_94523.2 7 0 (by decide)).trans eq7_0
  have eq60_0 := (X_94523.2 60 0 (by decide)).trans eq60_0
  have nr_h := Z_94525 _ nr_h (p_h.neA p_a__94510)
  have nr_q_94505 := Z_94525 _ nr_q_94505 (p_q_94505.neA p_a__94510)
  have hout : ∀ x, x ∈ L → NRg gl_0 ad x → NRg gl_119 ad21 x := fun x hx hn => Z_94525 x (hout x hx hn) (fun e => w_94518 (by rw [← e]; exact hx))
  have hext := hext.tr X_94523
  have eq61_0 := Y_94524
  have hkI : kp L_94507 f_94508 L_94507 f_94508 [h, q_94505] := kp.rf
  have I := I.kp hkI (allc nr_h (allc nr_q_94505 all0))
  have hkI : kp L_94507 f_94508 L_94507 f_94508 [h, q_94505] := kp.rf
  obtain ⟨ad22, I, X_94526, Y_94527, Z_94528⟩ := SHC.add (l2 := gl_120) I (k := 8) (n := 0) rfl (by decide) rfl p_q_94505 nr_q_94505 (okE_o (okFs_c (okV_re eq1_0) (okFs_c (okV_re eq60_0) (okFs_c (okV_re eq61_0) okFs_n)))) ⟨(show 0 < nL gl_119 1 from by decide), ⟨(show 0 < nL gl_119 60 from by decide), ⟨(show 0 < nL gl_119 61 from by decide), trivial⟩⟩⟩
  have eq1_0 := (X_94526.2 1 0 (by decide)).trans eq1_0
  have eq1_1 := (X_94526.2 1 1 (by decide)).trans eq1_1
  have eq10_62 := (X_94526.2 10 62 (by decide)).trans eq10_62
  have eq2_0 := (X_94526.2 2 0 (by decide)).trans eq2_0
  have eq3_0 := (X_94526.2 3 0 (by decide)).trans eq3_0
  have eq4_0 := (X_94526.2 4 0 (by decide)).trans eq4_0
  have eq5_0 := (X_94526.2 5 0 (by decide)).trans eq5_0
  have eq6_0 := (X_94526.2 6 0 (by decide)).trans eq6_0
  have eq7_0 := (X_94526.2 7 0 (by decide)).trans eq7_0
  have eq60_0 := (X_94526.2 60 0 (by decide)).trans eq60_0
  have eq61_0 := (X_94526.2 61 0 (by decide)).trans eq61_0
  have nr_h := Z_94528 _ nr_h (p_h.neK p_q_94505 (by decide))
  have hout : ∀ x, x ∈ L → NRg gl_0 ad x → NRg gl_120 ad22 x := fun x hx hn => Z_94528 x (hout x hx hn) (fun e => whkq_94505 (by rw [← e]; exact hx))
  have hext := hext.tr X_94526
  have eq8_0 := Y_94527
  have hkI : kp L_94507 f_94508 L_94507 f_94508 [h] := kp.rf
  refine pg_putF S Y hname ok_X11 8 (by decide) kf11_75 rfl rfl (fs' := [.ref q_94338, .ref q_94351, .ref q_94367, .ref q_94411, .ref q_94428, .ref q_94437, .ref q_94454, .ref q_94463, .ref q_94505]) (v := .ref q_94505) p_h rfl rfl rfl (Nat.le_of_ble_eq_true rfl) dX11_init_154 (fun f_94529 H locs ef_94529 Y => ?_)
  have p_h := p_h.me ef_94529
  have hk := hk.up ef_94529 (by simp)
  have hkI := hkI.up ef_94529 (by simp)
  have I := I.kp hkI (allc nr_h all0)
  have hkI : kp L_94507 f_94529 L_94507 f_94529 [h] := kp.rf
  obtain ⟨adF, I, X_94530, Y_94531, Z_94532⟩ := SHC.add (l2 := gl_121) I (k := 0) (n := 0) rfl (by decide) rfl p_h nr_h (okE_o (okFs_c (okV_re eq1_0) (okFs_c (okV_re eq1_1) (okFs_c (okV_re eq2_0) (okFs_c (okV_re eq3_0) (okFs_c (okV_re eq4_0) (okFs_c (okV_re eq5_0) (okFs_c (okV_re eq6_0) (okFs_c (okV_re eq7_0) (okFs_c (okV_re eq8_0) okFs_n)))))))))) ⟨(show 0 < nL gl_120 1 from by decide), ⟨(show 1 < nL gl_120 1 from by decide), ⟨(show 0 < nL gl_120 2 from by decide), ⟨(show 0 < nL gl_120 3 from by decide), ⟨(show 0 < nL gl_120 4 from by decide), ⟨(show 0 < nL gl_120 5 from by decide), ⟨(show 0 < nL gl_120 6 from by decide), ⟨(show 0 < nL gl_120 7 from by decide), ⟨(show 0 < nL gl_120 8 from by decide), trivial⟩⟩⟩⟩⟩⟩⟩⟩⟩
  have h0 := Y_94531
  exact prV (post := fun L1 f1 => ∃ ad2 : Nat → Nat → Nat, kp L f L1 f1 [h] ∧ SH (spC RS0 ((0, 6) : Int × Int) t00 w00 q00) nnC G ad2 L1 f1 ∧ ad2 0 0 = h) S Y (by decide) (by decide) hA1 ⟨adF, hk, (SH.nnE I.1 nn_fin), h0⟩ dX11_init_157
