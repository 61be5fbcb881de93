def gl_0 : List Nat := [0, 0, 0, 0, 0, 0, 0, 0, 0, 0, 0, 0, 0, 0, 0, 0, 0, 0, 0, 0, 0, 0, 0, 0, 0, 0, 0, 0, 0, 0, 0, 0, 0, 0, 0, 0, 0, 0, 0, 0, 0, 0, 0, 0, 0, 0, 0, 0, 0, 0, 0, 0, 0, 0, 0, 0, 0, 0, 0, 0, 0, 0]
def gl_1 : List Nat := [0, 0, 0, 0, 0, 0, 0, 0, 0, 0, 31, 31, 31, 0, 0, 0, 0, 0, 0, 0, 5, 5, 0, 0, 0, 0, 0, 0, 0, 0, 4, 4, 4, 4, 4, 4, 0, 0, 0, 0, 1, 1, 1, 1, 0, 0, 0, 0, 0, 0, 0, 0, 0, 0, 0, 0, 0, 0, 0, 0, 0, 0]
theorem dX10_init_0 : decode cX10_init 0 = .ok (.aload_n 0, 1) := by decide +kernel
theorem dX10_init_1 : decode cX10_init 1 = .ok (.invokespecial 3, 3) := by decide +kernel
theorem km10_3 : inW (Cond.methodLink RX10 3 objectInit) := ⟨List.mem_of_getElem? (i := 203) (by decide +kernel), by decide +kernel⟩
theorem dX10_init_4 : decode cX10_init 4 = .ok (.aload_n 0, 1) := by decide +kernel
theorem dX10_init_5 : decode cX10_init 5 = .ok (.bipush 6, 2) := by decide +kernel
theorem dX10_init_7 : decode cX10_init 7 = .ok (.newarray .int, 2) := by decide +kernel
theorem dX10_init_9 : decode cX10_init 9 = .ok (.putfield 9, 3) := by decide +kernel
def gl_2 : List Nat := [0, 0, 0, 0, 0, 0, 0, 0, 0, 0, 0, 0, 0, 0, 0, 0, 0, 0, 0, 0, 0, 0, 0, 0, 0, 0, 0, 0, 0, 0, 0, 0, 0, 0, 0, 0, 0, 0, 0, 0, 1, 0, 0, 0, 0, 0, 0, 0, 0, 0, 0, 0, 0, 0, 0, 0, 0, 0, 0, 0, 0, 0]
theorem dX10_init_12 : decode cX10_init 12 = .ok (.aload_n 0, 1) := by decide +kernel
theorem dX10_init_13 : decode cX10_init 13 = .ok (.bipush 6, 2) := by decide +kernel
theorem dX10_init_15 : decode cX10_init 15 = .ok (.newarray .int, 2) := by decide +kernel
theorem dX10_init_17 : decode cX10_init 17 = .ok (.putfield 15, 3) := by decide +kernel
def gl_3 : List Nat := [0, 0, 0, 0, 0, 0, 0, 0, 0, 0, 0, 0, 0, 0, 0, 0, 0, 0, 0, 0, 0, 0, 0, 0, 0, 0, 0, 0, 0, 0, 0, 0, 0, 0, 0, 0, 0, 0, 0, 0, 1, 1, 0, 0, 0, 0, 0, 0, 0, 0, 0, 0, 0, 0, 0, 0, 0, 0, 0, 0, 0, 0]
theorem dX10_init_20 : decode cX10_init 20 = .ok (.aload_n 0, 1) := by decide +kernel
theorem dX10_init_21 : decode cX10_init 21 = .ok (.iconst 4, 1) := by decide +kernel
theorem dX10_init_22 : decode cX10_init 22 = .ok (.anewarray 18, 3) := by decide +kernel
theorem kc10_18 : inW (Cond.classLink RX10 18 RX7) := ⟨List.mem_of_getElem? (i := 204) (by decide +kernel), by decide +kernel⟩
theorem dX10_init_25 : decode cX10_init 25 = .ok (.putfield 20, 3) := by decide +kernel
theorem dX10_init_28 : decode cX10_init 28 = .ok (.aload_n 0, 1) := by decide +kernel
theorem dX10_init_29 : decode cX10_init 29 = .ok (.new 24, 3) := by decide +kernel
theorem kc10_24 : inW (Cond.classLink RX10 24 RX4) := ⟨List.mem_of_getElem? (i := 206) (by decide +kernel), by decide +kernel⟩
theorem kn4 : inW (Cond.instantiable RX4 7) := ⟨List.mem_of_getElem? (i := 154) (by decide +kernel), by decide +kernel⟩
theorem ki4 : inW (Cond.initialized RX4) := ⟨List.mem_of_getElem? (i := 125) (by decide +kernel), by decide +kernel⟩
theorem dX10_init_32 : decode cX10_init 32 = .ok (.dup, 1) := by decide +kernel
theorem dX10_init_33 : decode cX10_init 33 = .ok (.invokespecial 26, 3) := by decide +kernel
theorem cw_X4_init : CWi yX4_init cX4_init 1 0 := ⟨⟨⟨List.mem_of_getElem? (i := 125) (by decide +kernel), by decide +kernel⟩, ⟨List.mem_of_getElem? (i := 157) (by decide +kernel), by decide +kernel⟩, by decide +kernel⟩, ⟨List.mem_of_getElem? (i := 156) (by decide +kernel), by decide +kernel⟩, rfl⟩
theorem km10_26 : inW (Cond.methodLinkNest RX10 26 yX4_init "KneeOaths") := ⟨List.mem_of_getElem? (i := 207) (by decide +kernel), by decide +kernel⟩
def gl_4 : List Nat := [0, 0, 0, 0, 0, 0, 0, 0, 0, 0, 1, 1, 1, 0, 0, 0, 0, 0, 0, 0, 0, 0, 0, 0, 0, 0, 0, 0, 0, 0, 0, 0, 0, 0, 0, 0, 0, 0, 0, 0, 1, 1, 0, 0, 0, 0, 0, 0, 0, 0, 0, 0, 0, 0, 0, 0, 0, 0, 0, 0, 0, 0]
theorem dX10_init_36 : decode cX10_init 36 = .ok (.putfield 27, 3) := by decide +kernel
theorem dX10_init_39 : decode cX10_init 39 = .ok (.aload_n 0, 1) := by decide +kernel
theorem dX10_init_40 : decode cX10_init 40 = .ok (.bipush 30, 2) := by decide +kernel
theorem dX10_init_42 : decode cX10_init 42 = .ok (.anewarray 24, 3) := by decide +kernel
theorem dX10_init_45 : decode cX10_init 45 = .ok (.putfield 31, 3) := by decide +kernel
theorem dX10_init_48 : decode cX10_init 48 = .ok (.aload_n 0, 1) := by decide +kernel
theorem dX10_init_49 : decode cX10_init 49 = .ok (.new 35, 3) := by decide +kernel
theorem kc10_35 : inW (Cond.classLink RX10 35 RX9) := ⟨List.mem_of_getElem? (i := 209) (by decide +kernel), by decide +kernel⟩
theorem kn9 : inW (Cond.instantiable RX9 3) := ⟨List.mem_of_getElem? (i := 210) (by decide +kernel), by decide +kernel⟩
theorem ki9 : inW (Cond.initialized RX9) := ⟨List.mem_of_getElem? (i := 127) (by decide +kernel), by decide +kernel⟩
theorem dX10_init_52 : decode cX10_init 52 = .ok (.dup, 1) := by decide +kernel
theorem dX10_init_53 : decode cX10_init 53 = .ok (.bipush 6, 2) := by decide +kernel
theorem dX10_init_55 : decode cX10_init 55 = .ok (.invokespecial 37, 3) := by decide +kernel
theorem cw_X9_init : CWi yX9_init cX9_init 2 1 := ⟨⟨⟨List.mem_of_getElem? (i := 127) (by decide +kernel), by decide +kernel⟩, ⟨List.mem_of_getElem? (i := 213) (by decide +kernel), by decide +kernel⟩, by decide +kernel⟩, ⟨List.mem_of_getElem? (i := 212) (by decide +kernel), by decide +kernel⟩, rfl⟩
theorem km10_37 : inW (Cond.methodLink RX10 37 yX9_init) := ⟨List.mem_of_getElem? (i := 211) (by decide +kernel), by decide +kernel⟩
def gl_5 : List Nat := [0, 0, 0, 0, 0, 0, 0, 0, 0, 0, 1, 1, 1, 0, 0, 0, 0, 0, 0, 0, 0, 1, 0, 0, 0, 0, 0, 0, 0, 0, 0, 0, 0, 0, 0, 0, 0, 0, 0, 0, 1, 1, 0, 0, 0, 0, 0, 0, 0, 0, 0, 0, 0, 0, 0, 0, 0, 0, 0, 0, 0, 0]
def gl_6 : List Nat := [0, 0, 0, 0, 0, 0, 0, 0, 0, 0, 1, 1, 1, 0, 0, 0, 0, 0, 0, 0, 1, 1, 0, 0, 0, 0, 0, 0, 0, 0, 0, 0, 0, 0, 0, 0, 0, 0, 0, 0, 1, 1, 0, 0, 0, 0, 0, 0, 0, 0, 0, 0, 0, 0, 0, 0, 0, 0, 0, 0, 0, 0]
theorem dX10_init_58 : decode cX10_init 58 = .ok (.putfield 40, 3) := by decide +kernel
theorem dX10_init_61 : decode cX10_init 61 = .ok (.aload_n 0, 1) := by decide +kernel
theorem dX10_init_62 : decode cX10_init 62 = .ok (.new 35, 3) := by decide +kernel
theorem dX10_init_65 : decode cX10_init 65 = .ok (.dup, 1) := by decide +kernel
theorem dX10_init_66 : decode cX10_init 66 = .ok (.bipush 8, 2) := by decide +kernel
theorem dX10_init_68 : decode cX10_init 68 = .ok (.invokespecial 37, 3) := by decide +kernel
def gl_7 : List Nat := [0, 0, 0, 0, 0, 0, 0, 0, 0, 0, 1, 1, 1, 0, 0, 0, 0, 0, 0, 0, 1, 2, 0, 0, 0, 0, 0, 0, 0, 0, 0, 0, 0, 0, 0, 0, 0, 0, 0, 0, 1, 1, 0, 0, 0, 0, 0, 0, 0, 0, 0, 0, 0, 0, 0, 0, 0, 0, 0, 0, 0, 0]
def gl_8 : List Nat := [0, 0, 0, 0, 0, 0, 0, 0, 0, 0, 1, 1, 1, 0, 0, 0, 0, 0, 0, 0, 2, 2, 0, 0, 0, 0, 0, 0, 0, 0, 0, 0, 0, 0, 0, 0, 0, 0, 0, 0, 1, 1, 0, 0, 0, 0, 0, 0, 0, 0, 0, 0, 0, 0, 0, 0, 0, 0, 0, 0, 0, 0]
theorem dX10_init_71 : decode cX10_init 71 = .ok (.putfield 44, 3) := by decide +kernel
theorem dX10_init_74 : decode cX10_init 74 = .ok (.aload_n 0, 1) := by decide +kernel
theorem dX10_init_75 : decode cX10_init 75 = .ok (.new 35, 3) := by decide +kernel
theorem dX10_init_78 : decode cX10_init 78 = .ok (.dup, 1) := by decide +kernel
theorem dX10_init_79 : decode cX10_init 79 = .ok (.bipush 8, 2) := by decide +kernel
theorem dX10_init_81 : decode cX10_init 81 = .ok (.invokespecial 37, 3) := by decide +kernel
def gl_9 : List Nat := [0, 0, 0, 0, 0, 0, 0, 0, 0, 0, 1, 1, 1, 0, 0, 0, 0, 0, 0, 0, 2, 3, 0, 0, 0, 0, 0, 0, 0, 0, 0, 0, 0, 0, 0, 0, 0, 0, 0, 0, 1, 1, 0, 0, 0, 0, 0, 0, 0, 0, 0, 0, 0, 0, 0, 0, 0, 0, 0, 0, 0, 0]
def gl_10 : List Nat := [0, 0, 0, 0, 0, 0, 0, 0, 0, 0, 1, 1, 1, 0, 0, 0, 0, 0, 0, 0, 3, 3, 0, 0, 0, 0, 0, 0, 0, 0, 0, 0, 0, 0, 0, 0, 0, 0, 0, 0, 1, 1, 0, 0, 0, 0, 0, 0, 0, 0, 0, 0, 0, 0, 0, 0, 0, 0, 0, 0, 0, 0]
theorem dX10_init_84 : decode cX10_init 84 = .ok (.putfield 47, 3) := by decide +kernel
theorem dX10_init_87 : decode cX10_init 87 = .ok (.aload_n 0, 1) := by decide +kernel
theorem dX10_init_88 : decode cX10_init 88 = .ok (.new 35, 3) := by decide +kernel
theorem dX10_init_91 : decode cX10_init 91 = .ok (.dup, 1) := by decide +kernel
theorem dX10_init_92 : decode cX10_init 92 = .ok (.bipush 8, 2) := by decide +kernel
theorem dX10_init_94 : decode cX10_init 94 = .ok (.invokespecial 37, 3) := by decide +kernel
def gl_11 : List Nat := [0, 0, 0, 0, 0, 0, 0, 0, 0, 0, 1, 1, 1, 0, 0, 0, 0, 0, 0, 0, 3, 4, 0, 0, 0, 0, 0, 0, 0, 0, 0, 0, 0, 0, 0, 0, 0, 0, 0, 0, 1, 1, 0, 0, 0, 0, 0, 0, 0, 0, 0, 0, 0, 0, 0, 0, 0, 0, 0, 0, 0, 0]
def gl_12 : List Nat := [0, 0, 0, 0, 0, 0, 0, 0, 0, 0, 1, 1, 1, 0, 0, 0, 0, 0, 0, 0, 4, 4, 0, 0, 0, 0, 0, 0, 0, 0, 0, 0, 0, 0, 0, 0, 0, 0, 0, 0, 1, 1, 0, 0, 0, 0, 0, 0, 0, 0, 0, 0, 0, 0, 0, 0, 0, 0, 0, 0, 0, 0]
theorem dX10_init_97 : decode cX10_init 97 = .ok (.putfield 50, 3) := by decide +kernel
theorem dX10_init_100 : decode cX10_init 100 = .ok (.aload_n 0, 1) := by decide +kernel
theorem dX10_init_101 : decode cX10_init 101 = .ok (.new 35, 3) := by decide +kernel
theorem dX10_init_104 : decode cX10_init 104 = .ok (.dup, 1) := by decide +kernel
theorem dX10_init_105 : decode cX10_init 105 = .ok (.bipush 8, 2) := by decide +kernel
theorem dX10_init_107 : decode cX10_init 107 = .ok (.invokespecial 37, 3) := by decide +kernel
def gl_13 : List Nat := [0, 0, 0, 0, 0, 0, 0, 0, 0, 0, 1, 1, 1, 0, 0, 0, 0, 0, 0, 0, 4, 5, 0, 0, 0, 0, 0, 0, 0, 0, 0, 0, 0, 0, 0, 0, 0, 0, 0, 0, 1, 1, 0, 0, 0, 0, 0, 0, 0, 0, 0, 0, 0, 0, 0, 0, 0, 0, 0, 0, 0, 0]
def gl_14 : List Nat := [0, 0, 0, 0, 0, 0, 0, 0, 0, 0, 1, 1, 1, 0, 0, 0, 0, 0, 0, 0, 5, 5, 0, 0, 0, 0, 0, 0, 0, 0, 0, 0, 0, 0, 0, 0, 0, 0, 0, 0, 1, 1, 0, 0, 0, 0, 0, 0, 0, 0, 0, 0, 0, 0, 0, 0, 0, 0, 0, 0, 0, 0]
theorem dX10_init_110 : decode cX10_init 110 = .ok (.putfield 53, 3) := by decide +kernel
theorem dX10_init_113 : decode cX10_init 113 = .ok (.aload_n 0, 1) := by decide +kernel
theorem dX10_init_114 : decode cX10_init 114 = .ok (.iconst (-1), 1) := by decide +kernel
theorem dX10_init_115 : decode cX10_init 115 = .ok (.putfield 56, 3) := by decide +kernel
theorem dX10_init_118 : decode cX10_init 118 = .ok (.iconst 0, 1) := by decide +kernel
theorem dX10_init_119 : decode cX10_init 119 = .ok (.istore_n 1, 1) := by decide +kernel
theorem dX10_init_120 : decode cX10_init 120 = .ok (.iload_n 1, 1) := by decide +kernel
theorem dX10_init_121 : decode cX10_init 121 = .ok (.iconst 4, 1) := by decide +kernel
theorem dX10_init_122 : decode cX10_init 122 = .ok (.if_icmp .ge 22, 3) := by decide +kernel
theorem dX10_init_125 : decode cX10_init 125 = .ok (.aload_n 0, 1) := by decide +kernel
theorem dX10_init_126 : decode cX10_init 126 = .ok (.getfield 20, 3) := by decide +kernel
theorem dX10_init_129 : decode cX10_init 129 = .ok (.iload_n 1, 1) := by decide +kernel
theorem dX10_init_130 : decode cX10_init 130 = .ok (.new 18, 3) := by decide +kernel
theorem kn7 : inW (Cond.instantiable RX7 7) := ⟨List.mem_of_getElem? (i := 232) (by decide +kernel), by decide +kernel⟩
theorem ki7 : inW (Cond.initialized RX7) := ⟨List.mem_of_getElem? (i := 129) (by decide +kernel), by decide +kernel⟩
theorem dX10_init_133 : decode cX10_init 133 = .ok (.dup, 1) := by decide +kernel
theorem dX10_init_134 : decode cX10_init 134 = .ok (.invokespecial 60, 3) := by decide +kernel
theorem cw_X7_init : CWi yX7_init cX7_init 1 0 := ⟨⟨⟨List.mem_of_getElem? (i := 129) (by decide +kernel), by decide +kernel⟩, ⟨List.mem_of_getElem? (i := 235) (by decide +kernel), by decide +kernel⟩, by decide +kernel⟩, ⟨List.mem_of_getElem? (i := 234) (by decide +kernel), by decide +kernel⟩, rfl⟩
theorem km10_60 : inW (Cond.methodLinkNest RX10 60 yX7_init "KneeOaths") := ⟨List.mem_of_getElem? (i := 233) (by decide +kernel), by decide +kernel⟩
def gl_15 : List Nat := [0, 0, 0, 0, 0, 0, 0, 0, 0, 0, 1, 1, 1, 0, 0, 0, 0, 0, 0, 0, 5, 5, 0, 0, 0, 0, 0, 0, 0, 0, 1, 1, 1, 1, 1, 1, 0, 0, 0, 0, 1, 1, 0, 0, 0, 0, 0, 0, 0, 0, 0, 0, 0, 0, 0, 0, 0, 0, 0, 0, 0, 0]
theorem dX10_init_137 : decode cX10_init 137 = .ok (.aastore, 1) := by decide +kernel
theorem dX10_init_138 : decode cX10_init 138 = .ok (.iinc 1 1, 3) := by decide +kernel
theorem dX10_init_141 : decode cX10_init 141 = .ok (.goto (-21), 3) := by decide +kernel
def gl_16 : List Nat := [0, 0, 0, 0, 0, 0, 0, 0, 0, 0, 1, 1, 1, 0, 0, 0, 0, 0, 0, 0, 5, 5, 0, 0, 0, 0, 0, 0, 0, 0, 2, 2, 2, 2, 2, 2, 0, 0, 0, 0, 1, 1, 0, 0, 0, 0, 0, 0, 0, 0, 0, 0, 0, 0, 0, 0, 0, 0, 0, 0, 0, 0]
def gl_17 : List Nat := [0, 0, 0, 0, 0, 0, 0, 0, 0, 0, 1, 1, 1, 0, 0, 0, 0, 0, 0, 0, 5, 5, 0, 0, 0, 0, 0, 0, 0, 0, 3, 3, 3, 3, 3, 3, 0, 0, 0, 0, 1, 1, 0, 0, 0, 0, 0, 0, 0, 0, 0, 0, 0, 0, 0, 0, 0, 0, 0, 0, 0, 0]
def gl_18 : List Nat := [0, 0, 0, 0, 0, 0, 0, 0, 0, 0, 1, 1, 1, 0, 0, 0, 0, 0, 0, 0, 5, 5, 0, 0, 0, 0, 0, 0, 0, 0, 4, 4, 4, 4, 4, 4, 0, 0, 0, 0, 1, 1, 0, 0, 0, 0, 0, 0, 0, 0, 0, 0, 0, 0, 0, 0, 0, 0, 0, 0, 0, 0]
theorem dX10_init_144 : decode cX10_init 144 = .ok (.iconst 0, 1) := by decide +kernel
theorem dX10_init_145 : decode cX10_init 145 = .ok (.istore_n 1, 1) := by decide +kernel
theorem dX10_init_146 : decode cX10_init 146 = .ok (.iload_n 1, 1) := by decide +kernel
theorem dX10_init_147 : decode cX10_init 147 = .ok (.bipush 30, 2) := by decide +kernel
theorem dX10_init_149 : decode cX10_init 149 = .ok (.if_icmp .ge 22, 3) := by decide +kernel
theorem dX10_init_152 : decode cX10_init 152 = .ok (.aload_n 0, 1) := by decide +kernel
theorem dX10_init_153 : decode cX10_init 153 = .ok (.getfield 31, 3) := by decide +kernel
theorem dX10_init_156 : decode cX10_init 156 = .ok (.iload_n 1, 1) := by decide +kernel
theorem dX10_init_157 : decode cX10_init 157 = .ok (.new 24, 3) := by decide +kernel
theorem dX10_init_160 : decode cX10_init 160 = .ok (.dup, 1) := by decide +kernel
theorem dX10_init_161 : decode cX10_init 161 = .ok (.invokespecial 26, 3) := by decide +kernel
def gl_19 : List Nat := [0, 0, 0, 0, 0, 0, 0, 0, 0, 0, 2, 2, 2, 0, 0, 0, 0, 0, 0, 0, 5, 5, 0, 0, 0, 0, 0, 0, 0, 0, 4, 4, 4, 4, 4, 4, 0, 0, 0, 0, 1, 1, 0, 0, 0, 0, 0, 0, 0, 0, 0, 0, 0, 0, 0, 0, 0, 0, 0, 0, 0, 0]
theorem dX10_init_164 : decode cX10_init 164 = .ok (.aastore, 1) := by decide +kernel
theorem dX10_init_165 : decode cX10_init 165 = .ok (.iinc 1 1, 3) := by decide +kernel
theorem dX10_init_168 : decode cX10_init 168 = .ok (.goto (-22), 3) := by decide +kernel
def gl_20 : List Nat := [0, 0, 0, 0, 0, 0, 0, 0, 0, 0, 3, 3, 3, 0, 0, 0, 0, 0, 0, 0, 5, 5, 0, 0, 0, 0, 0, 0, 0, 0, 4, 4, 4, 4, 4, 4, 0, 0, 0, 0, 1, 1, 0, 0, 0, 0, 0, 0, 0, 0, 0, 0, 0, 0, 0, 0, 0, 0, 0, 0, 0, 0]
def gl_21 : List Nat := [0, 0, 0, 0, 0, 0, 0, 0, 0, 0, 4, 4, 4, 0, 0, 0, 0, 0, 0, 0, 5, 5, 0, 0, 0, 0, 0, 0, 0, 0, 4, 4, 4, 4, 4, 4, 0, 0, 0, 0, 1, 1, 0, 0, 0, 0, 0, 0, 0, 0, 0, 0, 0, 0, 0, 0, 0, 0, 0, 0, 0, 0]
def gl_22 : List Nat := [0, 0, 0, 0, 0, 0, 0, 0, 0, 0, 5, 5, 5, 0, 0, 0, 0, 0, 0, 0, 5, 5, 0, 0, 0, 0, 0, 0, 0, 0, 4, 4, 4, 4, 4, 4, 0, 0, 0, 0, 1, 1, 0, 0, 0, 0, 0, 0, 0, 0, 0, 0, 0, 0, 0, 0, 0, 0, 0, 0, 0, 0]
def gl_23 : List Nat := [0, 0, 0, 0, 0, 0, 0, 0, 0, 0, 6, 6, 6, 0, 0, 0, 0, 0, 0, 0, 5, 5, 0, 0, 0, 0, 0, 0, 0, 0, 4, 4, 4, 4, 4, 4, 0, 0, 0, 0, 1, 1, 0, 0, 0, 0, 0, 0, 0, 0, 0, 0, 0, 0, 0, 0, 0, 0, 0, 0, 0, 0]
def gl_24 : List Nat := [0, 0, 0, 0, 0, 0, 0, 0, 0, 0, 7, 7, 7, 0, 0, 0, 0, 0, 0, 0, 5, 5, 0, 0, 0, 0, 0, 0, 0, 0, 4, 4, 4, 4, 4, 4, 0, 0, 0, 0, 1, 1, 0, 0, 0, 0, 0, 0, 0, 0, 0, 0, 0, 0, 0, 0, 0, 0, 0, 0, 0, 0]
def gl_25 : List Nat := [0, 0, 0, 0, 0, 0, 0, 0, 0, 0, 8, 8, 8, 0, 0, 0, 0, 0, 0, 0, 5, 5, 0, 0, 0, 0, 0, 0, 0, 0, 4, 4, 4, 4, 4, 4, 0, 0, 0, 0, 1, 1, 0, 0, 0, 0, 0, 0, 0, 0, 0, 0, 0, 0, 0, 0, 0, 0, 0, 0, 0, 0]
def gl_26 : List Nat := [0, 0, 0, 0, 0, 0, 0, 0, 0, 0, 9, 9, 9, 0, 0, 0, 0, 0, 0, 0, 5, 5, 0, 0, 0, 0, 0, 0, 0, 0, 4, 4, 4, 4, 4, 4, 0, 0, 0, 0, 1, 1, 0, 0, 0, 0, 0, 0, 0, 0, 0, 0, 0, 0, 0, 0, 0, 0, 0, 0, 0, 0]
def gl_27 : List Nat := [0, 0, 0, 0, 0, 0, 0, 0, 0, 0, 10, 10, 10, 0, 0, 0, 0, 0, 0, 0, 5, 5, 0, 0, 0, 0, 0, 0, 0, 0, 4, 4, 4, 4, 4, 4, 0, 0, 0, 0, 1, 1, 0, 0, 0, 0, 0, 0, 0, 0, 0, 0, 0, 0, 0, 0, 0, 0, 0, 0, 0, 0]
def gl_28 : List Nat := [0, 0, 0, 0, 0, 0, 0, 0, 0, 0, 11, 11, 11, 0, 0, 0, 0, 0, 0, 0, 5, 5, 0, 0, 0, 0, 0, 0, 0, 0, 4, 4, 4, 4, 4, 4, 0, 0, 0, 0, 1, 1, 0, 0, 0, 0, 0, 0, 0, 0, 0, 0, 0, 0, 0, 0, 0, 0, 0, 0, 0, 0]
def gl_29 : List Nat := [0, 0, 0, 0, 0, 0, 0, 0, 0, 0, 12, 12, 12, 0, 0, 0, 0, 0, 0, 0, 5, 5, 0, 0, 0, 0, 0, 0, 0, 0, 4, 4, 4, 4, 4, 4, 0, 0, 0, 0, 1, 1, 0, 0, 0, 0, 0, 0, 0, 0, 0, 0, 0, 0, 0, 0, 0, 0, 0, 0, 0, 0]
def gl_30 : List Nat := [0, 0, 0, 0, 0, 0, 0, 0, 0, 0, 13, 13, 13, 0, 0, 0, 0, 0, 0, 0, 5, 5, 0, 0, 0, 0, 0, 0, 0, 0, 4, 4, 4, 4, 4, 4, 0, 0, 0, 0, 1, 1, 0, 0, 0, 0, 0, 0, 0, 0, 0, 0, 0, 0, 0, 0, 0, 0, 0, 0, 0, 0]
def gl_31 : List Nat := [0, 0, 0, 0, 0, 0, 0, 0, 0, 0, 14, 14, 14, 0, 0, 0, 0, 0, 0, 0, 5, 5, 0, 0, 0, 0, 0, 0, 0, 0, 4, 4, 4, 4, 4, 4, 0, 0, 0, 0, 1, 1, 0, 0, 0, 0, 0, 0, 0, 0, 0, 0, 0, 0, 0, 0, 0, 0, 0, 0, 0, 0]
def gl_32 : List Nat := [0, 0, 0, 0, 0, 0, 0, 0, 0, 0, 15, 15, 15, 0, 0, 0, 0, 0, 0, 0, 5, 5, 0, 0, 0, 0, 0, 0, 0, 0, 4, 4, 4, 4, 4, 4, 0, 0, 0, 0, 1, 1, 0, 0, 0, 0, 0, 0, 0, 0, 0, 0, 0, 0, 0, 0, 0, 0, 0, 0, 0, 0]
def gl_33 : List Nat := [0, 0, 0, 0, 0, 0, 0, 0, 0, 0, 16, 16, 16, 0, 0, 0, 0, 0, 0, 0, 5, 5, 0, 0, 0, 0, 0, 0, 0, 0, 4, 4, 4, 4, 4, 4, 0, 0, 0, 0, 1, 1, 0, 0, 0, 0, 0, 0, 0, 0, 0, 0, 0, 0, 0, 0, 0, 0, 0, 0, 0, 0]
def gl_34 : List Nat := [0, 0, 0, 0, 0, 0, 0, 0, 0, 0, 17, 17, 17, 0, 0, 0, 0, 0, 0, 0, 5, 5, 0, 0, 0, 0, 0, 0, 0, 0, 4, 4, 4, 4, 4, 4, 0, 0, 0, 0, 1, 1, 0, 0, 0, 0, 0, 0, 0, 0, 0, 0, 0, 0, 0, 0, 0, 0, 0, 0, 0, 0]
def gl_35 : List Nat := [0, 0, 0, 0, 0, 0, 0, 0, 0, 0, 18, 18, 18, 0, 0, 0, 0, 0, 0, 0, 5, 5, 0, 0, 0, 0, 0, 0, 0, 0, 4, 4, 4, 4, 4, 4, 0, 0, 0, 0, 1, 1, 0, 0, 0, 0, 0, 0, 0, 0, 0, 0, 0, 0, 0, 0, 0, 0, 0, 0, 0, 0]
def gl_36 : List Nat := [0, 0, 0, 0, 0, 0, 0, 0, 0, 0, 19, 19, 19, 0, 0, 0, 0, 0, 0, 0, 5, 5, 0, 0, 0, 0, 0, 0, 0, 0, 4, 4, 4, 4, 4, 4, 0, 0, 0, 0, 1, 1, 0, 0, 0, 0, 0, 0, 0, 0, 0, 0, 0, 0, 0, 0, 0, 0, 0, 0, 0, 0]
def gl_37 : List Nat := [0, 0, 0, 0, 0, 0, 0, 0, 0, 0, 20, 20, 20, 0, 0, 0, 0, 0, 0, 0, 5, 5, 0, 0, 0, 0, 0, 0, 0, 0, 4, 4, 4, 4, 4, 4, 0, 0, 0, 0, 1, 1, 0, 0, 0, 0, 0, 0, 0, 0, 0, 0, 0, 0, 0, 0, 0, 0, 0, 0, 0, 0]
def gl_38 : List Nat := [0, 0, 0, 0, 0, 0, 0, 0, 0, 0, 21, 21, 21, 0, 0, 0, 0, 0, 0, 0, 5, 5, 0, 0, 0, 0, 0, 0, 0, 0, 4, 4, 4, 4, 4, 4, 0, 0, 0, 0, 1, 1, 0, 0, 0, 0, 0, 0, 0, 0, 0, 0, 0, 0, 0, 0, 0, 0, 0, 0, 0, 0]
def gl_39 : List Nat := [0, 0, 0, 0, 0, 0, 0, 0, 0, 0, 22, 22, 22, 0, 0, 0, 0, 0, 0, 0, 5, 5, 0, 0, 0, 0, 0, 0, 0, 0, 4, 4, 4, 4, 4, 4, 0, 0, 0, 0, 1, 1, 0, 0, 0, 0, 0, 0, 0, 0, 0, 0, 0, 0, 0, 0, 0, 0, 0, 0, 0, 0]
def gl_40 : List Nat := [0, 0, 0, 0, 0, 0, 0, 0, 0, 0, 23, 23, 23, 0, 0, 0, 0, 0, 0, 0, 5, 5, 0, 0, 0, 0, 0, 0, 0, 0, 4, 4, 4, 4, 4, 4, 0, 0, 0, 0, 1, 1, 0, 0, 0, 0, 0, 0, 0, 0, 0, 0, 0, 0, 0, 0, 0, 0, 0, 0, 0, 0]
def gl_41 : List Nat := [0, 0, 0, 0, 0, 0, 0, 0, 0, 0, 24, 24, 24, 0, 0, 0, 0, 0, 0, 0, 5, 5, 0, 0, 0, 0, 0, 0, 0, 0, 4, 4, 4, 4, 4, 4, 0, 0, 0, 0, 1, 1, 0, 0, 0, 0, 0, 0, 0, 0, 0, 0, 0, 0, 0, 0, 0, 0, 0, 0, 0, 0]
def gl_42 : List Nat := [0, 0, 0, 0, 0, 0, 0, 0, 0, 0, 25, 25, 25, 0, 0, 0, 0, 0, 0, 0, 5, 5, 0, 0, 0, 0, 0, 0, 0, 0, 4, 4, 4, 4, 4, 4, 0, 0, 0, 0, 1, 1, 0, 0, 0, 0, 0, 0, 0, 0, 0, 0, 0, 0, 0, 0, 0, 0, 0, 0, 0, 0]
def gl_43 : List Nat := [0, 0, 0, 0, 0, 0, 0, 0, 0, 0, 26, 26, 26, 0, 0, 0, 0, 0, 0, 0, 5, 5, 0, 0, 0, 0, 0, 0, 0, 0, 4, 4, 4, 4, 4, 4, 0, 0, 0, 0, 1, 1, 0, 0, 0, 0, 0, 0, 0, 0, 0, 0, 0, 0, 0, 0, 0, 0, 0, 0, 0, 0]
def gl_44 : List Nat := [0, 0, 0, 0, 0, 0, 0, 0, 0, 0, 27, 27, 27, 0, 0, 0, 0, 0, 0, 0, 5, 5, 0, 0, 0, 0, 0, 0, 0, 0, 4, 4, 4, 4, 4, 4, 0, 0, 0, 0, 1, 1, 0, 0, 0, 0, 0, 0, 0, 0, 0, 0, 0, 0, 0, 0, 0, 0, 0, 0, 0, 0]
def gl_45 : List Nat := [0, 0, 0, 0, 0, 0, 0, 0, 0, 0, 28, 28, 28, 0, 0, 0, 0, 0, 0, 0, 5, 5, 0, 0, 0, 0, 0, 0, 0, 0, 4, 4, 4, 4, 4, 4, 0, 0, 0, 0, 1, 1, 0, 0, 0, 0, 0, 0, 0, 0, 0, 0, 0, 0, 0, 0, 0, 0, 0, 0, 0, 0]
def gl_46 : List Nat := [0, 0, 0, 0, 0, 0, 0, 0, 0, 0, 29, 29, 29, 0, 0, 0, 0, 0, 0, 0, 5, 5, 0, 0, 0, 0, 0, 0, 0, 0, 4, 4, 4, 4, 4, 4, 0, 0, 0, 0, 1, 1, 0, 0, 0, 0, 0, 0, 0, 0, 0, 0, 0, 0, 0, 0, 0, 0, 0, 0, 0, 0]
def gl_47 : List Nat := [0, 0, 0, 0, 0, 0, 0, 0, 0, 0, 30, 30, 30, 0, 0, 0, 0, 0, 0, 0, 5, 5, 0, 0, 0, 0, 0, 0, 0, 0, 4, 4, 4, 4, 4, 4, 0, 0, 0, 0, 1, 1, 0, 0, 0, 0, 0, 0, 0, 0, 0, 0, 0, 0, 0, 0, 0, 0, 0, 0, 0, 0]
def gl_48 : List Nat := [0, 0, 0, 0, 0, 0, 0, 0, 0, 0, 31, 31, 31, 0, 0, 0, 0, 0, 0, 0, 5, 5, 0, 0, 0, 0, 0, 0, 0, 0, 4, 4, 4, 4, 4, 4, 0, 0, 0, 0, 1, 1, 0, 0, 0, 0, 0, 0, 0, 0, 0, 0, 0, 0, 0, 0, 0, 0, 0, 0, 0, 0]
def gl_49 : List Nat := [0, 0, 0, 0, 0, 0, 0, 0, 0, 0, 31, 31, 31, 0, 0, 0, 0, 0, 0, 0, 5, 5, 0, 0, 0, 0, 0, 0, 0, 0, 4, 4, 4, 4, 4, 4, 0, 0, 0, 0, 1, 1, 1, 0, 0, 0, 0, 0, 0, 0, 0, 0, 0, 0, 0, 0, 0, 0, 0, 0, 0, 0]
theorem dX10_init_171 : decode cX10_init 171 = .ok (.return_, 1) := by decide +kernel
def gl_50 : List Nat := [0, 1, 0, 0, 0, 0, 0, 0, 0, 0, 31, 31, 31, 0, 0, 0, 0, 0, 0, 0, 5, 5, 0, 0, 0, 0, 0, 0, 0, 0, 4, 4, 4, 4, 4, 4, 0, 0, 0, 0, 1, 1, 1, 1, 0, 0, 0, 0, 0, 0, 0, 0, 0, 0, 0, 0, 0, 0, 0, 0, 0, 0]
def gl_51 : List Nat := [0, 1, 0, 0, 0, 0, 0, 0, 0, 0, 62, 62, 62, 0, 0, 0, 0, 0, 0, 0, 10, 10, 0, 0, 0, 0, 0, 0, 0, 0, 8, 8, 8, 8, 8, 8, 0, 0, 0, 0, 2, 2, 2, 2, 0, 0, 0, 0, 0, 0, 0, 0, 0, 0, 0, 0, 0, 0, 0, 0, 0, 0]
def gl_52 : List Nat := [0, 1, 0, 0, 0, 0, 0, 0, 0, 0, 31, 31, 31, 0, 0, 0, 0, 0, 0, 0, 5, 5, 0, 0, 0, 0, 0, 0, 0, 0, 4, 4, 4, 4, 4, 4, 0, 0, 0, 0, 2, 1, 1, 1, 0, 0, 0, 0, 0, 0, 0, 0, 0, 0, 0, 0, 0, 0, 0, 0, 0, 0]
def gl_53 : List Nat := [0, 1, 0, 0, 0, 0, 0, 0, 0, 0, 31, 31, 31, 0, 0, 0, 0, 0, 0, 0, 5, 5, 0, 0, 0, 0, 0, 0, 0, 0, 4, 4, 4, 4, 4, 4, 0, 0, 0, 0, 2, 2, 1, 1, 0, 0, 0, 0, 0, 0, 0, 0, 0, 0, 0, 0, 0, 0, 0, 0, 0, 0]
def gl_54 : List Nat := [0, 1, 0, 0, 0, 0, 0, 0, 0, 0, 32, 32, 32, 0, 0, 0, 0, 0, 0, 0, 5, 5, 0, 0, 0, 0, 0, 0, 0, 0, 4, 4, 4, 4, 4, 4, 0, 0, 0, 0, 2, 2, 1, 1, 0, 0, 0, 0, 0, 0, 0, 0, 0, 0, 0, 0, 0, 0, 0, 0, 0, 0]
def gl_55 : List Nat := [0, 1, 0, 0, 0, 0, 0, 0, 0, 0, 32, 32, 32, 0, 0, 0, 0, 0, 0, 0, 5, 6, 0, 0, 0, 0, 0, 0, 0, 0, 4, 4, 4, 4, 4, 4, 0, 0, 0, 0, 2, 2, 1, 1, 0, 0, 0, 0, 0, 0, 0, 0, 0, 0, 0, 0, 0, 0, 0, 0, 0, 0]
def gl_56 : List Nat := [0, 1, 0, 0, 0, 0, 0, 0, 0, 0, 32, 32, 32, 0, 0, 0, 0, 0, 0, 0, 6, 6, 0, 0, 0, 0, 0, 0, 0, 0, 4, 4, 4, 4, 4, 4, 0, 0, 0, 0, 2, 2, 1, 1, 0, 0, 0, 0, 0, 0, 0, 0, 0, 0, 0, 0, 0, 0, 0, 0, 0, 0]
def gl_57 : List Nat := [0, 1, 0, 0, 0, 0, 0, 0, 0, 0, 32, 32, 32, 0, 0, 0, 0, 0, 0, 0, 6, 7, 0, 0, 0, 0, 0, 0, 0, 0, 4, 4, 4, 4, 4, 4, 0, 0, 0, 0, 2, 2, 1, 1, 0, 0, 0, 0, 0, 0, 0, 0, 0, 0, 0, 0, 0, 0, 0, 0, 0, 0]
def gl_58 : List Nat := [0, 1, 0, 0, 0, 0, 0, 0, 0, 0, 32, 32, 32, 0, 0, 0, 0, 0, 0, 0, 7, 7, 0, 0, 0, 0, 0, 0, 0, 0, 4, 4, 4, 4, 4, 4, 0, 0, 0, 0, 2, 2, 1, 1, 0, 0, 0, 0, 0, 0, 0, 0, 0, 0, 0, 0, 0, 0, 0, 0, 0, 0]
def gl_59 : List Nat := [0, 1, 0, 0, 0, 0, 0, 0, 0, 0, 32, 32, 32, 0, 0, 0, 0, 0, 0, 0, 7, 8, 0, 0, 0, 0, 0, 0, 0, 0, 4, 4, 4, 4, 4, 4, 0, 0, 0, 0, 2, 2, 1, 1, 0, 0, 0, 0, 0, 0, 0, 0, 0, 0, 0, 0, 0, 0, 0, 0, 0, 0]
def gl_60 : List Nat := [0, 1, 0, 0, 0, 0, 0, 0, 0, 0, 32, 32, 32, 0, 0, 0, 0, 0, 0, 0, 8, 8, 0, 0, 0, 0, 0, 0, 0, 0, 4, 4, 4, 4, 4, 4, 0, 0, 0, 0, 2, 2, 1, 1, 0, 0, 0, 0, 0, 0, 0, 0, 0, 0, 0, 0, 0, 0, 0, 0, 0, 0]
def gl_61 : List Nat := [0, 1, 0, 0, 0, 0, 0, 0, 0, 0, 32, 32, 32, 0, 0, 0, 0, 0, 0, 0, 8, 9, 0, 0, 0, 0, 0, 0, 0, 0, 4, 4, 4, 4, 4, 4, 0, 0, 0, 0, 2, 2, 1, 1, 0, 0, 0, 0, 0, 0, 0, 0, 0, 0, 0, 0, 0, 0, 0, 0, 0, 0]
def gl_62 : List Nat := [0, 1, 0, 0, 0, 0, 0, 0, 0, 0, 32, 32, 32, 0, 0, 0, 0, 0, 0, 0, 9, 9, 0, 0, 0, 0, 0, 0, 0, 0, 4, 4, 4, 4, 4, 4, 0, 0, 0, 0, 2, 2, 1, 1, 0, 0, 0, 0, 0, 0, 0, 0, 0, 0, 0, 0, 0, 0, 0, 0, 0, 0]
def gl_63 : List Nat := [0, 1, 0, 0, 0, 0, 0, 0, 0, 0, 32, 32, 32, 0, 0, 0, 0, 0, 0, 0, 9, 10, 0, 0, 0, 0, 0, 0, 0, 0, 4, 4, 4, 4, 4, 4, 0, 0, 0, 0, 2, 2, 1, 1, 0, 0, 0, 0, 0, 0, 0, 0, 0, 0, 0, 0, 0, 0, 0, 0, 0, 0]
def gl_64 : List Nat := [0, 1, 0, 0, 0, 0, 0, 0, 0, 0, 32, 32, 32, 0, 0, 0, 0, 0, 0, 0, 10, 10, 0, 0, 0, 0, 0, 0, 0, 0, 4, 4, 4, 4, 4, 4, 0, 0, 0, 0, 2, 2, 1, 1, 0, 0, 0, 0, 0, 0, 0, 0, 0, 0, 0, 0, 0, 0, 0, 0, 0, 0]
def gl_65 : List Nat := [0, 1, 0, 0, 0, 0, 0, 0, 0, 0, 32, 32, 32, 0, 0, 0, 0, 0, 0, 0, 10, 10, 0, 0, 0, 0, 0, 0, 0, 0, 5, 5, 5, 5, 5, 5, 0, 0, 0, 0, 2, 2, 1, 1, 0, 0, 0, 0, 0, 0, 0, 0, 0, 0, 0, 0, 0, 0, 0, 0, 0, 0]
def gl_66 : List Nat := [0, 1, 0, 0, 0, 0, 0, 0, 0, 0, 32, 32, 32, 0, 0, 0, 0, 0, 0, 0, 10, 10, 0, 0, 0, 0, 0, 0, 0, 0, 6, 6, 6, 6, 6, 6, 0, 0, 0, 0, 2, 2, 1, 1, 0, 0, 0, 0, 0, 0, 0, 0, 0, 0, 0, 0, 0, 0, 0, 0, 0, 0]
def gl_67 : List Nat := [0, 1, 0, 0, 0, 0, 0, 0, 0, 0, 32, 32, 32, 0, 0, 0, 0, 0, 0, 0, 10, 10, 0, 0, 0, 0, 0, 0, 0, 0, 7, 7, 7, 7, 7, 7, 0, 0, 0, 0, 2, 2, 1, 1, 0, 0, 0, 0, 0, 0, 0, 0, 0, 0, 0, 0, 0, 0, 0, 0, 0, 0]
def gl_68 : List Nat := [0, 1, 0, 0, 0, 0, 0, 0, 0, 0, 32, 32, 32, 0, 0, 0, 0, 0, 0, 0, 10, 10, 0, 0, 0, 0, 0, 0, 0, 0, 8, 8, 8, 8, 8, 8, 0, 0, 0, 0, 2, 2, 1, 1, 0, 0, 0, 0, 0, 0, 0, 0, 0, 0, 0, 0, 0, 0, 0, 0, 0, 0]
def gl_69 : List Nat := [0, 1, 0, 0, 0, 0, 0, 0, 0, 0, 33, 33, 33, 0, 0, 0, 0, 0, 0, 0, 10, 10, 0, 0, 0, 0, 0, 0, 0, 0, 8, 8, 8, 8, 8, 8, 0, 0, 0, 0, 2, 2, 1, 1, 0, 0, 0, 0, 0, 0, 0, 0, 0, 0, 0, 0, 0, 0, 0, 0, 0, 0]
def gl_70 : List Nat := [0, 1, 0, 0, 0, 0, 0, 0, 0, 0, 34, 34, 34, 0, 0, 0, 0, 0, 0, 0, 10, 10, 0, 0, 0, 0, 0, 0, 0, 0, 8, 8, 8, 8, 8, 8, 0, 0, 0, 0, 2, 2, 1, 1, 0, 0, 0, 0, 0, 0, 0, 0, 0, 0, 0, 0, 0, 0, 0, 0, 0, 0]
def gl_71 : List Nat := [0, 1, 0, 0, 0, 0, 0, 0, 0, 0, 35, 35, 35, 0, 0, 0, 0, 0, 0, 0, 10, 10, 0, 0, 0, 0, 0, 0, 0, 0, 8, 8, 8, 8, 8, 8, 0, 0, 0, 0, 2, 2, 1, 1, 0, 0, 0, 0, 0, 0, 0, 0, 0, 0, 0, 0, 0, 0, 0, 0, 0, 0]
def gl_72 : List Nat := [0, 1, 0, 0, 0, 0, 0, 0, 0, 0, 36, 36, 36, 0, 0, 0, 0, 0, 0, 0, 10, 10, 0, 0, 0, 0, 0, 0, 0, 0, 8, 8, 8, 8, 8, 8, 0, 0, 0, 0, 2, 2, 1, 1, 0, 0, 0, 0, 0, 0, 0, 0, 0, 0, 0, 0, 0, 0, 0, 0, 0, 0]
def gl_73 : List Nat := [0, 1, 0, 0, 0, 0, 0, 0, 0, 0, 37, 37, 37, 0, 0, 0, 0, 0, 0, 0, 10, 10, 0, 0, 0, 0, 0, 0, 0, 0, 8, 8, 8, 8, 8, 8, 0, 0, 0, 0, 2, 2, 1, 1, 0, 0, 0, 0, 0, 0, 0, 0, 0, 0, 0, 0, 0, 0, 0, 0, 0, 0]
def gl_74 : List Nat := [0, 1, 0, 0, 0, 0, 0, 0, 0, 0, 38, 38, 38, 0, 0, 0, 0, 0, 0, 0, 10, 10, 0, 0, 0, 0, 0, 0, 0, 0, 8, 8, 8, 8, 8, 8, 0, 0, 0, 0, 2, 2, 1, 1, 0, 0, 0, 0, 0, 0, 0, 0, 0, 0, 0, 0, 0, 0, 0, 0, 0, 0]
def gl_75 : List Nat := [0, 1, 0, 0, 0, 0, 0, 0, 0, 0, 39, 39, 39, 0, 0, 0, 0, 0, 0, 0, 10, 10, 0, 0, 0, 0, 0, 0, 0, 0, 8, 8, 8, 8, 8, 8, 0, 0, 0, 0, 2, 2, 1, 1, 0, 0, 0, 0, 0, 0, 0, 0, 0, 0, 0, 0, 0, 0, 0, 0, 0, 0]
def gl_76 : List Nat := [0, 1, 0, 0, 0, 0, 0, 0, 0, 0, 40, 40, 40, 0, 0, 0, 0, 0, 0, 0, 10, 10, 0, 0, 0, 0, 0, 0, 0, 0, 8, 8, 8, 8, 8, 8, 0, 0, 0, 0, 2, 2, 1, 1, 0, 0, 0, 0, 0, 0, 0, 0, 0, 0, 0, 0, 0, 0, 0, 0, 0, 0]
def gl_77 : List Nat := [0, 1, 0, 0, 0, 0, 0, 0, 0, 0, 41, 41, 41, 0, 0, 0, 0, 0, 0, 0, 10, 10, 0, 0, 0, 0, 0, 0, 0, 0, 8, 8, 8, 8, 8, 8, 0, 0, 0, 0, 2, 2, 1, 1, 0, 0, 0, 0, 0, 0, 0, 0, 0, 0, 0, 0, 0, 0, 0, 0, 0, 0]
def gl_78 : List Nat := [0, 1, 0, 0, 0, 0, 0, 0, 0, 0, 42, 42, 42, 0, 0, 0, 0, 0, 0, 0, 10, 10, 0, 0, 0, 0, 0, 0, 0, 0, 8, 8, 8, 8, 8, 8, 0, 0, 0, 0, 2, 2, 1, 1, 0, 0, 0, 0, 0, 0, 0, 0, 0, 0, 0, 0, 0, 0, 0, 0, 0, 0]
def gl_79 : List Nat := [0, 1, 0, 0, 0, 0, 0, 0, 0, 0, 43, 43, 43, 0, 0, 0, 0, 0, 0, 0, 10, 10, 0, 0, 0, 0, 0, 0, 0, 0, 8, 8, 8, 8, 8, 8, 0, 0, 0, 0, 2, 2, 1, 1, 0, 0, 0, 0, 0, 0, 0, 0, 0, 0, 0, 0, 0, 0, 0, 0, 0, 0]
def gl_80 : List Nat := [0, 1, 0, 0, 0, 0, 0, 0, 0, 0, 44, 44, 44, 0, 0, 0, 0, 0, 0, 0, 10, 10, 0, 0, 0, 0, 0, 0, 0, 0, 8, 8, 8, 8, 8, 8, 0, 0, 0, 0, 2, 2, 1, 1, 0, 0, 0, 0, 0, 0, 0, 0, 0, 0, 0, 0, 0, 0, 0, 0, 0, 0]
def gl_81 : List Nat := [0, 1, 0, 0, 0, 0, 0, 0, 0, 0, 45, 45, 45, 0, 0, 0, 0, 0, 0, 0, 10, 10, 0, 0, 0, 0, 0, 0, 0, 0, 8, 8, 8, 8, 8, 8, 0, 0, 0, 0, 2, 2, 1, 1, 0, 0, 0, 0, 0, 0, 0, 0, 0, 0, 0, 0, 0, 0, 0, 0, 0, 0]
def gl_82 : List Nat := [0, 1, 0, 0, 0, 0, 0, 0, 0, 0, 46, 46, 46, 0, 0, 0, 0, 0, 0, 0, 10, 10, 0, 0, 0, 0, 0, 0, 0, 0, 8, 8, 8, 8, 8, 8, 0, 0, 0, 0, 2, 2, 1, 1, 0, 0, 0, 0, 0, 0, 0, 0, 0, 0, 0, 0, 0, 0, 0, 0, 0, 0]
def gl_83 : List Nat := [0, 1, 0, 0, 0, 0, 0, 0, 0, 0, 47, 47, 47, 0, 0, 0, 0, 0, 0, 0, 10, 10, 0, 0, 0, 0, 0, 0, 0, 0, 8, 8, 8, 8, 8, 8, 0, 0, 0, 0, 2, 2, 1, 1, 0, 0, 0, 0, 0, 0, 0, 0, 0, 0, 0, 0, 0, 0, 0, 0, 0, 0]
def gl_84 : List Nat := [0, 1, 0, 0, 0, 0, 0, 0, 0, 0, 48, 48, 48, 0, 0, 0, 0, 0, 0, 0, 10, 10, 0, 0, 0, 0, 0, 0, 0, 0, 8, 8, 8, 8, 8, 8, 0, 0, 0, 0, 2, 2, 1, 1, 0, 0, 0, 0, 0, 0, 0, 0, 0, 0, 0, 0, 0, 0, 0, 0, 0, 0]
def gl_85 : List Nat := [0, 1, 0, 0, 0, 0, 0, 0, 0, 0, 49, 49, 49, 0, 0, 0, 0, 0, 0, 0, 10, 10, 0, 0, 0, 0, 0, 0, 0, 0, 8, 8, 8, 8, 8, 8, 0, 0, 0, 0, 2, 2, 1, 1, 0, 0, 0, 0, 0, 0, 0, 0, 0, 0, 0, 0, 0, 0, 0, 0, 0, 0]
def gl_86 : List Nat := [0, 1, 0, 0, 0, 0, 0, 0, 0, 0, 50, 50, 50, 0, 0, 0, 0, 0, 0, 0, 10, 10, 0, 0, 0, 0, 0, 0, 0, 0, 8, 8, 8, 8, 8, 8, 0, 0, 0, 0, 2, 2, 1, 1, 0, 0, 0, 0, 0, 0, 0, 0, 0, 0, 0, 0, 0, 0, 0, 0, 0, 0]
def gl_87 : List Nat := [0, 1, 0, 0, 0, 0, 0, 0, 0, 0, 51, 51, 51, 0, 0, 0, 0, 0, 0, 0, 10, 10, 0, 0, 0, 0, 0, 0, 0, 0, 8, 8, 8, 8, 8, 8, 0, 0, 0, 0, 2, 2, 1, 1, 0, 0, 0, 0, 0, 0, 0, 0, 0, 0, 0, 0, 0, 0, 0, 0, 0, 0]
def gl_88 : List Nat := [0, 1, 0, 0, 0, 0, 0, 0, 0, 0, 52, 52, 52, 0, 0, 0, 0, 0, 0, 0, 10, 10, 0, 0, 0, 0, 0, 0, 0, 0, 8, 8, 8, 8, 8, 8, 0, 0, 0, 0, 2, 2, 1, 1, 0, 0, 0, 0, 0, 0, 0, 0, 0, 0, 0, 0, 0, 0, 0, 0, 0, 0]
def gl_89 : List Nat := [0, 1, 0, 0, 0, 0, 0, 0, 0, 0, 53, 53, 53, 0, 0, 0, 0, 0, 0, 0, 10, 10, 0, 0, 0, 0, 0, 0, 0, 0, 8, 8, 8, 8, 8, 8, 0, 0, 0, 0, 2, 2, 1, 1, 0, 0, 0, 0, 0, 0, 0, 0, 0, 0, 0, 0, 0, 0, 0, 0, 0, 0]
def gl_90 : List Nat := [0, 1, 0, 0, 0, 0, 0, 0, 0, 0, 54, 54, 54, 0, 0, 0, 0, 0, 0, 0, 10, 10, 0, 0, 0, 0, 0, 0, 0, 0, 8, 8, 8, 8, 8, 8, 0, 0, 0, 0, 2, 2, 1, 1, 0, 0, 0, 0, 0, 0, 0, 0, 0, 0, 0, 0, 0, 0, 0, 0, 0, 0]
def gl_91 : List Nat := [0, 1, 0, 0, 0, 0, 0, 0, 0, 0, 55, 55, 55, 0, 0, 0, 0, 0, 0, 0, 10, 10, 0, 0, 0, 0, 0, 0, 0, 0, 8, 8, 8, 8, 8, 8, 0, 0, 0, 0, 2, 2, 1, 1, 0, 0, 0, 0, 0, 0, 0, 0, 0, 0, 0, 0, 0, 0, 0, 0, 0, 0]
def gl_92 : List Nat := [0, 1, 0, 0, 0, 0, 0, 0, 0, 0, 56, 56, 56, 0, 0, 0, 0, 0, 0, 0, 10, 10, 0, 0, 0, 0, 0, 0, 0, 0, 8, 8, 8, 8, 8, 8, 0, 0, 0, 0, 2, 2, 1, 1, 0, 0, 0, 0, 0, 0, 0, 0, 0, 0, 0, 0, 0, 0, 0, 0, 0, 0]
def gl_93 : List Nat := [0, 1, 0, 0, 0, 0, 0, 0, 0, 0, 57, 57, 57, 0, 0, 0, 0, 0, 0, 0, 10, 10, 0, 0, 0, 0, 0, 0, 0, 0, 8, 8, 8, 8, 8, 8, 0, 0, 0, 0, 2, 2, 1, 1, 0, 0, 0, 0, 0, 0, 0, 0, 0, 0, 0, 0, 0, 0, 0, 0, 0, 0]
def gl_94 : List Nat := [0, 1, 0, 0, 0, 0, 0, 0, 0, 0, 58, 58, 58, 0, 0, 0, 0, 0, 0, 0, 10, 10, 0, 0, 0, 0, 0, 0, 0, 0, 8, 8, 8, 8, 8, 8, 0, 0, 0, 0, 2, 2, 1, 1, 0, 0, 0, 0, 0, 0, 0, 0, 0, 0, 0, 0, 0, 0, 0, 0, 0, 0]
def gl_95 : List Nat := [0, 1, 0, 0, 0, 0, 0, 0, 0, 0, 59, 59, 59, 0, 0, 0, 0, 0, 0, 0, 10, 10, 0, 0, 0, 0, 0, 0, 0, 0, 8, 8, 8, 8, 8, 8, 0, 0, 0, 0, 2, 2, 1, 1, 0, 0, 0, 0, 0, 0, 0, 0, 0, 0, 0, 0, 0, 0, 0, 0, 0, 0]
def gl_96 : List Nat := [0, 1, 0, 0, 0, 0, 0, 0, 0, 0, 60, 60, 60, 0, 0, 0, 0, 0, 0, 0, 10, 10, 0, 0, 0, 0, 0, 0, 0, 0, 8, 8, 8, 8, 8, 8, 0, 0, 0, 0, 2, 2, 1, 1, 0, 0, 0, 0, 0, 0, 0, 0, 0, 0, 0, 0, 0, 0, 0, 0, 0, 0]
def gl_97 : List Nat := [0, 1, 0, 0, 0, 0, 0, 0, 0, 0, 61, 61, 61, 0, 0, 0, 0, 0, 0, 0, 10, 10, 0, 0, 0, 0, 0, 0, 0, 0, 8, 8, 8, 8, 8, 8, 0, 0, 0, 0, 2, 2, 1, 1, 0, 0, 0, 0, 0, 0, 0, 0, 0, 0, 0, 0, 0, 0, 0, 0, 0, 0]
def gl_98 : List Nat := [0, 1, 0, 0, 0, 0, 0, 0, 0, 0, 62, 62, 62, 0, 0, 0, 0, 0, 0, 0, 10, 10, 0, 0, 0, 0, 0, 0, 0, 0, 8, 8, 8, 8, 8, 8, 0, 0, 0, 0, 2, 2, 1, 1, 0, 0, 0, 0, 0, 0, 0, 0, 0, 0, 0, 0, 0, 0, 0, 0, 0, 0]
def gl_99 : List Nat := [0, 1, 0, 0, 0, 0, 0, 0, 0, 0, 62, 62, 62, 0, 0, 0, 0, 0, 0, 0, 10, 10, 0, 0, 0, 0, 0, 0, 0, 0, 8, 8, 8, 8, 8, 8, 0, 0, 0, 0, 2, 2, 2, 1, 0, 0, 0, 0, 0, 0, 0, 0, 0, 0, 0, 0, 0, 0, 0, 0, 0, 0]
set_option maxHeartbeats 4000000 in
set_option maxRecDepth 100000 in
theorem c_world0 {l : Launch} {G : GG} {L : List Nat} {f : HF} {h : Nat} {ad : Nat → Nat → Nat} (p_h : pt L f h (.inr (10, [.null, .null, .null, .null, .null, .null, .null, .null, .null, .null, .int 0, .int 0, .int 0, .int 0, .int 0]))) (I : SHC gl_0 G ad L f) (nr_h : NRg gl_0 ad h) : PMv l yX10_init cX10_init 2 2 131 9158 G [.ref h] L f (fun L1 f1 => ∃ ad2 : Nat → Nat → Nat, kp L f L1 f1 [h] ∧ pt L1 f1 h (.inr (10, [.ref (ad2 40 0), .ref (ad2 41 0), .ref (ad2 42 0), .ref (ad2 10 0), .ref (ad2 43 0), .ref (ad2 20 0), .ref (ad2 20 1), .ref (ad2 20 2), .ref (ad2 20 3), .ref (ad2 20 4), .int 0, .int 0, .int (-1), .int 0, .int 0])) ∧ SHC gl_1 G ad2 L1 f1 ∧ EXT gl_0 ad gl_1 ad2 ∧ (∀ x, x ∈ L → NRg gl_0 ad x → NRg gl_1 ad2 x)) := by
  refine PMv.of (post := fun L1 f1 => ∃ ad2 : Nat → Nat → Nat, kp L f L1 f1 [h] ∧ pt L1 f1 h (.inr (10, [.ref (ad2 40 0), .ref (ad2 41 0), .ref (ad2 42 0), .ref (ad2 10 0), .ref (ad2 43 0), .ref (ad2 20 0), .ref (ad2 20 1), .ref (ad2 20 2), .ref (ad2 20 3), .ref (ad2 20 4), .int 0, .int 0, .int (-1), .int 0, .int 0])) ∧ SHC gl_1 G ad2 L1 f1 ∧ EXT gl_0 ad gl_1 ad2 ∧ (∀ x, x ∈ L → NRg gl_0 ad x → NRg gl_1 ad2 x)) (own := RX10) (by decide) rfl (Nat.le_of_ble_eq_true rfl) (fun sz p e s m args below meth c A ls hA1 hname S Y hl => ?_)
  have hx := S.hx
  have hb := S.hb
  have hl : lv_has ls 2 [(0, .ref h)] := hl
  have hk : kp L f L f [h] := kp.rf
  refine lv_aload_n hx hb dX10_init_0 rfl (lv_at hl 0 rfl) ?_
  refine pObj S km10_3 kObj1 kObj2 hl.1 (Nat.le_of_ble_eq_true rfl) (Nat.le_of_ble_eq_true rfl) dX10_init_1 ?_
  have hkI : kp L f L f [h] := kp.rf
  have hout : ∀ x, x ∈ L → NRg gl_0 ad x → NRg gl_0 ad x := fun _ _ h => h
  have hext : EXT gl_0 ad gl_0 ad := EXT.rf
  refine lv_aload_n hx hb dX10_init_4 rfl (lv_at hl 0 rfl) ?_
  refine lv_bipush (v := 6) hx hb dX10_init_5 (by decide) ?_
  refine pg_newa S Y (ty := .int) rfl 0 rfl ka_int (N' := 6) (6, .inl (fun _ => 0)) (fun _ => rfl) (by decide) (by decide) (by decide) (by decide) (by decide) dX10_init_7 (fun q_79067 f_79068 H nq_79067 ef_79068 Y => ?_)
  have whkq_79067 := hk.notin nq_79067
  have hk := hk.push ef_79068 nq_79067
  have whkIq_79067 := hkI.notin nq_79067
  have hkI := hkI.push ef_79068 nq_79067
  have p_h := p_h.push ef_79068 nq_79067
  have p_q_79067 := pt.new (L := L) ef_79068
  refine pg_putF S Y hname ok_X10 0 (by decide) kf10_9 rfl rfl (fs' := [.ref q_79067, .null, .null, .null, .null, .null, .null, .null, .null, .null, .int 0, .int 0, .int 0, .int 0, .int 0]) (v := .ref q_79067) p_h rfl rfl rfl (Nat.le_of_ble_eq_true rfl) dX10_init_9 (fun f_79069 H locs ef_79069 Y => ?_)
  have p_q_79067 := p_q_79067.up ef_79069 ((p_q_79067.neB p_h))
  have p_h := p_h.me ef_79069
  have hk := hk.up ef_79069 (by simp)
  have hkI := hkI.up ef_79069 (by simp)
  have nr_q_79067 : NRg gl_0 ad q_79067 := (SHC.nr I whkIq_79067)
  have I := I.kp hkI (allc nr_h all0)
  have hkI : kp (L ++ [q_79067]) f_79069 (L ++ [q_79067]) f_79069 [h] := kp.rf
  obtain ⟨ad1, I, X_79070, Y_79071, Z_79072⟩ := SHC.add (l2 := gl_2) I (k := 40) (n := 0) rfl (by decide) rfl p_q_79067 nr_q_79067 (okE_a (g := (fun _ => 0)) trivial) trivial
  have nr_h := Z_79072 _ nr_h (p_h.neA p_q_79067)
  have hout : ∀ x, x ∈ L → NRg gl_0 ad x → NRg gl_2 ad1 x := fun x hx hn => Z_79072 x (hout x hx hn) (fun e => whkq_79067 (by rw [← e]; exact hx))
  have hext := hext.tr X_79070
  have eq40_0 := Y_79071
  have hkI : kp (L ++ [q_79067]) f_79069 (L ++ [q_79067]) f_79069 [h] := kp.rf
  refine lv_aload_n hx hb dX10_init_12 rfl (lv_at hl 0 rfl) ?_
  refine lv_bipush (v := 6) hx hb dX10_init_13 (by decide) ?_
  refine pg_newa S Y (ty := .int) rfl 0 rfl ka_int (N' := 6) (6, .inl (fun _ => 0)) (fun _ => rfl) (by decide) (by decide) (by decide) (by decide) (by decide) dX10_init_15 (fun q_79073 f_79074 H nq_79073 ef_79074 Y => ?_)
  have whkq_79073 := hk.notin nq_79073
  have hk := hk.push ef_79074 nq_79073
  have whkIq_79073 := hkI.notin nq_79073
  have hkI := hkI.push ef_79074 nq_79073
  have p_h := p_h.push ef_79074 nq_79073
  have p_q_79073 := pt.new (L := (L ++ [q_79067])) ef_79074
  refine pg_putF S Y hname ok_X10 1 (by decide) kf10_15 rfl rfl (fs' := [.ref q_79067, .ref q_79073, .null, .null, .null, .null, .null, .null, .null, .null, .int 0, .int 0, .int 0, .int 0, .int 0]) (v := .ref q_79073) p_h rfl rfl rfl (Nat.le_of_ble_eq_true rfl) dX10_init_17 (fun f_79075 H locs ef_79075 Y => ?_)
  have p_q_79073 := p_q_79073.up ef_79075 ((p_q_79073.neB p_h))
  have p_h := p_h.me ef_79075
  have hk := hk.up ef_79075 (by simp)
  have hkI := hkI.up ef_79075 (by simp)
  have nr_q_79073 : NRg gl_2 ad1 q_79073 := (SHC.nr I whkIq_79073)
  have I := I.kp hkI (allc nr_h all0)
  have hkI : kp ((L ++ [q_79067]) ++ [q_79073]) f_79075 ((L ++ [q_79067]) ++ [q_79073]) f_79075 [h] := kp.rf
  obtain ⟨ad2, I, X_79076, Y_79077, Z_79078⟩ := SHC.add (l2 := gl_3) I (k := 41) (n := 0) rfl (by decide) rfl p_q_79073 nr_q_79073 (okE_a (g := (fun _ => 0)) trivial) trivial
  have eq40_0 := (X_79076.2 40 0 (by decide)).trans eq40_0
  have nr_h := Z_79078 _ nr_h (p_h.neA p_q_79073)
  have hout : ∀ x, x ∈ L → NRg gl_0 ad x → NRg gl_3 ad2 x := fun x hx hn => Z_79078 x (hout x hx hn) (fun e => whkq_79073 (by rw [← e]; exact hx))
  have hext := hext.tr X_79076
  have eq41_0 := Y_79077
  have hkI : kp ((L ++ [q_79067]) ++ [q_79073]) f_79075 ((L ++ [q_79067]) ++ [q_79073]) f_79075 [h] := kp.rf
  refine lv_aload_n hx hb dX10_init_20 rfl (lv_at hl 0 rfl) ?_
  refine lv_iconst (v := 4) hx hb dX10_init_21 (by decide) ?_
  refine pg_newq S Y kc10_18 (fun w => w.2.2) 4 rfl (N' := 4) (by decide) (by decide) (by decide) (by decide) (by decide) dX10_init_22 (fun q_79079 f_79080 H nq_79079 ef_79080 Y => ?_)
  have whkq_79079 := hk.notin nq_79079
  have hk := hk.push ef_79080 nq_79079
  have whkIq_79079 := hkI.notin nq_79079
  have hkI := hkI.push ef_79080 nq_79079
  have p_h := p_h.push ef_79080 nq_79079
  have p_q_79079 := pt.new (L := ((L ++ [q_79067]) ++ [q_79073])) ef_79080
  have nr_q_79079 : NRg gl_3 ad2 q_79079 := (SHC.nr I whkIq_79079)
  have I := I.kp hkI (allc nr_h all0)
  have hkI : kp (((L ++ [q_79067]) ++ [q_79073]) ++ [q_79079]) f_79080 (((L ++ [q_79067]) ++ [q_79073]) ++ [q_79079]) f_79080 [h, q_79079] := kp.rf
  refine pg_putF S Y hname ok_X10 2 (by decide) kf10_20 rfl rfl (fs' := [.ref q_79067, .ref q_79073, .ref q_79079, .null, .null, .null, .null, .null, .null, .null, .int 0, .int 0, .int 0, .int 0, .int 0]) (v := .ref q_79079) p_h rfl rfl rfl (Nat.le_of_ble_eq_true rfl) dX10_init_25 (fun f_79081 H locs ef_79081 Y => ?_)
  have p_q_79079 := p_q_79079.up ef_79081 ((p_q_79079.neB p_h))
  have p_h := p_h.me ef_79081
  have hk := hk.up ef_79081 (by simp)
  have hkI := hkI.up ef_79081 (by simp)
  refine lv_aload_n hx hb dX10_init_28 rfl (lv_at hl 0 rfl) ?_
  refine pg_new S Y ok_X4 kc10_24 kn4 ki4 (fs := [.null, .null, .int 0, .int 0, .int 0, .int 0, .int 0]) (by decide) (by decide) (by decide) dX10_init_29 (fun q_79082 f_79083 H nq_79082 ef_79083 Y => ?_)
  have whkq_79082 := hk.notin nq_79082
  have hk := hk.push ef_79083 nq_79082
  have whkIq_79082 := hkI.notin nq_79082
  have hkI := hkI.push ef_79083 nq_79082
  have p_h := p_h.push ef_79083 nq_79082
  have p_q_79079 := p_q_79079.push ef_79083 nq_79082
  have p_q_79082 := pt.new (L := (((L ++ [q_79067]) ++ [q_79073]) ++ [q_79079])) ef_79083
  refine lv_dup hx hb dX10_init_32 rfl ?_
  refine cINv (b := q_79082) (As := []) (rest := [.ref q_79082, .ref h]) S Y (c_X4_init (l := l) p_q_79082) cw_X4_init km10_26 rfl ⟨Nat.le_of_ble_eq_true rfl, Nat.le_of_ble_eq_true rfl⟩ hl.1 rfl (Nat.le_of_ble_eq_true rfl) ⟨Nat.le_of_ble_eq_true rfl, Nat.le_of_ble_eq_true rfl⟩ dX10_init_33 (fun L_79084 f_79085 H locs hf_79085 Y => ?_)
  obtain ⟨a__79086, a__79087, kf_79085, z_z_79088, z_z_79089, z_z_79090, v_79091, v_79092⟩ := hf_79085
  have w_79093 := hk.notin v_79091
  have w_79094 := hkI.notin v_79091
  have w_79095 := hk.notin v_79092
  have w_79096 := hkI.notin v_79092
  have p_h := kf_79085.1 h _ (nmc (p_h.neK p_q_79082 (by decide)) nm0) p_h
  have p_q_79079 := kf_79085.1 q_79079 _ (nmc (p_q_79079.neB p_q_79082) nm0) p_q_79079
  have p_q_79082 := z_z_79088
  have p_a__79086 := z_z_79089
  have p_a__79087 := z_z_79090
  have hk := hk.call kf_79085 (fun b hb hp => (nmc (neL hp whkq_79082) nm0))
  have hkI := hkI.call kf_79085 (fun b hb hp => (nmc (neL hp whkIq_79082) nm0))
  have nr_q_79082 : NRg gl_3 ad2 q_79082 := (SHC.nr I whkIq_79082)
  have nr_a__79086 : NRg gl_3 ad2 a__79086 := (SHC.nr I w_79094)
  have nr_a__79087 : NRg gl_3 ad2 a__79087 := (SHC.nr I w_79096)
  have I := I.kp hkI (allc nr_h (allc nr_q_79079 all0))
  have hkI : kp L_79084 f_79085 L_79084 f_79085 [h, q_79079] := kp.rf
  obtain ⟨ad3, I, X_79097, Y_79098, Z_79099⟩ := SHC.led (l2 := gl_4) (n := 0) I rfl rfl rfl (by decide) rfl p_q_79082 p_a__79086 p_a__79087 nr_q_79082 nr_a__79086 nr_a__79087 
  have eq40_0 := (X_79097.2 40 0 (by decide)).trans eq40_0
  have eq41_0 := (X_79097.2 41 0 (by decide)).trans eq41_0
  have nr_h := Z_79099 _ nr_h (p_h.neK p_q_79082 (by decide)) (p_h.neA p_a__79086) (p_h.neA p_a__79087)
  have nr_q_79079 := Z_79099 _ nr_q_79079 (p_q_79079.neB p_q_79082) (p_q_79079.neN p_a__79086 (by decide)) (p_q_79079.neN p_a__79087 (by decide))
  have hout : ∀ x, x ∈ L → NRg gl_0 ad x → NRg gl_4 ad3 x := fun x hx hn => Z_79099 x (hout x hx hn) (fun e => whkq_79082 (by rw [← e]; exact hx)) (fun e => w_79093 (by rw [← e]; exact hx)) (fun e => w_79095 (by rw [← e]; exact hx))
  have hext := hext.tr X_79097
  have eq10_0 := Y_79098
  have hkI : kp L_79084 f_79085 L_79084 f_79085 [h, q_79079] := kp.rf
  refine pg_putF S Y hname ok_X10 3 (by decide) kf10_27 rfl rfl (fs' := [.ref q_79067, .ref q_79073, .ref q_79079, .ref q_79082, .null, .null, .null, .null, .null, .null, .int 0, .int 0, .int 0, .int 0, .int 0]) (v := .ref q_79082) p_h rfl rfl rfl (Nat.le_of_ble_eq_true rfl) dX10_init_36 (fun f_79100 H locs ef_79100 Y => ?_)
  have p_q_79079 := p_q_79079.up ef_79100 ((p_q_79079.neB p_h))
  have p_q_79082 := p_q_79082.up ef_79100 ((p_q_79082.neK p_h (by decide)))
  have p_h := p_h.me ef_79100
  have hk := hk.up ef_79100 (by simp)
  have hkI := hkI.up ef_79100 (by simp)
  refine lv_aload_n hx hb dX10_init_39 rfl (lv_at hl 0 rfl) ?_
  refine lv_bipush (v := 30) hx hb dX10_init_40 (by decide) ?_
  refine pg_newq S Y kc10_24 (fun w => w.2.1) 3 rfl (N' := 30) (by decide) (by decide) (by decide) (by decide) (by decide) dX10_init_42 (fun q_79101 f_79102 H nq_79101 ef_79102 Y => ?_)
  have whkq_79101 := hk.notin nq_79101
  have hk := hk.push ef_79102 nq_79101
  have whkIq_79101 := hkI.notin nq_79101
  have hkI := hkI.push ef_79102 nq_79101
  have p_h := p_h.push ef_79102 nq_79101
  have p_q_79079 := p_q_79079.push ef_79102 nq_79101
  have p_q_79082 := p_q_79082.push ef_79102 nq_79101
  have p_q_79101 := pt.new (L := L_79084) ef_79102
  have nr_q_79101 : NRg gl_4 ad3 q_79101 := (SHC.nr I whkIq_79101)
  have I := I.kp hkI (allc nr_h (allc nr_q_79079 all0))
  have hkI : kp (L_79084 ++ [q_79101]) f_79102 (L_79084 ++ [q_79101]) f_79102 [h, q_79079, q_79101] := kp.rf
  refine pg_putF S Y hname ok_X10 4 (by decide) kf10_31 rfl rfl (fs' := [.ref q_79067, .ref q_79073, .ref q_79079, .ref q_79082, .ref q_79101, .null, .null, .null, .null, .null, .int 0, .int 0, .int 0, .int 0, .int 0]) (v := .ref q_79101) p_h rfl rfl rfl (Nat.le_of_ble_eq_true rfl) dX10_init_45 (fun f_79103 H locs ef_79103 Y => ?_)
  have p_q_79079 := p_q_79079.up ef_79103 ((p_q_79079.neB p_h))
  have p_q_79082 := p_q_79082.up ef_79103 ((p_q_79082.neK p_h (by decide)))
  have p_q_79101 := p_q_79101.up ef_79103 ((p_q_79101.neB p_h))
  have p_h := p_h.me ef_79103
  have hk := hk.up ef_79103 (by simp)
  have hkI := hkI.up ef_79103 (by simp)
  refine lv_aload_n hx hb dX10_init_48 rfl (lv_at hl 0 rfl) ?_
  refine pg_new S Y ok_X9 kc10_35 kn9 ki9 (fs := [.null, .int 0, .int 0]) (by decide) (by decide) (by decide) dX10_init_49 (fun q_79104 f_79105 H nq_79104 ef_79105 Y => ?_)
  have whkq_79104 := hk.notin nq_79104
  have hk := hk.push ef_79105 nq_79104
  have whkIq_79104 := hkI.notin nq_79104
  have hkI := hkI.push ef_79105 nq_79104
  have p_h := p_h.push ef_79105 nq_79104
  have p_q_79079 := p_q_79079.push ef_79105 nq_79104
  have p_q_79082 := p_q_79082.push ef_79105 nq_79104
  have p_q_79101 := p_q_79101.push ef_79105 nq_79104
  have p_q_79104 := pt.new (L := (L_79084 ++ [q_79101])) ef_79105
  refine lv_dup hx hb dX10_init_52 rfl ?_
  refine lv_bipush (v := 6) hx hb dX10_init_53 (by decide) ?_
  refine cIv (b := q_79104) (As := [.int 6]) (rest := [.ref q_79104, .ref h]) S Y (c_told6 (l := l) p_q_79104) cw_X9_init km10_37 rfl ⟨Nat.le_of_ble_eq_true rfl, Nat.le_of_ble_eq_true rfl⟩ hl.1 rfl (Nat.le_of_ble_eq_true rfl) ⟨Nat.le_of_ble_eq_true rfl, Nat.le_of_ble_eq_true rfl⟩ dX10_init_55 (fun L_79106 f_79107 H locs hf_79107 Y => ?_)
  obtain ⟨a__79108, kf_79107, z_z_79109, z_z_79110, v_79111⟩ := hf_79107
  have w_79112 := hk.notin v_79111
  have w_79113 := hkI.notin v_79111
  have p_h := kf_79107.1 h _ (nmc (p_h.neK p_q_79104 (by decide)) nm0) p_h
  have p_q_79079 := kf_79107.1 q_79079 _ (nmc (p_q_79079.neB p_q_79104) nm0) p_q_79079
  have p_q_79082 := kf_79107.1 q_79082 _ (nmc (p_q_79082.neK p_q_79104 (by decide)) nm0) p_q_79082
  have p_q_79101 := kf_79107.1 q_79101 _ (nmc (p_q_79101.neB p_q_79104) nm0) p_q_79101
  have p_q_79104 := z_z_79109
  have p_a__79108 := z_z_79110
  have hk := hk.call kf_79107 (fun b hb hp => (nmc (neL hp whkq_79104) nm0))
  have hkI := hkI.call kf_79107 (fun b hb hp => (nmc (neL hp whkIq_79104) nm0))
  have nr_q_79104 : NRg gl_4 ad3 q_79104 := (SHC.nr I whkIq_79104)
  have nr_a__79108 : NRg gl_4 ad3 a__79108 := (SHC.nr I w_79113)
  have I := I.kp hkI (allc nr_h (allc nr_q_79079 (allc nr_q_79101 all0)))
  have hkI : kp L_79106 f_79107 L_79106 f_79107 [h, q_79079, q_79101, q_79104, a__79108] := kp.rf
  obtain ⟨ad4, I, X_79114, Y_79115, Z_79116⟩ := SHC.add (l2 := gl_5) I (k := 21) (n := 0) rfl (by decide) rfl p_a__79108 nr_a__79108 (okE_a (g := (fun _ => 0)) trivial) trivial
  have eq40_0 := (X_79114.2 40 0 (by decide)).trans eq40_0
  have eq41_0 := (X_79114.2 41 0 (by decide)).trans eq41_0
  have eq10_0 := (X_79114.2 10 0 (by decide)).trans eq10_0
  have nr_h := Z_79116 _ nr_h (p_h.neA p_a__79108)
  have nr_q_79079 := Z_79116 _ nr_q_79079 (p_q_79079.neN p_a__79108 (by decide))
  have nr_q_79101 := Z_79116 _ nr_q_79101 (p_q_79101.neN p_a__79108 (by decide))
  have nr_q_79104 := Z_79116 _ nr_q_79104 (p_q_79104.neA p_a__79108)
  have hout : ∀ x, x ∈ L → NRg gl_0 ad x → NRg gl_5 ad4 x := fun x hx hn => Z_79116 x (hout x hx hn) (fun e => w_79112 (by rw [← e]; exact hx))
  have hext := hext.tr X_79114
  have eq21_0 := Y_79115
  have hkI : kp L_79106 f_79107 L_79106 f_79107 [h, q_79079, q_79101, q_79104] := kp.rf
  have I := I.kp hkI (allc nr_h (allc nr_q_79079 (allc nr_q_79101 (allc nr_q_79104 all0))))
  have hkI : kp L_79106 f_79107 L_79106 f_79107 [h, q_79079, q_79101, q_79104] := kp.rf
  obtain ⟨ad5, I, X_79117, Y_79118, Z_79119⟩ := SHC.add (l2 := gl_6) I (k := 20) (n := 0) rfl (by decide) rfl p_q_79104 nr_q_79104 (okE_o (okFs_c (okV_re eq21_0) (okFs_c (okV_p (by constructor <;> decide)) (okFs_c (okV_p (by constructor <;> decide)) okFs_n)))) ⟨(show 0 < nL gl_5 21 from by decide), ⟨trivial, ⟨trivial, trivial⟩⟩⟩
  have eq40_0 := (X_79117.2 40 0 (by decide)).trans eq40_0
  have eq41_0 := (X_79117.2 41 0 (by decide)).trans eq41_0
  have eq10_0 := (X_79117.2 10 0 (by decide)).trans eq10_0
  have eq21_0 := (X_79117.2 21 0 (by decide)).trans eq21_0
  have nr_h := Z_79119 _ nr_h (p_h.neK p_q_79104 (by decide))
  have nr_q_79079 := Z_79119 _ nr_q_79079 (p_q_79079.neB p_q_79104)
  have nr_q_79101 := Z_79119 _ nr_q_79101 (p_q_79101.neB p_q_79104)
  have hout : ∀ x, x ∈ L → NRg gl_0 ad x → NRg gl_6 ad5 x := fun x hx hn => Z_79119 x (hout x hx hn) (fun e => whkq_79104 (by rw [← e]; exact hx))
  have hext := hext.tr X_79117
  have eq20_0 := Y_79118
  have hkI : kp L_79106 f_79107 L_79106 f_79107 [h, q_79079, q_79101] := kp.rf
  refine pg_putF S Y hname ok_X10 5 (by decide) kf10_40 rfl rfl (fs' := [.ref q_79067, .ref q_79073, .ref q_79079, .ref q_79082, .ref q_79101, .ref q_79104, .null, .null, .null, .null, .int 0, .int 0, .int 0, .int 0, .int 0]) (v := .ref q_79104) p_h rfl rfl rfl (Nat.le_of_ble_eq_true rfl) dX10_init_58 (fun f_79120 H locs ef_79120 Y => ?_)
  have p_q_79079 := p_q_79079.up ef_79120 ((p_q_79079.neB p_h))
  have p_q_79101 := p_q_79101.up ef_79120 ((p_q_79101.neB p_h))
  have p_h := p_h.me ef_79120
  have hk := hk.up ef_79120 (by simp)
  have hkI := hkI.up ef_79120 (by simp)
  refine lv_aload_n hx hb dX10_init_61 rfl (lv_at hl 0 rfl) ?_
  refine pg_new S Y ok_X9 kc10_35 kn9 ki9 (fs := [.null, .int 0, .int 0]) (by decide) (by decide) (by decide) dX10_init_62 (fun q_79121 f_79122 H nq_79121 ef_79122 Y => ?_)
  have whkq_79121 := hk.notin nq_79121
  have hk := hk.push ef_79122 nq_79121
  have whkIq_79121 := hkI.notin nq_79121
  have hkI := hkI.push ef_79122 nq_79121
  have p_h := p_h.push ef_79122 nq_79121
  have p_q_79079 := p_q_79079.push ef_79122 nq_79121
  have p_q_79101 := p_q_79101.push ef_79122 nq_79121
  have p_q_79121 := pt.new (L := L_79106) ef_79122
  refine lv_dup hx hb dX10_init_65 rfl ?_
  refine lv_bipush (v := 8) hx hb dX10_init_66 (by decide) ?_
  refine cIv (b := q_79121) (As := [.int 8]) (rest := [.ref q_79121, .ref h]) S Y (c_told8 (l := l) p_q_79121) cw_X9_init km10_37 rfl ⟨Nat.le_of_ble_eq_true rfl, Nat.le_of_ble_eq_true rfl⟩ hl.1 rfl (Nat.le_of_ble_eq_true rfl) ⟨Nat.le_of_ble_eq_true rfl, Nat.le_of_ble_eq_true rfl⟩ dX10_init_68 (fun L_79123 f_79124 H locs hf_79124 Y => ?_)
  obtain ⟨a__79125, kf_79124, z_z_79126, z_z_79127, v_79128⟩ := hf_79124
  have w_79129 := hk.notin v_79128
  have w_79130 := hkI.notin v_79128
  have p_h := kf_79124.1 h _ (nmc (p_h.neK p_q_79121 (by decide)) nm0) p_h
  have p_q_79079 := kf_79124.1 q_79079 _ (nmc (p_q_79079.neB p_q_79121) nm0) p_q_79079
  have p_q_79101 := kf_79124.1 q_79101 _ (nmc (p_q_79101.neB p_q_79121) nm0) p_q_79101
  have p_q_79121 := z_z_79126
  have p_a__79125 := z_z_79127
  have hk := hk.call kf_79124 (fun b hb hp => (nmc (neL hp whkq_79121) nm0))
  have hkI := hkI.call kf_79124 (fun b hb hp => (nmc (neL hp whkIq_79121) nm0))
  have nr_q_79121 : NRg gl_6 ad5 q_79121 := (SHC.nr I whkIq_79121)
  have nr_a__79125 : NRg gl_6 ad5 a__79125 := (SHC.nr I w_79130)
  have I := I.kp hkI (allc nr_h (allc nr_q_79079 (allc nr_q_79101 all0)))
  have hkI : kp L_79123 f_79124 L_79123 f_79124 [h, q_79079, q_79101, q_79121, a__79125] := kp.rf
  obtain ⟨ad6, I, X_79131, Y_79132, Z_79133⟩ := SHC.add (l2 := gl_7) I (k := 21) (n := 1) rfl (by decide) rfl p_a__79125 nr_a__79125 (okE_a (g := (fun _ => 0)) trivial) trivial
  have eq40_0 := (X_79131.2 40 0 (by decide)).trans eq40_0
  have eq41_0 := (X_79131.2 41 0 (by decide)).trans eq41_0
  have eq10_0 := (X_79131.2 10 0 (by decide)).trans eq10_0
  have eq20_0 := (X_79131.2 20 0 (by decide)).trans eq20_0
  have nr_h := Z_79133 _ nr_h (p_h.neA p_a__79125)
  have nr_q_79079 := Z_79133 _ nr_q_79079 (p_q_79079.neN p_a__79125 (by decide))
  have nr_q_79101 := Z_79133 _ nr_q_79101 (p_q_79101.neN p_a__79125 (by decide))
  have nr_q_79121 := Z_79133 _ nr_q_79121 (p_q_79121.neA p_a__79125)
  have hout : ∀ x, x ∈ L → NRg gl_0 ad x → NRg gl_7 ad6 x := fun x hx hn => Z_79133 x (hout x hx hn) (fun e => w_79129 (by rw [← e]; exact hx))
  have hext := hext.tr X_79131
  have eq21_1 := Y_79132
  have hkI : kp L_79123 f_79124 L_79123 f_79124 [h, q_79079, q_79101, q_79121] := kp.rf
  have I := I.kp hkI (allc nr_h (allc nr_q_79079 (allc nr_q_79101 (allc nr_q_79121 all0))))
  have hkI : kp L_79123 f_79124 L_79123 f_79124 [h, q_79079, q_79101, q_79121] := kp.rf
  obtain ⟨ad7, I, X_79134, Y_79135, Z_79136⟩ := SHC.add (l2 := gl_8) I (k := 20) (n := 1) rfl (by decide) rfl p_q_79121 nr_q_79121 (okE_o (okFs_c (okV_re eq21_1) (okFs_c (okV_p (by constructor <;> decide)) (okFs_c (okV_p (by constructor <;> decide)) okFs_n)))) ⟨(show 1 < nL gl_7 21 from by decide), ⟨trivial, ⟨trivial, trivial⟩⟩⟩
  have eq40_0 := (X_79134.2 40 0 (by decide)).trans eq40_0
  have eq41_0 := (X_79134.2 41 0 (by decide)).trans eq41_0
  have eq10_0 := (X_79134.2 10 0 (by decide)).trans eq10_0
  have eq20_0 := (X_79134.2 20 0 (by decide)).trans eq20_0
  have eq21_1 := (X_79134.2 21 1 (by decide)).trans eq21_1
  have nr_h := Z_79136 _ nr_h (p_h.neK p_q_79121 (by decide))
  have nr_q_79079 := Z_79136 _ nr_q_79079 (p_q_79079.neB p_q_79121)
  have nr_q_79101 := Z_79136 _ nr_q_79101 (p_q_79101.neB p_q_79121)
  have hout : ∀ x, x ∈ L → NRg gl_0 ad x → NRg gl_8 ad7 x := fun x hx hn => Z_79136 x (hout x hx hn) (fun e => whkq_79121 (by rw [← e]; exact hx))
  have hext := hext.tr X_79134
  have eq20_1 := Y_79135
  have hkI : kp L_79123 f_79124 L_79123 f_79124 [h, q_79079, q_79101] := kp.rf
  refine pg_putF S Y hname ok_X10 6 (by decide) kf10_44 rfl rfl (fs' := [.ref q_79067, .ref q_79073, .ref q_79079, .ref q_79082, .ref q_79101, .ref q_79104, .ref q_79121, .null, .null, .null, .int 0, .int 0, .int 0, .int 0, .int 0]) (v := .ref q_79121) p_h rfl rfl rfl (Nat.le_of_ble_eq_true rfl) dX10_init_71 (fun f_79137 H locs ef_79137 Y => ?_)
  have p_q_79079 := p_q_79079.up ef_79137 ((p_q_79079.neB p_h))
  have p_q_79101 := p_q_79101.up ef_79137 ((p_q_79101.neB p_h))
  have p_h := p_h.me ef_79137
  have hk := hk.up ef_79137 (by simp)
  have hkI := hkI.up ef_79137 (by simp)
  refine lv_aload_n hx hb dX10_init_74 rfl (lv_at hl 0 rfl) ?_
  refine pg_new S Y ok_X9 kc10_35 kn9 ki9 (fs := [.null, .int 0, .int 0]) (by decide) (by decide) (by decide) dX10_init_75 (fun q_79138 f_79139 H nq_79138 ef_79139 Y => ?_)
  have whkq_79138 := hk.notin nq_79138
  have hk := hk.push ef_79139 nq_79138
  have whkIq_79138 := hkI.notin nq_79138
  have hkI := hkI.push ef_79139 nq_79138
  have p_h := p_h.push ef_79139 nq_79138
  have p_q_79079 := p_q_79079.push ef_79139 nq_79138
  have p_q_79101 := p_q_79101.push ef_79139 nq_79138
  have p_q_79138 := pt.new (L := L_79123) ef_79139
  refine lv_dup hx hb dX10_init_78 rfl ?_
  refine lv_bipush (v := 8) hx hb dX10_init_79 (by decide) ?_
  refine cIv (b := q_79138) (As := [.int 8]) (rest := [.ref q_79138, .ref h]) S Y (c_told8 (l := l) p_q_79138) cw_X9_init km10_37 rfl ⟨Nat.le_of_ble_eq_true rfl, Nat.le_of_ble_eq_true rfl⟩ hl.1 rfl (Nat.le_of_ble_eq_true rfl) ⟨Nat.le_of_ble_eq_true rfl, Nat.le_of_ble_eq_true rfl⟩ dX10_init_81 (fun L_79140 f_79141 H locs hf_79141 Y => ?_)
  obtain ⟨a__79142, kf_79141, z_z_79143, z_z_79144, v_79145⟩ := hf_79141
  have w_79146 := hk.notin v_79145
  have w_79147 := hkI.notin v_79145
  have p_h := kf_79141.1 h _ (nmc (p_h.neK p_q_79138 (by decide)) nm0) p_h
  have p_q_79079 := kf_79141.1 q_79079 _ (nmc (p_q_79079.neB p_q_79138) nm0) p_q_79079
  have p_q_79101 := kf_79141.1 q_79101 _ (nmc (p_q_79101.neB p_q_79138) nm0) p_q_79101
  have p_q_79138 := z_z_79143
  have p_a__79142 := z_z_79144
  have hk := hk.call kf_79141 (fun b hb hp => (nmc (neL hp whkq_79138) nm0))
  have hkI := hkI.call kf_79141 (fun b hb hp => (nmc (neL hp whkIq_79138) nm0))
  have nr_q_79138 : NRg gl_8 ad7 q_79138 := (SHC.nr I whkIq_79138)
  have nr_a__79142 : NRg gl_8 ad7 a__79142 := (SHC.nr I w_79147)
  have I := I.kp hkI (allc nr_h (allc nr_q_79079 (allc nr_q_79101 all0)))
  have hkI : kp L_79140 f_79141 L_79140 f_79141 [h, q_79079, q_79101, q_79138, a__79142] := kp.rf
  obtain ⟨ad8, I, X_79148, Y_79149, Z_79150⟩ := SHC.add (l2 := gl_9) I (k := 21) (n := 2) rfl (by decide) rfl p_a__79142 nr_a__79142 (okE_a (g := (fun _ => 0)) trivial) trivial
  have eq40_0 := (X_79148.2 40 0 (by decide)).trans eq40_0
  have eq41_0 := (X_79148.2 41 0 (by decide)).trans eq41_0
  have eq10_0 := (X_79148.2 10 0 (by decide)).trans eq10_0
  have eq20_0 := (X_79148.2 20 0 (by decide)).trans eq20_0
  have eq20_1 := (X_79148.2 20 1 (by decide)).trans eq20_1
  have nr_h := Z_79150 _ nr_h (p_h.neA p_a__79142)
  have nr_q_79079 := Z_79150 _ nr_q_79079 (p_q_79079.neN p_a__79142 (by decide))
  have nr_q_79101 := Z_79150 _ nr_q_79101 (p_q_79101.neN p_a__79142 (by decide))
  have nr_q_79138 := Z_79150 _ nr_q_79138 (p_q_79138.neA p_a__79142)
  have hout : ∀ x, x ∈ L → NRg gl_0 ad x → NRg gl_9 ad8 x := fun x hx hn => Z_79150 x (hout x hx hn) (fun e => w_79146 (by rw [← e]; exact hx))
  have hext := hext.tr X_79148
  have eq21_2 := Y_79149
  have hkI : kp L_79140 f_79141 L_79140 f_79141 [h, q_79079, q_79101, q_79138] := kp.rf
  have I := I.kp hkI (allc nr_h (allc nr_q_79079 (allc nr_q_79101 (allc nr_q_79138 all0))))
  have hkI : kp L_79140 f_79141 L_79140 f_79141 [h, q_79079, q_79101, q_79138] := kp.rf
  obtain ⟨ad9, I, X_79151, Y_79152, Z_79153⟩ := SHC.add (l2 := gl_10) I (k := 20) (n := 2) rfl (by decide) rfl p_q_79138 nr_q_79138 (okE_o (okFs_c (okV_re eq21_2) (okFs_c (okV_p (by constructor <;> decide)) (okFs_c (okV_p (by constructor <;> decide)) okFs_n)))) ⟨(show 2 < nL gl_9 21 from by decide), ⟨trivial, ⟨trivial, trivial⟩⟩⟩
  have eq40_0 := (X_79151.2 40 0 (by decide)).trans eq40_0
  have eq41_0 := (X_79151.2 41 0 (by decide)).trans eq41_0
  have eq10_0 := (X_79151.2 10 0 (by decide)).trans eq10_0
  have eq20_0 := (X_79151.2 20 0 (by decide)).trans eq20_0
  have eq20_1 := (X_79151.2 20 1 (by decide)).trans eq20_1
  have eq21_2 := (X_79151.2 21 2 (by decide)).trans eq21_2
  have nr_h := Z_79153 _ nr_h (p_h.neK p_q_79138 (by decide))
  have nr_q_79079 := Z_79153 _ nr_q_79079 (p_q_79079.neB p_q_79138)
  have nr_q_79101 := Z_79153 _ nr_q_79101 (p_q_79101.neB p_q_79138)
  have hout : ∀ x, x ∈ L → NRg gl_0 ad x → NRg gl_10 ad9 x := fun x hx hn => Z_79153 x (hout x hx hn) (fun e => whkq_79138 (by rw [← e]; exact hx))
  have hext := hext.tr X_79151
  have eq20_2 := Y_79152
  have hkI : kp L_79140 f_79141 L_79140 f_79141 [h, q_79079, q_79101] := kp.rf
  refine pg_putF S Y hname ok_X10 7 (by decide) kf10_47 rfl rfl (fs' := [.ref q_79067, .ref q_79073, .ref q_79079, .ref q_79082, .ref q_79101, .ref q_79104, .ref q_79121, .ref q_79138, .null, .null, .int 0, .int 0, .int 0, .int 0, .int 0]) (v := .ref q_79138) p_h rfl rfl rfl (Nat.le_of_ble_eq_true rfl) dX10_init_84 (fun f_79154 H locs ef_79154 Y => ?_)
  have p_q_79079 := p_q_79079.up ef_79154 ((p_q_79079.neB p_h))
  have p_q_79101 := p_q_79101.up ef_79154 ((p_q_79101.neB p_h))
  have p_h := p_h.me ef_79154
  have hk := hk.up ef_79154 (by simp)
  have hkI := hkI.up ef_79154 (by simp)
  refine lv_aload_n hx hb dX10_init_87 rfl (lv_at hl 0 rfl) ?_
  refine pg_new S Y ok_X9 kc10_35 kn9 ki9 (fs := [.null, .int 0, .int 0]) (by decide) (by decide) (by decide) dX10_init_88 (fun q_79155 f_79156 H nq_79155 ef_79156 Y => ?_)
  have whkq_79155 := hk.notin nq_79155
  have hk := hk.push ef_79156 nq_79155
  have whkIq_79155 := hkI.notin nq_79155
  have hkI := hkI.push ef_79156 nq_79155
  have p_h := p_h.push ef_79156 nq_79155
  have p_q_79079 := p_q_79079.push ef_79156 nq_79155
  have p_q_79101 := p_q_79101.push ef_79156 nq_79155
  have p_q_79155 := pt.new (L := L_79140) ef_79156
  refine lv_dup hx hb dX10_init_91 rfl ?_
  refine lv_bipush (v := 8) hx hb dX10_init_92 (by decide) ?_
  refine cIv (b := q_79155) (As := [.int 8]) (rest := [.ref q_79155, .ref h]) S Y (c_told8 (l := l) p_q_79155) cw_X9_init km10_37 rfl ⟨Nat.le_of_ble_eq_true rfl, Nat.le_of_ble_eq_true rfl⟩ hl.1 rfl (Nat.le_of_ble_eq_true rfl) ⟨Nat.le_of_ble_eq_true rfl, Nat.le_of_ble_eq_true rfl⟩ dX10_init_94 (fun L_79157 f_79158 H locs hf_79158 Y => ?_)
  obtain ⟨a__79159, kf_79158, z_z_79160, z_z_79161, v_79162⟩ := hf_79158
  have w_79163 := hk.notin v_79162
  have w_79164 := hkI.notin v_79162
  have p_h := kf_79158.1 h _ (nmc (p_h.neK p_q_79155 (by decide)) nm0) p_h
  have p_q_79079 := kf_79158.1 q_79079 _ (nmc (p_q_79079.neB p_q_79155) nm0) p_q_79079
  have p_q_79101 := kf_79158.1 q_79101 _ (nmc (p_q_79101.neB p_q_79155) nm0) p_q_79101
  have p_q_79155 := z_z_79160
  have p_a__79159 := z_z_79161
  have hk := hk.call kf_79158 (fun b hb hp => (nmc (neL hp whkq_79155) nm0))
  have hkI := hkI.call kf_79158 (fun b hb hp => (nmc (neL hp whkIq_79155) nm0))
  have nr_q_79155 : NRg gl_10 ad9 q_79155 := (SHC.nr I whkIq_79155)
  have nr_a__79159 : NRg gl_10 ad9 a__79159 := (SHC.nr I w_79164)
  have I := I.kp hkI (allc nr_h (allc nr_q_79079 (allc nr_q_79101 all0)))
  have hkI : kp L_79157 f_79158 L_79157 f_79158 [h, q_79079, q_79101, q_79155, a__79159] := kp.rf
  obtain ⟨ad10, I, X_79165, Y_79166, Z_79167⟩ := SHC.add (l2 := gl_11) I (k := 21) (n := 3) rfl (by decide) rfl p_a__79159 nr_a__79159 (okE_a (g := (fun _ => 0)) trivial) trivial
  have eq40_0 := (X_79165.2 40 0 (by decide)).trans eq40_0
  have eq41_0 := (X_79165.2 41 0 (by decide)).trans eq41_0
  have eq10_0 := (X_79165.2 10 0 (by decide)).trans eq10_0
  have eq20_0 := (X_79165.2 20 0 (by decide)).trans eq20_0
  have eq20_1 := (X_79165.2 20 1 (by decide)).trans eq20_1
  have eq20_2 := (X_79165.2 20 2 (by decide)).trans eq20_2
  have nr_h := Z_79167 _ nr_h (p_h.neA p_a__79159)
  have nr_q_79079 := Z_79167 _ nr_q_79079 (p_q_79079.neN p_a__79159 (by decide))
  have nr_q_79101 := Z_79167 _ nr_q_79101 (p_q_79101.neN p_a__79159 (by decide))
  have nr_q_79155 := Z_79167 _ nr_q_79155 (p_q_79155.neA p_a__79159)
  have hout : ∀ x, x ∈ L → NRg gl_0 ad x → NRg gl_11 ad10 x := fun x hx hn => Z_79167 x (hout x hx hn) (fun e => w_79163 (by rw [← e]; exact hx))
  have hext := hext.tr X_79165
  have eq21_3 := Y_79166
  have hkI : kp L_79157 f_79158 L_79157 f_79158 [h, q_79079, q_79101, q_79155] := kp.rf
  have I := I.kp hkI (allc nr_h (allc nr_q_79079 (allc nr_q_79101 (allc nr_q_79155 all0))))
  have hkI : kp L_79157 f_79158 L_79157 f_79158 [h, q_79079, q_79101, q_79155] := kp.rf
  obtain ⟨ad11, I, X_79168, Y_79169, Z_79170⟩ := SHC.add (l2 := gl_12) I (k := 20) (n := 3) rfl (by decide) rfl p_q_79155 nr_q_79155 (okE_o (okFs_c (okV_re eq21_3) (okFs_c (okV_p (by constructor <;> decide)) (okFs_c (okV_p (by constructor <;> decide)) okFs_n)))) ⟨(show 3 < nL gl_11 21 from by decide), ⟨trivial, ⟨trivial, trivial⟩⟩⟩
  have eq40_0 := (X_79168.2 40 0 (by decide)).trans eq40_0
  have eq41_0 := (X_79168.2 41 0 (by decide)).trans eq41_0
  have eq10_0 := (X_79168.2 10 0 (by decide)).trans eq10_0
  have eq20_0 := (X_79168.2 20 0 (by decide)).trans eq20_0
  have eq20_1 := (X_79168.2 20 1 (by decide)).trans eq20_1
  have eq20_2 := (X_79168.2 20 2 (by decide)).trans eq20_2
  have eq21_3 := (X_79168.2 21 3 (by decide)).trans eq21_3
  have nr_h := Z_79170 _ nr_h (p_h.neK p_q_79155 (by decide))
  have nr_q_79079 := Z_79170 _ nr_q_79079 (p_q_79079.neB p_q_79155)
  have nr_q_79101 := Z_79170 _ nr_q_79101 (p_q_79101.neB p_q_79155)
  have hout : ∀ x, x ∈ L → NRg gl_0 ad x → NRg gl_12 ad11 x := fun x hx hn => Z_79170 x (hout x hx hn) (fun e => whkq_79155 (by rw [← e]; exact hx))
  have hext := hext.tr X_79168
  have eq20_3 := Y_79169
  have hkI : kp L_79157 f_79158 L_79157 f_79158 [h, q_79079, q_79101] := kp.rf
  refine pg_putF S Y hname ok_X10 8 (by decide) kf10_50 rfl rfl (fs' := [.ref q_79067, .ref q_79073, .ref q_79079, .ref q_79082, .ref q_79101, .ref q_79104, .ref q_79121, .ref q_79138, .ref q_79155, .null, .int 0, .int 0, .int 0, .int 0, .int 0]) (v := .ref q_79155) p_h rfl rfl rfl (Nat.le_of_ble_eq_true rfl) dX10_init_97 (fun f_79171 H locs ef_79171 Y => ?_)
  have p_q_79079 := p_q_79079.up ef_79171 ((p_q_79079.neB p_h))
  have p_q_79101 := p_q_79101.up ef_79171 ((p_q_79101.neB p_h))
  have p_h := p_h.me ef_79171
  have hk := hk.up ef_79171 (by simp)
  have hkI := hkI.up ef_79171 (by simp)
  refine lv_aload_n hx hb dX10_init_100 rfl (lv_at hl 0 rfl) ?_
  refine pg_new S Y ok_X9 kc10_35 kn9 ki9 (fs := [.null, .int 0, .int 0]) (by decide) (by decide) (by decide) dX10_init_101 (fun q_79172 f_79173 H nq_79172 ef_79173 Y => ?_)
  have whkq_79172 := hk.notin nq_79172
  have hk := hk.push ef_79173 nq_79172
  have whkIq_79172 := hkI.notin nq_79172
  have hkI := hkI.push ef_79173 nq_79172
  have p_h := p_h.push ef_79173 nq_79172
  have p_q_79079 := p_q_79079.push ef_79173 nq_79172
  have p_q_79101 := p_q_79101.push ef_79173 nq_79172
  have p_q_79172 := pt.new (L := L_79157) ef_79173
  refine lv_dup hx hb dX10_init_104 rfl ?_
  refine lv_bipush (v := 8) hx hb dX10_init_105 (by decide) ?_
  refine cIv (b := q_79172) (As := [.int 8]) (rest := [.ref q_79172, .ref h]) S Y (c_told8 (l := l) p_q_79172) cw_X9_init km10_37 rfl ⟨Nat.le_of_ble_eq_true rfl, Nat.le_of_ble_eq_true rfl⟩ hl.1 rfl (Nat.le_of_ble_eq_true rfl) ⟨Nat.le_of_ble_eq_true rfl, Nat.le_of_ble_eq_true rfl⟩ dX10_init_107 (fun L_79174 f_79175 H locs hf_79175 Y => ?_)
  obtain ⟨a__79176, kf_79175, z_z_79177, z_z_79178, v_79179⟩ := hf_79175
  have w_79180 := hk.notin v_79179
  have w_79181 := hkI.notin v_79179
  have p_h := kf_79175.1 h _ (nmc (p_h.neK p_q_79172 (by decide)) nm0) p_h
  have p_q_79079 := kf_79175.1 q_79079 _ (nmc (p_q_79079.neB p_q_79172) nm0) p_q_79079
  have p_q_79101 := kf_79175.1 q_79101 _ (nmc (p_q_79101.neB p_q_79172) nm0) p_q_79101
  have p_q_79172 := z_z_79177
  have p_a__79176 := z_z_79178
  have hk := hk.call kf_79175 (fun b hb hp => (nmc (neL hp whkq_79172) nm0))
  have hkI := hkI.call kf_79175 (fun b hb hp => (nmc (neL hp whkIq_79172) nm0))
  have nr_q_79172 : NRg gl_12 ad11 q_79172 := (SHC.nr I whkIq_79172)
  have nr_a__79176 : NRg gl_12 ad11 a__79176 := (SHC.nr I w_79181)
  have I := I.kp hkI (allc nr_h (allc nr_q_79079 (allc nr_q_79101 all0)))
  have hkI : kp L_79174 f_79175 L_79174 f_79175 [h, q_79079, q_79101, q_79172, a__79176] := kp.rf
  obtain ⟨ad12, I, X_79182, Y_79183, Z_79184⟩ := SHC.add (l2 := gl_13) I (k := 21) (n := 4) rfl (by decide) rfl p_a__79176 nr_a__79176 (okE_a (g := (fun _ => 0)) trivial) trivial
  have eq40_0 := (X_79182.2 40 0 (by decide)).trans eq40_0
  have eq41_0 := (X_79182.2 41 0 (by decide)).trans eq41_0
  have eq10_0 := (X_79182.2 10 0 (by decide)).trans eq10_0
  have eq20_0 := (X_79182.2 20 0 (by decide)).trans eq20_0
  have eq20_1 := (X_79182.2 20 1 (by decide)).trans eq20_1
  have eq20_2 := (X_79182.2 20 2 (by decide)).trans eq20_2
  have eq20_3 := (X_79182.2 20 3 (by decide)).trans eq20_3
  have nr_h := Z_79184 _ nr_h (p_h.neA p_a__79176)
  have nr_q_79079 := Z_79184 _ nr_q_79079 (p_q_79079.neN p_a__79176 (by decide))
  have nr_q_79101 := Z_79184 _ nr_q_79101 (p_q_79101.neN p_a__79176 (by decide))
  have nr_q_79172 := Z_79184 _ nr_q_79172 (p_q_79172.neA p_a__79176)
  have hout : ∀ x, x ∈ L → NRg gl_0 ad x → NRg gl_13 ad12 x := fun x hx hn => Z_79184 x (hout x hx hn) (fun e => w_79180 (by rw [← e]; exact hx))
  have hext := hext.tr X_79182
  have eq21_4 := Y_79183
  have hkI : kp L_79174 f_79175 L_79174 f_79175 [h, q_79079, q_79101, q_79172] := kp.rf
  have I := I.kp hkI (allc nr_h (allc nr_q_79079 (allc nr_q_79101 (allc nr_q_79172 all0))))
  have hkI : kp L_79174 f_79175 L_79174 f_79175 [h, q_79079, q_79101, q_79172] := kp.rf
  obtain ⟨ad13, I, X_79185, Y_79186, Z_79187⟩ := SHC.add (l2 := gl_14) I (k := 20) (n := 4) rfl (by decide) rfl p_q_79172 nr_q_79172 (okE_o (okFs_c (okV_re eq21_4) (okFs_c (okV_p (by constructor <;> decide)) (okFs_c (okV_p (by constructor <;> decide)) okFs_n)))) ⟨(show 4 < nL gl_13 21 from by decide), ⟨trivial, ⟨trivial, trivial⟩⟩⟩
  have eq40_0 := (X_79185.2 40 0 (by decide)).trans eq40_0
  have eq41_0 := (X_79185.2 41 0 (by decide)).trans eq41_0
  have eq10_0 := (X_79185.2 10 0 (by decide)).trans eq10_0
  have eq20_0 := (X_79185.2 20 0 (by decide)).trans eq20_0
  have eq20_1 := (X_79185.2 20 1 (by decide)).trans eq20_1
  have eq20_2 := (X_79185.2 20 2 (by decide)).trans eq20_2
  have eq20_3 := (X_79185.2 20 3 (by decide)).trans eq20_3
  have eq21_4 := (X_79185.2 21 4 (by decide)).trans eq21_4
  have nr_h := Z_79187 _ nr_h (p_h.neK p_q_79172 (by decide))
  have nr_q_79079 := Z_79187 _ nr_q_79079 (p_q_79079.neB p_q_79172)
  have nr_q_79101 := Z_79187 _ nr_q_79101 (p_q_79101.neB p_q_79172)
  have hout : ∀ x, x ∈ L → NRg gl_0 ad x → NRg gl_14 ad13 x := fun x hx hn => Z_79187 x (hout x hx hn) (fun e => whkq_79172 (by rw [← e]; exact hx))
  have hext := hext.tr X_79185
  have eq20_4 := Y_79186
  have hkI : kp L_79174 f_79175 L_79174 f_79175 [h, q_79079, q_79101] := kp.rf
  refine pg_putF S Y hname ok_X10 9 (by decide) kf10_53 rfl rfl (fs' := [.ref q_79067, .ref q_79073, .ref q_79079, .ref q_79082, .ref q_79101, .ref q_79104, .ref q_79121, .ref q_79138, .ref q_79155, .ref q_79172, .int 0, .int 0, .int 0, .int 0, .int 0]) (v := .ref q_79172) p_h rfl rfl rfl (Nat.le_of_ble_eq_true rfl) dX10_init_110 (fun f_79188 H locs ef_79188 Y => ?_)
  have p_q_79079 := p_q_79079.up ef_79188 ((p_q_79079.neB p_h))
  have p_q_79101 := p_q_79101.up ef_79188 ((p_q_79101.neB p_h))
  have p_h := p_h.me ef_79188
  have hk := hk.up ef_79188 (by simp)
  have hkI := hkI.up ef_79188 (by simp)
  refine lv_aload_n hx hb dX10_init_113 rfl (lv_at hl 0 rfl) ?_
  refine lv_iconst (v := (-1)) hx hb dX10_init_114 (by decide) ?_
  refine pg_put S Y ok_X10 12 (by decide) kf10_56 rfl (fs' := [.ref q_79067, .ref q_79073, .ref q_79079, .ref q_79082, .ref q_79101, .ref q_79104, .ref q_79121, .ref q_79138, .ref q_79155, .ref q_79172, .int 0, .int 0, .int (-1), .int 0, .int 0]) (v := .int (-1)) p_h rfl rfl rfl (Nat.le_of_ble_eq_true rfl) dX10_init_115 (fun f_79189 H locs ef_79189 Y => ?_)
  have p_q_79079 := p_q_79079.up ef_79189 ((p_q_79079.neB p_h))
  have p_q_79101 := p_q_79101.up ef_79189 ((p_q_79101.neB p_h))
  have p_h := p_h.me ef_79189
  have hk := hk.up ef_79189 (by simp)
  have hkI := hkI.up ef_79189 (by simp)
  have fam_sc : ∀ t, t < 0 → (fun _ => none) t = some (ad13 30 (0 + t)) := fam_0
  have fam_pa : ∀ t, t < 0 → (fun _ => none) t = some (ad13 10 (1 + t)) := fam_0
  refine lv_iconst (v := 0) hx hb dX10_init_118 (by decide) ?_
  refine lv_istore_n (lv' := [(1, .int 0), (0, .ref h)]) hx hb dX10_init_119 rfl hl (by decide) rfl (fun ls hl => ?_)
  refine lv_iload_n hx hb dX10_init_120 rfl (lv_at hl 0 rfl) ?_
  refine lv_iconst (v := 4) hx hb dX10_init_121 (by decide) ?_
  refine lv_icmp_ge (tgt := 144) hx hb dX10_init_122 (by decide) (fun h => absurd h (by decide)) (fun _ => ?_)
  refine lv_aload_n hx hb dX10_init_125 rfl (lv_at hl 1 rfl) ?_
  refine pg_get S Y ok_X10 2 (by decide) kf10_20 (v := .ref q_79079) p_h rfl dX10_init_126 ?_
  refine lv_iload_n hx hb dX10_init_129 rfl (lv_at hl 0 rfl) ?_
  refine pg_new S Y ok_X7 kc10_18 kn7 ki7 (fs := [.null, .null, .null, .null, .null, .int 0, .int 0]) (by decide) (by decide) (by decide) dX10_init_130 (fun q_79190 f_79191 H nq_79190 ef_79191 Y => ?_)
  have whkq_79190 := hk.notin nq_79190
  have hk := hk.push ef_79191 nq_79190
  have whkIq_79190 := hkI.notin nq_79190
  have hkI := hkI.push ef_79191 nq_79190
  have p_h := p_h.push ef_79191 nq_79190
  have p_q_79079 := p_q_79079.push ef_79191 nq_79190
  have p_q_79101 := p_q_79101.push ef_79191 nq_79190
  have p_q_79190 := pt.new (L := L_79174) ef_79191
  refine lv_dup hx hb dX10_init_133 rfl ?_
  refine cINv (b := q_79190) (As := []) (rest := [.ref q_79190, .int 0, .ref q_79079]) S Y (c_X7_init (l := l) p_q_79190) cw_X7_init km10_60 rfl ⟨Nat.le_of_ble_eq_true rfl, Nat.le_of_ble_eq_true rfl⟩ hl.1 rfl (Nat.le_of_ble_eq_true rfl) ⟨Nat.le_of_ble_eq_true rfl, Nat.le_of_ble_eq_true rfl⟩ dX10_init_134 (fun L_79192 f_79193 H locs hf_79193 Y => ?_)
  obtain ⟨a__79194, a__79195, a__79196, a__79197, a__79198, kf_79193, z_z_79199, z_z_79200, z_z_79201, z_z_79202, z_z_79203, z_z_79204, na1a2_79205, na3a4_79206, v_79207, v_79208, v_79209, v_79210, v_79211⟩ := hf_79193
  have w_79212 := hk.notin v_79207
  have w_79213 := hkI.notin v_79207
  have w_79214 := hk.notin v_79208
  have w_79215 := hkI.notin v_79208
  have w_79216 := hk.notin v_79209
  have w_79217 := hkI.notin v_79209
  have w_79218 := hk.notin v_79210
  have w_79219 := hkI.notin v_79210
  have w_79220 := hk.notin v_79211
  have w_79221 := hkI.notin v_79211
  have p_h := kf_79193.1 h _ (nmc (p_h.neK p_q_79190 (by decide)) nm0) p_h
  have p_q_79079 := kf_79193.1 q_79079 _ (nmc (p_q_79079.neB p_q_79190) nm0) p_q_79079
  have p_q_79101 := kf_79193.1 q_79101 _ (nmc (p_q_79101.neB p_q_79190) nm0) p_q_79101
  have p_q_79190 := z_z_79199
  have p_a__79194 := z_z_79200
  have p_a__79195 := z_z_79201
  have p_a__79196 := z_z_79202
  have p_a__79197 := z_z_79203
  have p_a__79198 := z_z_79204
  have hk := hk.call kf_79193 (fun b hb hp => (nmc (neL hp whkq_79190) nm0))
  have hkI := hkI.call kf_79193 (fun b hb hp => (nmc (neL hp whkIq_79190) nm0))
  have nr_q_79190 : NRg gl_14 ad13 q_79190 := (SHC.nr I whkIq_79190)
  have nr_a__79194 : NRg gl_14 ad13 a__79194 := (SHC.nr I w_79213)
  have nr_a__79195 : NRg gl_14 ad13 a__79195 := (SHC.nr I w_79215)
  have nr_a__79196 : NRg gl_14 ad13 a__79196 := (SHC.nr I w_79217)
  have nr_a__79197 : NRg gl_14 ad13 a__79197 := (SHC.nr I w_79219)
  have nr_a__79198 : NRg gl_14 ad13 a__79198 := (SHC.nr I w_79221)
  have I := I.kp hkI (allc nr_h (allc nr_q_79079 (allc nr_q_79101 all0)))
  have hkI : kp L_79192 f_79193 L_79192 f_79193 [h, q_79079, q_79101] := kp.rf
  obtain ⟨ad14, I, X_79222, Y_79223, Z_79224⟩ := SHC.scr (l2 := gl_15) (n := 0) I rfl rfl rfl rfl rfl rfl (by decide) rfl p_q_79190 p_a__79194 p_a__79195 p_a__79196 p_a__79197 p_a__79198 nr_q_79190 nr_a__79194 nr_a__79195 nr_a__79196 nr_a__79197 nr_a__79198 (na1a2_79205) (na3a4_79206)
  have eq40_0 := (X_79222.2 40 0 (by decide)).trans eq40_0
  have eq41_0 := (X_79222.2 41 0 (by decide)).trans eq41_0
  have eq10_0 := (X_79222.2 10 0 (by decide)).trans eq10_0
  have eq20_0 := (X_79222.2 20 0 (by decide)).trans eq20_0
  have eq20_1 := (X_79222.2 20 1 (by decide)).trans eq20_1
  have eq20_2 := (X_79222.2 20 2 (by decide)).trans eq20_2
  have eq20_3 := (X_79222.2 20 3 (by decide)).trans eq20_3
  have eq20_4 := (X_79222.2 20 4 (by decide)).trans eq20_4
  have fam_sc := fam_x fam_sc X_79222 (by decide)
  have fam_pa := fam_x fam_pa X_79222 (by decide)
  have nr_h := Z_79224 _ nr_h (p_h.neK p_q_79190 (by decide)) (p_h.neA p_a__79194) (p_h.neA p_a__79195) (p_h.neA p_a__79196) (p_h.neA p_a__79197) (p_h.neA p_a__79198)
  have nr_q_79079 := Z_79224 _ nr_q_79079 (p_q_79079.neB p_q_79190) (p_q_79079.neN p_a__79194 (by decide)) (p_q_79079.neN p_a__79195 (by decide)) (p_q_79079.neN p_a__79196 (by decide)) (p_q_79079.neN p_a__79197 (by decide)) (p_q_79079.neN p_a__79198 (by decide))
  have nr_q_79101 := Z_79224 _ nr_q_79101 (p_q_79101.neB p_q_79190) (p_q_79101.neN p_a__79194 (by decide)) (p_q_79101.neN p_a__79195 (by decide)) (p_q_79101.neN p_a__79196 (by decide)) (p_q_79101.neN p_a__79197 (by decide)) (p_q_79101.neN p_a__79198 (by decide))
  have hout : ∀ x, x ∈ L → NRg gl_0 ad x → NRg gl_15 ad14 x := fun x hx hn => Z_79224 x (hout x hx hn) (fun e => whkq_79190 (by rw [← e]; exact hx)) (fun e => w_79212 (by rw [← e]; exact hx)) (fun e => w_79214 (by rw [← e]; exact hx)) (fun e => w_79216 (by rw [← e]; exact hx)) (fun e => w_79218 (by rw [← e]; exact hx)) (fun e => w_79220 (by rw [← e]; exact hx))
  have hext := hext.tr X_79222
  have eq30_0 := Y_79223
  have hkI : kp L_79192 f_79193 L_79192 f_79193 [h, q_79079, q_79101] := kp.rf
  refine pg_aast S Y (k := 4) p_q_79079 rfl p_q_79190 ok_X7.1 (by unfold vp_in; decide) dX10_init_137 (fun f_79226 H locs ef_79226 Y => ?_)
  obtain ⟨g_79225, eg_79225⟩ : ∃ z, z = va_up ((fun _ => none)) (0 : Int32).toNatClampNeg (some q_79190) := ⟨_, rfl⟩
  rw [← eg_79225] at ef_79226
  have p_h := p_h.up ef_79226 ((p_h.neA p_q_79079))
  have p_q_79101 := p_q_79101.up ef_79226 ((p_q_79101.neN p_q_79079 (by decide)))
  have p_q_79190 := p_q_79190.up ef_79226 ((p_q_79190.neA p_q_79079))
  have p_q_79079 := p_q_79079.me ef_79226
  have hk := hk.upN ef_79226 whkq_79079
  have hkI := hkI.up ef_79226 (by simp)
  have fam_sc := fam_s (i := 0) fam_sc eq30_0 eg_79225
  refine lv_iinc (v := 1) (lv' := [(1, .int 1), (0, .ref h)]) hx hb dX10_init_138 hl (k := 0) rfl (by decide) (by decide) rfl (fun ls hl => ?_)
  refine lv_goto (tgt := 120) hx hb dX10_init_141 (by decide) ?_
  refine lv_iload_n hx hb dX10_init_120 rfl (lv_at hl 0 rfl) ?_
  refine lv_iconst (v := 4) hx hb dX10_init_121 (by decide) ?_
  refine lv_icmp_ge (tgt := 144) hx hb dX10_init_122 (by decide) (fun h => absurd h (by decide)) (fun _ => ?_)
  refine lv_aload_n hx hb dX10_init_125 rfl (lv_at hl 1 rfl) ?_
  refine pg_get S Y ok_X10 2 (by decide) kf10_20 (v := .ref q_79079) p_h rfl dX10_init_126 ?_
  refine lv_iload_n hx hb dX10_init_129 rfl (lv_at hl 0 rfl) ?_
  refine pg_new S Y ok_X7 kc10_18 kn7 ki7 (fs := [.null, .null, .null, .null, .null, .int 0, .int 0]) (by decide) (by decide) (by decide) dX10_init_130 (fun q_79227 f_79228 H nq_79227 ef_79228 Y => ?_)
  have whkq_79227 := hk.notin nq_79227
  have hk := hk.push ef_79228 nq_79227
  have whkIq_79227 := hkI.notin nq_79227
  have hkI := hkI.push ef_79228 nq_79227
  have p_h := p_h.push ef_79228 nq_79227
  have p_q_79079 := p_q_79079.push ef_79228 nq_79227
  have p_q_79101 := p_q_79101.push ef_79228 nq_79227
  have p_q_79227 := pt.new (L := L_79192) ef_79228
  refine lv_dup hx hb dX10_init_133 rfl ?_
  refine cINv (b := q_79227) (As := []) (rest := [.ref q_79227, .int 1, .ref q_79079]) S Y (c_X7_init (l := l) p_q_79227) cw_X7_init km10_60 rfl ⟨Nat.le_of_ble_eq_true rfl, Nat.le_of_ble_eq_true rfl⟩ hl.1 rfl (Nat.le_of_ble_eq_true rfl) ⟨Nat.le_of_ble_eq_true rfl, Nat.le_of_ble_eq_true rfl⟩ dX10_init_134 (fun L_79229 f_79230 H locs hf_79230 Y => ?_)
  obtain ⟨a__79231, a__79232, a__79233, a__79234, a__79235, kf_79230, z_z_79236, z_z_79237, z_z_79238, z_z_79239, z_z_79240, z_z_79241, na1a2_79242, na3a4_79243, v_79244, v_79245, v_79246, v_79247, v_79248⟩ := hf_79230
  have w_79249 := hk.notin v_79244
  have w_79250 := hkI.notin v_79244
  have w_79251 := hk.notin v_79245
  have w_79252 := hkI.notin v_79245
  have w_79253 := hk.notin v_79246
  have w_79254 := hkI.notin v_79246
  have w_79255 := hk.notin v_79247
  have w_79256 := hkI.notin v_79247
  have w_79257 := hk.notin v_79248
  have w_79258 := hkI.notin v_79248
  have p_h := kf_79230.1 h _ (nmc (p_h.neK p_q_79227 (by decide)) nm0) p_h
  have p_q_79079 := kf_79230.1 q_79079 _ (nmc (p_q_79079.neB p_q_79227) nm0) p_q_79079
  have p_q_79101 := kf_79230.1 q_79101 _ (nmc (p_q_79101.neB p_q_79227) nm0) p_q_79101
  have p_q_79227 := z_z_79236
  have p_a__79231 := z_z_79237
  have p_a__79232 := z_z_79238
  have p_a__79233 := z_z_79239
  have p_a__79234 := z_z_79240
  have p_a__79235 := z_z_79241
  have hk := hk.call kf_79230 (fun b hb hp => (nmc (neL hp whkq_79227) nm0))
  have hkI := hkI.call kf_79230 (fun b hb hp => (nmc (neL hp whkIq_79227) nm0))
  have nr_q_79227 : NRg gl_15 ad14 q_79227 := (SHC.nr I whkIq_79227)
  have nr_a__79231 : NRg gl_15 ad14 a__79231 := (SHC.nr I w_79250)
  have nr_a__79232 : NRg gl_15 ad14 a__79232 := (SHC.nr I w_79252)
  have nr_a__79233 : NRg gl_15 ad14 a__79233 := (SHC.nr I w_79254)
  have nr_a__79234 : NRg gl_15 ad14 a__79234 := (SHC.nr I w_79256)
  have nr_a__79235 : NRg gl_15 ad14 a__79235 := (SHC.nr I w_79258)
  have I := I.kp hkI (allc nr_h (allc nr_q_79079 (allc nr_q_79101 all0)))
  have hkI : kp L_79229 f_79230 L_79229 f_79230 [h, q_79079, q_79101] := kp.rf
  obtain ⟨ad15, I, X_79259, Y_79260, Z_79261⟩ := SHC.scr (l2 := gl_16) (n := 1) I rfl rfl rfl rfl rfl rfl (by decide) rfl p_q_79227 p_a__79231 p_a__79232 p_a__79233 p_a__79234 p_a__79235 nr_q_79227 nr_a__79231 nr_a__79232 nr_a__79233 nr_a__79234 nr_a__79235 (na1a2_79242) (na3a4_79243)
  have eq40_0 := (X_79259.2 40 0 (by decide)).trans eq40_0
  have eq41_0 := (X_79259.2 41 0 (by decide)).trans eq41_0
  have eq10_0 := (X_79259.2 10 0 (by decide)).trans eq10_0
  have eq20_0 := (X_79259.2 20 0 (by decide)).trans eq20_0
  have eq20_1 := (X_79259.2 20 1 (by decide)).trans eq20_1
  have eq20_2 := (X_79259.2 20 2 (by decide)).trans eq20_2
  have eq20_3 := (X_79259.2 20 3 (by decide)).trans eq20_3
  have eq20_4 := (X_79259.2 20 4 (by decide)).trans eq20_4
  have fam_sc := fam_x fam_sc X_79259 (by decide)
  have fam_pa := fam_x fam_pa X_79259 (by decide)
  have nr_h := Z_79261 _ nr_h (p_h.neK p_q_79227 (by decide)) (p_h.neA p_a__79231) (p_h.neA p_a__79232) (p_h.neA p_a__79233) (p_h.neA p_a__79234) (p_h.neA p_a__79235)
  have nr_q_79079 := Z_79261 _ nr_q_79079 (p_q_79079.neB p_q_79227) (p_q_79079.neN p_a__79231 (by decide)) (p_q_79079.neN p_a__79232 (by decide)) (p_q_79079.neN p_a__79233 (by decide)) (p_q_79079.neN p_a__79234 (by decide)) (p_q_79079.neN p_a__79235 (by decide))
  have nr_q_79101 := Z_79261 _ nr_q_79101 (p_q_79101.neB p_q_79227) (p_q_79101.neN p_a__79231 (by decide)) (p_q_79101.neN p_a__79232 (by decide)) (p_q_79101.neN p_a__79233 (by decide)) (p_q_79101.neN p_a__79234 (by decide)) (p_q_79101.neN p_a__79235 (by decide))
  have hout : ∀ x, x ∈ L → NRg gl_0 ad x → NRg gl_16 ad15 x := fun x hx hn => Z_79261 x (hout x hx hn) (fun e => whkq_79227 (by rw [← e]; exact hx)) (fun e => w_79249 (by rw [← e]; exact hx)) (fun e => w_79251 (by rw [← e]; exact hx)) (fun e => w_79253 (by rw [← e]; exact hx)) (fun e => w_79255 (by rw [← e]; exact hx)) (fun e => w_79257 (by rw [← e]; exact hx))
  have hext := hext.tr X_79259
  have eq30_1 := Y_79260
  have hkI : kp L_79229 f_79230 L_79229 f_79230 [h, q_79079, q_79101] := kp.rf
  refine pg_aast S Y (k := 4) p_q_79079 rfl p_q_79227 ok_X7.1 (by unfold vp_in; decide) dX10_init_137 (fun f_79263 H locs ef_79263 Y => ?_)
  obtain ⟨g_79262, eg_79262⟩ : ∃ z, z = va_up (g_79225) (1 : Int32).toNatClampNeg (some q_79227) := ⟨_, rfl⟩
  rw [← eg_79262] at ef_79263
  have p_h := p_h.up ef_79263 ((p_h.neA p_q_79079))
  have p_q_79101 := p_q_79101.up ef_79263 ((p_q_79101.neN p_q_79079 (by decide)))
  have p_q_79227 := p_q_79227.up ef_79263 ((p_q_79227.neA p_q_79079))
  have p_q_79079 := p_q_79079.me ef_79263
  have hk := hk.upN ef_79263 whkq_79079
  have hkI := hkI.up ef_79263 (by simp)
  have fam_sc := fam_s (i := 1) fam_sc eq30_1 eg_79262
  refine lv_iinc (v := 2) (lv' := [(1, .int 2), (0, .ref h)]) hx hb dX10_init_138 hl (k := 0) rfl (by decide) (by decide) rfl (fun ls hl => ?_)
  refine lv_goto (tgt := 120) hx hb dX10_init_141 (by decide) ?_
  refine lv_iload_n hx hb dX10_init_120 rfl (lv_at hl 0 rfl) ?_
  refine lv_iconst (v := 4) hx hb dX10_init_121 (by decide) ?_
  refine lv_icmp_ge (tgt := 144) hx hb dX10_init_122 (by decide) (fun h => absurd h (by decide)) (fun _ => ?_)
  refine lv_aload_n hx hb dX10_init_125 rfl (lv_at hl 1 rfl) ?_
  refine pg_get S Y ok_X10 2 (by decide) kf10_20 (v := .ref q_79079) p_h rfl dX10_init_126 ?_
  refine lv_iload_n hx hb dX10_init_129 rfl (lv_at hl 0 rfl) ?_
  refine pg_new S Y ok_X7 kc10_18 kn7 ki7 (fs := [.null, .null, .null, .null, .null, .int 0, .int 0]) (by decide) (by decide) (by decide) dX10_init_130 (fun q_79264 f_79265 H nq_79264 ef_79265 Y => ?_)
  have whkq_79264 := hk.notin nq_79264
  have hk := hk.push ef_79265 nq_79264
  have whkIq_79264 := hkI.notin nq_79264
  have hkI := hkI.push ef_79265 nq_79264
  have p_h := p_h.push ef_79265 nq_79264
  have p_q_79079 := p_q_79079.push ef_79265 nq_79264
  have p_q_79101 := p_q_79101.push ef_79265 nq_79264
  have p_q_79264 := pt.new (L := L_79229) ef_79265
  refine lv_dup hx hb dX10_init_133 rfl ?_
  refine cINv (b := q_79264) (As := []) (rest := [.ref q_79264, .int 2, .ref q_79079]) S Y (c_X7_init (l := l) p_q_79264) cw_X7_init km10_60 rfl ⟨Nat.le_of_ble_eq_true rfl, Nat.le_of_ble_eq_true rfl⟩ hl.1 rfl (Nat.le_of_ble_eq_true rfl) ⟨Nat.le_of_ble_eq_true rfl, Nat.le_of_ble_eq_true rfl⟩ dX10_init_134 (fun L_79266 f_79267 H locs hf_79267 Y => ?_)
  obtain ⟨a__79268, a__79269, a__79270, a__79271, a__79272, kf_79267, z_z_79273, z_z_79274, z_z_79275, z_z_79276, z_z_79277, z_z_79278, na1a2_79279, na3a4_79280, v_79281, v_79282, v_79283, v_79284, v_79285⟩ := hf_79267
  have w_79286 := hk.notin v_79281
  have w_79287 := hkI.notin v_79281
  have w_79288 := hk.notin v_79282
  have w_79289 := hkI.notin v_79282
  have w_79290 := hk.notin v_79283
  have w_79291 := hkI.notin v_79283
  have w_79292 := hk.notin v_79284
  have w_79293 := hkI.notin v_79284
  have w_79294 := hk.notin v_79285
  have w_79295 := hkI.notin v_79285
  have p_h := kf_79267.1 h _ (nmc (p_h.neK p_q_79264 (by decide)) nm0) p_h
  have p_q_79079 := kf_79267.1 q_79079 _ (nmc (p_q_79079.neB p_q_79264) nm0) p_q_79079
  have p_q_79101 := kf_79267.1 q_79101 _ (nmc (p_q_79101.neB p_q_79264) nm0) p_q_79101
  have p_q_79264 := z_z_79273
  have p_a__79268 := z_z_79274
  have p_a__79269 := z_z_79275
  have p_a__79270 := z_z_79276
  have p_a__79271 := z_z_79277
  have p_a__79272 := z_z_79278
  have hk := hk.call kf_79267 (fun b hb hp => (nmc (neL hp whkq_79264) nm0))
  have hkI := hkI.call kf_79267 (fun b hb hp => (nmc (neL hp whkIq_79264) nm0))
  have nr_q_79264 : NRg gl_16 ad15 q_79264 := (SHC.nr I whkIq_79264)
  have nr_a__79268 : NRg gl_16 ad15 a__79268 := (SHC.nr I w_79287)
  have nr_a__79269 : NRg gl_16 ad15 a__79269 := (SHC.nr I w_79289)
  have nr_a__79270 : NRg gl_16 ad15 a__79270 := (SHC.nr I w_79291)
  have nr_a__79271 : NRg gl_16 ad15 a__79271 := (SHC.nr I w_79293)
  have nr_a__79272 : NRg gl_16 ad15 a__79272 := (SHC.nr I w_79295)
  have I := I.kp hkI (allc nr_h (allc nr_q_79079 (allc nr_q_79101 all0)))
  have hkI : kp L_79266 f_79267 L_79266 f_79267 [h, q_79079, q_79101] := kp.rf
  obtain ⟨ad16, I, X_79296, Y_79297, Z_79298⟩ := SHC.scr (l2 := gl_17) (n := 2) I rfl rfl rfl rfl rfl rfl (by decide) rfl p_q_79264 p_a__79268 p_a__79269 p_a__79270 p_a__79271 p_a__79272 nr_q_79264 nr_a__79268 nr_a__79269 nr_a__79270 nr_a__79271 nr_a__79272 (na1a2_79279) (na3a4_79280)
  have eq40_0 := (X_79296.2 40 0 (by decide)).trans eq40_0
  have eq41_0 := (X_79296.2 41 0 (by decide)).trans eq41_0
  have eq10_0 := (X_79296.2 10 0 (by decide)).trans eq10_0
  have eq20_0 := (X_79296.2 20 0 (by decide)).trans eq20_0
  have eq20_1 := (X_79296.2 20 1 (by decide)).trans eq20_1
  have eq20_2 := (X_79296.2 20 2 (by decide)).trans eq20_2
  have eq20_3 := (X_79296.2 20 3 (by decide)).trans eq20_3
  have eq20_4 := (X_79296.2 20 4 (by decide)).trans eq20_4
  have fam_sc := fam_x fam_sc X_79296 (by decide)
  have fam_pa := fam_x fam_pa X_79296 (by decide)
  have nr_h := Z_79298 _ nr_h (p_h.neK p_q_79264 (by decide)) (p_h.neA p_a__79268) (p_h.neA p_a__79269) (p_h.neA p_a__79270) (p_h.neA p_a__79271) (p_h.neA p_a__79272)
  have nr_q_79079 := Z_79298 _ nr_q_79079 (p_q_79079.neB p_q_79264) (p_q_79079.neN p_a__79268 (by decide)) (p_q_79079.neN p_a__79269 (by decide)) (p_q_79079.neN p_a__79270 (by decide)) (p_q_79079.neN p_a__79271 (by decide)) (p_q_79079.neN p_a__79272 (by decide))
  have nr_q_79101 := Z_79298 _ nr_q_79101 (p_q_79101.neB p_q_79264) (p_q_79101.neN p_a__79268 (by decide)) (p_q_79101.neN p_a__79269 (by decide)) (p_q_79101.neN p_a__79270 (by decide)) (p_q_79101.neN p_a__79271 (by decide)) (p_q_79101.neN p_a__79272 (by decide))
  have hout : ∀ x, x ∈ L → NRg gl_0 ad x → NRg gl_17 ad16 x := fun x hx hn => Z_79298 x (hout x hx hn) (fun e => whkq_79264 (by rw [← e]; exact hx)) (fun e => w_79286 (by rw [← e]; exact hx)) (fun e => w_79288 (by rw [← e]; exact hx)) (fun e => w_79290 (by rw [← e]; exact hx)) (fun e => w_79292 (by rw [← e]; exact hx)) (fun e => w_79294 (by rw [← e]; exact hx))
  have hext := hext.tr X_79296
  have eq30_2 := Y_79297
  have hkI : kp L_79266 f_79267 L_79266 f_79267 [h, q_79079, q_79101] := kp.rf
  refine pg_aast S Y (k := 4) p_q_79079 rfl p_q_79264 ok_X7.1 (by unfold vp_in; decide) dX10_init_137 (fun f_79300 H locs ef_79300 Y => ?_)
  obtain ⟨g_79299, eg_79299⟩ : ∃ z, z = va_up (g_79262) (2 : Int32).toNatClampNeg (some q_79264) := ⟨_, rfl⟩
  rw [← eg_79299] at ef_79300
  have p_h := p_h.up ef_79300 ((p_h.neA p_q_79079))
  have p_q_79101 := p_q_79101.up ef_79300 ((p_q_79101.neN p_q_79079 (by decide)))
  have p_q_79264 := p_q_79264.up ef_79300 ((p_q_79264.neA p_q_79079))
  have p_q_79079 := p_q_79079.me ef_79300
  have hk := hk.upN ef_79300 whkq_79079
  have hkI := hkI.up ef_79300 (by simp)
  have fam_sc := fam_s (i := 2) fam_sc eq30_2 eg_79299
  refine lv_iinc (v := 3) (lv' := [(1, .int 3), (0, .ref h)]) hx hb dX10_init_138 hl (k := 0) rfl (by decide) (by decide) rfl (fun ls hl => ?_)
  refine lv_goto (tgt := 120) hx hb dX10_init_141 (by decide) ?_
  refine lv_iload_n hx hb dX10_init_120 rfl (lv_at hl 0 rfl) ?_
  refine lv_iconst (v := 4) hx hb dX10_init_121 (by decide) ?_
  refine lv_icmp_ge (tgt := 144) hx hb dX10_init_122 (by decide) (fun h => absurd h (by decide)) (fun _ => ?_)
  refine lv_aload_n hx hb dX10_init_125 rfl (lv_at hl 1 rfl) ?_
  refine pg_get S Y ok_X10 2 (by decide) kf10_20 (v := .ref q_79079) p_h rfl dX10_init_126 ?_
  refine lv_iload_n hx hb dX10_init_129 rfl (lv_at hl 0 rfl) ?_
  refine pg_new S Y ok_X7 kc10_18 kn7 ki7 (fs := [.null, .null, .null, .null, .null, .int 0, .int 0]) (by decide) (by decide) (by decide) dX10_init_130 (fun q_79301 f_79302 H nq_79301 ef_79302 Y => ?_)
  have whkq_79301 := hk.notin nq_79301
  have hk := hk.push ef_79302 nq_79301
  have whkIq_79301 := hkI.notin nq_79301
  have hkI := hkI.push ef_79302 nq_79301
  have p_h := p_h.push ef_79302 nq_79301
  have p_q_79079 := p_q_79079.push ef_79302 nq_79301
  have p_q_79101 := p_q_79101.push ef_79302 nq_79301
  have p_q_79301 := pt.new (L := L_79266) ef_79302
  refine lv_dup hx hb dX10_init_133 rfl ?_
  refine cINv (b := q_79301) (As := []) (rest := [.ref q_79301, .int 3, .ref q_79079]) S Y (c_X7_init (l := l) p_q_79301) cw_X7_init km10_60 rfl ⟨Nat.le_of_ble_eq_true rfl, Nat.le_of_ble_eq_true rfl⟩ hl.1 rfl (Nat.le_of_ble_eq_true rfl) ⟨Nat.le_of_ble_eq_true rfl, Nat.le_of_ble_eq_true rfl⟩ dX10_init_134 (fun L_79303 f_79304 H locs hf_79304 Y => ?_)
  obtain ⟨a__79305, a__79306, a__79307, a__79308, a__79309, kf_79304, z_z_79310, z_z_79311, z_z_79312, z_z_79313, z_z_79314, z_z_79315, na1a2_79316, na3a4_79317, v_79318, v_79319, v_79320, v_79321, v_79322⟩ := hf_79304
  have w_79323 := hk.notin v_79318
  have w_79324 := hkI.notin v_79318
  have w_79325 := hk.notin v_79319
  have w_79326 := hkI.notin v_79319
  have w_79327 := hk.notin v_79320
  have w_79328 := hkI.notin v_79320
  have w_79329 := hk.notin v_79321
  have w_79330 := hkI.notin v_79321
  have w_79331 := hk.notin v_79322
  have w_79332 := hkI.notin v_79322
  have p_h := kf_79304.1 h _ (nmc (p_h.neK p_q_79301 (by decide)) nm0) p_h
  have p_q_79079 := kf_79304.1 q_79079 _ (nmc (p_q_79079.neB p_q_79301) nm0) p_q_79079
  have p_q_79101 := kf_79304.1 q_79101 _ (nmc (p_q_79101.neB p_q_79301) nm0) p_q_79101
  have p_q_79301 := z_z_79310
  have p_a__79305 := z_z_79311
  have p_a__79306 := z_z_79312
  have p_a__79307 := z_z_79313
  have p_a__79308 := z_z_79314
  have p_a__79309 := z_z_79315
  have hk := hk.call kf_79304 (fun b hb hp => (nmc (neL hp whkq_79301) nm0))
  have hkI := hkI.call kf_79304 (fun b hb hp => (nmc (neL hp whkIq_79301) nm0))
  have nr_q_79301 : NRg gl_17 ad16 q_79301 := (SHC.nr I whkIq_79301)
  have nr_a__79305 : NRg gl_17 ad16 a__79305 := (SHC.nr I w_79324)
  have nr_a__79306 : NRg gl_17 ad16 a__79306 := (SHC.nr I w_79326)
  have nr_a__79307 : NRg gl_17 ad16 a__79307 := (SHC.nr I w_79328)
  have nr_a__79308 : NRg gl_17 ad16 a__79308 := (SHC.nr I w_79330)
  have nr_a__79309 : NRg gl_17 ad16 a__79309 := (SHC.nr I w_79332)
  have I := I.kp hkI (allc nr_h (allc nr_q_79079 (allc nr_q_79101 all0)))
  have hkI : kp L_79303 f_79304 L_79303 f_79304 [h, q_79079, q_79101] := kp.rf
  obtain ⟨ad17, I, X_79333, Y_79334, Z_79335⟩ := SHC.scr (l2 := gl_18) (n := 3) I rfl rfl rfl rfl rfl rfl (by decide) rfl p_q_79301 p_a__79305 p_a__79306 p_a__79307 p_a__79308 p_a__79309 nr_q_79301 nr_a__79305 nr_a__79306 nr_a__79307 nr_a__79308 nr_a__79309 (na1a2_79316) (na3a4_79317)
  have eq40_0 := (X_79333.2 40 0 (by decide)).trans eq40_0
  have eq41_0 := (X_79333.2 41 0 (by decide)).trans eq41_0
  have eq10_0 := (X_79333.2 10 0 (by decide)).trans eq10_0
  have eq20_0 := (X_79333.2 20 0 (by decide)).trans eq20_0
  have eq20_1 := (X_79333.2 20 1 (by decide)).trans eq20_1
  have eq20_2 := (X_79333.2 20 2 (by decide)).trans eq20_2
  have eq20_3 := (X_79333.2 20 3 (by decide)).trans eq20_3
  have eq20_4 := (X_79333.2 20 4 (by decide)).trans eq20_4
  have fam_sc := fam_x fam_sc X_79333 (by decide)
  have fam_pa := fam_x fam_pa X_79333 (by decide)
  have nr_h := Z_79335 _ nr_h (p_h.neK p_q_79301 (by decide)) (p_h.neA p_a__79305) (p_h.neA p_a__79306) (p_h.neA p_a__79307) (p_h.neA p_a__79308) (p_h.neA p_a__79309)
  have nr_q_79079 := Z_79335 _ nr_q_79079 (p_q_79079.neB p_q_79301) (p_q_79079.neN p_a__79305 (by decide)) (p_q_79079.neN p_a__79306 (by decide)) (p_q_79079.neN p_a__79307 (by decide)) (p_q_79079.neN p_a__79308 (by decide)) (p_q_79079.neN p_a__79309 (by decide))
  have nr_q_79101 := Z_79335 _ nr_q_79101 (p_q_79101.neB p_q_79301) (p_q_79101.neN p_a__79305 (by decide)) (p_q_79101.neN p_a__79306 (by decide)) (p_q_79101.neN p_a__79307 (by decide)) (p_q_79101.neN p_a__79308 (by decide)) (p_q_79101.neN p_a__79309 (by decide))
  have hout : ∀ x, x ∈ L → NRg gl_0 ad x → NRg gl_18 ad17 x := fun x hx hn => Z_79335 x (hout x hx hn) (fun e => whkq_79301 (by rw [← e]; exact hx)) (fun e => w_79323 (by rw [← e]; exact hx)) (fun e => w_79325 (by rw [← e]; exact hx)) (fun e => w_79327 (by rw [← e]; exact hx)) (fun e => w_79329 (by rw [← e]; exact hx)) (fun e => w_79331 (by rw [← e]; exact hx))
  have hext := hext.tr X_79333
  have eq30_3 := Y_79334
  have hkI : kp L_79303 f_79304 L_79303 f_79304 [h, q_79079, q_79101] := kp.rf
  refine pg_aast S Y (k := 4) p_q_79079 rfl p_q_79301 ok_X7.1 (by unfold vp_in; decide) dX10_init_137 (fun f_79337 H locs ef_79337 Y => ?_)
  obtain ⟨g_79336, eg_79336⟩ : ∃ z, z = va_up (g_79299) (3 : Int32).toNatClampNeg (some q_79301) := ⟨_, rfl⟩
  rw [← eg_79336] at ef_79337
  have p_h := p_h.up ef_79337 ((p_h.neA p_q_79079))
  have p_q_79101 := p_q_79101.up ef_79337 ((p_q_79101.neN p_q_79079 (by decide)))
  have p_q_79301 := p_q_79301.up ef_79337 ((p_q_79301.neA p_q_79079))
  have p_q_79079 := p_q_79079.me ef_79337
  have hk := hk.upN ef_79337 whkq_79079
  have hkI := hkI.up ef_79337 (by simp)
  have fam_sc := fam_s (i := 3) fam_sc eq30_3 eg_79336
  refine lv_iinc (v := 4) (lv' := [(1, .int 4), (0, .ref h)]) hx hb dX10_init_138 hl (k := 0) rfl (by decide) (by decide) rfl (fun ls hl => ?_)
  refine lv_goto (tgt := 120) hx hb dX10_init_141 (by decide) ?_
  refine lv_iload_n hx hb dX10_init_120 rfl (lv_at hl 0 rfl) ?_
  refine lv_iconst (v := 4) hx hb dX10_init_121 (by decide) ?_
  refine lv_icmp_ge (tgt := 144) hx hb dX10_init_122 (by decide) (fun _ => ?_) (fun h => absurd (by decide) h)
  refine lv_iconst (v := 0) hx hb dX10_init_144 (by decide) ?_
  refine lv_istore_n (lv' := [(1, .int 0), (0, .ref h)]) hx hb dX10_init_145 rfl hl (by decide) rfl (fun ls hl => ?_)
  refine lv_iload_n hx hb dX10_init_146 rfl (lv_at hl 0 rfl) ?_
  refine lv_bipush (v := 30) hx hb dX10_init_147 (by decide) ?_
  refine lv_icmp_ge (tgt := 171) hx hb dX10_init_149 (by decide) (fun h => absurd h (by decide)) (fun _ => ?_)
  refine lv_aload_n hx hb dX10_init_152 rfl (lv_at hl 1 rfl) ?_
  refine pg_get S Y ok_X10 4 (by decide) kf10_31 (v := .ref q_79101) p_h rfl dX10_init_153 ?_
  refine lv_iload_n hx hb dX10_init_156 rfl (lv_at hl 0 rfl) ?_
  refine pg_new S Y ok_X4 kc10_24 kn4 ki4 (fs := [.null, .null, .int 0, .int 0, .int 0, .int 0, .int 0]) (by decide) (by decide) (by decide) dX10_init_157 (fun q_79338 f_79339 H nq_79338 ef_79339 Y => ?_)
  have whkq_79338 := hk.notin nq_79338
  have hk := hk.push ef_79339 nq_79338
  have whkIq_79338 := hkI.notin nq_79338
  have hkI := hkI.push ef_79339 nq_79338
  have p_h := p_h.push ef_79339 nq_79338
  have p_q_79079 := p_q_79079.push ef_79339 nq_79338
  have p_q_79101 := p_q_79101.push ef_79339 nq_79338
  have p_q_79338 := pt.new (L := L_79303) ef_79339
  refine lv_dup hx hb dX10_init_160 rfl ?_
  refine cINv (b := q_79338) (As := []) (rest := [.ref q_79338, .int 0, .ref q_79101]) S Y (c_X4_init (l := l) p_q_79338) cw_X4_init km10_26 rfl ⟨Nat.le_of_ble_eq_true rfl, Nat.le_of_ble_eq_true rfl⟩ hl.1 rfl (Nat.le_of_ble_eq_true rfl) ⟨Nat.le_of_ble_eq_true rfl, Nat.le_of_ble_eq_true rfl⟩ dX10_init_161 (fun L_79340 f_79341 H locs hf_79341 Y => ?_)
  obtain ⟨a__79342, a__79343, kf_79341, z_z_79344, z_z_79345, z_z_79346, v_79347, v_79348⟩ := hf_79341
  have w_79349 := hk.notin v_79347
  have w_79350 := hkI.notin v_79347
  have w_79351 := hk.notin v_79348
  have w_79352 := hkI.notin v_79348
  have p_h := kf_79341.1 h _ (nmc (p_h.neK p_q_79338 (by decide)) nm0) p_h
  have p_q_79079 := kf_79341.1 q_79079 _ (nmc (p_q_79079.neB p_q_79338) nm0) p_q_79079
  have p_q_79101 := kf_79341.1 q_79101 _ (nmc (p_q_79101.neB p_q_79338) nm0) p_q_79101
  have p_q_79338 := z_z_79344
  have p_a__79342 := z_z_79345
  have p_a__79343 := z_z_79346
  have hk := hk.call kf_79341 (fun b hb hp => (nmc (neL hp whkq_79338) nm0))
  have hkI := hkI.call kf_79341 (fun b hb hp => (nmc (neL hp whkIq_79338) nm0))
  have nr_q_79338 : NRg gl_18 ad17 q_79338 := (SHC.nr I whkIq_79338)
  have nr_a__79342 : NRg gl_18 ad17 a__79342 := (SHC.nr I w_79350)
  have nr_a__79343 : NRg gl_18 ad17 a__79343 := (SHC.nr I w_79352)
  have I := I.kp hkI (allc nr_h (allc nr_q_79079 (allc nr_q_79101 all0)))
  have hkI : kp L_79340 f_79341 L_79340 f_79341 [h, q_79079, q_79101] := kp.rf
  obtain ⟨ad18, I, X_79353, Y_79354, Z_79355⟩ := SHC.led (l2 := gl_19) (n := 1) I rfl rfl rfl (by decide) rfl p_q_79338 p_a__79342 p_a__79343 nr_q_79338 nr_a__79342 nr_a__79343 
  have eq40_0 := (X_79353.2 40 0 (by decide)).trans eq40_0
  have eq41_0 := (X_79353.2 41 0 (by decide)).trans eq41_0
  have eq10_0 := (X_79353.2 10 0 (by decide)).trans eq10_0
  have eq20_0 := (X_79353.2 20 0 (by decide)).trans eq20_0
  have eq20_1 := (X_79353.2 20 1 (by decide)).trans eq20_1
  have eq20_2 := (X_79353.2 20 2 (by decide)).trans eq20_2
  have eq20_3 := (X_79353.2 20 3 (by decide)).trans eq20_3
  have eq20_4 := (X_79353.2 20 4 (by decide)).trans eq20_4
  have fam_sc := fam_x fam_sc X_79353 (by decide)
  have fam_pa := fam_x fam_pa X_79353 (by decide)
  have nr_h := Z_79355 _ nr_h (p_h.neK p_q_79338 (by decide)) (p_h.neA p_a__79342) (p_h.neA p_a__79343)
  have nr_q_79079 := Z_79355 _ nr_q_79079 (p_q_79079.neB p_q_79338) (p_q_79079.neN p_a__79342 (by decide)) (p_q_79079.neN p_a__79343 (by decide))
  have nr_q_79101 := Z_79355 _ nr_q_79101 (p_q_79101.neB p_q_79338) (p_q_79101.neN p_a__79342 (by decide)) (p_q_79101.neN p_a__79343 (by decide))
  have hout : ∀ x, x ∈ L → NRg gl_0 ad x → NRg gl_19 ad18 x := fun x hx hn => Z_79355 x (hout x hx hn) (fun e => whkq_79338 (by rw [← e]; exact hx)) (fun e => w_79349 (by rw [← e]; exact hx)) (fun e => w_79351 (by rw [← e]; exact hx))
  have hext := hext.tr X_79353
  have eq10_1 := Y_79354
  have hkI : kp L_79340 f_79341 L_79340 f_79341 [h, q_79079, q_79101] := kp.rf
  refine pg_aast S Y (k := 3) p_q_79101 rfl p_q_79338 ok_X4.1 (by unfold vp_in; decide) dX10_init_164 (fun f_79357 H locs ef_79357 Y => ?_)
  obtain ⟨g_79356, eg_79356⟩ : ∃ z, z = va_up ((fun _ => none)) (0 : Int32).toNatClampNeg (some q_79338) := ⟨_, rfl⟩
  rw [← eg_79356] at ef_79357
  have p_h := p_h.up ef_79357 ((p_h.neA p_q_79101))
  have p_q_79079 := p_q_79079.up ef_79357 ((p_q_79079.neN p_q_79101 (by decide)))
  have p_q_79338 := p_q_79338.up ef_79357 ((p_q_79338.neA p_q_79101))
  have p_q_79101 := p_q_79101.me ef_79357
  have hk := hk.upN ef_79357 whkq_79101
  have hkI := hkI.up ef_79357 (by simp)
  have fam_pa := fam_s (i := 0) fam_pa eq10_1 eg_79356
  refine lv_iinc (v := 1) (lv' := [(1, .int 1), (0, .ref h)]) hx hb dX10_init_165 hl (k := 0) rfl (by decide) (by decide) rfl (fun ls hl => ?_)
  refine lv_goto (tgt := 146) hx hb dX10_init_168 (by decide) ?_
  refine lv_iload_n hx hb dX10_init_146 rfl (lv_at hl 0 rfl) ?_
  refine lv_bipush (v := 30) hx hb dX10_init_147 (by decide) ?_
  refine lv_icmp_ge (tgt := 171) hx hb dX10_init_149 (by decide) (fun h => absurd h (by decide)) (fun _ => ?_)
  refine lv_aload_n hx hb dX10_init_152 rfl (lv_at hl 1 rfl) ?_
  refine pg_get S Y ok_X10 4 (by decide) kf10_31 (v := .ref q_79101) p_h rfl dX10_init_153 ?_
  refine lv_iload_n hx hb dX10_init_156 rfl (lv_at hl 0 rfl) ?_
  refine pg_new S Y ok_X4 kc10_24 kn4 ki4 (fs := [.null, .null, .int 0, .int 0, .int 0, .int 0, .int 0]) (by decide) (by decide) (by decide) dX10_init_157 (fun q_79358 f_79359 H nq_79358 ef_79359 Y => ?_)
  have whkq_79358 := hk.notin nq_79358
  have hk := hk.push ef_79359 nq_79358
  have whkIq_79358 := hkI.notin nq_79358
  have hkI := hkI.push ef_79359 nq_79358
  have p_h := p_h.push ef_79359 nq_79358
  have p_q_79079 := p_q_79079.push ef_79359 nq_79358
  have p_q_79101 := p_q_79101.push ef_79359 nq_79358
  have p_q_79358 := pt.new (L := L_79340) ef_79359
  refine lv_dup hx hb dX10_init_160 rfl ?_
  refine cINv (b := q_79358) (As := []) (rest := [.ref q_79358, .int 1, .ref q_79101]) S Y (c_X4_init (l := l) p_q_79358) cw_X4_init km10_26 rfl ⟨Nat.le_of_ble_eq_true rfl, Nat.le_of_ble_eq_true rfl⟩ hl.1 rfl (Nat.le_of_ble_eq_true rfl) ⟨Nat.le_of_ble_eq_true rfl, Nat.le_of_ble_eq_true rfl⟩ dX10_init_161 (fun L_79360 f_79361 H locs hf_79361 Y => ?_)
  obtain ⟨a__79362, a__79363, kf_79361, z_z_79364, z_z_79365, z_z_79366, v_79367, v_79368⟩ := hf_79361
  have w_79369 := hk.notin v_79367
  have w_79370 := hkI.notin v_79367
  have w_79371 := hk.notin v_79368
  have w_79372 := hkI.notin v_79368
  have p_h := kf_79361.1 h _ (nmc (p_h.neK p_q_79358 (by decide)) nm0) p_h
  have p_q_79079 := kf_79361.1 q_79079 _ (nmc (p_q_79079.neB p_q_79358) nm0) p_q_79079
  have p_q_79101 := kf_79361.1 q_79101 _ (nmc (p_q_79101.neB p_q_79358) nm0) p_q_79101
  have p_q_79358 := z_z_79364
  have p_a__79362 := z_z_79365
  have p_a__79363 := z_z_79366
  have hk := hk.call kf_79361 (fun b hb hp => (nmc (neL hp whkq_79358) nm0))
  have hkI := hkI.call kf_79361 (fun b hb hp => (nmc (neL hp whkIq_79358) nm0))
  have nr_q_79358 : NRg gl_19 ad18 q_79358 := (SHC.nr I whkIq_79358)
  have nr_a__79362 : NRg gl_19 ad18 a__79362 := (SHC.nr I w_79370)
  have nr_a__79363 : NRg gl_19 ad18 a__79363 := (SHC.nr I w_79372)
  have I := I.kp hkI (allc nr_h (allc nr_q_79079 (allc nr_q_79101 all0)))
  have hkI : kp L_79360 f_79361 L_79360 f_79361 [h, q_79079, q_79101] := kp.rf
  obtain ⟨ad19, I, X_79373, Y_79374, Z_79375⟩ := SHC.led (l2 := gl_20) (n := 2) I rfl rfl rfl (by decide) rfl p_q_79358 p_a__79362 p_a__79363 nr_q_79358 nr_a__79362 nr_a__79363 
  have eq40_0 := (X_79373.2 40 0 (by decide)).trans eq40_0
  have eq41_0 := (X_79373.2 41 0 (by decide)).trans eq41_0
  have eq10_0 := (X_79373.2 10 0 (by decide)).trans eq10_0
  have eq20_0 := (X_79373.2 20 0 (by decide)).trans eq20_0
  have eq20_1 := (X_79373.2 20 1 (by decide)).trans eq20_1
  have eq20_2 := (X_79373.2 20 2 (by decide)).trans eq20_2
  have eq20_3 := (X_79373.2 20 3 (by decide)).trans eq20_3
  have eq20_4 := (X_79373.2 20 4 (by decide)).trans eq20_4
  have fam_sc := fam_x fam_sc X_79373 (by decide)
  have fam_pa := fam_x fam_pa X_79373 (by decide)
  have nr_h := Z_79375 _ nr_h (p_h.neK p_q_79358 (by decide)) (p_h.neA p_a__79362) (p_h.neA p_a__79363)
  have nr_q_79079 := Z_79375 _ nr_q_79079 (p_q_79079.neB p_q_79358) (p_q_79079.neN p_a__79362 (by decide)) (p_q_79079.neN p_a__79363 (by decide))
  have nr_q_79101 := Z_79375 _ nr_q_79101 (p_q_79101.neB p_q_79358) (p_q_79101.neN p_a__79362 (by decide)) (p_q_79101.neN p_a__79363 (by decide))
  have hout : ∀ x, x ∈ L → NRg gl_0 ad x → NRg gl_20 ad19 x := fun x hx hn => Z_79375 x (hout x hx hn) (fun e => whkq_79358 (by rw [← e]; exact hx)) (fun e => w_79369 (by rw [← e]; exact hx)) (fun e => w_79371 (by rw [← e]; exact hx))
  have hext := hext.tr X_79373
  have eq10_2 := Y_79374
  have hkI : kp L_79360 f_79361 L_79360 f_79361 [h, q_79079, q_79101] := kp.rf
  refine pg_aast S Y (k := 3) p_q_79101 rfl p_q_79358 ok_X4.1 (by unfold vp_in; decide) dX10_init_164 (fun f_79377 H locs ef_79377 Y => ?_)
  obtain ⟨g_79376, eg_79376⟩ : ∃ z, z = va_up (g_79356) (1 : Int32).toNatClampNeg (some q_79358) := ⟨_, rfl⟩
  rw [← eg_79376] at ef_79377
  have p_h := p_h.up ef_79377 ((p_h.neA p_q_79101))
  have p_q_79079 := p_q_79079.up ef_79377 ((p_q_79079.neN p_q_79101 (by decide)))
  have p_q_79358 := p_q_79358.up ef_79377 ((p_q_79358.neA p_q_79101))
  have p_q_79101 := p_q_79101.me ef_79377
  have hk := hk.upN ef_79377 whkq_79101
  have hkI := hkI.up ef_79377 (by simp)
  have fam_pa := fam_s (i := 1) fam_pa eq10_2 eg_79376
  refine lv_iinc (v := 2) (lv' := [(1, .int 2), (0, .ref h)]) hx hb dX10_init_165 hl (k := 0) rfl (by decide) (by decide) rfl (fun ls hl => ?_)
  refine lv_goto (tgt := 146) hx hb dX10_init_168 (by decide) ?_
  refine lv_iload_n hx hb dX10_init_146 rfl (lv_at hl 0 rfl) ?_
  refine lv_bipush (v := 30) hx hb dX10_init_147 (by decide) ?_
  refine lv_icmp_ge (tgt := 171) hx hb dX10_init_149 (by decide) (fun h => absurd h (by decide)) (fun _ => ?_)
  refine lv_aload_n hx hb dX10_init_152 rfl (lv_at hl 1 rfl) ?_
  refine pg_get S Y ok_X10 4 (by decide) kf10_31 (v := .ref q_79101) p_h rfl dX10_init_153 ?_
  refine lv_iload_n hx hb dX10_init_156 rfl (lv_at hl 0 rfl) ?_
  refine pg_new S Y ok_X4 kc10_24 kn4 ki4 (fs := [.null, .null, .int 0, .int 0, .int 0, .int 0, .int 0]) (by decide) (by decide) (by decide) dX10_init_157 (fun q_79378 f_79379 H nq_79378 ef_79379 Y => ?_)
  have whkq_79378 := hk.notin nq_79378
  have hk := hk.push ef_79379 nq_79378
  have whkIq_79378 := hkI.notin nq_79378
  have hkI := hkI.push ef_79379 nq_79378
  have p_h := p_h.push ef_79379 nq_79378
  have p_q_79079 := p_q_79079.push ef_79379 nq_79378
  have p_q_79101 := p_q_79101.push ef_79379 nq_79378
  have p_q_79378 := pt.new (L := L_79360) ef_79379
  refine lv_dup hx hb dX10_init_160 rfl ?_
  refine cINv (b := q_79378) (As := []) (rest := [.ref q_79378, .int 2, .ref q_79101]) S Y (c_X4_init (l := l) p_q_79378) cw_X4_init km10_26 rfl ⟨Nat.le_of_ble_eq_true rfl, Nat.le_of_ble_eq_true rfl⟩ hl.1 rfl (Nat.le_of_ble_eq_true rfl) ⟨Nat.le_of_ble_eq_true rfl, Nat.le_of_ble_eq_true rfl⟩ dX10_init_161 (fun L_79380 f_79381 H locs hf_79381 Y => ?_)
  obtain ⟨a__79382, a__79383, kf_79381, z_z_79384, z_z_79385, z_z_79386, v_79387, v_79388⟩ := hf_79381
  have w_79389 := hk.notin v_79387
  have w_79390 := hkI.notin v_79387
  have w_79391 := hk.notin v_79388
  have w_79392 := hkI.notin v_79388
  have p_h := kf_79381.1 h _ (nmc (p_h.neK p_q_79378 (by decide)) nm0) p_h
  have p_q_79079 := kf_79381.1 q_79079 _ (nmc (p_q_79079.neB p_q_79378) nm0) p_q_79079
  have p_q_79101 := kf_79381.1 q_79101 _ (nmc (p_q_79101.neB p_q_79378) nm0) p_q_79101
  have p_q_79378 := z_z_79384
  have p_a__79382 := z_z_79385
  have p_a__79383 := z_z_79386
  have hk := hk.call kf_79381 (fun b hb hp => (nmc (neL hp whkq_79378) nm0))
  have hkI := hkI.call kf_79381 (fun b hb hp => (nmc (neL hp whkIq_79378) nm0))
  have nr_q_79378 : NRg gl_20 ad19 q_79378 := (SHC.nr I whkIq_79378)
  have nr_a__79382 : NRg gl_20 ad19 a__79382 := (SHC.nr I w_79390)
  have nr_a__79383 : NRg gl_20 ad19 a__79383 := (SHC.nr I w_79392)
  have I := I.kp hkI (allc nr_h (allc nr_q_79079 (allc nr_q_79101 all0)))
  have hkI : kp L_79380 f_79381 L_79380 f_79381 [h, q_79079, q_79101] := kp.rf
  obtain ⟨ad20, I, X_79393, Y_79394, Z_79395⟩ := SHC.led (l2 := gl_21) (n := 3) I rfl rfl rfl (by decide) rfl p_q_79378 p_a__79382 p_a__79383 nr_q_79378 nr_a__79382 nr_a__79383 
  have eq40_0 := (X_79393.2 40 0 (by decide)).trans eq40_0
  have eq41_0 := (X_79393.2 41 0 (by decide)).trans eq41_0
  have eq10_0 := (X_79393.2 10 0 (by decide)).trans eq10_0
  have eq20_0 := (X_79393.2 20 0 (by decide)).trans eq20_0
  have eq20_1 := (X_79393.2 20 1 (by decide)).trans eq20_1
  have eq20_2 := (X_79393.2 20 2 (by decide)).trans eq20_2
  have eq20_3 := (X_79393.2 20 3 (by decide)).trans eq20_3
  have eq20_4 := (X_79393.2 20 4 (by decide)).trans eq20_4
  have fam_sc := fam_x fam_sc X_79393 (by decide)
  have fam_pa := fam_x fam_pa X_79393 (by decide)
  have nr_h := Z_79395 _ nr_h (p_h.neK p_q_79378 (by decide)) (p_h.neA p_a__79382) (p_h.neA p_a__79383)
  have nr_q_79079 := Z_79395 _ nr_q_79079 (p_q_79079.neB p_q_79378) (p_q_79079.neN p_a__79382 (by decide)) (p_q_79079.neN p_a__79383 (by decide))
  have nr_q_79101 := Z_79395 _ nr_q_79101 (p_q_79101.neB p_q_79378) (p_q_79101.neN p_a__79382 (by decide)) (p_q_79101.neN p_a__79383 (by decide))
  have hout : ∀ x, x ∈ L → NRg gl_0 ad x → NRg gl_21 ad20 x := fun x hx hn => Z_79395 x (hout x hx hn) (fun e => whkq_79378 (by rw [← e]; exact hx)) (fun e => w_79389 (by rw [← e]; exact hx)) (fun e => w_79391 (by rw [← e]; exact hx))
  have hext := hext.tr X_79393
  have eq10_3 := Y_79394
  have hkI : kp L_79380 f_79381 L_79380 f_79381 [h, q_79079, q_79101] := kp.rf
  refine pg_aast S Y (k := 3) p_q_79101 rfl p_q_79378 ok_X4.1 (by unfold vp_in; decide) dX10_init_164 (fun f_79397 H locs ef_79397 Y => ?_)
  obtain ⟨g_79396, eg_79396⟩ : ∃ z, z = va_up (g_79376) (2 : Int32).toNatClampNeg (some q_79378) := ⟨_, rfl⟩
  rw [← eg_79396] at ef_79397
  have p_h := p_h.up ef_79397 ((p_h.neA p_q_79101))
  have p_q_79079 := p_q_79079.up ef_79397 ((p_q_79079.neN p_q_79101 (by decide)))
  have p_q_79378 := p_q_79378.up ef_79397 ((p_q_79378.neA p_q_79101))
  have p_q_79101 := p_q_79101.me ef_79397
  have hk := hk.upN ef_79397 whkq_79101
  have hkI := hkI.up ef_79397 (by simp)
  have fam_pa := fam_s (i := 2) fam_pa eq10_3 eg_79396
  refine lv_iinc (v := 3) (lv' := [(1, .int 3), (0, .ref h)]) hx hb dX10_init_165 hl (k := 0) rfl (by decide) (by decide) rfl (fun ls hl => ?_)
  refine lv_goto (tgt := 146) hx hb dX10_init_168 (by decide) ?_
  refine lv_iload_n hx hb dX10_init_146 rfl (lv_at hl 0 rfl) ?_
  refine lv_bipush (v := 30) hx hb dX10_init_147 (by decide) ?_
  refine lv_icmp_ge (tgt := 171) hx hb dX10_init_149 (by decide) (fun h => absurd h (by decide)) (fun _ => ?_)
  refine lv_aload_n hx hb dX10_init_152 rfl (lv_at hl 1 rfl) ?_
  refine pg_get S Y ok_X10 4 (by decide) kf10_31 (v := .ref q_79101) p_h rfl dX10_init_153 ?_
  refine lv_iload_n hx hb dX10_init_156 rfl (lv_at hl 0 rfl) ?_
  refine pg_new S Y ok_X4 kc10_24 kn4 ki4 (fs := [.null, .null, .int 0, .int 0, .int 0, .int 0, .int 0]) (by decide) (by decide) (by decide) dX10_init_157 (fun q_79398 f_79399 H nq_79398 ef_79399 Y => ?_)
  have whkq_79398 := hk.notin nq_79398
  have hk := hk.push ef_79399 nq_79398
  have whkIq_79398 := hkI.notin nq_79398
  have hkI := hkI.push ef_79399 nq_79398
  have p_h := p_h.push ef_79399 nq_79398
  have p_q_79079 := p_q_79079.push ef_79399 nq_79398
  have p_q_79101 := p_q_79101.push ef_79399 nq_79398
  have p_q_79398 := pt.new (L := L_79380) ef_79399
  refine lv_dup hx hb dX10_init_160 rfl ?_
  refine cINv (b := q_79398) (As := []) (rest := [.ref q_79398, .int 3, .ref q_79101]) S Y (c_X4_init (l := l) p_q_79398) cw_X4_init km10_26 rfl ⟨Nat.le_of_ble_eq_true rfl, Nat.le_of_ble_eq_true rfl⟩ hl.1 rfl (Nat.le_of_ble_eq_true rfl) ⟨Nat.le_of_ble_eq_true rfl, Nat.le_of_ble_eq_true rfl⟩ dX10_init_161 (fun L_79400 f_79401 H locs hf_79401 Y => ?_)
  obtain ⟨a__79402, a__79403, kf_79401, z_z_79404, z_z_79405, z_z_79406, v_79407, v_79408⟩ := hf_79401
  have w_79409 := hk.notin v_79407
  have w_79410 := hkI.notin v_79407
  have w_79411 := hk.notin v_79408
  have w_79412 := hkI.notin v_79408
  have p_h := kf_79401.1 h _ (nmc (p_h.neK p_q_79398 (by decide)) nm0) p_h
  have p_q_79079 := kf_79401.1 q_79079 _ (nmc (p_q_79079.neB p_q_79398) nm0) p_q_79079
  have p_q_79101 := kf_79401.1 q_79101 _ (nmc (p_q_79101.neB p_q_79398) nm0) p_q_79101
  have p_q_79398 := z_z_79404
  have p_a__79402 := z_z_79405
  have p_a__79403 := z_z_79406
  have hk := hk.call kf_79401 (fun b hb hp => (nmc (neL hp whkq_79398) nm0))
  have hkI := hkI.call kf_79401 (fun b hb hp => (nmc (neL hp whkIq_79398) nm0))
  have nr_q_79398 : NRg gl_21 ad20 q_79398 := (SHC.nr I whkIq_79398)
  have nr_a__79402 : NRg gl_21 ad20 a__79402 := (SHC.nr I w_79410)
  have nr_a__79403 : NRg gl_21 ad20 a__79403 := (SHC.nr I w_79412)
  have I := I.kp hkI (allc nr_h (allc nr_q_79079 (allc nr_q_79101 all0)))
  have hkI : kp L_79400 f_79401 L_79400 f_79401 [h, q_79079, q_79101] := kp.rf
  obtain ⟨ad21, I, X_79413, Y_79414, Z_79415⟩ := SHC.led (l2 := gl_22) (n := 4) I rfl rfl rfl (by decide) rfl p_q_79398 p_a__79402 p_a__79403 nr_q_79398 nr_a__79402 nr_a__79403 
  have eq40_0 := (X_79413.2 40 0 (by decide)).trans eq40_0
  have eq41_0 := (X_79413.2 41 0 (by decide)).trans eq41_0
  have eq10_0 := (X_79413.2 10 0 (by decide)).trans eq10_0
  have eq20_0 := (X_79413.2 20 0 (by decide)).trans eq20_0
  have eq20_1 := (X_79413.2 20 1 (by decide)).trans eq20_1
  have eq20_2 := (X_79413.2 20 2 (by decide)).trans eq20_2
  have eq20_3 := (X_79413.2 20 3 (by decide)).trans eq20_3
  have eq20_4 := (X_79413.2 20 4 (by decide)).trans eq20_4
  have fam_sc := fam_x fam_sc X_79413 (by decide)
  have fam_pa := fam_x fam_pa X_79413 (by decide)
  have nr_h := Z_79415 _ nr_h (p_h.neK p_q_79398 (by decide)) (p_h.neA p_a__79402) (p_h.neA p_a__79403)
  have nr_q_79079 := Z_79415 _ nr_q_79079 (p_q_79079.neB p_q_79398) (p_q_79079.neN p_a__79402 (by decide)) (p_q_79079.neN p_a__79403 (by decide))
  have nr_q_79101 := Z_79415 _ nr_q_79101 (p_q_79101.neB p_q_79398) (p_q_79101.neN p_a__79402 (by decide)) (p_q_79101.neN p_a__79403 (by decide))
  have hout : ∀ x, x ∈ L → NRg gl_0 ad x → NRg gl_22 ad21 x := fun x hx hn => Z_79415 x (hout x hx hn) (fun e => whkq_79398 (by rw [← e]; exact hx)) (fun e => w_79409 (by rw [← e]; exact hx)) (fun e => w_79411 (by rw [← e]; exact hx))
  have hext := hext.tr X_79413
  have eq10_4 := Y_79414
  have hkI : kp L_79400 f_79401 L_79400 f_79401 [h, q_79079, q_79101] := kp.rf
  refine pg_aast S Y (k := 3) p_q_79101 rfl p_q_79398 ok_X4.1 (by unfold vp_in; decide) dX10_init_164 (fun f_79417 H locs ef_79417 Y => ?_)
  obtain ⟨g_79416, eg_79416⟩ : ∃ z, z = va_up (g_79396) (3 : Int32).toNatClampNeg (some q_79398) := ⟨_, rfl⟩
  rw [← eg_79416] at ef_79417
  have p_h := p_h.up ef_79417 ((p_h.neA p_q_79101))
  have p_q_79079 := p_q_79079.up ef_79417 ((p_q_79079.neN p_q_79101 (by decide)))
  have p_q_79398 := p_q_79398.up ef_79417 ((p_q_79398.neA p_q_79101))
  have p_q_79101 := p_q_79101.me ef_79417
  have hk := hk.upN ef_79417 whkq_79101
  have hkI := hkI.up ef_79417 (by simp)
  have fam_pa := fam_s (i := 3) fam_pa eq10_4 eg_79416
  refine lv_iinc (v := 4) (lv' := [(1, .int 4), (0, .ref h)]) hx hb dX10_init_165 hl (k := 0) rfl (by decide) (by decide) rfl (fun ls hl => ?_)
  refine lv_goto (tgt := 146) hx hb dX10_init_168 (by decide) ?_
  refine lv_iload_n hx hb dX10_init_146 rfl (lv_at hl 0 rfl) ?_
  refine lv_bipush (v := 30) hx hb dX10_init_147 (by decide) ?_
  refine lv_icmp_ge (tgt := 171) hx hb dX10_init_149 (by decide) (fun h => absurd h (by decide)) (fun _ => ?_)
  refine lv_aload_n hx hb dX10_init_152 rfl (lv_at hl 1 rfl) ?_
  refine pg_get S Y ok_X10 4 (by decide) kf10_31 (v := .ref q_79101) p_h rfl dX10_init_153 ?_
  refine lv_iload_n hx hb dX10_init_156 rfl (lv_at hl 0 rfl) ?_
  refine pg_new S Y ok_X4 kc10_24 kn4 ki4 (fs := [.null, .null, .int 0, .int 0, .int 0, .int 0, .int 0]) (by decide) (by decide) (by decide) dX10_init_157 (fun q_79418 f_79419 H nq_79418 ef_79419 Y => ?_)
  have whkq_79418 := hk.notin nq_79418
  have hk := hk.push ef_79419 nq_79418
  have whkIq_79418 := hkI.notin nq_79418
  have hkI := hkI.push ef_79419 nq_79418
  have p_h := p_h.push ef_79419 nq_79418
  have p_q_79079 := p_q_79079.push ef_79419 nq_79418
  have p_q_79101 := p_q_79101.push ef_79419 nq_79418
  have p_q_79418 := pt.new (L := L_79400) ef_79419
  refine lv_dup hx hb dX10_init_160 rfl ?_
  refine cINv (b := q_79418) (As := []) (rest := [.ref q_79418, .int 4, .ref q_79101]) S Y (c_X4_init (l := l) p_q_79418) cw_X4_init km10_26 rfl ⟨Nat.le_of_ble_eq_true rfl, Nat.le_of_ble_eq_true rfl⟩ hl.1 rfl (Nat.le_of_ble_eq_true rfl) ⟨Nat.le_of_ble_eq_true rfl, Nat.le_of_ble_eq_true rfl⟩ dX10_init_161 (fun L_79420 f_79421 H locs hf_79421 Y => ?_)
  obtain ⟨a__79422, a__79423, kf_79421, z_z_79424, z_z_79425, z_z_79426, v_79427, v_79428⟩ := hf_79421
  have w_79429 := hk.notin v_79427
  have w_79430 := hkI.notin v_79427
  have w_79431 := hk.notin v_79428
  have w_79432 := hkI.notin v_79428
  have p_h := kf_79421.1 h _ (nmc (p_h.neK p_q_79418 (by decide)) nm0) p_h
  have p_q_79079 := kf_79421.1 q_79079 _ (nmc (p_q_79079.neB p_q_79418) nm0) p_q_79079
  have p_q_79101 := kf_79421.1 q_79101 _ (nmc (p_q_79101.neB p_q_79418) nm0) p_q_79101
  have p_q_79418 := z_z_79424
  have p_a__79422 := z_z_79425
  have p_a__79423 := z_z_79426
  have hk := hk.call kf_79421 (fun b hb hp => (nmc (neL hp whkq_79418) nm0))
  have hkI := hkI.call kf_79421 (fun b hb hp => (nmc (neL hp whkIq_79418) nm0))
  have nr_q_79418 : NRg gl_22 ad21 q_79418 := (SHC.nr I whkIq_79418)
  have nr_a__79422 : NRg gl_22 ad21 a__79422 := (SHC.nr I w_79430)
  have nr_a__79423 : NRg gl_22 ad21 a__79423 := (SHC.nr I w_79432)
  have I := I.kp hkI (allc nr_h (allc nr_q_79079 (allc nr_q_79101 all0)))
  have hkI : kp L_79420 f_79421 L_79420 f_79421 [h, q_79079, q_79101] := kp.rf
  obtain ⟨ad22, I, X_79433, Y_79434, Z_79435⟩ := SHC.led (l2 := gl_23) (n := 5) I rfl rfl rfl (by decide) rfl p_q_79418 p_a__79422 p_a__79423 nr_q_79418 nr_a__79422 nr_a__79423 
  have eq40_0 := (X_79433.2 40 0 (by decide)).trans eq40_0
  have eq41_0 := (X_79433.2 41 0 (by decide)).trans eq41_0
  have eq10_0 := (X_79433.2 10 0 (by decide)).trans eq10_0
  have eq20_0 := (X_79433.2 20 0 (by decide)).trans eq20_0
  have eq20_1 := (X_79433.2 20 1 (by decide)).trans eq20_1
  have eq20_2 := (X_79433.2 20 2 (by decide)).trans eq20_2
  have eq20_3 := (X_79433.2 20 3 (by decide)).trans eq20_3
  have eq20_4 := (X_79433.2 20 4 (by decide)).trans eq20_4
  have fam_sc := fam_x fam_sc X_79433 (by decide)
  have fam_pa := fam_x fam_pa X_79433 (by decide)
  have nr_h := Z_79435 _ nr_h (p_h.neK p_q_79418 (by decide)) (p_h.neA p_a__79422) (p_h.neA p_a__79423)
  have nr_q_79079 := Z_79435 _ nr_q_79079 (p_q_79079.neB p_q_79418) (p_q_79079.neN p_a__79422 (by decide)) (p_q_79079.neN p_a__79423 (by decide))
  have nr_q_79101 := Z_79435 _ nr_q_79101 (p_q_79101.neB p_q_79418) (p_q_79101.neN p_a__79422 (by decide)) (p_q_79101.neN p_a__79423 (by decide))
  have hout : ∀ x, x ∈ L → NRg gl_0 ad x → NRg gl_23 ad22 x := fun x hx hn => Z_79435 x (hout x hx hn) (fun e => whkq_79418 (by rw [← e]; exact hx)) (fun e => w_79429 (by rw [← e]; exact hx)) (fun e => w_79431 (by rw [← e]; exact hx))
  have hext := hext.tr X_79433
  have eq10_5 := Y_79434
  have hkI : kp L_79420 f_79421 L_79420 f_79421 [h, q_79079, q_79101] := kp.rf
  refine pg_aast S Y (k := 3) p_q_79101 rfl p_q_79418 ok_X4.1 (by unfold vp_in; decide) dX10_init_164 (fun f_79437 H locs ef_79437 Y => ?_)
  obtain ⟨g_79436, eg_79436⟩ : ∃ z, z = va_up (g_79416) (4 : Int32).toNatClampNeg (some q_79418) := ⟨_, rfl⟩
  rw [← eg_79436] at ef_79437
  have p_h := p_h.up ef_79437 ((p_h.neA p_q_79101))
  have p_q_79079 := p_q_79079.up ef_79437 ((p_q_79079.neN p_q_79101 (by decide)))
  have p_q_79418 := p_q_79418.up ef_79437 ((p_q_79418.neA p_q_79101))
  have p_q_79101 := p_q_79101.me ef_79437
  have hk := hk.upN ef_79437 whkq_79101
  have hkI := hkI.up ef_79437 (by simp)
  have fam_pa := fam_s (i := 4) fam_pa eq10_5 eg_79436
  refine lv_iinc (v := 5) (lv' := [(1, .int 5), (0, .ref h)]) hx hb dX10_init_165 hl (k := 0) rfl (by decide) (by decide) rfl (fun ls hl => ?_)
  refine lv_goto (tgt := 146) hx hb dX10_init_168 (by decide) ?_
  refine lv_iload_n hx hb dX10_init_146 rfl (lv_at hl 0 rfl) ?_
  refine lv_bipush (v := 30) hx hb dX10_init_147 (by decide) ?_
  refine lv_icmp_ge (tgt := 171) hx hb dX10_init_149 (by decide) (fun h => absurd h (by decide)) (fun _ => ?_)
  refine lv_aload_n hx hb dX10_init_152 rfl (lv_at hl 1 rfl) ?_
  refine pg_get S Y ok_X10 4 (by decide) kf10_31 (v := .ref q_79101) p_h rfl dX10_init_153 ?_
  refine lv_iload_n hx hb dX10_init_156 rfl (lv_at hl 0 rfl) ?_
  refine pg_new S Y ok_X4 kc10_24 kn4 ki4 (fs := [.null, .null, .int 0, .int 0, .int 0, .int 0, .int 0]) (by decide) (by decide) (by decide) dX10_init_157 (fun q_79438 f_79439 H nq_79438 ef_79439 Y => ?_)
  have whkq_79438 := hk.notin nq_79438
  have hk := hk.push ef_79439 nq_79438
  have whkIq_79438 := hkI.notin nq_79438
  have hkI := hkI.push ef_79439 nq_79438
  have p_h := p_h.push ef_79439 nq_79438
  have p_q_79079 := p_q_79079.push ef_79439 nq_79438
  have p_q_79101 := p_q_79101.push ef_79439 nq_79438
  have p_q_79438 := pt.new (L := L_79420) ef_79439
  refine lv_dup hx hb dX10_init_160 rfl ?_
  refine cINv (b := q_79438) (As := []) (rest := [.ref q_79438, .int 5, .ref q_79101]) S Y (c_X4_init (l := l) p_q_79438) cw_X4_init km10_26 rfl ⟨Nat.le_of_ble_eq_true rfl, Nat.le_of_ble_eq_true rfl⟩ hl.1 rfl (Nat.le_of_ble_eq_true rfl) ⟨Nat.le_of_ble_eq_true rfl, Nat.le_of_ble_eq_true rfl⟩ dX10_init_161 (fun L_79440 f_79441 H locs hf_79441 Y => ?_)
  obtain ⟨a__79442, a__79443, kf_79441, z_z_79444, z_z_79445, z_z_79446, v_79447, v_79448⟩ := hf_79441
  have w_79449 := hk.notin v_79447
  have w_79450 := hkI.notin v_79447
  have w_79451 := hk.notin v_79448
  have w_79452 := hkI.notin v_79448
  have p_h := kf_79441.1 h _ (nmc (p_h.neK p_q_79438 (by decide)) nm0) p_h
  have p_q_79079 := kf_79441.1 q_79079 _ (nmc (p_q_79079.neB p_q_79438) nm0) p_q_79079
  have p_q_79101 := kf_79441.1 q_79101 _ (nmc (p_q_79101.neB p_q_79438) nm0) p_q_79101
  have p_q_79438 := z_z_79444
  have p_a__79442 := z_z_79445
  have p_a__79443 := z_z_79446
  have hk := hk.call kf_79441 (fun b hb hp => (nmc (neL hp whkq_79438) nm0))
  have hkI := hkI.call kf_79441 (fun b hb hp => (nmc (neL hp whkIq_79438) nm0))
  have nr_q_79438 : NRg gl_23 ad22 q_79438 := (SHC.nr I whkIq_79438)
  have nr_a__79442 : NRg gl_23 ad22 a__79442 := (SHC.nr I w_79450)
  have nr_a__79443 : NRg gl_23 ad22 a__79443 := (SHC.nr I w_79452)
  have I := I.kp hkI (allc nr_h (allc nr_q_79079 (allc nr_q_79101 all0)))
  have hkI : kp L_79440 f_79441 L_79440 f_79441 [h, q_79079, q_79101] := kp.rf
  obtain ⟨ad23, I, X_79453, Y_79454, Z_79455⟩ := SHC.led (l2 := gl_24) (n := 6) I rfl rfl rfl (by decide) rfl p_q_79438 p_a__79442 p_a__79443 nr_q_79438 nr_a__79442 nr_a__79443 
  have eq40_0 := (X_79453.2 40 0 (by decide)).trans eq40_0
  have eq41_0 := (X_79453.2 41 0 (by decide)).trans eq41_0
  have eq10_0 := (X_79453.2 10 0 (by decide)).trans eq10_0
  have eq20_0 := (X_79453.2 20 0 (by decide)).trans eq20_0
  have eq20_1 := (X_79453.2 20 1 (by decide)).trans eq20_1
  have eq20_2 := (X_79453.2 20 2 (by decide)).trans eq20_2
  have eq20_3 := (X_79453.2 20 3 (by decide)).trans eq20_3
  have eq20_4 := (X_79453.2 20 4 (by decide)).trans eq20_4
  have fam_sc := fam_x fam_sc X_79453 (by decide)
  have fam_pa := fam_x fam_pa X_79453 (by decide)
  have nr_h := Z_79455 _ nr_h (p_h.neK p_q_79438 (by decide)) (p_h.neA p_a__79442) (p_h.neA p_a__79443)
  have nr_q_79079 := Z_79455 _ nr_q_79079 (p_q_79079.neB p_q_79438) (p_q_79079.neN p_a__79442 (by decide)) (p_q_79079.neN p_a__79443 (by decide))
  have nr_q_79101 := Z_79455 _ nr_q_79101 (p_q_79101.neB p_q_79438) (p_q_79101.neN p_a__79442 (by decide)) (p_q_79101.neN p_a__79443 (by decide))
  have hout : ∀ x, x ∈ L → NRg gl_0 ad x → NRg gl_24 ad23 x := fun x hx hn => Z_79455 x (hout x hx hn) (fun e => whkq_79438 (by rw [← e]; exact hx)) (fun e => w_79449 (by rw [← e]; exact hx)) (fun e => w_79451 (by rw [← e]; exact hx))
  have hext := hext.tr X_79453
  have eq10_6 := Y_79454
  have hkI : kp L_79440 f_79441 L_79440 f_79441 [h, q_79079, q_79101] := kp.rf
  refine pg_aast S Y (k := 3) p_q_79101 rfl p_q_79438 ok_X4.1 (by unfold vp_in; decide) dX10_init_164 (fun f_79457 H locs ef_79457 Y => ?_)
  obtain ⟨g_79456, eg_79456⟩ : ∃ z, z = va_up (g_79436) (5 : Int32).toNatClampNeg (some q_79438) := ⟨_, rfl⟩
  rw [← eg_79456] at ef_79457
  have p_h := p_h.up ef_79457 ((p_h.neA p_q_79101))
  have p_q_79079 := p_q_79079.up ef_79457 ((p_q_79079.neN p_q_79101 (by decide)))
  have p_q_79438 := p_q_79438.up ef_79457 ((p_q_79438.neA p_q_79101))
  have p_q_79101 := p_q_79101.me ef_79457
  have hk := hk.upN ef_79457 whkq_79101
  have hkI := hkI.up ef_79457 (by simp)
  have fam_pa := fam_s (i := 5) fam_pa eq10_6 eg_79456
  refine lv_iinc (v := 6) (lv' := [(1, .int 6), (0, .ref h)]) hx hb dX10_init_165 hl (k := 0) rfl (by decide) (by decide) rfl (fun ls hl => ?_)
  refine lv_goto (tgt := 146) hx hb dX10_init_168 (by decide) ?_
  refine lv_iload_n hx hb dX10_init_146 rfl (lv_at hl 0 rfl) ?_
  refine lv_bipush (v := 30) hx hb dX10_init_147 (by decide) ?_
  refine lv_icmp_ge (tgt := 171) hx hb dX10_init_149 (by decide) (fun h => absurd h (by decide)) (fun _ => ?_)
  refine lv_aload_n hx hb dX10_init_152 rfl (lv_at hl 1 rfl) ?_
  refine pg_get S Y ok_X10 4 (by decide) kf10_31 (v := .ref q_79101) p_h rfl dX10_init_153 ?_
  refine lv_iload_n hx hb dX10_init_156 rfl (lv_at hl 0 rfl) ?_
  refine pg_new S Y ok_X4 kc10_24 kn4 ki4 (fs := [.null, .null, .int 0, .int 0, .int 0, .int 0, .int 0]) (by decide) (by decide) (by decide) dX10_init_157 (fun q_79458 f_79459 H nq_79458 ef_79459 Y => ?_)
  have whkq_79458 := hk.notin nq_79458
  have hk := hk.push ef_79459 nq_79458
  have whkIq_79458 := hkI.notin nq_79458
  have hkI := hkI.push ef_79459 nq_79458
  have p_h := p_h.push ef_79459 nq_79458
  have p_q_79079 := p_q_79079.push ef_79459 nq_79458
  have p_q_79101 := p_q_79101.push ef_79459 nq_79458
  have p_q_79458 := pt.new (L := L_79440) ef_79459
  refine lv_dup hx hb dX10_init_160 rfl ?_
  refine cINv (b := q_79458) (As := []) (rest := [.ref q_79458, .int 6, .ref q_79101]) S Y (c_X4_init (l := l) p_q_79458) cw_X4_init km10_26 rfl ⟨Nat.le_of_ble_eq_true rfl, Nat.le_of_ble_eq_true rfl⟩ hl.1 rfl (Nat.le_of_ble_eq_true rfl) ⟨Nat.le_of_ble_eq_true rfl, Nat.le_of_ble_eq_true rfl⟩ dX10_init_161 (fun L_79460 f_79461 H locs hf_79461 Y => ?_)
  obtain ⟨a__79462, a__79463, kf_79461, z_z_79464, z_z_79465, z_z_79466, v_79467, v_79468⟩ := hf_79461
  have w_79469 := hk.notin v_79467
  have w_79470 := hkI.notin v_79467
  have w_79471 := hk.notin v_79468
  have w_79472 := hkI.notin v_79468
  have p_h := kf_79461.1 h _ (nmc (p_h.neK p_q_79458 (by decide)) nm0) p_h
  have p_q_79079 := kf_79461.1 q_79079 _ (nmc (p_q_79079.neB p_q_79458) nm0) p_q_79079
  have p_q_79101 := kf_79461.1 q_79101 _ (nmc (p_q_79101.neB p_q_79458) nm0) p_q_79101
  have p_q_79458 := z_z_79464
  have p_a__79462 := z_z_79465
  have p_a__79463 := z_z_79466
  have hk := hk.call kf_79461 (fun b hb hp => (nmc (neL hp whkq_79458) nm0))
  have hkI := hkI.call kf_79461 (fun b hb hp => (nmc (neL hp whkIq_79458) nm0))
  have nr_q_79458 : NRg gl_24 ad23 q_79458 := (SHC.nr I whkIq_79458)
  have nr_a__79462 : NRg gl_24 ad23 a__79462 := (SHC.nr I w_79470)
  have nr_a__79463 : NRg gl_24 ad23 a__79463 := (SHC.nr I w_79472)
  have I := I.kp hkI (allc nr_h (allc nr_q_79079 (allc nr_q_79101 all0)))
  have hkI : kp L_79460 f_79461 L_79460 f_79461 [h, q_79079, q_79101] := kp.rf
  obtain ⟨ad24, I, X_79473, Y_79474, Z_79475⟩ := SHC.led (l2 := gl_25) (n := 7) I rfl rfl rfl (by decide) rfl p_q_79458 p_a__79462 p_a__79463 nr_q_79458 nr_a__79462 nr_a__79463 
  have eq40_0 := (X_79473.2 40 0 (by decide)).trans eq40_0
  have eq41_0 := (X_79473.2 41 0 (by decide)).trans eq41_0
  have eq10_0 := (X_79473.2 10 0 (by decide)).trans eq10_0
  have eq20_0 := (X_79473.2 20 0 (by decide)).trans eq20_0
  have eq20_1 := (X_79473.2 20 1 (by decide)).trans eq20_1
  have eq20_2 := (X_79473.2 20 2 (by decide)).trans eq20_2
  have eq20_3 := (X_79473.2 20 3 (by decide)).trans eq20_3
  have eq20_4 := (X_79473.2 20 4 (by decide)).trans eq20_4
  have fam_sc := fam_x fam_sc X_79473 (by decide)
  have fam_pa := fam_x fam_pa X_79473 (by decide)
  have nr_h := Z_79475 _ nr_h (p_h.neK p_q_79458 (by decide)) (p_h.neA p_a__79462) (p_h.neA p_a__79463)
  have nr_q_79079 := Z_79475 _ nr_q_79079 (p_q_79079.neB p_q_79458) (p_q_79079.neN p_a__79462 (by decide)) (p_q_79079.neN p_a__79463 (by decide))
  have nr_q_79101 := Z_79475 _ nr_q_79101 (p_q_79101.neB p_q_79458) (p_q_79101.neN p_a__79462 (by decide)) (p_q_79101.neN p_a__79463 (by decide))
  have hout : ∀ x, x ∈ L → NRg gl_0 ad x → NRg gl_25 ad24 x := fun x hx hn => Z_79475 x (hout x hx hn) (fun e => whkq_79458 (by rw [← e]; exact hx)) (fun e => w_79469 (by rw [← e]; exact hx)) (fun e => w_79471 (by rw [← e]; exact hx))
  have hext := hext.tr X_79473
  have eq10_7 := Y_79474
  have hkI : kp L_79460 f_79461 L_79460 f_79461 [h, q_79079, q_79101] := kp.rf
  refine pg_aast S Y (k := 3) p_q_79101 rfl p_q_79458 ok_X4.1 (by unfold vp_in; decide) dX10_init_164 (fun f_79477 H locs ef_79477 Y => ?_)
  obtain ⟨g_79476, eg_79476⟩ : ∃ z, z = va_up (g_79456) (6 : Int32).toNatClampNeg (some q_79458) := ⟨_, rfl⟩
  rw [← eg_79476] at ef_79477
  have p_h := p_h.up ef_79477 ((p_h.neA p_q_79101))
  have p_q_79079 := p_q_79079.up ef_79477 ((p_q_79079.neN p_q_79101 (by decide)))
  have p_q_79458 := p_q_79458.up ef_79477 ((p_q_79458.neA p_q_79101))
  have p_q_79101 := p_q_79101.me ef_79477
  have hk := hk.upN ef_79477 whkq_79101
  have hkI := hkI.up ef_79477 (by simp)
  have fam_pa := fam_s (i := 6) fam_pa eq10_7 eg_79476
  refine lv_iinc (v := 7) (lv' := [(1, .int 7), (0, .ref h)]) hx hb dX10_init_165 hl (k := 0) rfl (by decide) (by decide) rfl (fun ls hl => ?_)
  refine lv_goto (tgt := 146) hx hb dX10_init_168 (by decide) ?_
  refine lv_iload_n hx hb dX10_init_146 rfl (lv_at hl 0 rfl) ?_
  refine lv_bipush (v := 30) hx hb dX10_init_147 (by decide) ?_
  refine lv_icmp_ge (tgt := 171) hx hb dX10_init_149 (by decide) (fun h => absurd h (by decide)) (fun _ => ?_)
  refine lv_aload_n hx hb dX10_init_152 rfl (lv_at hl 1 rfl) ?_
  refine pg_get S Y ok_X10 4 (by decide) kf10_31 (v := .ref q_79101) p_h rfl dX10_init_153 ?_
  refine lv_iload_n hx hb dX10_init_156 rfl (lv_at hl 0 rfl) ?_
  refine pg_new S Y ok_X4 kc10_24 kn4 ki4 (fs := [.null, .null, .int 0, .int 0, .int 0, .int 0, .int 0]) (by decide) (by decide) (by decide) dX10_init_157 (fun q_79478 f_79479 H nq_79478 ef_79479 Y => ?_)
  have whkq_79478 := hk.notin nq_79478
  have hk := hk.push ef_79479 nq_79478
  have whkIq_79478 := hkI.notin nq_79478
  have hkI := hkI.push ef_79479 nq_79478
  have p_h := p_h.push ef_79479 nq_79478
  have p_q_79079 := p_q_79079.push ef_79479 nq_79478
  have p_q_79101 := p_q_79101.push ef_79479 nq_79478
  have p_q_79478 := pt.new (L := L_79460) ef_79479
  refine lv_dup hx hb dX10_init_160 rfl ?_
  refine cINv (b := q_79478) (As := []) (rest := [.ref q_79478, .int 7, .ref q_79101]) S Y (c_X4_init (l := l) p_q_79478) cw_X4_init km10_26 rfl ⟨Nat.le_of_ble_eq_true rfl, Nat.le_of_ble_eq_true rfl⟩ hl.1 rfl (Nat.le_of_ble_eq_true rfl) ⟨Nat.le_of_ble_eq_true rfl, Nat.le_of_ble_eq_true rfl⟩ dX10_init_161 (fun L_79480 f_79481 H locs hf_79481 Y => ?_)
  obtain ⟨a__79482, a__79483, kf_79481, z_z_79484, z_z_79485, z_z_79486, v_79487, v_79488⟩ := hf_79481
  have w_79489 := hk.notin v_79487
  have w_79490 := hkI.notin v_79487
  have w_79491 := hk.notin v_79488
  have w_79492 := hkI.notin v_79488
  have p_h := kf_79481.1 h _ (nmc (p_h.neK p_q_79478 (by decide)) nm0) p_h
  have p_q_79079 := kf_79481.1 q_79079 _ (nmc (p_q_79079.neB p_q_79478) nm0) p_q_79079
  have p_q_79101 := kf_79481.1 q_79101 _ (nmc (p_q_79101.neB p_q_79478) nm0) p_q_79101
  have p_q_79478 := z_z_79484
  have p_a__79482 := z_z_79485
  have p_a__79483 := z_z_79486
  have hk := hk.call kf_79481 (fun b hb hp => (nmc (neL hp whkq_79478) nm0))
  have hkI := hkI.call kf_79481 (fun b hb hp => (nmc (neL hp whkIq_79478) nm0))
  have nr_q_79478 : NRg gl_25 ad24 q_79478 := (SHC.nr I whkIq_79478)
  have nr_a__79482 : NRg gl_25 ad24 a__79482 := (SHC.nr I w_79490)
  have nr_a__79483 : NRg gl_25 ad24 a__79483 := (SHC.nr I w_79492)
  have I := I.kp hkI (allc nr_h (allc nr_q_79079 (allc nr_q_79101 all0)))
  have hkI : kp L_79480 f_79481 L_79480 f_79481 [h, q_79079, q_79101] := kp.rf
  obtain ⟨ad25, I, X_79493, Y_79494, Z_79495⟩ := SHC.led (l2 := gl_26) (n := 8) I rfl rfl rfl (by decide) rfl p_q_79478 p_a__79482 p_a__79483 nr_q_79478 nr_a__79482 nr_a__79483 
  have eq40_0 := (X_79493.2 40 0 (by decide)).trans eq40_0
  have eq41_0 := (X_79493.2 41 0 (by decide)).trans eq41_0
  have eq10_0 := (X_79493.2 10 0 (by decide)).trans eq10_0
  have eq20_0 := (X_79493.2 20 0 (by decide)).trans eq20_0
  have eq20_1 := (X_79493.2 20 1 (by decide)).trans eq20_1
  have eq20_2 := (X_79493.2 20 2 (by decide)).trans eq20_2
  have eq20_3 := (X_79493.2 20 3 (by decide)).trans eq20_3
  have eq20_4 := (X_79493.2 20 4 (by decide)).trans eq20_4
  have fam_sc := fam_x fam_sc X_79493 (by decide)
  have fam_pa := fam_x fam_pa X_79493 (by decide)
  have nr_h := Z_79495 _ nr_h (p_h.neK p_q_79478 (by decide)) (p_h.neA p_a__79482) (p_h.neA p_a__79483)
  have nr_q_79079 := Z_79495 _ nr_q_79079 (p_q_79079.neB p_q_79478) (p_q_79079.neN p_a__79482 (by decide)) (p_q_79079.neN p_a__79483 (by decide))
  have nr_q_79101 := Z_79495 _ nr_q_79101 (p_q_79101.neB p_q_79478) (p_q_79101.neN p_a__79482 (by decide)) (p_q_79101.neN p_a__79483 (by decide))
  have hout : ∀ x, x ∈ L → NRg gl_0 ad x → NRg gl_26 ad25 x := fun x hx hn => Z_79495 x (hout x hx hn) (fun e => whkq_79478 (by rw [← e]; exact hx)) (fun e => w_79489 (by rw [← e]; exact hx)) (fun e => w_79491 (by rw [← e]; exact hx))
  have hext := hext.tr X_79493
  have eq10_8 := Y_79494
  have hkI : kp L_79480 f_79481 L_79480 f_79481 [h, q_79079, q_79101] := kp.rf
  refine pg_aast S Y (k := 3) p_q_79101 rfl p_q_79478 ok_X4.1 (by unfold vp_in; decide) dX10_init_164 (fun f_79497 H locs ef_79497 Y => ?_)
  obtain ⟨g_79496, eg_79496⟩ : ∃ z, z = va_up (g_79476) (7 : Int32).toNatClampNeg (some q_79478) := ⟨_, rfl⟩
  rw [← eg_79496] at ef_79497
  have p_h := p_h.up ef_79497 ((p_h.neA p_q_79101))
  have p_q_79079 := p_q_79079.up ef_79497 ((p_q_79079.neN p_q_79101 (by decide)))
  have p_q_79478 := p_q_79478.up ef_79497 ((p_q_79478.neA p_q_79101))
  have p_q_79101 := p_q_79101.me ef_79497
  have hk := hk.upN ef_79497 whkq_79101
  have hkI := hkI.up ef_79497 (by simp)
  have fam_pa := fam_s (i := 7) fam_pa eq10_8 eg_79496
  refine lv_iinc (v := 8) (lv' := [(1, .int 8), (0, .ref h)]) hx hb dX10_init_165 hl (k := 0) rfl (by decide) (by decide) rfl (fun ls hl => ?_)
  refine lv_goto (tgt := 146) hx hb dX10_init_168 (by decide) ?_
  refine lv_iload_n hx hb dX10_init_146 rfl (lv_at hl 0 rfl) ?_
  refine lv_bipush (v := 30) hx hb dX10_init_147 (by decide) ?_
  refine lv_icmp_ge (tgt := 171) hx hb dX10_init_149 (by decide) (fun h => absurd h (by decide)) (fun _ => ?_)
  refine lv_aload_n hx hb dX10_init_152 rfl (lv_at hl 1 rfl) ?_
  refine pg_get S Y ok_X10 4 (by decide) kf10_31 (v := .ref q_79101) p_h rfl dX10_init_153 ?_
  refine lv_iload_n hx hb dX10_init_156 rfl (lv_at hl 0 rfl) ?_
  refine pg_new S Y ok_X4 kc10_24 kn4 ki4 (fs := [.null, .null, .int 0, .int 0, .int 0, .int 0, .int 0]) (by decide) (by decide) (by decide) dX10_init_157 (fun q_79498 f_79499 H nq_79498 ef_79499 Y => ?_)
  have whkq_79498 := hk.notin nq_79498
  have hk := hk.push ef_79499 nq_79498
  have whkIq_79498 := hkI.notin nq_79498
  have hkI := hkI.push ef_79499 nq_79498
  have p_h := p_h.push ef_79499 nq_79498
  have p_q_79079 := p_q_79079.push ef_79499 nq_79498
  have p_q_79101 := p_q_79101.push ef_79499 nq_79498
  have p_q_79498 := pt.new (L := L_79480) ef_79499
  refine lv_dup hx hb dX10_init_160 rfl ?_
  refine cINv (b := q_79498) (As := []) (rest := [.ref q_79498, .int 8, .ref q_79101]) S Y (c_X4_init (l := l) p_q_79498) cw_X4_init km10_26 rfl ⟨Nat.le_of_ble_eq_true rfl, Nat.le_of_ble_eq_true rfl⟩ hl.1 rfl (Nat.le_of_ble_eq_true rfl) ⟨Nat.le_of_ble_eq_true rfl, Nat.le_of_ble_eq_true rfl⟩ dX10_init_161 (fun L_79500 f_79501 H locs hf_79501 Y => ?_)
  obtain ⟨a__79502, a__79503, kf_79501, z_z_79504, z_z_79505, z_z_79506, v_79507, v_79508⟩ := hf_79501
  have w_79509 := hk.notin v_79507
  have w_79510 := hkI.notin v_79507
  have w_79511 := hk.notin v_79508
  have w_79512 := hkI.notin v_79508
  have p_h := kf_79501.1 h _ (nmc (p_h.neK p_q_79498 (by decide)) nm0) p_h
  have p_q_79079 := kf_79501.1 q_79079 _ (nmc (p_q_79079.neB p_q_79498) nm0) p_q_79079
  have p_q_79101 := kf_79501.1 q_79101 _ (nmc (p_q_79101.neB p_q_79498) nm0) p_q_79101
  have p_q_79498 := z_z_79504
  have p_a__79502 := z_z_79505
  have p_a__79503 := z_z_79506
  have hk := hk.call kf_79501 (fun b hb hp => (nmc (neL hp whkq_79498) nm0))
  have hkI := hkI.call kf_79501 (fun b hb hp => (nmc (neL hp whkIq_79498) nm0))
  have nr_q_79498 : NRg gl_26 ad25 q_79498 := (SHC.nr I whkIq_79498)
  have nr_a__79502 : NRg gl_26 ad25 a__79502 := (SHC.nr I w_79510)
  have nr_a__79503 : NRg gl_26 ad25 a__79503 := (SHC.nr I w_79512)
  have I := I.kp hkI (allc nr_h (allc nr_q_79079 (allc nr_q_79101 all0)))
  have hkI : kp L_79500 f_79501 L_79500 f_79501 [h, q_79079, q_79101] := kp.rf
  obtain ⟨ad26, I, X_79513, Y_79514, Z_79515⟩ := SHC.led (l2 := gl_27) (n := 9) I rfl rfl rfl (by decide) rfl p_q_79498 p_a__79502 p_a__79503 nr_q_79498 nr_a__79502 nr_a__79503 
  have eq40_0 := (X_79513.2 40 0 (by decide)).trans eq40_0
  have eq41_0 := (X_79513.2 41 0 (by decide)).trans eq41_0
  have eq10_0 := (X_79513.2 10 0 (by decide)).trans eq10_0
  have eq20_0 := (X_79513.2 20 0 (by decide)).trans eq20_0
  have eq20_1 := (X_79513.2 20 1 (by decide)).trans eq20_1
  have eq20_2 := (X_79513.2 20 2 (by decide)).trans eq20_2
  have eq20_3 := (X_79513.2 20 3 (by decide)).trans eq20_3
  have eq20_4 := (X_79513.2 20 4 (by decide)).trans eq20_4
  have fam_sc := fam_x fam_sc X_79513 (by decide)
  have fam_pa := fam_x fam_pa X_79513 (by decide)
  have nr_h := Z_79515 _ nr_h (p_h.neK p_q_79498 (by decide)) (p_h.neA p_a__79502) (p_h.neA p_a__79503)
  have nr_q_79079 := Z_79515 _ nr_q_79079 (p_q_79079.neB p_q_79498) (p_q_79079.neN p_a__79502 (by decide)) (p_q_79079.neN p_a__79503 (by decide))
  have nr_q_79101 := Z_79515 _ nr_q_79101 (p_q_79101.neB p_q_79498) (p_q_79101.neN p_a__79502 (by decide)) (p_q_79101.neN p_a__79503 (by decide))
  have hout : ∀ x, x ∈ L → NRg gl_0 ad x → NRg gl_27 ad26 x := fun x hx hn => Z_79515 x (hout x hx hn) (fun e => whkq_79498 (by rw [← e]; exact hx)) (fun e => w_79509 (by rw [← e]; exact hx)) (fun e => w_79511 (by rw [← e]; exact hx))
  have hext := hext.tr X_79513
  have eq10_9 := Y_79514
  have hkI : kp L_79500 f_79501 L_79500 f_79501 [h, q_79079, q_79101] := kp.rf
  refine pg_aast S Y (k := 3) p_q_79101 rfl p_q_79498 ok_X4.1 (by unfold vp_in; decide) dX10_init_164 (fun f_79517 H locs ef_79517 Y => ?_)
  obtain ⟨g_79516, eg_79516⟩ : ∃ z, z = va_up (g_79496) (8 : Int32).toNatClampNeg (some q_79498) := ⟨_, rfl⟩
  rw [← eg_79516] at ef_79517
  have p_h := p_h.up ef_79517 ((p_h.neA p_q_79101))
  have p_q_79079 := p_q_79079.up ef_79517 ((p_q_79079.neN p_q_79101 (by decide)))
  have p_q_79498 := p_q_79498.up ef_79517 ((p_q_79498.neA p_q_79101))
  have p_q_79101 := p_q_79101.me ef_79517
  have hk := hk.upN ef_79517 whkq_79101
  have hkI := hkI.up ef_79517 (by simp)
  have fam_pa := fam_s (i := 8) fam_pa eq10_9 eg_79516
  refine lv_iinc (v := 9) (lv' := [(1, .int 9), (0, .ref h)]) hx hb dX10_init_165 hl (k := 0) rfl (by decide) (by decide) rfl (fun ls hl => ?_)
  refine lv_goto (tgt := 146) hx hb dX10_init_168 (by decide) ?_
  refine lv_iload_n hx hb dX10_init_146 rfl (lv_at hl 0 rfl) ?_
  refine lv_bipush (v := 30) hx hb dX10_init_147 (by decide) ?_
  refine lv_icmp_ge (tgt := 171) hx hb dX10_init_149 (by decide) (fun h => absurd h (by decide)) (fun _ => ?_)
  refine lv_aload_n hx hb dX10_init_152 rfl (lv_at hl 1 rfl) ?_
  refine pg_get S Y ok_X10 4 (by decide) kf10_31 (v := .ref q_79101) p_h rfl dX10_init_153 ?_
  refine lv_iload_n hx hb dX10_init_156 rfl (lv_at hl 0 rfl) ?_
  refine pg_new S Y ok_X4 kc10_24 kn4 ki4 (fs := [.null, .null, .int 0, .int 0, .int 0, .int 0, .int 0]) (by decide) (by decide) (by decide) dX10_init_157 (fun q_79518 f_79519 H nq_79518 ef_79519 Y => ?_)
  have whkq_79518 := hk.notin nq_79518
  have hk := hk.push ef_79519 nq_79518
  have whkIq_79518 := hkI.notin nq_79518
  have hkI := hkI.push ef_79519 nq_79518
  have p_h := p_h.push ef_79519 nq_79518
  have p_q_79079 := p_q_79079.push ef_79519 nq_79518
  have p_q_79101 := p_q_79101.push ef_79519 nq_79518
  have p_q_79518 := pt.new (L := L_79500) ef_79519
  refine lv_dup hx hb dX10_init_160 rfl ?_
  refine cINv (b := q_79518) (As := []) (rest := [.ref q_79518, .int 9, .ref q_79101]) S Y (c_X4_init (l := l) p_q_79518) cw_X4_init km10_26 rfl ⟨Nat.le_of_ble_eq_true rfl, Nat.le_of_ble_eq_true rfl⟩ hl.1 rfl (Nat.le_of_ble_eq_true rfl) ⟨Nat.le_of_ble_eq_true rfl, Nat.le_of_ble_eq_true rfl⟩ dX10_init_161 (fun L_79520 f_79521 H locs hf_79521 Y => ?_)
  obtain ⟨a__79522, a__79523, kf_79521, z_z_79524, z_z_79525, z_z_79526, v_79527, v_79528⟩ := hf_79521
  have w_79529 := hk.notin v_79527
  have w_79530 := hkI.notin v_79527
  have w_79531 := hk.notin v_79528
  have w_79532 := hkI.notin v_79528
  have p_h := kf_79521.1 h _ (nmc (p_h.neK p_q_79518 (by decide)) nm0) p_h
  have p_q_79079 := kf_79521.1 q_79079 _ (nmc (p_q_79079.neB p_q_79518) nm0) p_q_79079
  have p_q_79101 := kf_79521.1 q_79101 _ (nmc (p_q_79101.neB p_q_79518) nm0) p_q_79101
  have p_q_79518 := z_z_79524
  have p_a__79522 := z_z_79525
  have p_a__79523 := z_z_79526
  have hk := hk.call kf_79521 (fun b hb hp => (nmc (neL hp whkq_79518) nm0))
  have hkI := hkI.call kf_79521 (fun b hb hp => (nmc (neL hp whkIq_79518) nm0))
  have nr_q_79518 : NRg gl_27 ad26 q_79518 := (SHC.nr I whkIq_79518)
  have nr_a__79522 : NRg gl_27 ad26 a__79522 := (SHC.nr I w_79530)
  have nr_a__79523 : NRg gl_27 ad26 a__79523 := (SHC.nr I w_79532)
  have I := I.kp hkI (allc nr_h (allc nr_q_79079 (allc nr_q_79101 all0)))
  have hkI : kp L_79520 f_79521 L_79520 f_79521 [h, q_79079, q_79101] := kp.rf
  obtain ⟨ad27, I, X_79533, Y_79534, Z_79535⟩ := SHC.led (l2 := gl_28) (n := 10) I rfl rfl rfl (by decide) rfl p_q_79518 p_a__79522 p_a__79523 nr_q_79518 nr_a__79522 nr_a__79523 
  have eq40_0 := (X_79533.2 40 0 (by decide)).trans eq40_0
  have eq41_0 := (X_79533.2 41 0 (by decide)).trans eq41_0
  have eq10_0 := (X_79533.2 10 0 (by decide)).trans eq10_0
  have eq20_0 := (X_79533.2 20 0 (by decide)).trans eq20_0
  have eq20_1 := (X_79533.2 20 1 (by decide)).trans eq20_1
  have eq20_2 := (X_79533.2 20 2 (by decide)).trans eq20_2
  have eq20_3 := (X_79533.2 20 3 (by decide)).trans eq20_3
  have eq20_4 := (X_79533.2 20 4 (by decide)).trans eq20_4
  have fam_sc := fam_x fam_sc X_79533 (by decide)
  have fam_pa := fam_x fam_pa X_79533 (by decide)
  have nr_h := Z_79535 _ nr_h (p_h.neK p_q_79518 (by decide)) (p_h.neA p_a__79522) (p_h.neA p_a__79523)
  have nr_q_79079 := Z_79535 _ nr_q_79079 (p_q_79079.neB p_q_79518) (p_q_79079.neN p_a__79522 (by decide)) (p_q_79079.neN p_a__79523 (by decide))
  have nr_q_79101 := Z_79535 _ nr_q_79101 (p_q_79101.neB p_q_79518) (p_q_79101.neN p_a__79522 (by decide)) (p_q_79101.neN p_a__79523 (by decide))
  have hout : ∀ x, x ∈ L → NRg gl_0 ad x → NRg gl_28 ad27 x := fun x hx hn => Z_79535 x (hout x hx hn) (fun e => whkq_79518 (by rw [← e]; exact hx)) (fun e => w_79529 (by rw [← e]; exact hx)) (fun e => w_79531 (by rw [← e]; exact hx))
  have hext := hext.tr X_79533
  have eq10_10 := Y_79534
  have hkI : kp L_79520 f_79521 L_79520 f_79521 [h, q_79079, q_79101] := kp.rf
  refine pg_aast S Y (k := 3) p_q_79101 rfl p_q_79518 ok_X4.1 (by unfold vp_in; decide) dX10_init_164 (fun f_79537 H locs ef_79537 Y => ?_)
  obtain ⟨g_79536, eg_79536⟩ : ∃ z, z = va_up (g_79516) (9 : Int32).toNatClampNeg (some q_79518) := ⟨_, rfl⟩
  rw [← eg_79536] at ef_79537
  have p_h := p_h.up ef_79537 ((p_h.neA p_q_79101))
  have p_q_79079 := p_q_79079.up ef_79537 ((p_q_79079.neN p_q_79101 (by decide)))
  have p_q_79518 := p_q_79518.up ef_79537 ((p_q_79518.neA p_q_79101))
  have p_q_79101 := p_q_79101.me ef_79537
  have hk := hk.upN ef_79537 whkq_79101
  have hkI := hkI.up ef_79537 (by simp)
  have fam_pa := fam_s (i := 9) fam_pa eq10_10 eg_79536
  refine lv_iinc (v := 10) (lv' := [(1, .int 10), (0, .ref h)]) hx hb dX10_init_165 hl (k := 0) rfl (by decide) (by decide) rfl (fun ls hl => ?_)
  refine lv_goto (tgt := 146) hx hb dX10_init_168 (by decide) ?_
  refine lv_iload_n hx hb dX10_init_146 rfl (lv_at hl 0 rfl) ?_
  refine lv_bipush (v := 30) hx hb dX10_init_147 (by decide) ?_
  refine lv_icmp_ge (tgt := 171) hx hb dX10_init_149 (by decide) (fun h => absurd h (by decide)) (fun _ => ?_)
  refine lv_aload_n hx hb dX10_init_152 rfl (lv_at hl 1 rfl) ?_
  refine pg_get S Y ok_X10 4 (by decide) kf10_31 (v := .ref q_79101) p_h rfl dX10_init_153 ?_
  refine lv_iload_n hx hb dX10_init_156 rfl (lv_at hl 0 rfl) ?_
  refine pg_new S Y ok_X4 kc10_24 kn4 ki4 (fs := [.null, .null, .int 0, .int 0, .int 0, .int 0, .int 0]) (by decide) (by decide) (by decide) dX10_init_157 (fun q_79538 f_79539 H nq_79538 ef_79539 Y => ?_)
  have whkq_79538 := hk.notin nq_79538
  have hk := hk.push ef_79539 nq_79538
  have whkIq_79538 := hkI.notin nq_79538
  have hkI := hkI.push ef_79539 nq_79538
  have p_h := p_h.push ef_79539 nq_79538
  have p_q_79079 := p_q_79079.push ef_79539 nq_79538
  have p_q_79101 := p_q_79101.push ef_79539 nq_79538
  have p_q_79538 := pt.new (L := L_79520) ef_79539
  refine lv_dup hx hb dX10_init_160 rfl ?_
  refine cINv (b := q_79538) (As := []) (rest := [.ref q_79538, .int 10, .ref q_79101]) S Y (c_X4_init (l := l) p_q_79538) cw_X4_init km10_26 rfl ⟨Nat.le_of_ble_eq_true rfl, Nat.le_of_ble_eq_true rfl⟩ hl.1 rfl (Nat.le_of_ble_eq_true rfl) ⟨Nat.le_of_ble_eq_true rfl, Nat.le_of_ble_eq_true rfl⟩ dX10_init_161 (fun L_79540 f_79541 H locs hf_79541 Y => ?_)
  obtain ⟨a__79542, a__79543, kf_79541, z_z_79544, z_z_79545, z_z_79546, v_79547, v_79548⟩ := hf_79541
  have w_79549 := hk.notin v_79547
  have w_79550 := hkI.notin v_79547
  have w_79551 := hk.notin v_79548
  have w_79552 := hkI.notin v_79548
  have p_h := kf_79541.1 h _ (nmc (p_h.neK p_q_79538 (by decide)) nm0) p_h
  have p_q_79079 := kf_79541.1 q_79079 _ (nmc (p_q_79079.neB p_q_79538) nm0) p_q_79079
  have p_q_79101 := kf_79541.1 q_79101 _ (nmc (p_q_79101.neB p_q_79538) nm0) p_q_79101
  have p_q_79538 := z_z_79544
  have p_a__79542 := z_z_79545
  have p_a__79543 := z_z_79546
  have hk := hk.call kf_79541 (fun b hb hp => (nmc (neL hp whkq_79538) nm0))
  have hkI := hkI.call kf_79541 (fun b hb hp => (nmc (neL hp whkIq_79538) nm0))
  have nr_q_79538 : NRg gl_28 ad27 q_79538 := (SHC.nr I whkIq_79538)
  have nr_a__79542 : NRg gl_28 ad27 a__79542 := (SHC.nr I w_79550)
  have nr_a__79543 : NRg gl_28 ad27 a__79543 := (SHC.nr I w_79552)
  have I := I.kp hkI (allc nr_h (allc nr_q_79079 (allc nr_q_79101 all0)))
  have hkI : kp L_79540 f_79541 L_79540 f_79541 [h, q_79079, q_79101] := kp.rf
  obtain ⟨ad28, I, X_79553, Y_79554, Z_79555⟩ := SHC.led (l2 := gl_29) (n := 11) I rfl rfl rfl (by decide) rfl p_q_79538 p_a__79542 p_a__79543 nr_q_79538 nr_a__79542 nr_a__79543 
  have eq40_0 := (X_79553.2 40 0 (by decide)).trans eq40_0
  have eq41_0 := (X_79553.2 41 0 (by decide)).trans eq41_0
  have eq10_0 := (X_79553.2 10 0 (by decide)).trans eq10_0
  have eq20_0 := (X_79553.2 20 0 (by decide)).trans eq20_0
  have eq20_1 := (X_79553.2 20 1 (by decide)).trans eq20_1
  have eq20_2 := (X_79553.2 20 2 (by decide)).trans eq20_2
  have eq20_3 := (X_79553.2 20 3 (by decide)).trans eq20_3
  have eq20_4 := (X_79553.2 20 4 (by decide)).trans eq20_4
  have fam_sc := fam_x fam_sc X_79553 (by decide)
  have fam_pa := fam_x fam_pa X_79553 (by decide)
  have nr_h := Z_79555 _ nr_h (p_h.neK p_q_79538 (by decide)) (p_h.neA p_a__79542) (p_h.neA p_a__79543)
  have nr_q_79079 := Z_79555 _ nr_q_79079 (p_q_79079.neB p_q_79538) (p_q_79079.neN p_a__79542 (by decide)) (p_q_79079.neN p_a__79543 (by decide))
  have nr_q_79101 := Z_79555 _ nr_q_79101 (p_q_79101.neB p_q_79538) (p_q_79101.neN p_a__79542 (by decide)) (p_q_79101.neN p_a__79543 (by decide))
  have hout : ∀ x, x ∈ L → NRg gl_0 ad x → NRg gl_29 ad28 x := fun x hx hn => Z_79555 x (hout x hx hn) (fun e => whkq_79538 (by rw [← e]; exact hx)) (fun e => w_79549 (by rw [← e]; exact hx)) (fun e => w_79551 (by rw [← e]; exact hx))
  have hext := hext.tr X_79553
  have eq10_11 := Y_79554
  have hkI : kp L_79540 f_79541 L_79540 f_79541 [h, q_79079, q_79101] := kp.rf
  refine pg_aast S Y (k := 3) p_q_79101 rfl p_q_79538 ok_X4.1 (by unfold vp_in; decide) dX10_init_164 (fun f_79557 H locs ef_79557 Y => ?_)
  obtain ⟨g_79556, eg_79556⟩ : ∃ z, z = va_up (g_79536) (10 : Int32).toNatClampNeg (some q_79538) := ⟨_, rfl⟩
  rw [← eg_79556] at ef_79557
  have p_h := p_h.up ef_79557 ((p_h.neA p_q_79101))
  have p_q_79079 := p_q_79079.up ef_79557 ((p_q_79079.neN p_q_79101 (by decide)))
  have p_q_79538 := p_q_79538.up ef_79557 ((p_q_79538.neA p_q_79101))
  have p_q_79101 := p_q_79101.me ef_79557
  have hk := hk.upN ef_79557 whkq_79101
  have hkI := hkI.up ef_79557 (by simp)
  have fam_pa := fam_s (i := 10) fam_pa eq10_11 eg_79556
  refine lv_iinc (v := 11) (lv' := [(1, .int 11), (0, .ref h)]) hx hb dX10_init_165 hl (k := 0) rfl (by decide) (by decide) rfl (fun ls hl => ?_)
  refine lv_goto (tgt := 146) hx hb dX10_init_168 (by decide) ?_
  refine lv_iload_n hx hb dX10_init_146 rfl (lv_at hl 0 rfl) ?_
  refine lv_bipush (v := 30) hx hb dX10_init_147 (by decide) ?_
  refine lv_icmp_ge (tgt := 171) hx hb dX10_init_149 (by decide) (fun h => absurd h (by decide)) (fun _ => ?_)
  refine lv_aload_n hx hb dX10_init_152 rfl (lv_at hl 1 rfl) ?_
  refine pg_get S Y ok_X10 4 (by decide) kf10_31 (v := .ref q_79101) p_h rfl dX10_init_153 ?_
  refine lv_iload_n hx hb dX10_init_156 rfl (lv_at hl 0 rfl) ?_
  refine pg_new S Y ok_X4 kc10_24 kn4 ki4 (fs := [.null, .null, .int 0, .int 0, .int 0, .int 0, .int 0]) (by decide) (by decide) (by decide) dX10_init_157 (fun q_79558 f_79559 H nq_79558 ef_79559 Y => ?_)
  have whkq_79558 := hk.notin nq_79558
  have hk := hk.push ef_79559 nq_79558
  have whkIq_79558 := hkI.notin nq_79558
  have hkI := hkI.push ef_79559 nq_79558
  have p_h := p_h.push ef_79559 nq_79558
  have p_q_79079 := p_q_79079.push ef_79559 nq_79558
  have p_q_79101 := p_q_79101.push ef_79559 nq_79558
  have p_q_79558 := pt.new (L := L_79540) ef_79559
  refine lv_dup hx hb dX10_init_160 rfl ?_
  refine cINv (b := q_79558) (As := []) (rest := [.ref q_79558, .int 11, .ref q_79101]) S Y (c_X4_init (l := l) p_q_79558) cw_X4_init km10_26 rfl ⟨Nat.le_of_ble_eq_true rfl, Nat.le_of_ble_eq_true rfl⟩ hl.1 rfl (Nat.le_of_ble_eq_true rfl) ⟨Nat.le_of_ble_eq_true rfl, Nat.le_of_ble_eq_true rfl⟩ dX10_init_161 (fun L_79560 f_79561 H locs hf_79561 Y => ?_)
  obtain ⟨a__79562, a__79563, kf_79561, z_z_79564, z_z_79565, z_z_79566, v_79567, v_79568⟩ := hf_79561
  have w_79569 := hk.notin v_79567
  have w_79570 := hkI.notin v_79567
  have w_79571 := hk.notin v_79568
  have w_79572 := hkI.notin v_79568
  have p_h := kf_79561.1 h _ (nmc (p_h.neK p_q_79558 (by decide)) nm0) p_h
  have p_q_79079 := kf_79561.1 q_79079 _ (nmc (p_q_79079.neB p_q_79558) nm0) p_q_79079
  have p_q_79101 := kf_79561.1 q_79101 _ (nmc (p_q_79101.neB p_q_79558) nm0) p_q_79101
  have p_q_79558 := z_z_79564
  have p_a__79562 := z_z_79565
  have p_a__79563 := z_z_79566
  have hk := hk.call kf_79561 (fun b hb hp => (nmc (neL hp whkq_79558) nm0))
  have hkI := hkI.call kf_79561 (fun b hb hp => (nmc (neL hp whkIq_79558) nm0))
  have nr_q_79558 : NRg gl_29 ad28 q_79558 := (SHC.nr I whkIq_79558)
  have nr_a__79562 : NRg gl_29 ad28 a__79562 := (SHC.nr I w_79570)
  have nr_a__79563 : NRg gl_29 ad28 a__79563 := (SHC.nr I w_79572)
  have I := I.kp hkI (allc nr_h (allc nr_q_79079 (allc nr_q_79101 all0)))
  have hkI : kp L_79560 f_79561 L_79560 f_79561 [h, q_79079, q_79101] := kp.rf
  obtain ⟨ad29, I, X_79573, Y_79574, Z_79575⟩ := SHC.led (l2 := gl_30) (n := 12) I rfl rfl rfl (by decide) rfl p_q_79558 p_a__79562 p_a__79563 nr_q_79558 nr_a__79562 nr_a__79563 
  have eq40_0 := (X_79573.2 40 0 (by decide)).trans eq40_0
  have eq41_0 := (X_79573.2 41 0 (by decide)).trans eq41_0
  have eq10_0 := (X_79573.2 10 0 (by decide)).trans eq10_0
  have eq20_0 := (X_79573.2 20 0 (by decide)).trans eq20_0
  have eq20_1 := (X_79573.2 20 1 (by decide)).trans eq20_1
  have eq20_2 := (X_79573.2 20 2 (by decide)).trans eq20_2
  have eq20_3 := (X_79573.2 20 3 (by decide)).trans eq20_3
  have eq20_4 := (X_79573.2 20 4 (by decide)).trans eq20_4
  have fam_sc := fam_x fam_sc X_79573 (by decide)
  have fam_pa := fam_x fam_pa X_79573 (by decide)
  have nr_h := Z_79575 _ nr_h (p_h.neK p_q_79558 (by decide)) (p_h.neA p_a__79562) (p_h.neA p_a__79563)
  have nr_q_79079 := Z_79575 _ nr_q_79079 (p_q_79079.neB p_q_79558) (p_q_79079.neN p_a__79562 (by decide)) (p_q_79079.neN p_a__79563 (by decide))
  have nr_q_79101 := Z_79575 _ nr_q_79101 (p_q_79101.neB p_q_79558) (p_q_79101.neN p_a__79562 (by decide)) (p_q_79101.neN p_a__79563 (by decide))
  have hout : ∀ x, x ∈ L → NRg gl_0 ad x → NRg gl_30 ad29 x := fun x hx hn => Z_79575 x (hout x hx hn) (fun e => whkq_79558 (by rw [← e]; exact hx)) (fun e => w_79569 (by rw [← e]; exact hx)) (fun e => w_79571 (by rw [← e]; exact hx))
  have hext := hext.tr X_79573
  have eq10_12 := Y_79574
  have hkI : kp L_79560 f_79561 L_79560 f_79561 [h, q_79079, q_79101] := kp.rf
  refine pg_aast S Y (k := 3) p_q_79101 rfl p_q_79558 ok_X4.1 (by unfold vp_in; decide) dX10_init_164 (fun f_79577 H locs ef_79577 Y => ?_)
  obtain ⟨g_79576, eg_79576⟩ : ∃ z, z = va_up (g_79556) (11 : Int32).toNatClampNeg (some q_79558) := ⟨_, rfl⟩
  rw [← eg_79576] at ef_79577
  have p_h := p_h.up ef_79577 ((p_h.neA p_q_79101))
  have p_q_79079 := p_q_79079.up ef_79577 ((p_q_79079.neN p_q_79101 (by decide)))
  have p_q_79558 := p_q_79558.up ef_79577 ((p_q_79558.neA p_q_79101))
  have p_q_79101 := p_q_79101.me ef_79577
  have hk := hk.upN ef_79577 whkq_79101
  have hkI := hkI.up ef_79577 (by simp)
  have fam_pa := fam_s (i := 11) fam_pa eq10_12 eg_79576
  refine lv_iinc (v := 12) (lv' := [(1, .int 12), (0, .ref h)]) hx hb dX10_init_165 hl (k := 0) rfl (by decide) (by decide) rfl (fun ls hl => ?_)
  refine lv_goto (tgt := 146) hx hb dX10_init_168 (by decide) ?_
  refine lv_iload_n hx hb dX10_init_146 rfl (lv_at hl 0 rfl) ?_
  refine lv_bipush (v := 30) hx hb dX10_init_147 (by decide) ?_
  refine lv_icmp_ge (tgt := 171) hx hb dX10_init_149 (by decide) (fun h => absurd h (by decide)) (fun _ => ?_)
  refine lv_aload_n hx hb dX10_init_152 rfl (lv_at hl 1 rfl) ?_
  refine pg_get S Y ok_X10 4 (by decide) kf10_31 (v := .ref q_79101) p_h rfl dX10_init_153 ?_
  refine lv_iload_n hx hb dX10_init_156 rfl (lv_at hl 0 rfl) ?_
  refine pg_new S Y ok_X4 kc10_24 kn4 ki4 (fs := [.null, .null, .int 0, .int 0, .int 0, .int 0, .int 0]) (by decide) (by decide) (by decide) dX10_init_157 (fun q_79578 f_79579 H nq_79578 ef_79579 Y => ?_)
  have whkq_79578 := hk.notin nq_79578
  have hk := hk.push ef_79579 nq_79578
  have whkIq_79578 := hkI.notin nq_79578
  have hkI := hkI.push ef_79579 nq_79578
  have p_h := p_h.push ef_79579 nq_79578
  have p_q_79079 := p_q_79079.push ef_79579 nq_79578
  have p_q_79101 := p_q_79101.push ef_79579 nq_79578
  have p_q_79578 := pt.new (L := L_79560) ef_79579
  refine lv_dup hx hb dX10_init_160 rfl ?_
  refine cINv (b := q_79578) (As := []) (rest := [.ref q_79578, .int 12, .ref q_79101]) S Y (c_X4_init (l := l) p_q_79578) cw_X4_init km10_26 rfl ⟨Nat.le_of_ble_eq_true rfl, Nat.le_of_ble_eq_true rfl⟩ hl.1 rfl (Nat.le_of_ble_eq_true rfl) ⟨Nat.le_of_ble_eq_true rfl, Nat.le_of_ble_eq_true rfl⟩ dX10_init_161 (fun L_79580 f_79581 H locs hf_79581 Y => ?_)
  obtain ⟨a__79582, a__79583, kf_79581, z_z_79584, z_z_79585, z_z_79586, v_79587, v_79588⟩ := hf_79581
  have w_79589 := hk.notin v_79587
  have w_79590 := hkI.notin v_79587
  have w_79591 := hk.notin v_79588
  have w_79592 := hkI.notin v_79588
  have p_h := kf_79581.1 h _ (nmc (p_h.neK p_q_79578 (by decide)) nm0) p_h
  have p_q_79079 := kf_79581.1 q_79079 _ (nmc (p_q_79079.neB p_q_79578) nm0) p_q_79079
  have p_q_79101 := kf_79581.1 q_79101 _ (nmc (p_q_79101.neB p_q_79578) nm0) p_q_79101
  have p_q_79578 := z_z_79584
  have p_a__79582 := z_z_79585
  have p_a__79583 := z_z_79586
  have hk := hk.call kf_79581 (fun b hb hp => (nmc (neL hp whkq_79578) nm0))
  have hkI := hkI.call kf_79581 (fun b hb hp => (nmc (neL hp whkIq_79578) nm0))
  have nr_q_79578 : NRg gl_30 ad29 q_79578 := (SHC.nr I whkIq_79578)
  have nr_a__79582 : NRg gl_30 ad29 a__79582 := (SHC.nr I w_79590)
  have nr_a__79583 : NRg gl_30 ad29 a__79583 := (SHC.nr I w_79592)
  have I := I.kp hkI (allc nr_h (allc nr_q_79079 (allc nr_q_79101 all0)))
  have hkI : kp L_79580 f_79581 L_79580 f_79581 [h, q_79079, q_79101] := kp.rf
  obtain ⟨ad30, I, X_79593, Y_79594, Z_79595⟩ := SHC.led (l2 := gl_31) (n := 13) I rfl rfl rfl (by decide) rfl p_q_79578 p_a__79582 p_a__79583 nr_q_79578 nr_a__79582 nr_a__79583 
  have eq40_0 := (X_79593.2 40 0 (by decide)).trans eq40_0
  have eq41_0 := (X_79593.2 41 0 (by decide)).trans eq41_0
  have eq10_0 := (X_79593.2 10 0 (by decide)).trans eq10_0
  have eq20_0 := (X_79593.2 20 0 (by decide)).trans eq20_0
  have eq20_1 := (X_79593.2 20 1 (by decide)).trans eq20_1
  have eq20_2 := (X_79593.2 20 2 (by decide)).trans eq20_2
  have eq20_3 := (X_79593.2 20 3 (by decide)).trans eq20_3
  have eq20_4 := (X_79593.2 20 4 (by decide)).trans eq20_4
  have fam_sc := fam_x fam_sc X_79593 (by decide)
  have fam_pa := fam_x fam_pa X_79593 (by decide)
  have nr_h := Z_79595 _ nr_h (p_h.neK p_q_79578 (by decide)) (p_h.neA p_a__79582) (p_h.neA p_a__79583)
  have nr_q_79079 := Z_79595 _ nr_q_79079 (p_q_79079.neB p_q_79578) (p_q_79079.neN p_a__79582 (by decide)) (p_q_79079.neN p_a__79583 (by decide))
  have nr_q_79101 := Z_79595 _ nr_q_79101 (p_q_79101.neB p_q_79578) (p_q_79101.neN p_a__79582 (by decide)) (p_q_79101.neN p_a__79583 (by decide))
  have hout : ∀ x, x ∈ L → NRg gl_0 ad x → NRg gl_31 ad30 x := fun x hx hn => Z_79595 x (hout x hx hn) (fun e => whkq_79578 (by rw [← e]; exact hx)) (fun e => w_79589 (by rw [← e]; exact hx)) (fun e => w_79591 (by rw [← e]; exact hx))
  have hext := hext.tr X_79593
  have eq10_13 := Y_79594
  have hkI : kp L_79580 f_79581 L_79580 f_79581 [h, q_79079, q_79101] := kp.rf
  refine pg_aast S Y (k := 3) p_q_79101 rfl p_q_79578 ok_X4.1 (by unfold vp_in; decide) dX10_init_164 (fun f_79597 H locs ef_79597 Y => ?_)
  obtain ⟨g_79596, eg_79596⟩ : ∃ z, z = va_up (g_79576) (12 : Int32).toNatClampNeg (some q_79578) := ⟨_, rfl⟩
  rw [← eg_79596] at ef_79597
  have p_h := p_h.up ef_79597 ((p_h.neA p_q_79101))
  have p_q_79079 := p_q_79079.up ef_79597 ((p_q_79079.neN p_q_79101 (by decide)))
  have p_q_79578 := p_q_79578.up ef_79597 ((p_q_79578.neA p_q_79101))
  have p_q_79101 := p_q_79101.me ef_79597
  have hk := hk.upN ef_79597 whkq_79101
  have hkI := hkI.up ef_79597 (by simp)
  have fam_pa := fam_s (i := 12) fam_pa eq10_13 eg_79596
  refine lv_iinc (v := 13) (lv' := [(1, .int 13), (0, .ref h)]) hx hb dX10_init_165 hl (k := 0) rfl (by decide) (by decide) rfl (fun ls hl => ?_)
  refine lv_goto (tgt := 146) hx hb dX10_init_168 (by decide) ?_
  refine lv_iload_n hx hb dX10_init_146 rfl (lv_at hl 0 rfl) ?_
  refine lv_bipush (v := 30) hx hb dX10_init_147 (by decide) ?_
  refine lv_icmp_ge (tgt := 171) hx hb dX10_init_149 (by decide) (fun h => absurd h (by decide)) (fun _ => ?_)
  refine lv_aload_n hx hb dX10_init_152 rfl (lv_at hl 1 rfl) ?_
  refine pg_get S Y ok_X10 4 (by decide) kf10_31 (v := .ref q_79101) p_h rfl dX10_init_153 ?_
  refine lv_iload_n hx hb dX10_init_156 rfl (lv_at hl 0 rfl) ?_
  refine pg_new S Y ok_X4 kc10_24 kn4 ki4 (fs := [.null, .null, .int 0, .int 0, .int 0, .int 0, .int 0]) (by decide) (by decide) (by decide) dX10_init_157 (fun q_79598 f_79599 H nq_79598 ef_79599 Y => ?_)
  have whkq_79598 := hk.notin nq_79598
  have hk := hk.push ef_79599 nq_79598
  have whkIq_79598 := hkI.notin nq_79598
  have hkI := hkI.push ef_79599 nq_79598
  have p_h := p_h.push ef_79599 nq_79598
  have p_q_79079 := p_q_79079.push ef_79599 nq_79598
  have p_q_79101 := p_q_79101.push ef_79599 nq_79598
  have p_q_79598 := pt.new (L := L_79580) ef_79599
  refine lv_dup hx hb dX10_init_160 rfl ?_
  refine cINv (b := q_79598) (As := []) (rest := [.ref q_79598, .int 13, .ref q_79101]) S Y (c_X4_init (l := l) p_q_79598) cw_X4_init km10_26 rfl ⟨Nat.le_of_ble_eq_true rfl, Nat.le_of_ble_eq_true rfl⟩ hl.1 rfl (Nat.le_of_ble_eq_true rfl) ⟨Nat.le_of_ble_eq_true rfl, Nat.le_of_ble_eq_true rfl⟩ dX10_init_161 (fun L_79600 f_79601 H locs hf_79601 Y => ?_)
  obtain ⟨a__79602, a__79603, kf_79601, z_z_79604, z_z_79605, z_z_79606, v_79607, v_79608⟩ := hf_79601
  have w_79609 := hk.notin v_79607
  have w_79610 := hkI.notin v_79607
  have w_79611 := hk.notin v_79608
  have w_79612 := hkI.notin v_79608
  have p_h := kf_79601.1 h _ (nmc (p_h.neK p_q_79598 (by decide)) nm0) p_h
  have p_q_79079 := kf_79601.1 q_79079 _ (nmc (p_q_79079.neB p_q_79598) nm0) p_q_79079
  have p_q_79101 := kf_79601.1 q_79101 _ (nmc (p_q_79101.neB p_q_79598) nm0) p_q_79101
  have p_q_79598 := z_z_79604
  have p_a__79602 := z_z_79605
  have p_a__79603 := z_z_79606
  have hk := hk.call kf_79601 (fun b hb hp => (nmc (neL hp whkq_79598) nm0))
  have hkI := hkI.call kf_79601 (fun b hb hp => (nmc (neL hp whkIq_79598) nm0))
  have nr_q_79598 : NRg gl_31 ad30 q_79598 := (SHC.nr I whkIq_79598)
  have nr_a__79602 : NRg gl_31 ad30 a__79602 := (SHC.nr I w_79610)
  have nr_a__79603 : NRg gl_31 ad30 a__79603 := (SHC.nr I w_79612)
  have I := I.kp hkI (allc nr_h (allc nr_q_79079 (allc nr_q_79101 all0)))
  have hkI : kp L_79600 f_79601 L_79600 f_79601 [h, q_79079, q_79101] := kp.rf
  obtain ⟨ad31, I, X_79613, Y_79614, Z_79615⟩ := SHC.led (l2 := gl_32) (n := 14) I rfl rfl rfl (by decide) rfl p_q_79598 p_a__79602 p_a__79603 nr_q_79598 nr_a__79602 nr_a__79603 
  have eq40_0 := (X_79613.2 40 0 (by decide)).trans eq40_0
  have eq41_0 := (X_79613.2 41 0 (by decide)).trans eq41_0
  have eq10_0 := (X_79613.2 10 0 (by decide)).trans eq10_0
  have eq20_0 := (X_79613.2 20 0 (by decide)).trans eq20_0
  have eq20_1 := (X_79613.2 20 1 (by decide)).trans eq20_1
  have eq20_2 := (X_79613.2 20 2 (by decide)).trans eq20_2
  have eq20_3 := (X_79613.2 20 3 (by decide)).trans eq20_3
  have eq20_4 := (X_79613.2 20 4 (by decide)).trans eq20_4
  have fam_sc := fam_x fam_sc X_79613 (by decide)
  have fam_pa := fam_x fam_pa X_79613 (by decide)
  have nr_h := Z_79615 _ nr_h (p_h.neK p_q_79598 (by decide)) (p_h.neA p_a__79602) (p_h.neA p_a__79603)
  have nr_q_79079 := Z_79615 _ nr_q_79079 (p_q_79079.neB p_q_79598) (p_q_79079.neN p_a__79602 (by decide)) (p_q_79079.neN p_a__79603 (by decide))
  have nr_q_79101 := Z_79615 _ nr_q_79101 (p_q_79101.neB p_q_79598) (p_q_79101.neN p_a__79602 (by decide)) (p_q_79101.neN p_a__79603 (by decide))
  have hout : ∀ x, x ∈ L → NRg gl_0 ad x → NRg gl_32 ad31 x := fun x hx hn => Z_79615 x (hout x hx hn) (fun e => whkq_79598 (by rw [← e]; exact hx)) (fun e => w_79609 (by rw [← e]; exact hx)) (fun e => w_79611 (by rw [← e]; exact hx))
  have hext := hext.tr X_79613
  have eq10_14 := Y_79614
  have hkI : kp L_79600 f_79601 L_79600 f_79601 [h, q_79079, q_79101] := kp.rf
  refine pg_aast S Y (k := 3) p_q_79101 rfl p_q_79598 ok_X4.1 (by unfold vp_in; decide) dX10_init_164 (fun f_79617 H locs ef_79617 Y => ?_)
  obtain ⟨g_79616, eg_79616⟩ : ∃ z, z = va_up (g_79596) (13 : Int32).toNatClampNeg (some q_79598) := ⟨_, rfl⟩
  rw [← eg_79616] at ef_79617
  have p_h := p_h.up ef_79617 ((p_h.neA p_q_79101))
  have p_q_79079 := p_q_79079.up ef_79617 ((p_q_79079.neN p_q_79101 (by decide)))
  have p_q_79598 := p_q_79598.up ef_79617 ((p_q_79598.neA p_q_79101))
  have p_q_79101 := p_q_79101.me ef_79617
  have hk := hk.upN ef_79617 whkq_79101
  have hkI := hkI.up ef_79617 (by simp)
  have fam_pa := fam_s (i := 13) fam_pa eq10_14 eg_79616
  refine lv_iinc (v := 14) (lv' := [(1, .int 14), (0, .ref h)]) hx hb dX10_init_165 hl (k := 0) rfl (by decide) (by decide) rfl (fun ls hl => ?_)
  refine lv_goto (tgt := 146) hx hb dX10_init_168 (by decide) ?_
  refine lv_iload_n hx hb dX10_init_146 rfl (lv_at hl 0 rfl) ?_
  refine lv_bipush (v := 30) hx hb dX10_init_147 (by decide) ?_
  refine lv_icmp_ge (tgt := 171) hx hb dX10_init_149 (by decide) (fun h => absurd h (by decide)) (fun _ => ?_)
  refine lv_aload_n hx hb dX10_init_152 rfl (lv_at hl 1 rfl) ?_
  refine pg_get S Y ok_X10 4 (by decide) kf10_31 (v := .ref q_79101) p_h rfl dX10_init_153 ?_
  refine lv_iload_n hx hb dX10_init_156 rfl (lv_at hl 0 rfl) ?_
  refine pg_new S Y ok_X4 kc10_24 kn4 ki4 (fs := [.null, .null, .int 0, .int 0, .int 0, .int 0, .int 0]) (by decide) (by decide) (by decide) dX10_init_157 (fun q_79618 f_79619 H nq_79618 ef_79619 Y => ?_)
  have whkq_79618 := hk.notin nq_79618
  have hk := hk.push ef_79619 nq_79618
  have whkIq_79618 := hkI.notin nq_79618
  have hkI := hkI.push ef_79619 nq_79618
  have p_h := p_h.push ef_79619 nq_79618
  have p_q_79079 := p_q_79079.push ef_79619 nq_79618
  have p_q_79101 := p_q_79101.push ef_79619 nq_79618
  have p_q_79618 := pt.new (L := L_79600) ef_79619
  refine lv_dup hx hb dX10_init_160 rfl ?_
  refine cINv (b := q_79618) (As := []) (rest := [.ref q_79618, .int 14, .ref q_79101]) S Y (c_X4_init (l := l) p_q_79618) cw_X4_init km10_26 rfl ⟨Nat.le_of_ble_eq_true rfl, Nat.le_of_ble_eq_true rfl⟩ hl.1 rfl (Nat.le_of_ble_eq_true rfl) ⟨Nat.le_of_ble_eq_true rfl, Nat.le_of_ble_eq_true rfl⟩ dX10_init_161 (fun L_79620 f_79621 H locs hf_79621 Y => ?_)
  obtain ⟨a__79622, a__79623, kf_79621, z_z_79624, z_z_79625, z_z_79626, v_79627, v_79628⟩ := hf_79621
  have w_79629 := hk.notin v_79627
  have w_79630 := hkI.notin v_79627
  have w_79631 := hk.notin v_79628
  have w_79632 := hkI.notin v_79628
  have p_h := kf_79621.1 h _ (nmc (p_h.neK p_q_79618 (by decide)) nm0) p_h
  have p_q_79079 := kf_79621.1 q_79079 _ (nmc (p_q_79079.neB p_q_79618) nm0) p_q_79079
  have p_q_79101 := kf_79621.1 q_79101 _ (nmc (p_q_79101.neB p_q_79618) nm0) p_q_79101
  have p_q_79618 := z_z_79624
  have p_a__79622 := z_z_79625
  have p_a__79623 := z_z_79626
  have hk := hk.call kf_79621 (fun b hb hp => (nmc (neL hp whkq_79618) nm0))
  have hkI := hkI.call kf_79621 (fun b hb hp => (nmc (neL hp whkIq_79618) nm0))
  have nr_q_79618 : NRg gl_32 ad31 q_79618 := (SHC.nr I whkIq_79618)
  have nr_a__79622 : NRg gl_32 ad31 a__79622 := (SHC.nr I w_79630)
  have nr_a__79623 : NRg gl_32 ad31 a__79623 := (SHC.nr I w_79632)
  have I := I.kp hkI (allc nr_h (allc nr_q_79079 (allc nr_q_79101 all0)))
  have hkI : kp L_79620 f_79621 L_79620 f_79621 [h, q_79079, q_79101] := kp.rf
  obtain ⟨ad32, I, X_79633, Y_79634, Z_79635⟩ := SHC.led (l2 := gl_33) (n := 15) I rfl rfl rfl (by decide) rfl p_q_79618 p_a__79622 p_a__79623 nr_q_79618 nr_a__79622 nr_a__79623 
  have eq40_0 := (X_79633.2 40 0 (by decide)).trans eq40_0
  have eq41_0 := (X_79633.2 41 0 (by decide)).trans eq41_0
  have eq10_0 := (X_79633.2 10 0 (by decide)).trans eq10_0
  have eq20_0 := (X_79633.2 20 0 (by decide)).trans eq20_0
  have eq20_1 := (X_79633.2 20 1 (by decide)).trans eq20_1
  have eq20_2 := (X_79633.2 20 2 (by decide)).trans eq20_2
  have eq20_3 := (X_79633.2 20 3 (by decide)).trans eq20_3
  have eq20_4 := (X_79633.2 20 4 (by decide)).trans eq20_4
  have fam_sc := fam_x fam_sc X_79633 (by decide)
  have fam_pa := fam_x fam_pa X_79633 (by decide)
  have nr_h := Z_79635 _ nr_h (p_h.neK p_q_79618 (by decide)) (p_h.neA p_a__79622) (p_h.neA p_a__79623)
  have nr_q_79079 := Z_79635 _ nr_q_79079 (p_q_79079.neB p_q_79618) (p_q_79079.neN p_a__79622 (by decide)) (p_q_79079.neN p_a__79623 (by decide))
  have nr_q_79101 := Z_79635 _ nr_q_79101 (p_q_79101.neB p_q_79618) (p_q_79101.neN p_a__79622 (by decide)) (p_q_79101.neN p_a__79623 (by decide))
  have hout : ∀ x, x ∈ L → NRg gl_0 ad x → NRg gl_33 ad32 x := fun x hx hn => Z_79635 x (hout x hx hn) (fun e => whkq_79618 (by rw [← e]; exact hx)) (fun e => w_79629 (by rw [← e]; exact hx)) (fun e => w_79631 (by rw [← e]; exact hx))
  have hext := hext.tr X_79633
  have eq10_15 := Y_79634
  have hkI : kp L_79620 f_79621 L_79620 f_79621 [h, q_79079, q_79101] := kp.rf
  refine pg_aast S Y (k := 3) p_q_79101 rfl p_q_79618 ok_X4.1 (by unfold vp_in; decide) dX10_init_164 (fun f_79637 H locs ef_79637 Y => ?_)
  obtain ⟨g_79636, eg_79636⟩ : ∃ z, z = va_up (g_79616) (14 : Int32).toNatClampNeg (some q_79618) := ⟨_, rfl⟩
  rw [← eg_79636] at ef_79637
  have p_h := p_h.up ef_79637 ((p_h.neA p_q_79101))
  have p_q_79079 := p_q_79079.up ef_79637 ((p_q_79079.neN p_q_79101 (by decide)))
  have p_q_79618 := p_q_79618.up ef_79637 ((p_q_79618.neA p_q_79101))
  have p_q_79101 := p_q_79101.me ef_79637
  have hk := hk.upN ef_79637 whkq_79101
  have hkI := hkI.up ef_79637 (by simp)
  have fam_pa := fam_s (i := 14) fam_pa eq10_15 eg_79636
  refine lv_iinc (v := 15) (lv' := [(1, .int 15), (0, .ref h)]) hx hb dX10_init_165 hl (k := 0) rfl (by decide) (by decide) rfl (fun ls hl => ?_)
  refine lv_goto (tgt := 146) hx hb dX10_init_168 (by decide) ?_
  refine lv_iload_n hx hb dX10_init_146 rfl (lv_at hl 0 rfl) ?_
  refine lv_bipush (v := 30) hx hb dX10_init_147 (by decide) ?_
  refine lv_icmp_ge (tgt := 171) hx hb dX10_init_149 (by decide) (fun h => absurd h (by decide)) (fun _ => ?_)
  refine lv_aload_n hx hb dX10_init_152 rfl (lv_at hl 1 rfl) ?_
  refine pg_get S Y ok_X10 4 (by decide) kf10_31 (v := .ref q_79101) p_h rfl dX10_init_153 ?_
  refine lv_iload_n hx hb dX10_init_156 rfl (lv_at hl 0 rfl) ?_
  refine pg_new S Y ok_X4 kc10_24 kn4 ki4 (fs := [.null, .null, .int 0, .int 0, .int 0, .int 0, .int 0]) (by decide) (by decide) (by decide) dX10_init_157 (fun q_79638 f_79639 H nq_79638 ef_79639 Y => ?_)
  have whkq_79638 := hk.notin nq_79638
  have hk := hk.push ef_79639 nq_79638
  have whkIq_79638 := hkI.notin nq_79638
  have hkI := hkI.push ef_79639 nq_79638
  have p_h := p_h.push ef_79639 nq_79638
  have p_q_79079 := p_q_79079.push ef_79639 nq_79638
  have p_q_79101 := p_q_79101.push ef_79639 nq_79638
  have p_q_79638 := pt.new (L := L_79620) ef_79639
  refine lv_dup hx hb dX10_init_160 rfl ?_
  refine cINv (b := q_79638) (As := []) (rest := [.ref q_79638, .int 15, .ref q_79101]) S Y (c_X4_init (l := l) p_q_79638) cw_X4_init km10_26 rfl ⟨Nat.le_of_ble_eq_true rfl, Nat.le_of_ble_eq_true rfl⟩ hl.1 rfl (Nat.le_of_ble_eq_true rfl) ⟨Nat.le_of_ble_eq_true rfl, Nat.le_of_ble_eq_true rfl⟩ dX10_init_161 (fun L_79640 f_79641 H locs hf_79641 Y => ?_)
  obtain ⟨a__79642, a__79643, kf_79641, z_z_79644, z_z_79645, z_z_79646, v_79647, v_79648⟩ := hf_79641
  have w_79649 := hk.notin v_79647
  have w_79650 := hkI.notin v_79647
  have w_79651 := hk.notin v_79648
  have w_79652 := hkI.notin v_79648
  have p_h := kf_79641.1 h _ (nmc (p_h.neK p_q_79638 (by decide)) nm0) p_h
  have p_q_79079 := kf_79641.1 q_79079 _ (nmc (p_q_79079.neB p_q_79638) nm0) p_q_79079
  have p_q_79101 := kf_79641.1 q_79101 _ (nmc (p_q_79101.neB p_q_79638) nm0) p_q_79101
  have p_q_79638 := z_z_79644
  have p_a__79642 := z_z_79645
  have p_a__79643 := z_z_79646
  have hk := hk.call kf_79641 (fun b hb hp => (nmc (neL hp whkq_79638) nm0))
  have hkI := hkI.call kf_79641 (fun b hb hp => (nmc (neL hp whkIq_79638) nm0))
  have nr_q_79638 : NRg gl_33 ad32 q_79638 := (SHC.nr I whkIq_79638)
  have nr_a__79642 : NRg gl_33 ad32 a__79642 := (SHC.nr I w_79650)
  have nr_a__79643 : NRg gl_33 ad32 a__79643 := (SHC.nr I w_79652)
  have I := I.kp hkI (allc nr_h (allc nr_q_79079 (allc nr_q_79101 all0)))
  have hkI : kp L_79640 f_79641 L_79640 f_79641 [h, q_79079, q_79101] := kp.rf
  obtain ⟨ad33, I, X_79653, Y_79654, Z_79655⟩ := SHC.led (l2 := gl_34) (n := 16) I rfl rfl rfl (by decide) rfl p_q_79638 p_a__79642 p_a__79643 nr_q_79638 nr_a__79642 nr_a__79643 
  have eq40_0 := (X_79653.2 40 0 (by decide)).trans eq40_0
  have eq41_0 := (X_79653.2 41 0 (by decide)).trans eq41_0
  have eq10_0 := (X_79653.2 10 0 (by decide)).trans eq10_0
  have eq20_0 := (X_79653.2 20 0 (by decide)).trans eq20_0
  have eq20_1 := (X_79653.2 20 1 (by decide)).trans eq20_1
  have eq20_2 := (X_79653.2 20 2 (by decide)).trans eq20_2
  have eq20_3 := (X_79653.2 20 3 (by decide)).trans eq20_3
  have eq20_4 := (X_79653.2 20 4 (by decide)).trans eq20_4
  have fam_sc := fam_x fam_sc X_79653 (by decide)
  have fam_pa := fam_x fam_pa X_79653 (by decide)
  have nr_h := Z_79655 _ nr_h (p_h.neK p_q_79638 (by decide)) (p_h.neA p_a__79642) (p_h.neA p_a__79643)
  have nr_q_79079 := Z_79655 _ nr_q_79079 (p_q_79079.neB p_q_79638) (p_q_79079.neN p_a__79642 (by decide)) (p_q_79079.neN p_a__79643 (by decide))
  have nr_q_79101 := Z_79655 _ nr_q_79101 (p_q_79101.neB p_q_79638) (p_q_79101.neN p_a__79642 (by decide)) (p_q_79101.neN p_a__79643 (by decide))
  have hout : ∀ x, x ∈ L → NRg gl_0 ad x → NRg gl_34 ad33 x := fun x hx hn => Z_79655 x (hout x hx hn) (fun e => whkq_79638 (by rw [← e]; exact hx)) (fun e => w_79649 (by rw [← e]; exact hx)) (fun e => w_79651 (by rw [← e]; exact hx))
  have hext := hext.tr X_79653
  have eq10_16 := Y_79654
  have hkI : kp L_79640 f_79641 L_79640 f_79641 [h, q_79079, q_79101] := kp.rf
  refine pg_aast S Y (k := 3) p_q_79101 rfl p_q_79638 ok_X4.1 (by unfold vp_in; decide) dX10_init_164 (fun f_79657 H locs ef_79657 Y => ?_)
  obtain ⟨g_79656, eg_79656⟩ : ∃ z, z = va_up (g_79636) (15 : Int32).toNatClampNeg (some q_79638) := ⟨_, rfl⟩
  rw [← eg_79656] at ef_79657
  have p_h := p_h.up ef_79657 ((p_h.neA p_q_79101))
  have p_q_79079 := p_q_79079.up ef_79657 ((p_q_79079.neN p_q_79101 (by decide)))
  have p_q_79638 := p_q_79638.up ef_79657 ((p_q_79638.neA p_q_79101))
  have p_q_79101 := p_q_79101.me ef_79657
  have hk := hk.upN ef_79657 whkq_79101
  have hkI := hkI.up ef_79657 (by simp)
  have fam_pa := fam_s (i := 15) fam_pa eq10_16 eg_79656
  refine lv_iinc (v := 16) (lv' := [(1, .int 16), (0, .ref h)]) hx hb dX10_init_165 hl (k := 0) rfl (by decide) (by decide) rfl (fun ls hl => ?_)
  refine lv_goto (tgt := 146) hx hb dX10_init_168 (by decide) ?_
  refine lv_iload_n hx hb dX10_init_146 rfl (lv_at hl 0 rfl) ?_
  refine lv_bipush (v := 30) hx hb dX10_init_147 (by decide) ?_
  refine lv_icmp_ge (tgt := 171) hx hb dX10_init_149 (by decide) (fun h => absurd h (by decide)) (fun _ => ?_)
  refine lv_aload_n hx hb dX10_init_152 rfl (lv_at hl 1 rfl) ?_
  refine pg_get S Y ok_X10 4 (by decide) kf10_31 (v := .ref q_79101) p_h rfl dX10_init_153 ?_
  refine lv_iload_n hx hb dX10_init_156 rfl (lv_at hl 0 rfl) ?_
  refine pg_new S Y ok_X4 kc10_24 kn4 ki4 (fs := [.null, .null, .int 0, .int 0, .int 0, .int 0, .int 0]) (by decide) (by decide) (by decide) dX10_init_157 (fun q_79658 f_79659 H nq_79658 ef_79659 Y => ?_)
  have whkq_79658 := hk.notin nq_79658
  have hk := hk.push ef_79659 nq_79658
  have whkIq_79658 := hkI.notin nq_79658
  have hkI := hkI.push ef_79659 nq_79658
  have p_h := p_h.push ef_79659 nq_79658
  have p_q_79079 := p_q_79079.push ef_79659 nq_79658
  have p_q_79101 := p_q_79101.push ef_79659 nq_79658
  have p_q_79658 := pt.new (L := L_79640) ef_79659
  refine lv_dup hx hb dX10_init_160 rfl ?_
  refine cINv (b := q_79658) (As := []) (rest := [.ref q_79658, .int 16, .ref q_79101]) S Y (c_X4_init (l := l) p_q_79658) cw_X4_init km10_26 rfl ⟨Nat.le_of_ble_eq_true rfl, Nat.le_of_ble_eq_true rfl⟩ hl.1 rfl (Nat.le_of_ble_eq_true rfl) ⟨Nat.le_of_ble_eq_true rfl, Nat.le_of_ble_eq_true rfl⟩ dX10_init_161 (fun L_79660 f_79661 H locs hf_79661 Y => ?_)
  obtain ⟨a__79662, a__79663, kf_79661, z_z_79664, z_z_79665, z_z_79666, v_79667, v_79668⟩ := hf_79661
  have w_79669 := hk.notin v_79667
  have w_79670 := hkI.notin v_79667
  have w_79671 := hk.notin v_79668
  have w_79672 := hkI.notin v_79668
  have p_h := kf_79661.1 h _ (nmc (p_h.neK p_q_79658 (by decide)) nm0) p_h
  have p_q_79079 := kf_79661.1 q_79079 _ (nmc (p_q_79079.neB p_q_79658) nm0) p_q_79079
  have p_q_79101 := kf_79661.1 q_79101 _ (nmc (p_q_79101.neB p_q_79658) nm0) p_q_79101
  have p_q_79658 := z_z_79664
  have p_a__79662 := z_z_79665
  have p_a__79663 := z_z_79666
  have hk := hk.call kf_79661 (fun b hb hp => (nmc (neL hp whkq_79658) nm0))
  have hkI := hkI.call kf_79661 (fun b hb hp => (nmc (neL hp whkIq_79658) nm0))
  have nr_q_79658 : NRg gl_34 ad33 q_79658 := (SHC.nr I whkIq_79658)
  have nr_a__79662 : NRg gl_34 ad33 a__79662 := (SHC.nr I w_79670)
  have nr_a__79663 : NRg gl_34 ad33 a__79663 := (SHC.nr I w_79672)
  have I := I.kp hkI (allc nr_h (allc nr_q_79079 (allc nr_q_79101 all0)))
  have hkI : kp L_79660 f_79661 L_79660 f_79661 [h, q_79079, q_79101] := kp.rf
  obtain ⟨ad34, I, X_79673, Y_79674, Z_79675⟩ := SHC.led (l2 := gl_35) (n := 17) I rfl rfl rfl (by decide) rfl p_q_79658 p_a__79662 p_a__79663 nr_q_79658 nr_a__79662 nr_a__79663 
  have eq40_0 := (X_79673.2 40 0 (by decide)).trans eq40_0
  have eq41_0 := (X_79673.2 41 0 (by decide)).trans eq41_0
  have eq10_0 := (X_79673.2 10 0 (by decide)).trans eq10_0
  have eq20_0 := (X_79673.2 20 0 (by decide)).trans eq20_0
  have eq20_1 := (X_79673.2 20 1 (by decide)).trans eq20_1
  have eq20_2 := (X_79673.2 20 2 (by decide)).trans eq20_2
  have eq20_3 := (X_79673.2 20 3 (by decide)).trans eq20_3
  have eq20_4 := (X_79673.2 20 4 (by decide)).trans eq20_4
  have fam_sc := fam_x fam_sc X_79673 (by decide)
  have fam_pa := fam_x fam_pa X_79673 (by decide)
  have nr_h := Z_79675 _ nr_h (p_h.neK p_q_79658 (by decide)) (p_h.neA p_a__79662) (p_h.neA p_a__79663)
  have nr_q_79079 := Z_79675 _ nr_q_79079 (p_q_79079.neB p_q_79658) (p_q_79079.neN p_a__79662 (by decide)) (p_q_79079.neN p_a__79663 (by decide))
  have nr_q_79101 := Z_79675 _ nr_q_79101 (p_q_79101.neB p_q_79658) (p_q_79101.neN p_a__79662 (by decide)) (p_q_79101.neN p_a__79663 (by decide))
  have hout : ∀ x, x ∈ L → NRg gl_0 ad x → NRg gl_35 ad34 x := fun x hx hn => Z_79675 x (hout x hx hn) (fun e => whkq_79658 (by rw [← e]; exact hx)) (fun e => w_79669 (by rw [← e]; exact hx)) (fun e => w_79671 (by rw [← e]; exact hx))
  have hext := hext.tr X_79673
  have eq10_17 := Y_79674
  have hkI : kp L_79660 f_79661 L_79660 f_79661 [h, q_79079, q_79101] := kp.rf
  refine pg_aast S Y (k := 3) p_q_79101 rfl p_q_79658 ok_X4.1 (by unfold vp_in; decide) dX10_init_164 (fun f_79677 H locs ef_79677 Y => ?_)
  obtain ⟨g_79676, eg_79676⟩ : ∃ z, z = va_up (g_79656) (16 : Int32).toNatClampNeg (some q_79658) := ⟨_, rfl⟩
  rw [← eg_79676] at ef_79677
  have p_h := p_h.up ef_79677 ((p_h.neA p_q_79101))
  have p_q_79079 := p_q_79079.up ef_79677 ((p_q_79079.neN p_q_79101 (by decide)))
  have p_q_79658 := p_q_79658.up ef_79677 ((p_q_79658.neA p_q_79101))
  have p_q_79101 := p_q_79101.me ef_79677
  have hk := hk.upN ef_79677 whkq_79101
  have hkI := hkI.up ef_79677 (by simp)
  have fam_pa := fam_s (i := 16) fam_pa eq10_17 eg_79676
  refine lv_iinc (v := 17) (lv' := [(1, .int 17), (0, .ref h)]) hx hb dX10_init_165 hl (k := 0) rfl (by decide) (by decide) rfl (fun ls hl => ?_)
  refine lv_goto (tgt := 146) hx hb dX10_init_168 (by decide) ?_
  refine lv_iload_n hx hb dX10_init_146 rfl (lv_at hl 0 rfl) ?_
  refine lv_bipush (v := 30) hx hb dX10_init_147 (by decide) ?_
  refine lv_icmp_ge (tgt := 171) hx hb dX10_init_149 (by decide) (fun h => absurd h (by decide)) (fun _ => ?_)
  refine lv_aload_n hx hb dX10_init_152 rfl (lv_at hl 1 rfl) ?_
  refine pg_get S Y ok_X10 4 (by decide) kf10_31 (v := .ref q_79101) p_h rfl dX10_init_153 ?_
  refine lv_iload_n hx hb dX10_init_156 rfl (lv_at hl 0 rfl) ?_
  refine pg_new S Y ok_X4 kc10_24 kn4 ki4 (fs := [.null, .null, .int 0, .int 0, .int 0, .int 0, .int 0]) (by decide) (by decide) (by decide) dX10_init_157 (fun q_79678 f_79679 H nq_79678 ef_79679 Y => ?_)
  have whkq_79678 := hk.notin nq_79678
  have hk := hk.push ef_79679 nq_79678
  have whkIq_79678 := hkI.notin nq_79678
  have hkI := hkI.push ef_79679 nq_79678
  have p_h := p_h.push ef_79679 nq_79678
  have p_q_79079 := p_q_79079.push ef_79679 nq_79678
  have p_q_79101 := p_q_79101.push ef_79679 nq_79678
  have p_q_79678 := pt.new (L := L_79660) ef_79679
  refine lv_dup hx hb dX10_init_160 rfl ?_
  refine cINv (b := q_79678) (As := []) (rest := [.ref q_79678, .int 17, .ref q_79101]) S Y (c_X4_init (l := l) p_q_79678) cw_X4_init km10_26 rfl ⟨Nat.le_of_ble_eq_true rfl, Nat.le_of_ble_eq_true rfl⟩ hl.1 rfl (Nat.le_of_ble_eq_true rfl) ⟨Nat.le_of_ble_eq_true rfl, Nat.le_of_ble_eq_true rfl⟩ dX10_init_161 (fun L_79680 f_79681 H locs hf_79681 Y => ?_)
  obtain ⟨a__79682, a__79683, kf_79681, z_z_79684, z_z_79685, z_z_79686, v_79687, v_79688⟩ := hf_79681
  have w_79689 := hk.notin v_79687
  have w_79690 := hkI.notin v_79687
  have w_79691 := hk.notin v_79688
  have w_79692 := hkI.notin v_79688
  have p_h := kf_79681.1 h _ (nmc (p_h.neK p_q_79678 (by decide)) nm0) p_h
  have p_q_79079 := kf_79681.1 q_79079 _ (nmc (p_q_79079.neB p_q_79678) nm0) p_q_79079
  have p_q_79101 := kf_79681.1 q_79101 _ (nmc (p_q_79101.neB p_q_79678) nm0) p_q_79101
  have p_q_79678 := z_z_79684
  have p_a__79682 := z_z_79685
  have p_a__79683 := z_z_79686
  have hk := hk.call kf_79681 (fun b hb hp => (nmc (neL hp whkq_79678) nm0))
  have hkI := hkI.call kf_79681 (fun b hb hp => (nmc (neL hp whkIq_79678) nm0))
  have nr_q_79678 : NRg gl_35 ad34 q_79678 := (SHC.nr I whkIq_79678)
  have nr_a__79682 : NRg gl_35 ad34 a__79682 := (SHC.nr I w_79690)
  have nr_a__79683 : NRg gl_35 ad34 a__79683 := (SHC.nr I w_79692)
  have I := I.kp hkI (allc nr_h (allc nr_q_79079 (allc nr_q_79101 all0)))
  have hkI : kp L_79680 f_79681 L_79680 f_79681 [h, q_79079, q_79101] := kp.rf
  obtain ⟨ad35, I, X_79693, Y_79694, Z_79695⟩ := SHC.led (l2 := gl_36) (n := 18) I rfl rfl rfl (by decide) rfl p_q_79678 p_a__79682 p_a__79683 nr_q_79678 nr_a__79682 nr_a__79683 
  have eq40_0 := (X_79693.2 40 0 (by decide)).trans eq40_0
  have eq41_0 := (X_79693.2 41 0 (by decide)).trans eq41_0
  have eq10_0 := (X_79693.2 10 0 (by decide)).trans eq10_0
  have eq20_0 := (X_79693.2 20 0 (by decide)).trans eq20_0
  have eq20_1 := (X_79693.2 20 1 (by decide)).trans eq20_1
  have eq20_2 := (X_79693.2 20 2 (by decide)).trans eq20_2
  have eq20_3 := (X_79693.2 20 3 (by decide)).trans eq20_3
  have eq20_4 := (X_79693.2 20 4 (by decide)).trans eq20_4
  have fam_sc := fam_x fam_sc X_79693 (by decide)
  have fam_pa := fam_x fam_pa X_79693 (by decide)
  have nr_h := Z_79695 _ nr_h (p_h.neK p_q_79678 (by decide)) (p_h.neA p_a__79682) (p_h.neA p_a__79683)
  have nr_q_79079 := Z_79695 _ nr_q_79079 (p_q_79079.neB p_q_79678) (p_q_79079.neN p_a__79682 (by decide)) (p_q_79079.neN p_a__79683 (by decide))
  have nr_q_79101 := Z_79695 _ nr_q_79101 (p_q_79101.neB p_q_79678) (p_q_79101.neN p_a__79682 (by decide)) (p_q_79101.neN p_a__79683 (by decide))
  have hout : ∀ x, x ∈ L → NRg gl_0 ad x → NRg gl_36 ad35 x := fun x hx hn => Z_79695 x (hout x hx hn) (fun e => whkq_79678 (by rw [← e]; exact hx)) (fun e => w_79689 (by rw [← e]; exact hx)) (fun e => w_79691 (by rw [← e]; exact hx))
  have hext := hext.tr X_79693
  have eq10_18 := Y_79694
  have hkI : kp L_79680 f_79681 L_79680 f_79681 [h, q_79079, q_79101] := kp.rf
  refine pg_aast S Y (k := 3) p_q_79101 rfl p_q_79678 ok_X4.1 (by unfold vp_in; decide) dX10_init_164 (fun f_79697 H locs ef_79697 Y => ?_)
  obtain ⟨g_79696, eg_79696⟩ : ∃ z, z = va_up (g_79676) (17 : Int32).toNatClampNeg (some q_79678) := ⟨_, rfl⟩
  rw [← eg_79696] at ef_79697
  have p_h := p_h.up ef_79697 ((p_h.neA p_q_79101))
  have p_q_79079 := p_q_79079.up ef_79697 ((p_q_79079.neN p_q_79101 (by decide)))
  have p_q_79678 := p_q_79678.up ef_79697 ((p_q_79678.neA p_q_79101))
  have p_q_79101 := p_q_79101.me ef_79697
  have hk := hk.upN ef_79697 whkq_79101
  have hkI := hkI.up ef_79697 (by simp)
  have fam_pa := fam_s (i := 17) fam_pa eq10_18 eg_79696
  refine lv_iinc (v := 18) (lv' := [(1, .int 18), (0, .ref h)]) hx hb dX10_init_165 hl (k := 0) rfl (by decide) (by decide) rfl (fun ls hl => ?_)
  refine lv_goto (tgt := 146) hx hb dX10_init_168 (by decide) ?_
  refine lv_iload_n hx hb dX10_init_146 rfl (lv_at hl 0 rfl) ?_
  refine lv_bipush (v := 30) hx hb dX10_init_147 (by decide) ?_
  refine lv_icmp_ge (tgt := 171) hx hb dX10_init_149 (by decide) (fun h => absurd h (by decide)) (fun _ => ?_)
  refine lv_aload_n hx hb dX10_init_152 rfl (lv_at hl 1 rfl) ?_
  refine pg_get S Y ok_X10 4 (by decide) kf10_31 (v := .ref q_79101) p_h rfl dX10_init_153 ?_
  refine lv_iload_n hx hb dX10_init_156 rfl (lv_at hl 0 rfl) ?_
  refine pg_new S Y ok_X4 kc10_24 kn4 ki4 (fs := [.null, .null, .int 0, .int 0, .int 0, .int 0, .int 0]) (by decide) (by decide) (by decide) dX10_init_157 (fun q_79698 f_79699 H nq_79698 ef_79699 Y => ?_)
  have whkq_79698 := hk.notin nq_79698
  have hk := hk.push ef_79699 nq_79698
  have whkIq_79698 := hkI.notin nq_79698
  have hkI := hkI.push ef_79699 nq_79698
  have p_h := p_h.push ef_79699 nq_79698
  have p_q_79079 := p_q_79079.push ef_79699 nq_79698
  have p_q_79101 := p_q_79101.push ef_79699 nq_79698
  have p_q_79698 := pt.new (L := L_79680) ef_79699
  refine lv_dup hx hb dX10_init_160 rfl ?_
  refine cINv (b := q_79698) (As := []) (rest := [.ref q_79698, .int 18, .ref q_79101]) S Y (c_X4_init (l := l) p_q_79698) cw_X4_init km10_26 rfl ⟨Nat.le_of_ble_eq_true rfl, Nat.le_of_ble_eq_true rfl⟩ hl.1 rfl (Nat.le_of_ble_eq_true rfl) ⟨Nat.le_of_ble_eq_true rfl, Nat.le_of_ble_eq_true rfl⟩ dX10_init_161 (fun L_79700 f_79701 H locs hf_79701 Y => ?_)
  obtain ⟨a__79702, a__79703, kf_79701, z_z_79704, z_z_79705, z_z_79706, v_79707, v_79708⟩ := hf_79701
  have w_79709 := hk.notin v_79707
  have w_79710 := hkI.notin v_79707
  have w_79711 := hk.notin v_79708
  have w_79712 := hkI.notin v_79708
  have p_h := kf_79701.1 h _ (nmc (p_h.neK p_q_79698 (by decide)) nm0) p_h
  have p_q_79079 := kf_79701.1 q_79079 _ (nmc (p_q_79079.neB p_q_79698) nm0) p_q_79079
  have p_q_79101 := kf_79701.1 q_79101 _ (nmc (p_q_79101.neB p_q_79698) nm0) p_q_79101
  have p_q_79698 := z_z_79704
  have p_a__79702 := z_z_79705
  have p_a__79703 := z_z_79706
  have hk := hk.call kf_79701 (fun b hb hp => (nmc (neL hp whkq_79698) nm0))
  have hkI := hkI.call kf_79701 (fun b hb hp => (nmc (neL hp whkIq_79698) nm0))
  have nr_q_79698 : NRg gl_36 ad35 q_79698 := (SHC.nr I whkIq_79698)
  have nr_a__79702 : NRg gl_36 ad35 a__79702 := (SHC.nr I w_79710)
  have nr_a__79703 : NRg gl_36 ad35 a__79703 := (SHC.nr I w_79712)
  have I := I.kp hkI (allc nr_h (allc nr_q_79079 (allc nr_q_79101 all0)))
  have hkI : kp L_79700 f_79701 L_79700 f_79701 [h, q_79079, q_79101] := kp.rf
  obtain ⟨ad36, I, X_79713, Y_79714, Z_79715⟩ := SHC.led (l2 := gl_37) (n := 19) I rfl rfl rfl (by decide) rfl p_q_79698 p_a__79702 p_a__79703 nr_q_79698 nr_a__79702 nr_a__79703 
  have eq40_0 := (X_79713.2 40 0 (by decide)).trans eq40_0
  have eq41_0 := (X_79713.2 41 0 (by decide)).trans eq41_0
  have eq10_0 := (X_79713.2 10 0 (by decide)).trans eq10_0
  have eq20_0 := (X_79713.2 20 0 (by decide)).trans eq20_0
  have eq20_1 := (X_79713.2 20 1 (by decide)).trans eq20_1
  have eq20_2 := (X_79713.2 20 2 (by decide)).trans eq20_2
  have eq20_3 := (X_79713.2 20 3 (by decide)).trans eq20_3
  have eq20_4 := (X_79713.2 20 4 (by decide)).trans eq20_4
  have fam_sc := fam_x fam_sc X_79713 (by decide)
  have fam_pa := fam_x fam_pa X_79713 (by decide)
  have nr_h := Z_79715 _ nr_h (p_h.neK p_q_79698 (by decide)) (p_h.neA p_a__79702) (p_h.neA p_a__79703)
  have nr_q_79079 := Z_79715 _ nr_q_79079 (p_q_79079.neB p_q_79698) (p_q_79079.neN p_a__79702 (by decide)) (p_q_79079.neN p_a__79703 (by decide))
  have nr_q_79101 := Z_79715 _ nr_q_79101 (p_q_79101.neB p_q_79698) (p_q_79101.neN p_a__79702 (by decide)) (p_q_79101.neN p_a__79703 (by decide))
  have hout : ∀ x, x ∈ L → NRg gl_0 ad x → NRg gl_37 ad36 x := fun x hx hn => Z_79715 x (hout x hx hn) (fun e => whkq_79698 (by rw [← e]; exact hx)) (fun e => w_79709 (by rw [← e]; exact hx)) (fun e => w_79711 (by rw [← e]; exact hx))
  have hext := hext.tr X_79713
  have eq10_19 := Y_79714
  have hkI : kp L_79700 f_79701 L_79700 f_79701 [h, q_79079, q_79101] := kp.rf
  refine pg_aast S Y (k := 3) p_q_79101 rfl p_q_79698 ok_X4.1 (by unfold vp_in; decide) dX10_init_164 (fun f_79717 H locs ef_79717 Y => ?_)
  obtain ⟨g_79716, eg_79716⟩ : ∃ z, z = va_up (g_79696) (18 : Int32).toNatClampNeg (some q_79698) := ⟨_, rfl⟩
  rw [← eg_79716] at ef_79717
  have p_h := p_h.up ef_79717 ((p_h.neA p_q_79101))
  have p_q_79079 := p_q_79079.up ef_79717 ((p_q_79079.neN p_q_79101 (by decide)))
  have p_q_79698 := p_q_79698.up ef_79717 ((p_q_79698.neA p_q_79101))
  have p_q_79101 := p_q_79101.me ef_79717
  have hk := hk.upN ef_79717 whkq_79101
  have hkI := hkI.up ef_79717 (by simp)
  have fam_pa := fam_s (i := 18) fam_pa eq10_19 eg_79716
  refine lv_iinc (v := 19) (lv' := [(1, .int 19), (0, .ref h)]) hx hb dX10_init_165 hl (k := 0) rfl (by decide) (by decide) rfl (fun ls hl => ?_)
  refine lv_goto (tgt := 146) hx hb dX10_init_168 (by decide) ?_
  refine lv_iload_n hx hb dX10_init_146 rfl (lv_at hl 0 rfl) ?_
  refine lv_bipush (v := 30) hx hb dX10_init_147 (by decide) ?_
  refine lv_icmp_ge (tgt := 171) hx hb dX10_init_149 (by decide) (fun h => absurd h (by decide)) (fun _ => ?_)
  refine lv_aload_n hx hb dX10_init_152 rfl (lv_at hl 1 rfl) ?_
  refine pg_get S Y ok_X10 4 (by decide) kf10_31 (v := .ref q_79101) p_h rfl dX10_init_153 ?_
  refine lv_iload_n hx hb dX10_init_156 rfl (lv_at hl 0 rfl) ?_
  refine pg_new S Y ok_X4 kc10_24 kn4 ki4 (fs := [.null, .null, .int 0, .int 0, .int 0, .int 0, .int 0]) (by decide) (by decide) (by decide) dX10_init_157 (fun q_79718 f_79719 H nq_79718 ef_79719 Y => ?_)
  have whkq_79718 := hk.notin nq_79718
  have hk := hk.push ef_79719 nq_79718
  have whkIq_79718 := hkI.notin nq_79718
  have hkI := hkI.push ef_79719 nq_79718
  have p_h := p_h.push ef_79719 nq_79718
  have p_q_79079 := p_q_79079.push ef_79719 nq_79718
  have p_q_79101 := p_q_79101.push ef_79719 nq_79718
  have p_q_79718 := pt.new (L := L_79700) ef_79719
  refine lv_dup hx hb dX10_init_160 rfl ?_
  refine cINv (b := q_79718) (As := []) (rest := [.ref q_79718, .int 19, .ref q_79101]) S Y (c_X4_init (l := l) p_q_79718) cw_X4_init km10_26 rfl ⟨Nat.le_of_ble_eq_true rfl, Nat.le_of_ble_eq_true rfl⟩ hl.1 rfl (Nat.le_of_ble_eq_true rfl) ⟨Nat.le_of_ble_eq_true rfl, Nat.le_of_ble_eq_true rfl⟩ dX10_init_161 (fun L_79720 f_79721 H locs hf_79721 Y => ?_)
  obtain ⟨a__79722, a__79723, kf_79721, z_z_79724, z_z_79725, z_z_79726, v_79727, v_79728⟩ := hf_79721
  have w_79729 := hk.notin v_79727
  have w_79730 := hkI.notin v_79727
  have w_79731 := hk.notin v_79728
  have w_79732 := hkI.notin v_79728
  have p_h := kf_79721.1 h _ (nmc (p_h.neK p_q_79718 (by decide)) nm0) p_h
  have p_q_79079 := kf_79721.1 q_79079 _ (nmc (p_q_79079.neB p_q_79718) nm0) p_q_79079
  have p_q_79101 := kf_79721.1 q_79101 _ (nmc (p_q_79101.neB p_q_79718) nm0) p_q_79101
  have p_q_79718 := z_z_79724
  have p_a__79722 := z_z_79725
  have p_a__79723 := z_z_79726
  have hk := hk.call kf_79721 (fun b hb hp => (nmc (neL hp whkq_79718) nm0))
  have hkI := hkI.call kf_79721 (fun b hb hp => (nmc (neL hp whkIq_79718) nm0))
  have nr_q_79718 : NRg gl_37 ad36 q_79718 := (SHC.nr I whkIq_79718)
  have nr_a__79722 : NRg gl_37 ad36 a__79722 := (SHC.nr I w_79730)
  have nr_a__79723 : NRg gl_37 ad36 a__79723 := (SHC.nr I w_79732)
  have I := I.kp hkI (allc nr_h (allc nr_q_79079 (allc nr_q_79101 all0)))
  have hkI : kp L_79720 f_79721 L_79720 f_79721 [h, q_79079, q_79101] := kp.rf
  obtain ⟨ad37, I, X_79733, Y_79734, Z_79735⟩ := SHC.led (l2 := gl_38) (n := 20) I rfl rfl rfl (by decide) rfl p_q_79718 p_a__79722 p_a__79723 nr_q_79718 nr_a__79722 nr_a__79723 
  have eq40_0 := (X_79733.2 40 0 (by decide)).trans eq40_0
  have eq41_0 := (X_79733.2 41 0 (by decide)).trans eq41_0
  have eq10_0 := (X_79733.2 10 0 (by decide)).trans eq10_0
  have eq20_0 := (X_79733.2 20 0 (by decide)).trans eq20_0
  have eq20_1 := (X_79733.2 20 1 (by decide)).trans eq20_1
  have eq20_2 := (X_79733.2 20 2 (by decide)).trans eq20_2
  have eq20_3 := (X_79733.2 20 3 (by decide)).trans eq20_3
  have eq20_4 := (X_79733.2 20 4 (by decide)).trans eq20_4
  have fam_sc := fam_x fam_sc X_79733 (by decide)
  have fam_pa := fam_x fam_pa X_79733 (by decide)
  have nr_h := Z_79735 _ nr_h (p_h.neK p_q_79718 (by decide)) (p_h.neA p_a__79722) (p_h.neA p_a__79723)
  have nr_q_79079 := Z_79735 _ nr_q_79079 (p_q_79079.neB p_q_79718) (p_q_79079.neN p_a__79722 (by decide)) (p_q_79079.neN p_a__79723 (by decide))
  have nr_q_79101 := Z_79735 _ nr_q_79101 (p_q_79101.neB p_q_79718) (p_q_79101.neN p_a__79722 (by decide)) (p_q_79101.neN p_a__79723 (by decide))
  have hout : ∀ x, x ∈ L → NRg gl_0 ad x → NRg gl_38 ad37 x := fun x hx hn => Z_79735 x (hout x hx hn) (fun e => whkq_79718 (by rw [← e]; exact hx)) (fun e => w_79729 (by rw [← e]; exact hx)) (fun e => w_79731 (by rw [← e]; exact hx))
  have hext := hext.tr X_79733
  have eq10_20 := Y_79734
  have hkI : kp L_79720 f_79721 L_79720 f_79721 [h, q_79079, q_79101] := kp.rf
  refine pg_aast S Y (k := 3) p_q_79101 rfl p_q_79718 ok_X4.1 (by unfold vp_in; decide) dX10_init_164 (fun f_79737 H locs ef_79737 Y => ?_)
  obtain ⟨g_79736, eg_79736⟩ : ∃ z, z = va_up (g_79716) (19 : Int32).toNatClampNeg (some q_79718) := ⟨_, rfl⟩
  rw [← eg_79736] at ef_79737
  have p_h := p_h.up ef_79737 ((p_h.neA p_q_79101))
  have p_q_79079 := p_q_79079.up ef_79737 ((p_q_79079.neN p_q_79101 (by decide)))
  have p_q_79718 := p_q_79718.up ef_79737 ((p_q_79718.neA p_q_79101))
  have p_q_79101 := p_q_79101.me ef_79737
  have hk := hk.upN ef_79737 whkq_79101
  have hkI := hkI.up ef_79737 (by simp)
  have fam_pa := fam_s (i := 19) fam_pa eq10_20 eg_79736
  refine lv_iinc (v := 20) (lv' := [(1, .int 20), (0, .ref h)]) hx hb dX10_init_165 hl (k := 0) rfl (by decide) (by decide) rfl (fun ls hl => ?_)
  refine lv_goto (tgt := 146) hx hb dX10_init_168 (by decide) ?_
  refine lv_iload_n hx hb dX10_init_146 rfl (lv_at hl 0 rfl) ?_
  refine lv_bipush (v := 30) hx hb dX10_init_147 (by decide) ?_
  refine lv_icmp_ge (tgt := 171) hx hb dX10_init_149 (by decide) (fun h => absurd h (by decide)) (fun _ => ?_)
  refine lv_aload_n hx hb dX10_init_152 rfl (lv_at hl 1 rfl) ?_
  refine pg_get S Y ok_X10 4 (by decide) kf10_31 (v := .ref q_79101) p_h rfl dX10_init_153 ?_
  refine lv_iload_n hx hb dX10_init_156 rfl (lv_at hl 0 rfl) ?_
  refine pg_new S Y ok_X4 kc10_24 kn4 ki4 (fs := [.null, .null, .int 0, .int 0, .int 0, .int 0, .int 0]) (by decide) (by decide) (by decide) dX10_init_157 (fun q_79738 f_79739 H nq_79738 ef_79739 Y => ?_)
  have whkq_79738 := hk.notin nq_79738
  have hk := hk.push ef_79739 nq_79738
  have whkIq_79738 := hkI.notin nq_79738
  have hkI := hkI.push ef_79739 nq_79738
  have p_h := p_h.push ef_79739 nq_79738
  have p_q_79079 := p_q_79079.push ef_79739 nq_79738
  have p_q_79101 := p_q_79101.push ef_79739 nq_79738
  have p_q_79738 := pt.new (L := L_79720) ef_79739
  refine lv_dup hx hb dX10_init_160 rfl ?_
  refine cINv (b := q_79738) (As := []) (rest := [.ref q_79738, .int 20, .ref q_79101]) S Y (c_X4_init (l := l) p_q_79738) cw_X4_init km10_26 rfl ⟨Nat.le_of_ble_eq_true rfl, Nat.le_of_ble_eq_true rfl⟩ hl.1 rfl (Nat.le_of_ble_eq_true rfl) ⟨Nat.le_of_ble_eq_true rfl, Nat.le_of_ble_eq_true rfl⟩ dX10_init_161 (fun L_79740 f_79741 H locs hf_79741 Y => ?_)
  obtain ⟨a__79742, a__79743, kf_79741, z_z_79744, z_z_79745, z_z_79746, v_79747, v_79748⟩ := hf_79741
  have w_79749 := hk.notin v_79747
  have w_79750 := hkI.notin v_79747
  have w_79751 := hk.notin v_79748
  have w_79752 := hkI.notin v_79748
  have p_h := kf_79741.1 h _ (nmc (p_h.neK p_q_79738 (by decide)) nm0) p_h
  have p_q_79079 := kf_79741.1 q_79079 _ (nmc (p_q_79079.neB p_q_79738) nm0) p_q_79079
  have p_q_79101 := kf_79741.1 q_79101 _ (nmc (p_q_79101.neB p_q_79738) nm0) p_q_79101
  have p_q_79738 := z_z_79744
  have p_a__79742 := z_z_79745
  have p_a__79743 := z_z_79746
  have hk := hk.call kf_79741 (fun b hb hp => (nmc (neL hp whkq_79738) nm0))
  have hkI := hkI.call kf_79741 (fun b hb hp => (nmc (neL hp whkIq_79738) nm0))
  have nr_q_79738 : NRg gl_38 ad37 q_79738 := (SHC.nr I whkIq_79738)
  have nr_a__79742 : NRg gl_38 ad37 a__79742 := (SHC.nr I w_79750)
  have nr_a__79743 : NRg gl_38 ad37 a__79743 := (SHC.nr I w_79752)
  have I := I.kp hkI (allc nr_h (allc nr_q_79079 (allc nr_q_79101 all0)))
  have hkI : kp L_79740 f_79741 L_79740 f_79741 [h, q_79079, q_79101] := kp.rf
  obtain ⟨ad38, I, X_79753, Y_79754, Z_79755⟩ := SHC.led (l2 := gl_39) (n := 21) I rfl rfl rfl (by decide) rfl p_q_79738 p_a__79742 p_a__79743 nr_q_79738 nr_a__79742 nr_a__79743 
  have eq40_0 := (X_79753.2 40 0 (by decide)).trans eq40_0
  have eq41_0 := (X_79753.2 41 0 (by decide)).trans eq41_0
  have eq10_0 := (X_79753.2 10 0 (by decide)).trans eq10_0
  have eq20_0 := (X_79753.2 20 0 (by decide)).trans eq20_0
  have eq20_1 := (X_79753.2 20 1 (by decide)).trans eq20_1
  have eq20_2 := (X_79753.2 20 2 (by decide)).trans eq20_2
  have eq20_3 := (X_79753.2 20 3 (by decide)).trans eq20_3
  have eq20_4 := (X_79753.2 20 4 (by decide)).trans eq20_4
  have fam_sc := fam_x fam_sc X_79753 (by decide)
  have fam_pa := fam_x fam_pa X_79753 (by decide)
  have nr_h := Z_79755 _ nr_h (p_h.neK p_q_79738 (by decide)) (p_h.neA p_a__79742) (p_h.neA p_a__79743)
  have nr_q_79079 := Z_79755 _ nr_q_79079 (p_q_79079.neB p_q_79738) (p_q_79079.neN p_a__79742 (by decide)) (p_q_79079.neN p_a__79743 (by decide))
  have nr_q_79101 := Z_79755 _ nr_q_79101 (p_q_79101.neB p_q_79738) (p_q_79101.neN p_a__79742 (by decide)) (p_q_79101.neN p_a__79743 (by decide))
  have hout : ∀ x, x ∈ L → NRg gl_0 ad x → NRg gl_39 ad38 x := fun x hx hn => Z_79755 x (hout x hx hn) (fun e => whkq_79738 (by rw [← e]; exact hx)) (fun e => w_79749 (by rw [← e]; exact hx)) (fun e => w_79751 (by rw [← e]; exact hx))
  have hext := hext.tr X_79753
  have eq10_21 := Y_79754
  have hkI : kp L_79740 f_79741 L_79740 f_79741 [h, q_79079, q_79101] := kp.rf
  refine pg_aast S Y (k := 3) p_q_79101 rfl p_q_79738 ok_X4.1 (by unfold vp_in; decide) dX10_init_164 (fun f_79757 H locs ef_79757 Y => ?_)
  obtain ⟨g_79756, eg_79756⟩ : ∃ z, z = va_up (g_79736) (20 : Int32).toNatClampNeg (some q_79738) := ⟨_, rfl⟩
  rw [← eg_79756] at ef_79757
  have p_h := p_h.up ef_79757 ((p_h.neA p_q_79101))
  have p_q_79079 := p_q_79079.up ef_79757 ((p_q_79079.neN p_q_79101 (by decide)))
  have p_q_79738 := p_q_79738.up ef_79757 ((p_q_79738.neA p_q_79101))
  have p_q_79101 := p_q_79101.me ef_79757
  have hk := hk.upN ef_79757 whkq_79101
  have hkI := hkI.up ef_79757 (by simp)
  have fam_pa := fam_s (i := 20) fam_pa eq10_21 eg_79756
  refine lv_iinc (v := 21) (lv' := [(1, .int 21), (0, .ref h)]) hx hb dX10_init_165 hl (k := 0) rfl (by decide) (by decide) rfl (fun ls hl => ?_)
  refine lv_goto (tgt := 146) hx hb dX10_init_168 (by decide) ?_
  refine lv_iload_n hx hb dX10_init_146 rfl (lv_at hl 0 rfl) ?_
  refine lv_bipush (v := 30) hx hb dX10_init_147 (by decide) ?_
  refine lv_icmp_ge (tgt := 171) hx hb dX10_init_149 (by decide) (fun h => absurd h (by decide)) (fun _ => ?_)
  refine lv_aload_n hx hb dX10_init_152 rfl (lv_at hl 1 rfl) ?_
  refine pg_get S Y ok_X10 4 (by decide) kf10_31 (v := .ref q_79101) p_h rfl dX10_init_153 ?_
  refine lv_iload_n hx hb dX10_init_156 rfl (lv_at hl 0 rfl) ?_
  refine pg_new S Y ok_X4 kc10_24 kn4 ki4 (fs := [.null, .null, .int 0, .int 0, .int 0, .int 0, .int 0]) (by decide) (by decide) (by decide) dX10_init_157 (fun q_79758 f_79759 H nq_79758 ef_79759 Y => ?_)
  have whkq_79758 := hk.notin nq_79758
  have hk := hk.push ef_79759 nq_79758
  have whkIq_79758 := hkI.notin nq_79758
  have hkI := hkI.push ef_79759 nq_79758
  have p_h := p_h.push ef_79759 nq_79758
  have p_q_79079 := p_q_79079.push ef_79759 nq_79758
  have p_q_79101 := p_q_79101.push ef_79759 nq_79758
  have p_q_79758 := pt.new (L := L_79740) ef_79759
  refine lv_dup hx hb dX10_init_160 rfl ?_
  refine cINv (b := q_79758) (As := []) (rest := [.ref q_79758, .int 21, .ref q_79101]) S Y (c_X4_init (l := l) p_q_79758) cw_X4_init km10_26 rfl ⟨Nat.le_of_ble_eq_true rfl, Nat.le_of_ble_eq_true rfl⟩ hl.1 rfl (Nat.le_of_ble_eq_true rfl) ⟨Nat.le_of_ble_eq_true rfl, Nat.le_of_ble_eq_true rfl⟩ dX10_init_161 (fun L_79760 f_79761 H locs hf_79761 Y => ?_)
  obtain ⟨a__79762, a__79763, kf_79761, z_z_79764, z_z_79765, z_z_79766, v_79767, v_79768⟩ := hf_79761
  have w_79769 := hk.notin v_79767
  have w_79770 := hkI.notin v_79767
  have w_79771 := hk.notin v_79768
  have w_79772 := hkI.notin v_79768
  have p_h := kf_79761.1 h _ (nmc (p_h.neK p_q_79758 (by decide)) nm0) p_h
  have p_q_79079 := kf_79761.1 q_79079 _ (nmc (p_q_79079.neB p_q_79758) nm0) p_q_79079
  have p_q_79101 := kf_79761.1 q_79101 _ (nmc (p_q_79101.neB p_q_79758) nm0) p_q_79101
  have p_q_79758 := z_z_79764
  have p_a__79762 := z_z_79765
  have p_a__79763 := z_z_79766
  have hk := hk.call kf_79761 (fun b hb hp => (nmc (neL hp whkq_79758) nm0))
  have hkI := hkI.call kf_79761 (fun b hb hp => (nmc (neL hp whkIq_79758) nm0))
  have nr_q_79758 : NRg gl_39 ad38 q_79758 := (SHC.nr I whkIq_79758)
  have nr_a__79762 : NRg gl_39 ad38 a__79762 := (SHC.nr I w_79770)
  have nr_a__79763 : NRg gl_39 ad38 a__79763 := (SHC.nr I w_79772)
  have I := I.kp hkI (allc nr_h (allc nr_q_79079 (allc nr_q_79101 all0)))
  have hkI : kp L_79760 f_79761 L_79760 f_79761 [h, q_79079, q_79101] := kp.rf
  obtain ⟨ad39, I, X_79773, Y_79774, Z_79775⟩ := SHC.led (l2 := gl_40) (n := 22) I rfl rfl rfl (by decide) rfl p_q_79758 p_a__79762 p_a__79763 nr_q_79758 nr_a__79762 nr_a__79763 
  have eq40_0 := (X_79773.2 40 0 (by decide)).trans eq40_0
  have eq41_0 := (X_79773.2 41 0 (by decide)).trans eq41_0
  have eq10_0 := (X_79773.2 10 0 (by decide)).trans eq10_0
  have eq20_0 := (X_79773.2 20 0 (by decide)).trans eq20_0
  have eq20_1 := (X_79773.2 20 1 (by decide)).trans eq20_1
  have eq20_2 := (X_79773.2 20 2 (by decide)).trans eq20_2
  have eq20_3 := (X_79773.2 20 3 (by decide)).trans eq20_3
  have eq20_4 := (X_79773.2 20 4 (by decide)).trans eq20_4
  have fam_sc := fam_x fam_sc X_79773 (by decide)
  have fam_pa := fam_x fam_pa X_79773 (by decide)
  have nr_h := Z_79775 _ nr_h (p_h.neK p_q_79758 (by decide)) (p_h.neA p_a__79762) (p_h.neA p_a__79763)
  have nr_q_79079 := Z_79775 _ nr_q_79079 (p_q_79079.neB p_q_79758) (p_q_79079.neN p_a__79762 (by decide)) (p_q_79079.neN p_a__79763 (by decide))
  have nr_q_79101 := Z_79775 _ nr_q_79101 (p_q_79101.neB p_q_79758) (p_q_79101.neN p_a__79762 (by decide)) (p_q_79101.neN p_a__79763 (by decide))
  have hout : ∀ x, x ∈ L → NRg gl_0 ad x → NRg gl_40 ad39 x := fun x hx hn => Z_79775 x (hout x hx hn) (fun e => whkq_79758 (by rw [← e]; exact hx)) (fun e => w_79769 (by rw [← e]; exact hx)) (fun e => w_79771 (by rw [← e]; exact hx))
  have hext := hext.tr X_79773
  have eq10_22 := Y_79774
  have hkI : kp L_79760 f_79761 L_79760 f_79761 [h, q_79079, q_79101] := kp.rf
  refine pg_aast S Y (k := 3) p_q_79101 rfl p_q_79758 ok_X4.1 (by unfold vp_in; decide) dX10_init_164 (fun f_79777 H locs ef_79777 Y => ?_)
  obtain ⟨g_79776, eg_79776⟩ : ∃ z, z = va_up (g_79756) (21 : Int32).toNatClampNeg (some q_79758) := ⟨_, rfl⟩
  rw [← eg_79776] at ef_79777
  have p_h := p_h.up ef_79777 ((p_h.neA p_q_79101))
  have p_q_79079 := p_q_79079.up ef_79777 ((p_q_79079.neN p_q_79101 (by decide)))
  have p_q_79758 := p_q_79758.up ef_79777 ((p_q_79758.neA p_q_79101))
  have p_q_79101 := p_q_79101.me ef_79777
  have hk := hk.upN ef_79777 whkq_79101
  have hkI := hkI.up ef_79777 (by simp)
  have fam_pa := fam_s (i := 21) fam_pa eq10_22 eg_79776
  refine lv_iinc (v := 22) (lv' := [(1, .int 22), (0, .ref h)]) hx hb dX10_init_165 hl (k := 0) rfl (by decide) (by decide) rfl (fun ls hl => ?_)
  refine lv_goto (tgt := 146) hx hb dX10_init_168 (by decide) ?_
  refine lv_iload_n hx hb dX10_init_146 rfl (lv_at hl 0 rfl) ?_
  refine lv_bipush (v := 30) hx hb dX10_init_147 (by decide) ?_
  refine lv_icmp_ge (tgt := 171) hx hb dX10_init_149 (by decide) (fun h => absurd h (by decide)) (fun _ => ?_)
  refine lv_aload_n hx hb dX10_init_152 rfl (lv_at hl 1 rfl) ?_
  refine pg_get S Y ok_X10 4 (by decide) kf10_31 (v := .ref q_79101) p_h rfl dX10_init_153 ?_
  refine lv_iload_n hx hb dX10_init_156 rfl (lv_at hl 0 rfl) ?_
  refine pg_new S Y ok_X4 kc10_24 kn4 ki4 (fs := [.null, .null, .int 0, .int 0, .int 0, .int 0, .int 0]) (by decide) (by decide) (by decide) dX10_init_157 (fun q_79778 f_79779 H nq_79778 ef_79779 Y => ?_)
  have whkq_79778 := hk.notin nq_79778
  have hk := hk.push ef_79779 nq_79778
  have whkIq_79778 := hkI.notin nq_79778
  have hkI := hkI.push ef_79779 nq_79778
  have p_h := p_h.push ef_79779 nq_79778
  have p_q_79079 := p_q_79079.push ef_79779 nq_79778
  have p_q_79101 := p_q_79101.push ef_79779 nq_79778
  have p_q_79778 := pt.new (L := L_79760) ef_79779
  refine lv_dup hx hb dX10_init_160 rfl ?_
  refine cINv (b := q_79778) (As := []) (rest := [.ref q_79778, .int 22, .ref q_79101]) S Y (c_X4_init (l := l) p_q_79778) cw_X4_init km10_26 rfl ⟨Nat.le_of_ble_eq_true rfl, Nat.le_of_ble_eq_true rfl⟩ hl.1 rfl (Nat.le_of_ble_eq_true rfl) ⟨Nat.le_of_ble_eq_true rfl, Nat.le_of_ble_eq_true rfl⟩ dX10_init_161 (fun L_79780 f_79781 H locs hf_79781 Y => ?_)
  obtain ⟨a__79782, a__79783, kf_79781, z_z_79784, z_z_79785, z_z_79786, v_79787, v_79788⟩ := hf_79781
  have w_79789 := hk.notin v_79787
  have w_79790 := hkI.notin v_79787
  have w_79791 := hk.notin v_79788
  have w_79792 := hkI.notin v_79788
  have p_h := kf_79781.1 h _ (nmc (p_h.neK p_q_79778 (by decide)) nm0) p_h
  have p_q_79079 := kf_79781.1 q_79079 _ (nmc (p_q_79079.neB p_q_79778) nm0) p_q_79079
  have p_q_79101 := kf_79781.1 q_79101 _ (nmc (p_q_79101.neB p_q_79778) nm0) p_q_79101
  have p_q_79778 := z_z_79784
  have p_a__79782 := z_z_79785
  have p_a__79783 := z_z_79786
  have hk := hk.call kf_79781 (fun b hb hp => (nmc (neL hp whkq_79778) nm0))
  have hkI := hkI.call kf_79781 (fun b hb hp => (nmc (neL hp whkIq_79778) nm0))
  have nr_q_79778 : NRg gl_40 ad39 q_79778 := (SHC.nr I whkIq_79778)
  have nr_a__79782 : NRg gl_40 ad39 a__79782 := (SHC.nr I w_79790)
  have nr_a__79783 : NRg gl_40 ad39 a__79783 := (SHC.nr I w_79792)
  have I := I.kp hkI (allc nr_h (allc nr_q_79079 (allc nr_q_79101 all0)))
  have hkI : kp L_79780 f_79781 L_79780 f_79781 [h, q_79079, q_79101] := kp.rf
  obtain ⟨ad40, I, X_79793, Y_79794, Z_79795⟩ := SHC.led (l2 := gl_41) (n := 23) I rfl rfl rfl (by decide) rfl p_q_79778 p_a__79782 p_a__79783 nr_q_79778 nr_a__79782 nr_a__79783 
  have eq40_0 := (X_79793.2 40 0 (by decide)).trans eq40_0
  have eq41_0 := (X_79793.2 41 0 (by decide)).trans eq41_0
  have eq10_0 := (X_79793.2 10 0 (by decide)).trans eq10_0
  have eq20_0 := (X_79793.2 20 0 (by decide)).trans eq20_0
  have eq20_1 := (X_79793.2 20 1 (by decide)).trans eq20_1
  have eq20_2 := (X_79793.2 20 2 (by decide)).trans eq20_2
  have eq20_3 := (X_79793.2 20 3 (by decide)).trans eq20_3
  have eq20_4 := (X_79793.2 20 4 (by decide)).trans eq20_4
  have fam_sc := fam_x fam_sc X_79793 (by decide)
  have fam_pa := fam_x fam_pa X_79793 (by decide)
  have nr_h := Z_79795 _ nr_h (p_h.neK p_q_79778 (by decide)) (p_h.neA p_a__79782) (p_h.neA p_a__79783)
  have nr_q_79079 := Z_79795 _ nr_q_79079 (p_q_79079.neB p_q_79778) (p_q_79079.neN p_a__79782 (by decide)) (p_q_79079.neN p_a__79783 (by decide))
  have nr_q_79101 := Z_79795 _ nr_q_79101 (p_q_79101.neB p_q_79778) (p_q_79101.neN p_a__79782 (by decide)) (p_q_79101.neN p_a__79783 (by decide))
  have hout : ∀ x, x ∈ L → NRg gl_0 ad x → NRg gl_41 ad40 x := fun x hx hn => Z_79795 x (hout x hx hn) (fun e => whkq_79778 (by rw [← e]; exact hx)) (fun e => w_79789 (by rw [← e]; exact hx)) (fun e => w_79791 (by rw [← e]; exact hx))
  have hext := hext.tr X_79793
  have eq10_23 := Y_79794
  have hkI : kp L_79780 f_79781 L_79780 f_79781 [h, q_79079, q_79101] := kp.rf
  refine pg_aast S Y (k := 3) p_q_79101 rfl p_q_79778 ok_X4.1 (by unfold vp_in; decide) dX10_init_164 (fun f_79797 H locs ef_79797 Y => ?_)
  obtain ⟨g_79796, eg_79796⟩ : ∃ z, z = va_up (g_79776) (22 : Int32).toNatClampNeg (some q_79778) := ⟨_, rfl⟩
  rw [← eg_79796] at ef_79797
  have p_h := p_h.up ef_79797 ((p_h.neA p_q_79101))
  have p_q_79079 := p_q_79079.up ef_79797 ((p_q_79079.neN p_q_79101 (by decide)))
  have p_q_79778 := p_q_79778.up ef_79797 ((p_q_79778.neA p_q_79101))
  have p_q_79101 := p_q_79101.me ef_79797
  have hk := hk.upN ef_79797 whkq_79101
  have hkI := hkI.up ef_79797 (by simp)
  have fam_pa := fam_s (i := 22) fam_pa eq10_23 eg_79796
  refine lv_iinc (v := 23) (lv' := [(1, .int 23), (0, .ref h)]) hx hb dX10_init_165 hl (k := 0) rfl (by decide) (by decide) rfl (fun ls hl => ?_)
  refine lv_goto (tgt := 146) hx hb dX10_init_168 (by decide) ?_
  refine lv_iload_n hx hb dX10_init_146 rfl (lv_at hl 0 rfl) ?_
  refine lv_bipush (v := 30) hx hb dX10_init_147 (by decide) ?_
  refine lv_icmp_ge (tgt := 171) hx hb dX10_init_149 (by decide) (fun h => absurd h (by decide)) (fun _ => ?_)
  refine lv_aload_n hx hb dX10_init_152 rfl (lv_at hl 1 rfl) ?_
  refine pg_get S Y ok_X10 4 (by decide) kf10_31 (v := .ref q_79101) p_h rfl dX10_init_153 ?_
  refine lv_iload_n hx hb dX10_init_156 rfl (lv_at hl 0 rfl) ?_
  refine pg_new S Y ok_X4 kc10_24 kn4 ki4 (fs := [.null, .null, .int 0, .int 0, .int 0, .int 0, .int 0]) (by decide) (by decide) (by decide) dX10_init_157 (fun q_79798 f_79799 H nq_79798 ef_79799 Y => ?_)
  have whkq_79798 := hk.notin nq_79798
  have hk := hk.push ef_79799 nq_79798
  have whkIq_79798 := hkI.notin nq_79798
  have hkI := hkI.push ef_79799 nq_79798
  have p_h := p_h.push ef_79799 nq_79798
  have p_q_79079 := p_q_79079.push ef_79799 nq_79798
  have p_q_79101 := p_q_79101.push ef_79799 nq_79798
  have p_q_79798 := pt.new (L := L_79780) ef_79799
  refine lv_dup hx hb dX10_init_160 rfl ?_
  refine cINv (b := q_79798) (As := []) (rest := [.ref q_79798, .int 23, .ref q_79101]) S Y (c_X4_init (l := l) p_q_79798) cw_X4_init km10_26 rfl ⟨Nat.le_of_ble_eq_true rfl, Nat.le_of_ble_eq_true rfl⟩ hl.1 rfl (Nat.le_of_ble_eq_true rfl) ⟨Nat.le_of_ble_eq_true rfl, Nat.le_of_ble_eq_true rfl⟩ dX10_init_161 (fun L_79800 f_79801 H locs hf_79801 Y => ?_)
  obtain ⟨a__79802, a__79803, kf_79801, z_z_79804, z_z_79805, z_z_79806, v_79807, v_79808⟩ := hf_79801
  have w_79809 := hk.notin v_79807
  have w_79810 := hkI.notin v_79807
  have w_79811 := hk.notin v_79808
  have w_79812 := hkI.notin v_79808
  have p_h := kf_79801.1 h _ (nmc (p_h.neK p_q_79798 (by decide)) nm0) p_h
  have p_q_79079 := kf_79801.1 q_79079 _ (nmc (p_q_79079.neB p_q_79798) nm0) p_q_79079
  have p_q_79101 := kf_79801.1 q_79101 _ (nmc (p_q_79101.neB p_q_79798) nm0) p_q_79101
  have p_q_79798 := z_z_79804
  have p_a__79802 := z_z_79805
  have p_a__79803 := z_z_79806
  have hk := hk.call kf_79801 (fun b hb hp => (nmc (neL hp whkq_79798) nm0))
  have hkI := hkI.call kf_79801 (fun b hb hp => (nmc (neL hp whkIq_79798) nm0))
  have nr_q_79798 : NRg gl_41 ad40 q_79798 := (SHC.nr I whkIq_79798)
  have nr_a__79802 : NRg gl_41 ad40 a__79802 := (SHC.nr I w_79810)
  have nr_a__79803 : NRg gl_41 ad40 a__79803 := (SHC.nr I w_79812)
  have I := I.kp hkI (allc nr_h (allc nr_q_79079 (allc nr_q_79101 all0)))
  have hkI : kp L_79800 f_79801 L_79800 f_79801 [h, q_79079, q_79101] := kp.rf
  obtain ⟨ad41, I, X_79813, Y_79814, Z_79815⟩ := SHC.led (l2 := gl_42) (n := 24) I rfl rfl rfl (by decide) rfl p_q_79798 p_a__79802 p_a__79803 nr_q_79798 nr_a__79802 nr_a__79803 
  have eq40_0 := (X_79813.2 40 0 (by decide)).trans eq40_0
  have eq41_0 := (X_79813.2 41 0 (by decide)).trans eq41_0
  have eq10_0 := (X_79813.2 10 0 (by decide)).trans eq10_0
  have eq20_0 := (X_79813.2 20 0 (by decide)).trans eq20_0
  have eq20_1 := (X_79813.2 20 1 (by decide)).trans eq20_1
  have eq20_2 := (X_79813.2 20 2 (by decide)).trans eq20_2
  have eq20_3 := (X_79813.2 20 3 (by decide)).trans eq20_3
  have eq20_4 := (X_79813.2 20 4 (by decide)).trans eq20_4
  have fam_sc := fam_x fam_sc X_79813 (by decide)
  have fam_pa := fam_x fam_pa X_79813 (by decide)
  have nr_h := Z_79815 _ nr_h (p_h.neK p_q_79798 (by decide)) (p_h.neA p_a__79802) (p_h.neA p_a__79803)
  have nr_q_79079 := Z_79815 _ nr_q_79079 (p_q_79079.neB p_q_79798) (p_q_79079.neN p_a__79802 (by decide)) (p_q_79079.neN p_a__79803 (by decide))
  have nr_q_79101 := Z_79815 _ nr_q_79101 (p_q_79101.neB p_q_79798) (p_q_79101.neN p_a__79802 (by decide)) (p_q_79101.neN p_a__79803 (by decide))
  have hout : ∀ x, x ∈ L → NRg gl_0 ad x → NRg gl_42 ad41 x := fun x hx hn => Z_79815 x (hout x hx hn) (fun e => whkq_79798 (by rw [← e]; exact hx)) (fun e => w_79809 (by rw [← e]; exact hx)) (fun e => w_79811 (by rw [← e]; exact hx))
  have hext := hext.tr X_79813
  have eq10_24 := Y_79814
  have hkI : kp L_79800 f_79801 L_79800 f_79801 [h, q_79079, q_79101] := kp.rf
  refine pg_aast S Y (k := 3) p_q_79101 rfl p_q_79798 ok_X4.1 (by unfold vp_in; decide) dX10_init_164 (fun f_79817 H locs ef_79817 Y => ?_)
  obtain ⟨g_79816, eg_79816⟩ : ∃ z, z = va_up (g_79796) (23 : Int32).toNatClampNeg (some q_79798) := ⟨_, rfl⟩
  rw [← eg_79816] at ef_79817
  have p_h := p_h.up ef_79817 ((p_h.neA p_q_79101))
  have p_q_79079 := p_q_79079.up ef_79817 ((p_q_79079.neN p_q_79101 (by decide)))
  have p_q_79798 := p_q_79798.up ef_79817 ((p_q_79798.neA p_q_79101))
  have p_q_79101 := p_q_79101.me ef_79817
  have hk := hk.upN ef_79817 whkq_79101
  have hkI := hkI.up ef_79817 (by simp)
  have fam_pa := fam_s (i := 23) fam_pa eq10_24 eg_79816
  refine lv_iinc (v := 24) (lv' := [(1, .int 24), (0, .ref h)]) hx hb dX10_init_165 hl (k := 0) rfl (by decide) (by decide) rfl (fun ls hl => ?_)
  refine lv_goto (tgt := 146) hx hb dX10_init_168 (by decide) ?_
  refine lv_iload_n hx hb dX10_init_146 rfl (lv_at hl 0 rfl) ?_
  refine lv_bipush (v := 30) hx hb dX10_init_147 (by decide) ?_
  refine lv_icmp_ge (tgt := 171) hx hb dX10_init_149 (by decide) (fun h => absurd h (by decide)) (fun _ => ?_)
  refine lv_aload_n hx hb dX10_init_152 rfl (lv_at hl 1 rfl) ?_
  refine pg_get S Y ok_X10 4 (by decide) kf10_31 (v := .ref q_79101) p_h rfl dX10_init_153 ?_
  refine lv_iload_n hx hb dX10_init_156 rfl (lv_at hl 0 rfl) ?_
  refine pg_new S Y ok_X4 kc10_24 kn4 ki4 (fs := [.null, .null, .int 0, .int 0, .int 0, .int 0, .int 0]) (by decide) (by decide) (by decide) dX10_init_157 (fun q_79818 f_79819 H nq_79818 ef_79819 Y => ?_)
  have whkq_79818 := hk.notin nq_79818
  have hk := hk.push ef_79819 nq_79818
  have whkIq_79818 := hkI.notin nq_79818
  have hkI := hkI.push ef_79819 nq_79818
  have p_h := p_h.push ef_79819 nq_79818
  have p_q_79079 := p_q_79079.push ef_79819 nq_79818
  have p_q_79101 := p_q_79101.push ef_79819 nq_79818
  have p_q_79818 := pt.new (L := L_79800) ef_79819
  refine lv_dup hx hb dX10_init_160 rfl ?_
  refine cINv (b := q_79818) (As := []) (rest := [.ref q_79818, .int 24, .ref q_79101]) S Y (c_X4_init (l := l) p_q_79818) cw_X4_init km10_26 rfl ⟨Nat.le_of_ble_eq_true rfl, Nat.le_of_ble_eq_true rfl⟩ hl.1 rfl (Nat.le_of_ble_eq_true rfl) ⟨Nat.le_of_ble_eq_true rfl, Nat.le_of_ble_eq_true rfl⟩ dX10_init_161 (fun L_79820 f_79821 H locs hf_79821 Y => ?_)
  obtain ⟨a__79822, a__79823, kf_79821, z_z_79824, z_z_79825, z_z_79826, v_79827, v_79828⟩ := hf_79821
  have w_79829 := hk.notin v_79827
  have w_79830 := hkI.notin v_79827
  have w_79831 := hk.notin v_79828
  have w_79832 := hkI.notin v_79828
  have p_h := kf_79821.1 h _ (nmc (p_h.neK p_q_79818 (by decide)) nm0) p_h
  have p_q_79079 := kf_79821.1 q_79079 _ (nmc (p_q_79079.neB p_q_79818) nm0) p_q_79079
  have p_q_79101 := kf_79821.1 q_79101 _ (nmc (p_q_79101.neB p_q_79818) nm0) p_q_79101
  have p_q_79818 := z_z_79824
  have p_a__79822 := z_z_79825
  have p_a__79823 := z_z_79826
  have hk := hk.call kf_79821 (fun b hb hp => (nmc (neL hp whkq_79818) nm0))
  have hkI := hkI.call kf_79821 (fun b hb hp => (nmc (neL hp whkIq_79818) nm0))
  have nr_q_79818 : NRg gl_42 ad41 q_79818 := (SHC.nr I whkIq_79818)
  have nr_a__79822 : NRg gl_42 ad41 a__79822 := (SHC.nr I w_79830)
  have nr_a__79823 : NRg gl_42 ad41 a__79823 := (SHC.nr I w_79832)
  have I := I.kp hkI (allc nr_h (allc nr_q_79079 (allc nr_q_79101 all0)))
  have hkI : kp L_79820 f_79821 L_79820 f_79821 [h, q_79079, q_79101] := kp.rf
  obtain ⟨ad42, I, X_79833, Y_79834, Z_79835⟩ := SHC.led (l2 := gl_43) (n := 25) I rfl rfl rfl (by decide) rfl p_q_79818 p_a__79822 p_a__79823 nr_q_79818 nr_a__79822 nr_a__79823 
  have eq40_0 := (X_79833.2 40 0 (by decide)).trans eq40_0
  have eq41_0 := (X_79833.2 41 0 (by decide)).trans eq41_0
  have eq10_0 := (X_79833.2 10 0 (by decide)).trans eq10_0
  have eq20_0 := (X_79833.2 20 0 (by decide)).trans eq20_0
  have eq20_1 := (X_79833.2 20 1 (by decide)).trans eq20_1
  have eq20_2 := (X_79833.2 20 2 (by decide)).trans eq20_2
  have eq20_3 := (X_79833.2 20 3 (by decide)).trans eq20_3
  have eq20_4 := (X_79833.2 20 4 (by decide)).trans eq20_4
  have fam_sc := fam_x fam_sc X_79833 (by decide)
  have fam_pa := fam_x fam_pa X_79833 (by decide)
  have nr_h := Z_79835 _ nr_h (p_h.neK p_q_79818 (by decide)) (p_h.neA p_a__79822) (p_h.neA p_a__79823)
  have nr_q_79079 := Z_79835 _ nr_q_79079 (p_q_79079.neB p_q_79818) (p_q_79079.neN p_a__79822 (by decide)) (p_q_79079.neN p_a__79823 (by decide))
  have nr_q_79101 := Z_79835 _ nr_q_79101 (p_q_79101.neB p_q_79818) (p_q_79101.neN p_a__79822 (by decide)) (p_q_79101.neN p_a__79823 (by decide))
  have hout : ∀ x, x ∈ L → NRg gl_0 ad x → NRg gl_43 ad42 x := fun x hx hn => Z_79835 x (hout x hx hn) (fun e => whkq_79818 (by rw [← e]; exact hx)) (fun e => w_79829 (by rw [← e]; exact hx)) (fun e => w_79831 (by rw [← e]; exact hx))
  have hext := hext.tr X_79833
  have eq10_25 := Y_79834
  have hkI : kp L_79820 f_79821 L_79820 f_79821 [h, q_79079, q_79101] := kp.rf
  refine pg_aast S Y (k := 3) p_q_79101 rfl p_q_79818 ok_X4.1 (by unfold vp_in; decide) dX10_init_164 (fun f_79837 H locs ef_79837 Y => ?_)
  obtain ⟨g_79836, eg_79836⟩ : ∃ z, z = va_up (g_79816) (24 : Int32).toNatClampNeg (some q_79818) := ⟨_, rfl⟩
  rw [← eg_79836] at ef_79837
  have p_h := p_h.up ef_79837 ((p_h.neA p_q_79101))
  have p_q_79079 := p_q_79079.up ef_79837 ((p_q_79079.neN p_q_79101 (by decide)))
  have p_q_79818 := p_q_79818.up ef_79837 ((p_q_79818.neA p_q_79101))
  have p_q_79101 := p_q_79101.me ef_79837
  have hk := hk.upN ef_79837 whkq_79101
  have hkI := hkI.up ef_79837 (by simp)
  have fam_pa := fam_s (i := 24) fam_pa eq10_25 eg_79836
  refine lv_iinc (v := 25) (lv' := [(1, .int 25), (0, .ref h)]) hx hb dX10_init_165 hl (k := 0) rfl (by decide) (by decide) rfl (fun ls hl => ?_)
  refine lv_goto (tgt := 146) hx hb dX10_init_168 (by decide) ?_
  refine lv_iload_n hx hb dX10_init_146 rfl (lv_at hl 0 rfl) ?_
  refine lv_bipush (v := 30) hx hb dX10_init_147 (by decide) ?_
  refine lv_icmp_ge (tgt := 171) hx hb dX10_init_149 (by decide) (fun h => absurd h (by decide)) (fun _ => ?_)
  refine lv_aload_n hx hb dX10_init_152 rfl (lv_at hl 1 rfl) ?_
  refine pg_get S Y ok_X10 4 (by decide) kf10_31 (v := .ref q_79101) p_h rfl dX10_init_153 ?_
  refine lv_iload_n hx hb dX10_init_156 rfl (lv_at hl 0 rfl) ?_
  refine pg_new S Y ok_X4 kc10_24 kn4 ki4 (fs := [.null, .null, .int 0, .int 0, .int 0, .int 0, .int 0]) (by decide) (by decide) (by decide) dX10_init_157 (fun q_79838 f_79839 H nq_79838 ef_79839 Y => ?_)
  have whkq_79838 := hk.notin nq_79838
  have hk := hk.push ef_79839 nq_79838
  have whkIq_79838 := hkI.notin nq_79838
  have hkI := hkI.push ef_79839 nq_79838
  have p_h := p_h.push ef_79839 nq_79838
  have p_q_79079 := p_q_79079.push ef_79839 nq_79838
  have p_q_79101 := p_q_79101.push ef_79839 nq_79838
  have p_q_79838 := pt.new (L := L_79820) ef_79839
  refine lv_dup hx hb dX10_init_160 rfl ?_
  refine cINv (b := q_79838) (As := []) (rest := [.ref q_79838, .int 25, .ref q_79101]) S Y (c_X4_init (l := l) p_q_79838) cw_X4_init km10_26 rfl ⟨Nat.le_of_ble_eq_true rfl, Nat.le_of_ble_eq_true rfl⟩ hl.1 rfl (Nat.le_of_ble_eq_true rfl) ⟨Nat.le_of_ble_eq_true rfl, Nat.le_of_ble_eq_true rfl⟩ dX10_init_161 (fun L_79840 f_79841 H locs hf_79841 Y => ?_)
  obtain ⟨a__79842, a__79843, kf_79841, z_z_79844, z_z_79845, z_z_79846, v_79847, v_79848⟩ := hf_79841
  have w_79849 := hk.notin v_79847
  have w_79850 := hkI.notin v_79847
  have w_79851 := hk.notin v_79848
  have w_79852 := hkI.notin v_79848
  have p_h := kf_79841.1 h _ (nmc (p_h.neK p_q_79838 (by decide)) nm0) p_h
  have p_q_79079 := kf_79841.1 q_79079 _ (nmc (p_q_79079.neB p_q_79838) nm0) p_q_79079
  have p_q_79101 := kf_79841.1 q_79101 _ (nmc (p_q_79101.neB p_q_79838) nm0) p_q_79101
  have p_q_79838 := z_z_79844
  have p_a__79842 := z_z_79845
  have p_a__79843 := z_z_79846
  have hk := hk.call kf_79841 (fun b hb hp => (nmc (neL hp whkq_79838) nm0))
  have hkI := hkI.call kf_79841 (fun b hb hp => (nmc (neL hp whkIq_79838) nm0))
  have nr_q_79838 : NRg gl_43 ad42 q_79838 := (SHC.nr I whkIq_79838)
  have nr_a__79842 : NRg gl_43 ad42 a__79842 := (SHC.nr I w_79850)
  have nr_a__79843 : NRg gl_43 ad42 a__79843 := (SHC.nr I w_79852)
  have I := I.kp hkI (allc nr_h (allc nr_q_79079 (allc nr_q_79101 all0)))
  have hkI : kp L_79840 f_79841 L_79840 f_79841 [h, q_79079, q_79101] := kp.rf
  obtain ⟨ad43, I, X_79853, Y_79854, Z_79855⟩ := SHC.led (l2 := gl_44) (n := 26) I rfl rfl rfl (by decide) rfl p_q_79838 p_a__79842 p_a__79843 nr_q_79838 nr_a__79842 nr_a__79843 
  have eq40_0 := (X_79853.2 40 0 (by decide)).trans eq40_0
  have eq41_0 := (X_79853.2 41 0 (by decide)).trans eq41_0
  have eq10_0 := (X_79853.2 10 0 (by decide)).trans eq10_0
  have eq20_0 := (X_79853.2 20 0 (by decide)).trans eq20_0
  have eq20_1 := (X_79853.2 20 1 (by decide)).trans eq20_1
  have eq20_2 := (X_79853.2 20 2 (by decide)).trans eq20_2
  have eq20_3 := (X_79853.2 20 3 (by decide)).trans eq20_3
  have eq20_4 := (X_79853.2 20 4 (by decide)).trans eq20_4
  have fam_sc := fam_x fam_sc X_79853 (by decide)
  have fam_pa := fam_x fam_pa X_79853 (by decide)
  have nr_h := Z_79855 _ nr_h (p_h.neK p_q_79838 (by decide)) (p_h.neA p_a__79842) (p_h.neA p_a__79843)
  have nr_q_79079 := Z_79855 _ nr_q_79079 (p_q_79079.neB p_q_79838) (p_q_79079.neN p_a__79842 (by decide)) (p_q_79079.neN p_a__79843 (by decide))
  have nr_q_79101 := Z_79855 _ nr_q_79101 (p_q_79101.neB p_q_79838) (p_q_79101.neN p_a__79842 (by decide)) (p_q_79101.neN p_a__79843 (by decide))
  have hout : ∀ x, x ∈ L → NRg gl_0 ad x → NRg gl_44 ad43 x := fun x hx hn => Z_79855 x (hout x hx hn) (fun e => whkq_79838 (by rw [← e]; exact hx)) (fun e => w_79849 (by rw [← e]; exact hx)) (fun e => w_79851 (by rw [← e]; exact hx))
  have hext := hext.tr X_79853
  have eq10_26 := Y_79854
  have hkI : kp L_79840 f_79841 L_79840 f_79841 [h, q_79079, q_79101] := kp.rf
  refine pg_aast S Y (k := 3) p_q_79101 rfl p_q_79838 ok_X4.1 (by unfold vp_in; decide) dX10_init_164 (fun f_79857 H locs ef_79857 Y => ?_)
  obtain ⟨g_79856, eg_79856⟩ : ∃ z, z = va_up (g_79836) (25 : Int32).toNatClampNeg (some q_79838) := ⟨_, rfl⟩
  rw [← eg_79856] at ef_79857
  have p_h := p_h.up ef_79857 ((p_h.neA p_q_79101))
  have p_q_79079 := p_q_79079.up ef_79857 ((p_q_79079.neN p_q_79101 (by decide)))
  have p_q_79838 := p_q_79838.up ef_79857 ((p_q_79838.neA p_q_79101))
  have p_q_79101 := p_q_79101.me ef_79857
  have hk := hk.upN ef_79857 whkq_79101
  have hkI := hkI.up ef_79857 (by simp)
  have fam_pa := fam_s (i := 25) fam_pa eq10_26 eg_79856
  refine lv_iinc (v := 26) (lv' := [(1, .int 26), (0, .ref h)]) hx hb dX10_init_165 hl (k := 0) rfl (by decide) (by decide) rfl (fun ls hl => ?_)
  refine lv_goto (tgt := 146) hx hb dX10_init_168 (by decide) ?_
  refine lv_iload_n hx hb dX10_init_146 rfl (lv_at hl 0 rfl) ?_
  refine lv_bipush (v := 30) hx hb dX10_init_147 (by decide) ?_
  refine lv_icmp_ge (tgt := 171) hx hb dX10_init_149 (by decide) (fun h => absurd h (by decide)) (fun _ => ?_)
  refine lv_aload_n hx hb dX10_init_152 rfl (lv_at hl 1 rfl) ?_
  refine pg_get S Y ok_X10 4 (by decide) kf10_31 (v := .ref q_79101) p_h rfl dX10_init_153 ?_
  refine lv_iload_n hx hb dX10_init_156 rfl (lv_at hl 0 rfl) ?_
  refine pg_new S Y ok_X4 kc10_24 kn4 ki4 (fs := [.null, .null, .int 0, .int 0, .int 0, .int 0, .int 0]) (by decide) (by decide) (by decide) dX10_init_157 (fun q_79858 f_79859 H nq_79858 ef_79859 Y => ?_)
  have whkq_79858 := hk.notin nq_79858
  have hk := hk.push ef_79859 nq_79858
  have whkIq_79858 := hkI.notin nq_79858
  have hkI := hkI.push ef_79859 nq_79858
  have p_h := p_h.push ef_79859 nq_79858
  have p_q_79079 := p_q_79079.push ef_79859 nq_79858
  have p_q_79101 := p_q_79101.push ef_79859 nq_79858
  have p_q_79858 := pt.new (L := L_79840) ef_79859
  refine lv_dup hx hb dX10_init_160 rfl ?_
  refine cINv (b := q_79858) (As := []) (rest := [.ref q_79858, .int 26, .ref q_79101]) S Y (c_X4_init (l := l) p_q_79858) cw_X4_init km10_26 rfl ⟨Nat.le_of_ble_eq_true rfl, Nat.le_of_ble_eq_true rfl⟩ hl.1 rfl (Nat.le_of_ble_eq_true rfl) ⟨Nat.le_of_ble_eq_true rfl, Nat.le_of_ble_eq_true rfl⟩ dX10_init_161 (fun L_79860 f_79861 H locs hf_79861 Y => ?_)
  obtain ⟨a__79862, a__79863, kf_79861, z_z_79864, z_z_79865, z_z_79866, v_79867, v_79868⟩ := hf_79861
  have w_79869 := hk.notin v_79867
  have w_79870 := hkI.notin v_79867
  have w_79871 := hk.notin v_79868
  have w_79872 := hkI.notin v_79868
  have p_h := kf_79861.1 h _ (nmc (p_h.neK p_q_79858 (by decide)) nm0) p_h
  have p_q_79079 := kf_79861.1 q_79079 _ (nmc (p_q_79079.neB p_q_79858) nm0) p_q_79079
  have p_q_79101 := kf_79861.1 q_79101 _ (nmc (p_q_79101.neB p_q_79858) nm0) p_q_79101
  have p_q_79858 := z_z_79864
  have p_a__79862 := z_z_79865
  have p_a__79863 := z_z_79866
  have hk := hk.call kf_79861 (fun b hb hp => (nmc (neL hp whkq_79858) nm0))
  have hkI := hkI.call kf_79861 (fun b hb hp => (nmc (neL hp whkIq_79858) nm0))
  have nr_q_79858 : NRg gl_44 ad43 q_79858 := (SHC.nr I whkIq_79858)
  have nr_a__79862 : NRg gl_44 ad43 a__79862 := (SHC.nr I w_79870)
  have nr_a__79863 : NRg gl_44 ad43 a__79863 := (SHC.nr I w_79872)
  have I := I.kp hkI (allc nr_h (allc nr_q_79079 (allc nr_q_79101 all0)))
  have hkI : kp L_79860 f_79861 L_79860 f_79861 [h, q_79079, q_79101] := kp.rf
  obtain ⟨ad44, I, X_79873, Y_79874, Z_79875⟩ := SHC.led (l2 := gl_45) (n := 27) I rfl rfl rfl (by decide) rfl p_q_79858 p_a__79862 p_a__79863 nr_q_79858 nr_a__79862 nr_a__79863 
  have eq40_0 := (X_79873.2 40 0 (by decide)).trans eq40_0
  have eq41_0 := (X_79873.2 41 0 (by decide)).trans eq41_0
  have eq10_0 := (X_79873.2 10 0 (by decide)).trans eq10_0
  have eq20_0 := (X_79873.2 20 0 (by decide)).trans eq20_0
  have eq20_1 := (X_79873.2 20 1 (by decide)).trans eq20_1
  have eq20_2 := (X_79873.2 20 2 (by decide)).trans eq20_2
  have eq20_3 := (X_79873.2 20 3 (by decide)).trans eq20_3
  have eq20_4 := (X_79873.2 20 4 (by decide)).trans eq20_4
  have fam_sc := fam_x fam_sc X_79873 (by decide)
  have fam_pa := fam_x fam_pa X_79873 (by decide)
  have nr_h := Z_79875 _ nr_h (p_h.neK p_q_79858 (by decide)) (p_h.neA p_a__79862) (p_h.neA p_a__79863)
  have nr_q_79079 := Z_79875 _ nr_q_79079 (p_q_79079.neB p_q_79858) (p_q_79079.neN p_a__79862 (by decide)) (p_q_79079.neN p_a__79863 (by decide))
  have nr_q_79101 := Z_79875 _ nr_q_79101 (p_q_79101.neB p_q_79858) (p_q_79101.neN p_a__79862 (by decide)) (p_q_79101.neN p_a__79863 (by decide))
  have hout : ∀ x, x ∈ L → NRg gl_0 ad x → NRg gl_45 ad44 x := fun x hx hn => Z_79875 x (hout x hx hn) (fun e => whkq_79858 (by rw [← e]; exact hx)) (fun e => w_79869 (by rw [← e]; exact hx)) (fun e => w_79871 (by rw [← e]; exact hx))
  have hext := hext.tr X_79873
  have eq10_27 := Y_79874
  have hkI : kp L_79860 f_79861 L_79860 f_79861 [h, q_79079, q_79101] := kp.rf
  refine pg_aast S Y (k := 3) p_q_79101 rfl p_q_79858 ok_X4.1 (by unfold vp_in; decide) dX10_init_164 (fun f_79877 H locs ef_79877 Y => ?_)
  obtain ⟨g_79876, eg_79876⟩ : ∃ z, z = va_up (g_79856) (26 : Int32).toNatClampNeg (some q_79858) := ⟨_, rfl⟩
  rw [← eg_79876] at ef_79877
  have p_h := p_h.up ef_79877 ((p_h.neA p_q_79101))
  have p_q_79079 := p_q_79079.up ef_79877 ((p_q_79079.neN p_q_79101 (by decide)))
  have p_q_79858 := p_q_79858.up ef_79877 ((p_q_79858.neA p_q_79101))
  have p_q_79101 := p_q_79101.me ef_79877
  have hk := hk.upN ef_79877 whkq_79101
  have hkI := hkI.up ef_79877 (by simp)
  have fam_pa := fam_s (i := 26) fam_pa eq10_27 eg_79876
  refine lv_iinc (v := 27) (lv' := [(1, .int 27), (0, .ref h)]) hx hb dX10_init_165 hl (k := 0) rfl (by decide) (by decide) rfl (fun ls hl => ?_)
  refine lv_goto (tgt := 146) hx hb dX10_init_168 (by decide) ?_
  refine lv_iload_n hx hb dX10_init_146 rfl (lv_at hl 0 rfl) ?_
  refine lv_bipush (v := 30) hx hb dX10_init_147 (by decide) ?_
  refine lv_icmp_ge (tgt := 171) hx hb dX10_init_149 (by decide) (fun h => absurd h (by decide)) (fun _ => ?_)
  refine lv_aload_n hx hb dX10_init_152 rfl (lv_at hl 1 rfl) ?_
  refine pg_get S Y ok_X10 4 (by decide) kf10_31 (v := .ref q_79101) p_h rfl dX10_init_153 ?_
  refine lv_iload_n hx hb dX10_init_156 rfl (lv_at hl 0 rfl) ?_
  refine pg_new S Y ok_X4 kc10_24 kn4 ki4 (fs := [.null, .null, .int 0, .int 0, .int 0, .int 0, .int 0]) (by decide) (by decide) (by decide) dX10_init_157 (fun q_79878 f_79879 H nq_79878 ef_79879 Y => ?_)
  have whkq_79878 := hk.notin nq_79878
  have hk := hk.push ef_79879 nq_79878
  have whkIq_79878 := hkI.notin nq_79878
  have hkI := hkI.push ef_79879 nq_79878
  have p_h := p_h.push ef_79879 nq_79878
  have p_q_79079 := p_q_79079.push ef_79879 nq_79878
  have p_q_79101 := p_q_79101.push ef_79879 nq_79878
  have p_q_79878 := pt.new (L := L_79860) ef_79879
  refine lv_dup hx hb dX10_init_160 rfl ?_
  refine cINv (b := q_79878) (As := []) (rest := [.ref q_79878, .int 27, .ref q_79101]) S Y (c_X4_init (l := l) p_q_79878) cw_X4_init km10_26 rfl ⟨Nat.le_of_ble_eq_true rfl, Nat.le_of_ble_eq_true rfl⟩ hl.1 rfl (Nat.le_of_ble_eq_true rfl) ⟨Nat.le_of_ble_eq_true rfl, Nat.le_of_ble_eq_true rfl⟩ dX10_init_161 (fun L_79880 f_79881 H locs hf_79881 Y => ?_)
  obtain ⟨a__79882, a__79883, kf_79881, z_z_79884, z_z_79885, z_z_79886, v_79887, v_79888⟩ := hf_79881
  have w_79889 := hk.notin v_79887
  have w_79890 := hkI.notin v_79887
  have w_79891 := hk.notin v_79888
  have w_79892 := hkI.notin v_79888
  have p_h := kf_79881.1 h _ (nmc (p_h.neK p_q_79878 (by decide)) nm0) p_h
  have p_q_79079 := kf_79881.1 q_79079 _ (nmc (p_q_79079.neB p_q_79878) nm0) p_q_79079
  have p_q_79101 := kf_79881.1 q_79101 _ (nmc (p_q_79101.neB p_q_79878) nm0) p_q_79101
  have p_q_79878 := z_z_79884
  have p_a__79882 := z_z_79885
  have p_a__79883 := z_z_79886
  have hk := hk.call kf_79881 (fun b hb hp => (nmc (neL hp whkq_79878) nm0))
  have hkI := hkI.call kf_79881 (fun b hb hp => (nmc (neL hp whkIq_79878) nm0))
  have nr_q_79878 : NRg gl_45 ad44 q_79878 := (SHC.nr I whkIq_79878)
  have nr_a__79882 : NRg gl_45 ad44 a__79882 := (SHC.nr I w_79890)
  have nr_a__79883 : NRg gl_45 ad44 a__79883 := (SHC.nr I w_79892)
  have I := I.kp hkI (allc nr_h (allc nr_q_79079 (allc nr_q_79101 all0)))
  have hkI : kp L_79880 f_79881 L_79880 f_79881 [h, q_79079, q_79101] := kp.rf
  obtain ⟨ad45, I, X_79893, Y_79894, Z_79895⟩ := SHC.led (l2 := gl_46) (n := 28) I rfl rfl rfl (by decide) rfl p_q_79878 p_a__79882 p_a__79883 nr_q_79878 nr_a__79882 nr_a__79883 
  have eq40_0 := (X_79893.2 40 0 (by decide)).trans eq40_0
  have eq41_0 := (X_79893.2 41 0 (by decide)).trans eq41_0
  have eq10_0 := (X_79893.2 10 0 (by decide)).trans eq10_0
  have eq20_0 := (X_79893.2 20 0 (by decide)).trans eq20_0
  have eq20_1 := (X_79893.2 20 1 (by decide)).trans eq20_1
  have eq20_2 := (X_79893.2 20 2 (by decide)).trans eq20_2
  have eq20_3 := (X_79893.2 20 3 (by decide)).trans eq20_3
  have eq20_4 := (X_79893.2 20 4 (by decide)).trans eq20_4
  have fam_sc := fam_x fam_sc X_79893 (by decide)
  have fam_pa := fam_x fam_pa X_79893 (by decide)
  have nr_h := Z_79895 _ nr_h (p_h.neK p_q_79878 (by decide)) (p_h.neA p_a__79882) (p_h.neA p_a__79883)
  have nr_q_79079 := Z_79895 _ nr_q_79079 (p_q_79079.neB p_q_79878) (p_q_79079.neN p_a__79882 (by decide)) (p_q_79079.neN p_a__79883 (by decide))
  have nr_q_79101 := Z_79895 _ nr_q_79101 (p_q_79101.neB p_q_79878) (p_q_79101.neN p_a__79882 (by decide)) (p_q_79101.neN p_a__79883 (by decide))
  have hout : ∀ x, x ∈ L → NRg gl_0 ad x → NRg gl_46 ad45 x := fun x hx hn => Z_79895 x (hout x hx hn) (fun e => whkq_79878 (by rw [← e]; exact hx)) (fun e => w_79889 (by rw [← e]; exact hx)) (fun e => w_79891 (by rw [← e]; exact hx))
  have hext := hext.tr X_79893
  have eq10_28 := Y_79894
  have hkI : kp L_79880 f_79881 L_79880 f_79881 [h, q_79079, q_79101] := kp.rf
  refine pg_aast S Y (k := 3) p_q_79101 rfl p_q_79878 ok_X4.1 (by unfold vp_in; decide) dX10_init_164 (fun f_79897 H locs ef_79897 Y => ?_)
  obtain ⟨g_79896, eg_79896⟩ : ∃ z, z = va_up (g_79876) (27 : Int32).toNatClampNeg (some q_79878) := ⟨_, rfl⟩
  rw [← eg_79896] at ef_79897
  have p_h := p_h.up ef_79897 ((p_h.neA p_q_79101))
  have p_q_79079 := p_q_79079.up ef_79897 ((p_q_79079.neN p_q_79101 (by decide)))
  have p_q_79878 := p_q_79878.up ef_79897 ((p_q_79878.neA p_q_79101))
  have p_q_79101 := p_q_79101.me ef_79897
  have hk := hk.upN ef_79897 whkq_79101
  have hkI := hkI.up ef_79897 (by simp)
  have fam_pa := fam_s (i := 27) fam_pa eq10_28 eg_79896
  refine lv_iinc (v := 28) (lv' := [(1, .int 28), (0, .ref h)]) hx hb dX10_init_165 hl (k := 0) rfl (by decide) (by decide) rfl (fun ls hl => ?_)
  refine lv_goto (tgt := 146) hx hb dX10_init_168 (by decide) ?_
  refine lv_iload_n hx hb dX10_init_146 rfl (lv_at hl 0 rfl) ?_
  refine lv_bipush (v := 30) hx hb dX10_init_147 (by decide) ?_
  refine lv_icmp_ge (tgt := 171) hx hb dX10_init_149 (by decide) (fun h => absurd h (by decide)) (fun _ => ?_)
  refine lv_aload_n hx hb dX10_init_152 rfl (lv_at hl 1 rfl) ?_
  refine pg_get S Y ok_X10 4 (by decide) kf10_31 (v := .ref q_79101) p_h rfl dX10_init_153 ?_
  refine lv_iload_n hx hb dX10_init_156 rfl (lv_at hl 0 rfl) ?_
  refine pg_new S Y ok_X4 kc10_24 kn4 ki4 (fs := [.null, .null, .int 0, .int 0, .int 0, .int 0, .int 0]) (by decide) (by decide) (by decide) dX10_init_157 (fun q_79898 f_79899 H nq_79898 ef_79899 Y => ?_)
  have whkq_79898 := hk.notin nq_79898
  have hk := hk.push ef_79899 nq_79898
  have whkIq_79898 := hkI.notin nq_79898
  have hkI := hkI.push ef_79899 nq_79898
  have p_h := p_h.push ef_79899 nq_79898
  have p_q_79079 := p_q_79079.push ef_79899 nq_79898
  have p_q_79101 := p_q_79101.push ef_79899 nq_79898
  have p_q_79898 := pt.new (L := L_79880) ef_79899
  refine lv_dup hx hb dX10_init_160 rfl ?_
  refine cINv (b := q_79898) (As := []) (rest := [.ref q_79898, .int 28, .ref q_79101]) S Y (c_X4_init (l := l) p_q_79898) cw_X4_init km10_26 rfl ⟨Nat.le_of_ble_eq_true rfl, Nat.le_of_ble_eq_true rfl⟩ hl.1 rfl (Nat.le_of_ble_eq_true rfl) ⟨Nat.le_of_ble_eq_true rfl, Nat.le_of_ble_eq_true rfl⟩ dX10_init_161 (fun L_79900 f_79901 H locs hf_79901 Y => ?_)
  obtain ⟨a__79902, a__79903, kf_79901, z_z_79904, z_z_79905, z_z_79906, v_79907, v_79908⟩ := hf_79901
  have w_79909 := hk.notin v_79907
  have w_79910 := hkI.notin v_79907
  have w_79911 := hk.notin v_79908
  have w_79912 := hkI.notin v_79908
  have p_h := kf_79901.1 h _ (nmc (p_h.neK p_q_79898 (by decide)) nm0) p_h
  have p_q_79079 := kf_79901.1 q_79079 _ (nmc (p_q_79079.neB p_q_79898) nm0) p_q_79079
  have p_q_79101 := kf_79901.1 q_79101 _ (nmc (p_q_79101.neB p_q_79898) nm0) p_q_79101
  have p_q_79898 := z_z_79904
  have p_a__79902 := z_z_79905
  have p_a__79903 := z_z_79906
  have hk := hk.call kf_79901 (fun b hb hp => (nmc (neL hp whkq_79898) nm0))
  have hkI := hkI.call kf_79901 (fun b hb hp => (nmc (neL hp whkIq_79898) nm0))
  have nr_q_79898 : NRg gl_46 ad45 q_79898 := (SHC.nr I whkIq_79898)
  have nr_a__79902 : NRg gl_46 ad45 a__79902 := (SHC.nr I w_79910)
  have nr_a__79903 : NRg gl_46 ad45 a__79903 := (SHC.nr I w_79912)
  have I := I.kp hkI (allc nr_h (allc nr_q_79079 (allc nr_q_79101 all0)))
  have hkI : kp L_79900 f_79901 L_79900 f_79901 [h, q_79079, q_79101] := kp.rf
  obtain ⟨ad46, I, X_79913, Y_79914, Z_79915⟩ := SHC.led (l2 := gl_47) (n := 29) I rfl rfl rfl (by decide) rfl p_q_79898 p_a__79902 p_a__79903 nr_q_79898 nr_a__79902 nr_a__79903 
  have eq40_0 := (X_79913.2 40 0 (by decide)).trans eq40_0
  have eq41_0 := (X_79913.2 41 0 (by decide)).trans eq41_0
  have eq10_0 := (X_79913.2 10 0 (by decide)).trans eq10_0
  have eq20_0 := (X_79913.2 20 0 (by decide)).trans eq20_0
  have eq20_1 := (X_79913.2 20 1 (by decide)).trans eq20_1
  have eq20_2 := (X_79913.2 20 2 (by decide)).trans eq20_2
  have eq20_3 := (X_79913.2 20 3 (by decide)).trans eq20_3
  have eq20_4 := (X_79913.2 20 4 (by decide)).trans eq20_4
  have fam_sc := fam_x fam_sc X_79913 (by decide)
  have fam_pa := fam_x fam_pa X_79913 (by decide)
  have nr_h := Z_79915 _ nr_h (p_h.neK p_q_79898 (by decide)) (p_h.neA p_a__79902) (p_h.neA p_a__79903)
  have nr_q_79079 := Z_79915 _ nr_q_79079 (p_q_79079.neB p_q_79898) (p_q_79079.neN p_a__79902 (by decide)) (p_q_79079.neN p_a__79903 (by decide))
  have nr_q_79101 := Z_79915 _ nr_q_79101 (p_q_79101.neB p_q_79898) (p_q_79101.neN p_a__79902 (by decide)) (p_q_79101.neN p_a__79903 (by decide))
  have hout : ∀ x, x ∈ L → NRg gl_0 ad x → NRg gl_47 ad46 x := fun x hx hn => Z_79915 x (hout x hx hn) (fun e => whkq_79898 (by rw [← e]; exact hx)) (fun e => w_79909 (by rw [← e]; exact hx)) (fun e => w_79911 (by rw [← e]; exact hx))
  have hext := hext.tr X_79913
  have eq10_29 := Y_79914
  have hkI : kp L_79900 f_79901 L_79900 f_79901 [h, q_79079, q_79101] := kp.rf
  refine pg_aast S Y (k := 3) p_q_79101 rfl p_q_79898 ok_X4.1 (by unfold vp_in; decide) dX10_init_164 (fun f_79917 H locs ef_79917 Y => ?_)
  obtain ⟨g_79916, eg_79916⟩ : ∃ z, z = va_up (g_79896) (28 : Int32).toNatClampNeg (some q_79898) := ⟨_, rfl⟩
  rw [← eg_79916] at ef_79917
  have p_h := p_h.up ef_79917 ((p_h.neA p_q_79101))
  have p_q_79079 := p_q_79079.up ef_79917 ((p_q_79079.neN p_q_79101 (by decide)))
  have p_q_79898 := p_q_79898.up ef_79917 ((p_q_79898.neA p_q_79101))
  have p_q_79101 := p_q_79101.me ef_79917
  have hk := hk.upN ef_79917 whkq_79101
  have hkI := hkI.up ef_79917 (by simp)
  have fam_pa := fam_s (i := 28) fam_pa eq10_29 eg_79916
  refine lv_iinc (v := 29) (lv' := [(1, .int 29), (0, .ref h)]) hx hb dX10_init_165 hl (k := 0) rfl (by decide) (by decide) rfl (fun ls hl => ?_)
  refine lv_goto (tgt := 146) hx hb dX10_init_168 (by decide) ?_
  refine lv_iload_n hx hb dX10_init_146 rfl (lv_at hl 0 rfl) ?_
  refine lv_bipush (v := 30) hx hb dX10_init_147 (by decide) ?_
  refine lv_icmp_ge (tgt := 171) hx hb dX10_init_149 (by decide) (fun h => absurd h (by decide)) (fun _ => ?_)
  refine lv_aload_n hx hb dX10_init_152 rfl (lv_at hl 1 rfl) ?_
  refine pg_get S Y ok_X10 4 (by decide) kf10_31 (v := .ref q_79101) p_h rfl dX10_init_153 ?_
  refine lv_iload_n hx hb dX10_init_156 rfl (lv_at hl 0 rfl) ?_
  refine pg_new S Y ok_X4 kc10_24 kn4 ki4 (fs := [.null, .null, .int 0, .int 0, .int 0, .int 0, .int 0]) (by decide) (by decide) (by decide) dX10_init_157 (fun q_79918 f_79919 H nq_79918 ef_79919 Y => ?_)
  have whkq_79918 := hk.notin nq_79918
  have hk := hk.push ef_79919 nq_79918
  have whkIq_79918 := hkI.notin nq_79918
  have hkI := hkI.push ef_79919 nq_79918
  have p_h := p_h.push ef_79919 nq_79918
  have p_q_79079 := p_q_79079.push ef_79919 nq_79918
  have p_q_79101 := p_q_79101.push ef_79919 nq_79918
  have p_q_79918 := pt.new (L := L_79900) ef_79919
  refine lv_dup hx hb dX10_init_160 rfl ?_
  refine cINv (b := q_79918) (As := []) (rest := [.ref q_79918, .int 29, .ref q_79101]) S Y (c_X4_init (l := l) p_q_79918) cw_X4_init km10_26 rfl ⟨Nat.le_of_ble_eq_true rfl, Nat.le_of_ble_eq_true rfl⟩ hl.1 rfl (Nat.le_of_ble_eq_true rfl) ⟨Nat.le_of_ble_eq_true rfl, Nat.le_of_ble_eq_true rfl⟩ dX10_init_161 (fun L_79920 f_79921 H locs hf_79921 Y => ?_)
  obtain ⟨a__79922, a__79923, kf_79921, z_z_79924, z_z_79925, z_z_79926, v_79927, v_79928⟩ := hf_79921
  have w_79929 := hk.notin v_79927
  have w_79930 := hkI.notin v_79927
  have w_79931 := hk.notin v_79928
  have w_79932 := hkI.notin v_79928
  have p_h := kf_79921.1 h _ (nmc (p_h.neK p_q_79918 (by decide)) nm0) p_h
  have p_q_79079 := kf_79921.1 q_79079 _ (nmc (p_q_79079.neB p_q_79918) nm0) p_q_79079
  have p_q_79101 := kf_79921.1 q_79101 _ (nmc (p_q_79101.neB p_q_79918) nm0) p_q_79101
  have p_q_79918 := z_z_79924
  have p_a__79922 := z_z_79925
  have p_a__79923 := z_z_79926
  have hk := hk.call kf_79921 (fun b hb hp => (nmc (neL hp whkq_79918) nm0))
  have hkI := hkI.call kf_79921 (fun b hb hp => (nmc (neL hp whkIq_79918) nm0))
  have nr_q_79918 : NRg gl_47 ad46 q_79918 := (SHC.nr I whkIq_79918)
  have nr_a__79922 : NRg gl_47 ad46 a__79922 := (SHC.nr I w_79930)
  have nr_a__79923 : NRg gl_47 ad46 a__79923 := (SHC.nr I w_79932)
  have I := I.kp hkI (allc nr_h (allc nr_q_79079 (allc nr_q_79101 all0)))
  have hkI : kp L_79920 f_79921 L_79920 f_79921 [h, q_79079, q_79101] := kp.rf
  obtain ⟨ad47, I, X_79933, Y_79934, Z_79935⟩ := SHC.led (l2 := gl_48) (n := 30) I rfl rfl rfl (by decide) rfl p_q_79918 p_a__79922 p_a__79923 nr_q_79918 nr_a__79922 nr_a__79923 
  have eq40_0 := (X_79933.2 40 0 (by decide)).trans eq40_0
  have eq41_0 := (X_79933.2 41 0 (by decide)).trans eq41_0
  have eq10_0 := (X_79933.2 10 0 (by decide)).trans eq10_0
  have eq20_0 := (X_79933.2 20 0 (by decide)).trans eq20_0
  have eq20_1 := (X_79933.2 20 1 (by decide)).trans eq20_1
  have eq20_2 := (X_79933.2 20 2 (by decide)).trans eq20_2
  have eq20_3 := (X_79933.2 20 3 (by decide)).trans eq20_3
  have eq20_4 := (X_79933.2 20 4 (by decide)).trans eq20_4
  have fam_sc := fam_x fam_sc X_79933 (by decide)
  have fam_pa := fam_x fam_pa X_79933 (by decide)
  have nr_h := Z_79935 _ nr_h (p_h.neK p_q_79918 (by decide)) (p_h.neA p_a__79922) (p_h.neA p_a__79923)
  have nr_q_79079 := Z_79935 _ nr_q_79079 (p_q_79079.neB p_q_79918) (p_q_79079.neN p_a__79922 (by decide)) (p_q_79079.neN p_a__79923 (by decide))
  have nr_q_79101 := Z_79935 _ nr_q_79101 (p_q_79101.neB p_q_79918) (p_q_79101.neN p_a__79922 (by decide)) (p_q_79101.neN p_a__79923 (by decide))
  have hout : ∀ x, x ∈ L → NRg gl_0 ad x → NRg gl_48 ad47 x := fun x hx hn => Z_79935 x (hout x hx hn) (fun e => whkq_79918 (by rw [← e]; exact hx)) (fun e => w_79929 (by rw [← e]; exact hx)) (fun e => w_79931 (by rw [← e]; exact hx))
  have hext := hext.tr X_79933
  have eq10_30 := Y_79934
  have hkI : kp L_79920 f_79921 L_79920 f_79921 [h, q_79079, q_79101] := kp.rf
  refine pg_aast S Y (k := 3) p_q_79101 rfl p_q_79918 ok_X4.1 (by unfold vp_in; decide) dX10_init_164 (fun f_79937 H locs ef_79937 Y => ?_)
  obtain ⟨g_79936, eg_79936⟩ : ∃ z, z = va_up (g_79916) (29 : Int32).toNatClampNeg (some q_79918) := ⟨_, rfl⟩
  rw [← eg_79936] at ef_79937
  have p_h := p_h.up ef_79937 ((p_h.neA p_q_79101))
  have p_q_79079 := p_q_79079.up ef_79937 ((p_q_79079.neN p_q_79101 (by decide)))
  have p_q_79918 := p_q_79918.up ef_79937 ((p_q_79918.neA p_q_79101))
  have p_q_79101 := p_q_79101.me ef_79937
  have hk := hk.upN ef_79937 whkq_79101
  have hkI := hkI.up ef_79937 (by simp)
  have fam_pa := fam_s (i := 29) fam_pa eq10_30 eg_79936
  refine lv_iinc (v := 30) (lv' := [(1, .int 30), (0, .ref h)]) hx hb dX10_init_165 hl (k := 0) rfl (by decide) (by decide) rfl (fun ls hl => ?_)
  refine lv_goto (tgt := 146) hx hb dX10_init_168 (by decide) ?_
  refine lv_iload_n hx hb dX10_init_146 rfl (lv_at hl 0 rfl) ?_
  refine lv_bipush (v := 30) hx hb dX10_init_147 (by decide) ?_
  refine lv_icmp_ge (tgt := 171) hx hb dX10_init_149 (by decide) (fun _ => ?_) (fun h => absurd (by decide) h)
  have I := I.kp hkI (allc nr_h (allc nr_q_79079 (allc nr_q_79101 all0)))
  have hkI : kp L_79920 f_79937 L_79920 f_79937 [h, q_79079, q_79101] := kp.rf
  obtain ⟨ad48, I, X_79938, Y_79939, Z_79940⟩ := SHC.add (l2 := gl_49) I (k := 42) (n := 0) rfl (by decide) rfl p_q_79079 nr_q_79079 ⟨_, rfl, fam_sc⟩ (show ∀ t, t < 4 → 0 + t < 4 from fun t ht => by omega)
  have eq40_0 := (X_79938.2 40 0 (by decide)).trans eq40_0
  have eq41_0 := (X_79938.2 41 0 (by decide)).trans eq41_0
  have eq10_0 := (X_79938.2 10 0 (by decide)).trans eq10_0
  have eq20_0 := (X_79938.2 20 0 (by decide)).trans eq20_0
  have eq20_1 := (X_79938.2 20 1 (by decide)).trans eq20_1
  have eq20_2 := (X_79938.2 20 2 (by decide)).trans eq20_2
  have eq20_3 := (X_79938.2 20 3 (by decide)).trans eq20_3
  have eq20_4 := (X_79938.2 20 4 (by decide)).trans eq20_4
  have fam_sc := fam_x fam_sc X_79938 (by decide)
  have fam_pa := fam_x fam_pa X_79938 (by decide)
  have nr_h := Z_79940 _ nr_h (p_h.neA p_q_79079)
  have nr_q_79101 := Z_79940 _ nr_q_79101 (p_q_79101.neN p_q_79079 (by decide))
  have hout : ∀ x, x ∈ L → NRg gl_0 ad x → NRg gl_49 ad48 x := fun x hx hn => Z_79940 x (hout x hx hn) (fun e => whkq_79079 (by rw [← e]; exact hx))
  have hext := hext.tr X_79938
  have eq42_0 := Y_79939
  have hkI : kp L_79920 f_79937 L_79920 f_79937 [h, q_79101] := kp.rf
  have I := I.kp hkI (allc nr_h (allc nr_q_79101 all0))
  have hkI : kp L_79920 f_79937 L_79920 f_79937 [h, q_79101] := kp.rf
  obtain ⟨ad49, I, X_79941, Y_79942, Z_79943⟩ := SHC.add (l2 := gl_1) I (k := 43) (n := 0) rfl (by decide) rfl p_q_79101 nr_q_79101 ⟨_, rfl, fam_pa⟩ (show ∀ t, t < 30 → 1 + t < 31 from fun t ht => by omega)
  have eq40_0 := (X_79941.2 40 0 (by decide)).trans eq40_0
  have eq41_0 := (X_79941.2 41 0 (by decide)).trans eq41_0
  have eq10_0 := (X_79941.2 10 0 (by decide)).trans eq10_0
  have eq20_0 := (X_79941.2 20 0 (by decide)).trans eq20_0
  have eq20_1 := (X_79941.2 20 1 (by decide)).trans eq20_1
  have eq20_2 := (X_79941.2 20 2 (by decide)).trans eq20_2
  have eq20_3 := (X_79941.2 20 3 (by decide)).trans eq20_3
  have eq20_4 := (X_79941.2 20 4 (by decide)).trans eq20_4
  have eq42_0 := (X_79941.2 42 0 (by decide)).trans eq42_0
  have fam_sc := fam_x fam_sc X_79941 (by decide)
  have fam_pa := fam_x fam_pa X_79941 (by decide)
  have nr_h := Z_79943 _ nr_h (p_h.neA p_q_79101)
  have hout : ∀ x, x ∈ L → NRg gl_0 ad x → NRg gl_1 ad49 x := fun x hx hn => Z_79943 x (hout x hx hn) (fun e => whkq_79101 (by rw [← e]; exact hx))
  have hext := hext.tr X_79941
  have eq43_0 := Y_79942
  have hkI : kp L_79920 f_79937 L_79920 f_79937 [h] := kp.rf
  have p_h : pt L_79920 f_79937 h (.inr (10, [.ref (ad49 40 0), .ref (ad49 41 0), .ref (ad49 42 0), .ref (ad49 10 0), .ref (ad49 43 0), .ref (ad49 20 0), .ref (ad49 20 1), .ref (ad49 20 2), .ref (ad49 20 3), .ref (ad49 20 4), .int 0, .int 0, .int (-1), .int 0, .int 0])) := by rw [eq40_0, eq41_0, eq42_0, eq10_0, eq43_0, eq20_0, eq20_1, eq20_2, eq20_3, eq20_4]; exact p_h
  exact prV (post := fun L1 f1 => ∃ ad2 : Nat → Nat → Nat, kp L f L1 f1 [h] ∧ pt L1 f1 h (.inr (10, [.ref (ad2 40 0), .ref (ad2 41 0), .ref (ad2 42 0), .ref (ad2 10 0), .ref (ad2 43 0), .ref (ad2 20 0), .ref (ad2 20 1), .ref (ad2 20 2), .ref (ad2 20 3), .ref (ad2 20 4), .int 0, .int 0, .int (-1), .int 0, .int 0])) ∧ SHC gl_1 G ad2 L1 f1 ∧ EXT gl_0 ad gl_1 ad2 ∧ (∀ x, x ∈ L → NRg gl_0 ad x → NRg gl_1 ad2 x)) S Y (by decide) (by decide) hA1 ⟨ad49, hk, p_h, I, hext, hout⟩ dX10_init_171
set_option maxHeartbeats 4000000 in
set_option maxRecDepth 100000 in
theorem c_world1 {l : Launch} {G : GG} {L : List Nat} {f : HF} {h : Nat} {ad : Nat → Nat → Nat} (p_h : pt L f h (.inr (10, [.null, .null, .null, .null, .null, .null, .null, .null, .null, .null, .int 0, .int 0, .int 0, .int 0, .int 0]))) (I : SHC gl_50 G ad L f) (nr_h : NRg gl_50 ad h) : PMv l yX10_init cX10_init 2 2 131 9158 G [.ref h] L f (fun L1 f1 => ∃ ad2 : Nat → Nat → Nat, kp L f L1 f1 [h] ∧ pt L1 f1 h (.inr (10, [.ref (ad2 40 1), .ref (ad2 41 1), .ref (ad2 42 1), .ref (ad2 10 31), .ref (ad2 43 1), .ref (ad2 20 5), .ref (ad2 20 6), .ref (ad2 20 7), .ref (ad2 20 8), .ref (ad2 20 9), .int 0, .int 0, .int (-1), .int 0, .int 0])) ∧ SHC gl_51 G ad2 L1 f1 ∧ EXT gl_50 ad gl_51 ad2 ∧ (∀ x, x ∈ L → NRg gl_50 ad x → NRg gl_51 ad2 x)) := by
  refine PMv.of (post := fun L1 f1 => ∃ ad2 : Nat → Nat → Nat, kp L f L1 f1 [h] ∧ pt L1 f1 h (.inr (10, [.ref (ad2 40 1), .ref (ad2 41 1), .ref (ad2 42 1), .ref (ad2 10 31), .ref (ad2 43 1), .ref (ad2 20 5), .ref (ad2 20 6), .ref (ad2 20 7), .ref (ad2 20 8), .ref (ad2 20 9), .int 0, .int 0, .int (-1), .int 0, .int 0])) ∧ SHC gl_51 G ad2 L1 f1 ∧ EXT gl_50 ad gl_51 ad2 ∧ (∀ x, x ∈ L → NRg gl_50 ad x → NRg gl_51 ad2 x)) (own := RX10) (by decide) rfl (Nat.le_of_ble_eq_true rfl) (fun sz p e s m args below meth c A ls hA1 hname S Y hl => ?_)
  have hx := S.hx
  have hb := S.hb
  have hl : lv_has ls 2 [(0, .ref h)] := hl
  have hk : kp L f L f [h] := kp.rf
  refine lv_aload_n hx hb dX10_init_0 rfl (lv_at hl 0 rfl) ?_
  refine pObj S km10_3 kObj1 kObj2 hl.1 (Nat.le_of_ble_eq_true rfl) (Nat.le_of_ble_eq_true rfl) dX10_init_1 ?_
  have hkI : kp L f L f [h] := kp.rf
  have hout : ∀ x, x ∈ L → NRg gl_50 ad x → NRg gl_50 ad x := fun _ _ h => h
  have hext : EXT gl_50 ad gl_50 ad := EXT.rf
  refine lv_aload_n hx hb dX10_init_4 rfl (lv_at hl 0 rfl) ?_
  refine lv_bipush (v := 6) hx hb dX10_init_5 (by decide) ?_
  refine pg_newa S Y (ty := .int) rfl 0 rfl ka_int (N' := 6) (6, .inl (fun _ => 0)) (fun _ => rfl) (by decide) (by decide) (by decide) (by decide) (by decide) dX10_init_7 (fun q_79944 f_79945 H nq_79944 ef_79945 Y => ?_)
  have whkq_79944 := hk.notin nq_79944
  have hk := hk.push ef_79945 nq_79944
  have whkIq_79944 := hkI.notin nq_79944
  have hkI := hkI.push ef_79945 nq_79944
  have p_h := p_h.push ef_79945 nq_79944
  have p_q_79944 := pt.new (L := L) ef_79945
  refine pg_putF S Y hname ok_X10 0 (by decide) kf10_9 rfl rfl (fs' := [.ref q_79944, .null, .null, .null, .null, .null, .null, .null, .null, .null, .int 0, .int 0, .int 0, .int 0, .int 0]) (v := .ref q_79944) p_h rfl rfl rfl (Nat.le_of_ble_eq_true rfl) dX10_init_9 (fun f_79946 H locs ef_79946 Y => ?_)
  have p_q_79944 := p_q_79944.up ef_79946 ((p_q_79944.neB p_h))
  have p_h := p_h.me ef_79946
  have hk := hk.up ef_79946 (by simp)
  have hkI := hkI.up ef_79946 (by simp)
  have nr_q_79944 : NRg gl_50 ad q_79944 := (SHC.nr I whkIq_79944)
  have I := I.kp hkI (allc nr_h all0)
  have hkI : kp (L ++ [q_79944]) f_79946 (L ++ [q_79944]) f_79946 [h] := kp.rf
  obtain ⟨ad1, I, X_79947, Y_79948, Z_79949⟩ := SHC.add (l2 := gl_52) I (k := 40) (n := 1) rfl (by decide) rfl p_q_79944 nr_q_79944 (okE_a (g := (fun _ => 0)) trivial) trivial
  have nr_h := Z_79949 _ nr_h (p_h.neA p_q_79944)
  have hout : ∀ x, x ∈ L → NRg gl_50 ad x → NRg gl_52 ad1 x := fun x hx hn => Z_79949 x (hout x hx hn) (fun e => whkq_79944 (by rw [← e]; exact hx))
  have hext := hext.tr X_79947
  have eq40_1 := Y_79948
  have hkI : kp (L ++ [q_79944]) f_79946 (L ++ [q_79944]) f_79946 [h] := kp.rf
  refine lv_aload_n hx hb dX10_init_12 rfl (lv_at hl 0 rfl) ?_
  refine lv_bipush (v := 6) hx hb dX10_init_13 (by decide) ?_
  refine pg_newa S Y (ty := .int) rfl 0 rfl ka_int (N' := 6) (6, .inl (fun _ => 0)) (fun _ => rfl) (by decide) (by decide) (by decide) (by decide) (by decide) dX10_init_15 (fun q_79950 f_79951 H nq_79950 ef_79951 Y => ?_)
  have whkq_79950 := hk.notin nq_79950
  have hk := hk.push ef_79951 nq_79950
  have whkIq_79950 := hkI.notin nq_79950
  have hkI := hkI.push ef_79951 nq_79950
  have p_h := p_h.push ef_79951 nq_79950
  have p_q_79950 := pt.new (L := (L ++ [q_79944])) ef_79951
  refine pg_putF S Y hname ok_X10 1 (by decide) kf10_15 rfl rfl (fs' := [.ref q_79944, .ref q_79950, .null, .null, .null, .null, .null, .null, .null, .null, .int 0, .int 0, .int 0, .int 0, .int 0]) (v := .ref q_79950) p_h rfl rfl rfl (Nat.le_of_ble_eq_true rfl) dX10_init_17 (fun f_79952 H locs ef_79952 Y => ?_)
  have p_q_79950 := p_q_79950.up ef_79952 ((p_q_79950.neB p_h))
  have p_h := p_h.me ef_79952
  have hk := hk.up ef_79952 (by simp)
  have hkI := hkI.up ef_79952 (by simp)
  have nr_q_79950 : NRg gl_52 ad1 q_79950 := (SHC.nr I whkIq_79950)
  have I := I.kp hkI (allc nr_h all0)
  have hkI : kp ((L ++ [q_79944]) ++ [q_79950]) f_79952 ((L ++ [q_79944]) ++ [q_79950]) f_79952 [h] := kp.rf
  obtain ⟨ad2, I, X_79953, Y_79954, Z_79955⟩ := SHC.add (l2 := gl_53) I (k := 41) (n := 1) rfl (by decide) rfl p_q_79950 nr_q_79950 (okE_a (g := (fun _ => 0)) trivial) trivial
  have eq40_1 := (X_79953.2 40 1 (by decide)).trans eq40_1
  have nr_h := Z_79955 _ nr_h (p_h.neA p_q_79950)
  have hout : ∀ x, x ∈ L → NRg gl_50 ad x → NRg gl_53 ad2 x := fun x hx hn => Z_79955 x (hout x hx hn) (fun e => whkq_79950 (by rw [← e]; exact hx))
  have hext := hext.tr X_79953
  have eq41_1 := Y_79954
  have hkI : kp ((L ++ [q_79944]) ++ [q_79950]) f_79952 ((L ++ [q_79944]) ++ [q_79950]) f_79952 [h] := kp.rf
  refine lv_aload_n hx hb dX10_init_20 rfl (lv_at hl 0 rfl) ?_
  refine lv_iconst (v := 4) hx hb dX10_init_21 (by decide) ?_
  refine pg_newq S Y kc10_18 (fun w => w.2.2) 4 rfl (N' := 4) (by decide) (by decide) (by decide) (by decide) (by decide) dX10_init_22 (fun q_79956 f_79957 H nq_79956 ef_79957 Y => ?_)
  have whkq_79956 := hk.notin nq_79956
  have hk := hk.push ef_79957 nq_79956
  have whkIq_79956 := hkI.notin nq_79956
  have hkI := hkI.push ef_79957 nq_79956
  have p_h := p_h.push ef_79957 nq_79956
  have p_q_79956 := pt.new (L := ((L ++ [q_79944]) ++ [q_79950])) ef_79957
  have nr_q_79956 : NRg gl_53 ad2 q_79956 := (SHC.nr I whkIq_79956)
  have I := I.kp hkI (allc nr_h all0)
  have hkI : kp (((L ++ [q_79944]) ++ [q_79950]) ++ [q_79956]) f_79957 (((L ++ [q_79944]) ++ [q_79950]) ++ [q_79956]) f_79957 [h, q_79956] := kp.rf
  refine pg_putF S Y hname ok_X10 2 (by decide) kf10_20 rfl rfl (fs' := [.ref q_79944, .ref q_79950, .ref q_79956, .null, .null, .null, .null, .null, .null, .null, .int 0, .int 0, .int 0, .int 0, .int 0]) (v := .ref q_79956) p_h rfl rfl rfl (Nat.le_of_ble_eq_true rfl) dX10_init_25 (fun f_79958 H locs ef_79958 Y => ?_)
  have p_q_79956 := p_q_79956.up ef_79958 ((p_q_79956.neB p_h))
  have p_h := p_h.me ef_79958
  have hk := hk.up ef_79958 (by simp)
  have hkI := hkI.up ef_79958 (by simp)
  refine lv_aload_n hx hb dX10_init_28 rfl (lv_at hl 0 rfl) ?_
  refine pg_new S Y ok_X4 kc10_24 kn4 ki4 (fs := [.null, .null, .int 0, .int 0, .int 0, .int 0, .int 0]) (by decide) (by decide) (by decide) dX10_init_29 (fun q_79959 f_79960 H nq_79959 ef_79960 Y => ?_)
  have whkq_79959 := hk.notin nq_79959
  have hk := hk.push ef_79960 nq_79959
  have whkIq_79959 := hkI.notin nq_79959
  have hkI := hkI.push ef_79960 nq_79959
  have p_h := p_h.push ef_79960 nq_79959
  have p_q_79956 := p_q_79956.push ef_79960 nq_79959
  have p_q_79959 := pt.new (L := (((L ++ [q_79944]) ++ [q_79950]) ++ [q_79956])) ef_79960
  refine lv_dup hx hb dX10_init_32 rfl ?_
  refine cINv (b := q_79959) (As := []) (rest := [.ref q_79959, .ref h]) S Y (c_X4_init (l := l) p_q_79959) cw_X4_init km10_26 rfl ⟨Nat.le_of_ble_eq_true rfl, Nat.le_of_ble_eq_true rfl⟩ hl.1 rfl (Nat.le_of_ble_eq_true rfl) ⟨Nat.le_of_ble_eq_true rfl, Nat.le_of_ble_eq_true rfl⟩ dX10_init_33 (fun L_79961 f_79962 H locs hf_79962 Y => ?_)
  obtain ⟨a__79963, a__79964, kf_79962, z_z_79965, z_z_79966, z_z_79967, v_79968, v_79969⟩ := hf_79962
  have w_79970 := hk.notin v_79968
  have w_79971 := hkI.notin v_79968
  have w_79972 := hk.notin v_79969
  have w_79973 := hkI.notin v_79969
  have p_h := kf_79962.1 h _ (nmc (p_h.neK p_q_79959 (by decide)) nm0) p_h
  have p_q_79956 := kf_79962.1 q_79956 _ (nmc (p_q_79956.neB p_q_79959) nm0) p_q_79956
  have p_q_79959 := z_z_79965
  have p_a__79963 := z_z_79966
  have p_a__79964 := z_z_79967
  have hk := hk.call kf_79962 (fun b hb hp => (nmc (neL hp whkq_79959) nm0))
  have hkI := hkI.call kf_79962 (fun b hb hp => (nmc (neL hp whkIq_79959) nm0))
  have nr_q_79959 : NRg gl_53 ad2 q_79959 := (SHC.nr I whkIq_79959)
  have nr_a__79963 : NRg gl_53 ad2 a__79963 := (SHC.nr I w_79971)
  have nr_a__79964 : NRg gl_53 ad2 a__79964 := (SHC.nr I w_79973)
  have I := I.kp hkI (allc nr_h (allc nr_q_79956 all0))
  have hkI : kp L_79961 f_79962 L_79961 f_79962 [h, q_79956] := kp.rf
  obtain ⟨ad3, I, X_79974, Y_79975, Z_79976⟩ := SHC.led (l2 := gl_54) (n := 31) I rfl rfl rfl (by decide) rfl p_q_79959 p_a__79963 p_a__79964 nr_q_79959 nr_a__79963 nr_a__79964 
  have eq40_1 := (X_79974.2 40 1 (by decide)).trans eq40_1
  have eq41_1 := (X_79974.2 41 1 (by decide)).trans eq41_1
  have nr_h := Z_79976 _ nr_h (p_h.neK p_q_79959 (by decide)) (p_h.neA p_a__79963) (p_h.neA p_a__79964)
  have nr_q_79956 := Z_79976 _ nr_q_79956 (p_q_79956.neB p_q_79959) (p_q_79956.neN p_a__79963 (by decide)) (p_q_79956.neN p_a__79964 (by decide))
  have hout : ∀ x, x ∈ L → NRg gl_50 ad x → NRg gl_54 ad3 x := fun x hx hn => Z_79976 x (hout x hx hn) (fun e => whkq_79959 (by rw [← e]; exact hx)) (fun e => w_79970 (by rw [← e]; exact hx)) (fun e => w_79972 (by rw [← e]; exact hx))
  have hext := hext.tr X_79974
  have eq10_31 := Y_79975
  have hkI : kp L_79961 f_79962 L_79961 f_79962 [h, q_79956] := kp.rf
  refine pg_putF S Y hname ok_X10 3 (by decide) kf10_27 rfl rfl (fs' := [.ref q_79944, .ref q_79950, .ref q_79956, .ref q_79959, .null, .null, .null, .null, .null, .null, .int 0, .int 0, .int 0, .int 0, .int 0]) (v := .ref q_79959) p_h rfl rfl rfl (Nat.le_of_ble_eq_true rfl) dX10_init_36 (fun f_79977 H locs ef_79977 Y => ?_)
  have p_q_79956 := p_q_79956.up ef_79977 ((p_q_79956.neB p_h))
  have p_q_79959 := p_q_79959.up ef_79977 ((p_q_79959.neK p_h (by decide)))
  have p_h := p_h.me ef_79977
  have hk := hk.up ef_79977 (by simp)
  have hkI := hkI.up ef_79977 (by simp)
  refine lv_aload_n hx hb dX10_init_39 rfl (lv_at hl 0 rfl) ?_
  refine lv_bipush (v := 30) hx hb dX10_init_40 (by decide) ?_
  refine pg_newq S Y kc10_24 (fun w => w.2.1) 3 rfl (N' := 30) (by decide) (by decide) (by decide) (by decide) (by decide) dX10_init_42 (fun q_79978 f_79979 H nq_79978 ef_79979 Y => ?_)
  have whkq_79978 := hk.notin nq_79978
  have hk := hk.push ef_79979 nq_79978
  have whkIq_79978 := hkI.notin nq_79978
  have hkI := hkI.push ef_79979 nq_79978
  have p_h := p_h.push ef_79979 nq_79978
  have p_q_79956 := p_q_79956.push ef_79979 nq_79978
  have p_q_79959 := p_q_79959.push ef_79979 nq_79978
  have p_q_79978 := pt.new (L := L_79961) ef_79979
  have nr_q_79978 : NRg gl_54 ad3 q_79978 := (SHC.nr I whkIq_79978)
  have I := I.kp hkI (allc nr_h (allc nr_q_79956 all0))
  have hkI : kp (L_79961 ++ [q_79978]) f_79979 (L_79961 ++ [q_79978]) f_79979 [h, q_79956, q_79978] := kp.rf
  refine pg_putF S Y hname ok_X10 4 (by decide) kf10_31 rfl rfl (fs' := [.ref q_79944, .ref q_79950, .ref q_79956, .ref q_79959, .ref q_79978, .null, .null, .null, .null, .null, .int 0, .int 0, .int 0, .int 0, .int 0]) (v := .ref q_79978) p_h rfl rfl rfl (Nat.le_of_ble_eq_true rfl) dX10_init_45 (fun f_79980 H locs ef_79980 Y => ?_)
  have p_q_79956 := p_q_79956.up ef_79980 ((p_q_79956.neB p_h))
  have p_q_79959 := p_q_79959.up ef_79980 ((p_q_79959.neK p_h (by decide)))
  have p_q_79978 := p_q_79978.up ef_79980 ((p_q_79978.neB p_h))
  have p_h := p_h.me ef_79980
  have hk := hk.up ef_79980 (by simp)
  have hkI := hkI.up ef_79980 (by simp)
  refine lv_aload_n hx hb dX10_init_48 rfl (lv_at hl 0 rfl) ?_
  refine pg_new S Y ok_X9 kc10_35 kn9 ki9 (fs := [.null, .int 0, .int 0]) (by decide) (by decide) (by decide) dX10_init_49 (fun q_79981 f_79982 H nq_79981 ef_79982 Y => ?_)
  have whkq_79981 := hk.notin nq_79981
  have hk := hk.push ef_79982 nq_79981
  have whkIq_79981 := hkI.notin nq_79981
  have hkI := hkI.push ef_79982 nq_79981
  have p_h := p_h.push ef_79982 nq_79981
  have p_q_79956 := p_q_79956.push ef_79982 nq_79981
  have p_q_79959 := p_q_79959.push ef_79982 nq_79981
  have p_q_79978 := p_q_79978.push ef_79982 nq_79981
  have p_q_79981 := pt.new (L := (L_79961 ++ [q_79978])) ef_79982
  refine lv_dup hx hb dX10_init_52 rfl ?_
  refine lv_bipush (v := 6) hx hb dX10_init_53 (by decide) ?_
  refine cIv (b := q_79981) (As := [.int 6]) (rest := [.ref q_79981, .ref h]) S Y (c_told6 (l := l) p_q_79981) cw_X9_init km10_37 rfl ⟨Nat.le_of_ble_eq_true rfl, Nat.le_of_ble_eq_true rfl⟩ hl.1 rfl (Nat.le_of_ble_eq_true rfl) ⟨Nat.le_of_ble_eq_true rfl, Nat.le_of_ble_eq_true rfl⟩ dX10_init_55 (fun L_79983 f_79984 H locs hf_79984 Y => ?_)
  obtain ⟨a__79985, kf_79984, z_z_79986, z_z_79987, v_79988⟩ := hf_79984
  have w_79989 := hk.notin v_79988
  have w_79990 := hkI.notin v_79988
  have p_h := kf_79984.1 h _ (nmc (p_h.neK p_q_79981 (by decide)) nm0) p_h
  have p_q_79956 := kf_79984.1 q_79956 _ (nmc (p_q_79956.neB p_q_79981) nm0) p_q_79956
  have p_q_79959 := kf_79984.1 q_79959 _ (nmc (p_q_79959.neK p_q_79981 (by decide)) nm0) p_q_79959
  have p_q_79978 := kf_79984.1 q_79978 _ (nmc (p_q_79978.neB p_q_79981) nm0) p_q_79978
  have p_q_79981 := z_z_79986
  have p_a__79985 := z_z_79987
  have hk := hk.call kf_79984 (fun b hb hp => (nmc (neL hp whkq_79981) nm0))
  have hkI := hkI.call kf_79984 (fun b hb hp => (nmc (neL hp whkIq_79981) nm0))
  have nr_q_79981 : NRg gl_54 ad3 q_79981 := (SHC.nr I whkIq_79981)
  have nr_a__79985 : NRg gl_54 ad3 a__79985 := (SHC.nr I w_79990)
  have I := I.kp hkI (allc nr_h (allc nr_q_79956 (allc nr_q_79978 all0)))
  have hkI : kp L_79983 f_79984 L_79983 f_79984 [h, q_79956, q_79978, q_79981, a__79985] := kp.rf
  obtain ⟨ad4, I, X_79991, Y_79992, Z_79993⟩ := SHC.add (l2 := gl_55) I (k := 21) (n := 5) rfl (by decide) rfl p_a__79985 nr_a__79985 (okE_a (g := (fun _ => 0)) trivial) trivial
  have eq40_1 := (X_79991.2 40 1 (by decide)).trans eq40_1
  have eq41_1 := (X_79991.2 41 1 (by decide)).trans eq41_1
  have eq10_31 := (X_79991.2 10 31 (by decide)).trans eq10_31
  have nr_h := Z_79993 _ nr_h (p_h.neA p_a__79985)
  have nr_q_79956 := Z_79993 _ nr_q_79956 (p_q_79956.neN p_a__79985 (by decide))
  have nr_q_79978 := Z_79993 _ nr_q_79978 (p_q_79978.neN p_a__79985 (by decide))
  have nr_q_79981 := Z_79993 _ nr_q_79981 (p_q_79981.neA p_a__79985)
  have hout : ∀ x, x ∈ L → NRg gl_50 ad x → NRg gl_55 ad4 x := fun x hx hn => Z_79993 x (hout x hx hn) (fun e => w_79989 (by rw [← e]; exact hx))
  have hext := hext.tr X_79991
  have eq21_5 := Y_79992
  have hkI : kp L_79983 f_79984 L_79983 f_79984 [h, q_79956, q_79978, q_79981] := kp.rf
  have I := I.kp hkI (allc nr_h (allc nr_q_79956 (allc nr_q_79978 (allc nr_q_79981 all0))))
  have hkI : kp L_79983 f_79984 L_79983 f_79984 [h, q_79956, q_79978, q_79981] := kp.rf
  obtain ⟨ad5, I, X_79994, Y_79995, Z_79996⟩ := SHC.add (l2 := gl_56) I (k := 20) (n := 5) rfl (by decide) rfl p_q_79981 nr_q_79981 (okE_o (okFs_c (okV_re eq21_5) (okFs_c (okV_p (by constructor <;> decide)) (okFs_c (okV_p (by constructor <;> decide)) okFs_n)))) ⟨(show 5 < nL gl_55 21 from by decide), ⟨trivial, ⟨trivial, trivial⟩⟩⟩
  have eq40_1 := (X_79994.2 40 1 (by decide)).trans eq40_1
  have eq41_1 := (X_79994.2 41 1 (by decide)).trans eq41_1
  have eq10_31 := (X_79994.2 10 31 (by decide)).trans eq10_31
  have eq21_5 := (X_79994.2 21 5 (by decide)).trans eq21_5
  have nr_h := Z_79996 _ nr_h (p_h.neK p_q_79981 (by decide))
  have nr_q_79956 := Z_79996 _ nr_q_79956 (p_q_79956.neB p_q_79981)
  have nr_q_79978 := Z_79996 _ nr_q_79978 (p_q_79978.neB p_q_79981)
  have hout : ∀ x, x ∈ L → NRg gl_50 ad x → NRg gl_56 ad5 x := fun x hx hn => Z_79996 x (hout x hx hn) (fun e => whkq_79981 (by rw [← e]; exact hx))
  have hext := hext.tr X_79994
  have eq20_5 := Y_79995
  have hkI : kp L_79983 f_79984 L_79983 f_79984 [h, q_79956, q_79978] := kp.rf
  refine pg_putF S Y hname ok_X10 5 (by decide) kf10_40 rfl rfl (fs' := [.ref q_79944, .ref q_79950, .ref q_79956, .ref q_79959, .ref q_79978, .ref q_79981, .null, .null, .null, .null, .int 0, .int 0, .int 0, .int 0, .int 0]) (v := .ref q_79981) p_h rfl rfl rfl (Nat.le_of_ble_eq_true rfl) dX10_init_58 (fun f_79997 H locs ef_79997 Y => ?_)
  have p_q_79956 := p_q_79956.up ef_79997 ((p_q_79956.neB p_h))
  have p_q_79978 := p_q_79978.up ef_79997 ((p_q_79978.neB p_h))
  have p_h := p_h.me ef_79997
  have hk := hk.up ef_79997 (by simp)
  have hkI := hkI.up ef_79997 (by simp)
  refine lv_aload_n hx hb dX10_init_61 rfl (lv_at hl 0 rfl) ?_
  refine pg_new S Y ok_X9 kc10_35 kn9 ki9 (fs := [.null, .int 0, .int 0]) (by decide) (by decide) (by decide) dX10_init_62 (fun q_79998 f_79999 H nq_79998 ef_79999 Y => ?_)
  have whkq_79998 := hk.notin nq_79998
  have hk := hk.push ef_79999 nq_79998
  have whkIq_79998 := hkI.notin nq_79998
  have hkI := hkI.push ef_79999 nq_79998
  have p_h := p_h.push ef_79999 nq_79998
  have p_q_79956 := p_q_79956.push ef_79999 nq_79998
  have p_q_79978 := p_q_79978.push ef_79999 nq_79998
  have p_q_79998 := pt.new (L := L_79983) ef_79999
  refine lv_dup hx hb dX10_init_65 rfl ?_
  refine lv_bipush (v := 8) hx hb dX10_init_66 (by decide) ?_
  refine cIv (b := q_79998) (As := [.int 8]) (rest := [.ref q_79998, .ref h]) S Y (c_told8 (l := l) p_q_79998) cw_X9_init km10_37 rfl ⟨Nat.le_of_ble_eq_true rfl, Nat.le_of_ble_eq_true rfl⟩ hl.1 rfl (Nat.le_of_ble_eq_true rfl) ⟨Nat.le_of_ble_eq_true rfl, Nat.le_of_ble_eq_true rfl⟩ dX10_init_68 (fun L_80000 f_80001 H locs hf_80001 Y => ?_)
  obtain ⟨a__80002, kf_80001, z_z_80003, z_z_80004, v_80005⟩ := hf_80001
  have w_80006 := hk.notin v_80005
  have w_80007 := hkI.notin v_80005
  have p_h := kf_80001.1 h _ (nmc (p_h.neK p_q_79998 (by decide)) nm0) p_h
  have p_q_79956 := kf_80001.1 q_79956 _ (nmc (p_q_79956.neB p_q_79998) nm0) p_q_79956
  have p_q_79978 := kf_80001.1 q_79978 _ (nmc (p_q_79978.neB p_q_79998) nm0) p_q_79978
  have p_q_79998 := z_z_80003
  have p_a__80002 := z_z_80004
  have hk := hk.call kf_80001 (fun b hb hp => (nmc (neL hp whkq_79998) nm0))
  have hkI := hkI.call kf_80001 (fun b hb hp => (nmc (neL hp whkIq_79998) nm0))
  have nr_q_79998 : NRg gl_56 ad5 q_79998 := (SHC.nr I whkIq_79998)
  have nr_a__80002 : NRg gl_56 ad5 a__80002 := (SHC.nr I w_80007)
  have I := I.kp hkI (allc nr_h (allc nr_q_79956 (allc nr_q_79978 all0)))
  have hkI : kp L_80000 f_80001 L_80000 f_80001 [h, q_79956, q_79978, q_79998, a__80002] := kp.rf
  obtain ⟨ad6, I, X_80008, Y_80009, Z_80010⟩ := SHC.add (l2 := gl_57) I (k := 21) (n := 6) rfl (by decide) rfl p_a__80002 nr_a__80002 (okE_a (g := (fun _ => 0)) trivial) trivial
  have eq40_1 := (X_80008.2 40 1 (by decide)).trans eq40_1
  have eq41_1 := (X_80008.2 41 1 (by decide)).trans eq41_1
  have eq10_31 := (X_80008.2 10 31 (by decide)).trans eq10_31
  have eq20_5 := (X_80008.2 20 5 (by decide)).trans eq20_5
  have nr_h := Z_80010 _ nr_h (p_h.neA p_a__80002)
  have nr_q_79956 := Z_80010 _ nr_q_79956 (p_q_79956.neN p_a__80002 (by decide))
  have nr_q_79978 := Z_80010 _ nr_q_79978 (p_q_79978.neN p_a__80002 (by decide))
  have nr_q_79998 := Z_80010 _ nr_q_79998 (p_q_79998.neA p_a__80002)
  have hout : ∀ x, x ∈ L → NRg gl_50 ad x → NRg gl_57 ad6 x := fun x hx hn => Z_80010 x (hout x hx hn) (fun e => w_80006 (by rw [← e]; exact hx))
  have hext := hext.tr X_80008
  have eq21_6 := Y_80009
  have hkI : kp L_80000 f_80001 L_80000 f_80001 [h, q_79956, q_79978, q_79998] := kp.rf
  have I := I.kp hkI (allc nr_h (allc nr_q_79956 (allc nr_q_79978 (allc nr_q_79998 all0))))
  have hkI : kp L_80000 f_80001 L_80000 f_80001 [h, q_79956, q_79978, q_79998] := kp.rf
  obtain ⟨ad7, I, X_80011, Y_80012, Z_80013⟩ := SHC.add (l2 := gl_58) I (k := 20) (n := 6) rfl (by decide) rfl p_q_79998 nr_q_79998 (okE_o (okFs_c (okV_re eq21_6) (okFs_c (okV_p (by constructor <;> decide)) (okFs_c (okV_p (by constructor <;> decide)) okFs_n)))) ⟨(show 6 < nL gl_57 21 from by decide), ⟨trivial, ⟨trivial, trivial⟩⟩⟩
  have eq40_1 := (X_80011.2 40 1 (by decide)).trans eq40_1
  have eq41_1 := (X_80011.2 41 1 (by decide)).trans eq41_1
  have eq10_31 := (X_80011.2 10 31 (by decide)).trans eq10_31
  have eq20_5 := (X_80011.2 20 5 (by decide)).trans eq20_5
  have eq21_6 := (X_80011.2 21 6 (by decide)).trans eq21_6
  have nr_h := Z_80013 _ nr_h (p_h.neK p_q_79998 (by decide))
  have nr_q_79956 := Z_80013 _ nr_q_79956 (p_q_79956.neB p_q_79998)
  have nr_q_79978 := Z_80013 _ nr_q_79978 (p_q_79978.neB p_q_79998)
  have hout : ∀ x, x ∈ L → NRg gl_50 ad x → NRg gl_58 ad7 x := fun x hx hn => Z_80013 x (hout x hx hn) (fun e => whkq_79998 (by rw [← e]; exact hx))
  have hext := hext.tr X_80011
  have eq20_6 := Y_80012
  have hkI : kp L_80000 f_80001 L_80000 f_80001 [h, q_79956, q_79978] := kp.rf
  refine pg_putF S Y hname ok_X10 6 (by decide) kf10_44 rfl rfl (fs' := [.ref q_79944, .ref q_79950, .ref q_79956, .ref q_79959, .ref q_79978, .ref q_79981, .ref q_79998, .null, .null, .null, .int 0, .int 0, .int 0, .int 0, .int 0]) (v := .ref q_79998) p_h rfl rfl rfl (Nat.le_of_ble_eq_true rfl) dX10_init_71 (fun f_80014 H locs ef_80014 Y => ?_)
  have p_q_79956 := p_q_79956.up ef_80014 ((p_q_79956.neB p_h))
  have p_q_79978 := p_q_79978.up ef_80014 ((p_q_79978.neB p_h))
  have p_h := p_h.me ef_80014
  have hk := hk.up ef_80014 (by simp)
  have hkI := hkI.up ef_80014 (by simp)
  refine lv_aload_n hx hb dX10_init_74 rfl (lv_at hl 0 rfl) ?_
  refine pg_new S Y ok_X9 kc10_35 kn9 ki9 (fs := [.null, .int 0, .int 0]) (by decide) (by decide) (by decide) dX10_init_75 (fun q_80015 f_80016 H nq_80015 ef_80016 Y => ?_)
  have whkq_80015 := hk.notin nq_80015
  have hk := hk.push ef_80016 nq_80015
  have whkIq_80015 := hkI.notin nq_80015
  have hkI := hkI.push ef_80016 nq_80015
  have p_h := p_h.push ef_80016 nq_80015
  have p_q_79956 := p_q_79956.push ef_80016 nq_80015
  have p_q_79978 := p_q_79978.push ef_80016 nq_80015
  have p_q_80015 := pt.new (L := L_80000) ef_80016
  refine lv_dup hx hb dX10_init_78 rfl ?_
  refine lv_bipush (v := 8) hx hb dX10_init_79 (by decide) ?_
  refine cIv (b := q_80015) (As := [.int 8]) (rest := [.ref q_80015, .ref h]) S Y (c_told8 (l := l) p_q_80015) cw_X9_init km10_37 rfl ⟨Nat.le_of_ble_eq_true rfl, Nat.le_of_ble_eq_true rfl⟩ hl.1 rfl (Nat.le_of_ble_eq_true rfl) ⟨Nat.le_of_ble_eq_true rfl, Nat.le_of_ble_eq_true rfl⟩ dX10_init_81 (fun L_80017 f_80018 H locs hf_80018 Y => ?_)
  obtain ⟨a__80019, kf_80018, z_z_80020, z_z_80021, v_80022⟩ := hf_80018
  have w_80023 := hk.notin v_80022
  have w_80024 := hkI.notin v_80022
  have p_h := kf_80018.1 h _ (nmc (p_h.neK p_q_80015 (by decide)) nm0) p_h
  have p_q_79956 := kf_80018.1 q_79956 _ (nmc (p_q_79956.neB p_q_80015) nm0) p_q_79956
  have p_q_79978 := kf_80018.1 q_79978 _ (nmc (p_q_79978.neB p_q_80015) nm0) p_q_79978
  have p_q_80015 := z_z_80020
  have p_a__80019 := z_z_80021
  have hk := hk.call kf_80018 (fun b hb hp => (nmc (neL hp whkq_80015) nm0))
  have hkI := hkI.call kf_80018 (fun b hb hp => (nmc (neL hp whkIq_80015) nm0))
  have nr_q_80015 : NRg gl_58 ad7 q_80015 := (SHC.nr I whkIq_80015)
  have nr_a__80019 : NRg gl_58 ad7 a__80019 := (SHC.nr I w_80024)
  have I := I.kp hkI (allc nr_h (allc nr_q_79956 (allc nr_q_79978 all0)))
  have hkI : kp L_80017 f_80018 L_80017 f_80018 [h, q_79956, q_79978, q_80015, a__80019] := kp.rf
  obtain ⟨ad8, I, X_80025, Y_80026, Z_80027⟩ := SHC.add (l2 := gl_59) I (k := 21) (n := 7) rfl (by decide) rfl p_a__80019 nr_a__80019 (okE_a (g := (fun _ => 0)) trivial) trivial
  have eq40_1 := (X_80025.2 40 1 (by decide)).trans eq40_1
  have eq41_1 := (X_80025.2 41 1 (by decide)).trans eq41_1
  have eq10_31 := (X_80025.2 10 31 (by decide)).trans eq10_31
  have eq20_5 := (X_80025.2 20 5 (by decide)).trans eq20_5
  have eq20_6 := (X_80025.2 20 6 (by decide)).trans eq20_6
  have nr_h := Z_80027 _ nr_h (p_h.neA p_a__80019)
  have nr_q_79956 := Z_80027 _ nr_q_79956 (p_q_79956.neN p_a__80019 (by decide))
  have nr_q_79978 := Z_80027 _ nr_q_79978 (p_q_79978.neN p_a__80019 (by decide))
  have nr_q_80015 := Z_80027 _ nr_q_80015 (p_q_80015.neA p_a__80019)
  have hout : ∀ x, x ∈ L → NRg gl_50 ad x → NRg gl_59 ad8 x := fun x hx hn => Z_80027 x (hout x hx hn) (fun e => w_80023 (by rw [← e]; exact hx))
  have hext := hext.tr X_80025
  have eq21_7 := Y_80026
  have hkI : kp L_80017 f_80018 L_80017 f_80018 [h, q_79956, q_79978, q_80015] := kp.rf
  have I := I.kp hkI (allc nr_h (allc nr_q_79956 (allc nr_q_79978 (allc nr_q_80015 all0))))
  have hkI : kp L_80017 f_80018 L_80017 f_80018 [h, q_79956, q_79978, q_80015] := kp.rf
  obtain ⟨ad9, I, X_80028, Y_80029, Z_80030⟩ := SHC.add (l2 := gl_60) I (k := 20) (n := 7) rfl (by decide) rfl p_q_80015 nr_q_80015 (okE_o (okFs_c (okV_re eq21_7) (okFs_c (okV_p (by constructor <;> decide)) (okFs_c (okV_p (by constructor <;> decide)) okFs_n)))) ⟨(show 7 < nL gl_59 21 from by decide), ⟨trivial, ⟨trivial, trivial⟩⟩⟩
  have eq40_1 := (X_80028.2 40 1 (by decide)).trans eq40_1
  have eq41_1 := (X_80028.2 41 1 (by decide)).trans eq41_1
  have eq10_31 := (X_80028.2 10 31 (by decide)).trans eq10_31
  have eq20_5 := (X_80028.2 20 5 (by decide)).trans eq20_5
  have eq20_6 := (X_80028.2 20 6 (by decide)).trans eq20_6
  have eq21_7 := (X_80028.2 21 7 (by decide)).trans eq21_7
  have nr_h := Z_80030 _ nr_h (p_h.neK p_q_80015 (by decide))
  have nr_q_79956 := Z_80030 _ nr_q_79956 (p_q_79956.neB p_q_80015)
  have nr_q_79978 := Z_80030 _ nr_q_79978 (p_q_79978.neB p_q_80015)
  have hout : ∀ x, x ∈ L → NRg gl_50 ad x → NRg gl_60 ad9 x := fun x hx hn => Z_80030 x (hout x hx hn) (fun e => whkq_80015 (by rw [← e]; exact hx))
  have hext := hext.tr X_80028
  have eq20_7 := Y_80029
  have hkI : kp L_80017 f_80018 L_80017 f_80018 [h, q_79956, q_79978] := kp.rf
  refine pg_putF S Y hname ok_X10 7 (by decide) kf10_47 rfl rfl (fs' := [.ref q_79944, .ref q_79950, .ref q_79956, .ref q_79959, .ref q_79978, .ref q_79981, .ref q_79998, .ref q_80015, .null, .null, .int 0, .int 0, .int 0, .int 0, .int 0]) (v := .ref q_80015) p_h rfl rfl rfl (Nat.le_of_ble_eq_true rfl) dX10_init_84 (fun f_80031 H locs ef_80031 Y => ?_)
  have p_q_79956 := p_q_79956.up ef_80031 ((p_q_79956.neB p_h))
  have p_q_79978 := p_q_79978.up ef_80031 ((p_q_79978.neB p_h))
  have p_h := p_h.me ef_80031
  have hk := hk.up ef_80031 (by simp)
  have hkI := hkI.up ef_80031 (by simp)
  refine lv_aload_n hx hb dX10_init_87 rfl (lv_at hl 0 rfl) ?_
  refine pg_new S Y ok_X9 kc10_35 kn9 ki9 (fs := [.null, .int 0, .int 0]) (by decide) (by decide) (by decide) dX10_init_88 (fun q_80032 f_80033 H nq_80032 ef_80033 Y => ?_)
  have whkq_80032 := hk.notin nq_80032
  have hk := hk.push ef_80033 nq_80032
  have whkIq_80032 := hkI.notin nq_80032
  have hkI := hkI.push ef_80033 nq_80032
  have p_h := p_h.push ef_80033 nq_80032
  have p_q_79956 := p_q_79956.push ef_80033 nq_80032
  have p_q_79978 := p_q_79978.push ef_80033 nq_80032
  have p_q_80032 := pt.new (L := L_80017) ef_80033
  refine lv_dup hx hb dX10_init_91 rfl ?_
  refine lv_bipush (v := 8) hx hb dX10_init_92 (by decide) ?_
  refine cIv (b := q_80032) (As := [.int 8]) (rest := [.ref q_80032, .ref h]) S Y (c_told8 (l := l) p_q_80032) cw_X9_init km10_37 rfl ⟨Nat.le_of_ble_eq_true rfl, Nat.le_of_ble_eq_true rfl⟩ hl.1 rfl (Nat.le_of_ble_eq_true rfl) ⟨Nat.le_of_ble_eq_true rfl, Nat.le_of_ble_eq_true rfl⟩ dX10_init_94 (fun L_80034 f_80035 H locs hf_80035 Y => ?_)
  obtain ⟨a__80036, kf_80035, z_z_80037, z_z_80038, v_80039⟩ := hf_80035
  have w_80040 := hk.notin v_80039
  have w_80041 := hkI.notin v_80039
  have p_h := kf_80035.1 h _ (nmc (p_h.neK p_q_80032 (by decide)) nm0) p_h
  have p_q_79956 := kf_80035.1 q_79956 _ (nmc (p_q_79956.neB p_q_80032) nm0) p_q_79956
  have p_q_79978 := kf_80035.1 q_79978 _ (nmc (p_q_79978.neB p_q_80032) nm0) p_q_79978
  have p_q_80032 := z_z_80037
  have p_a__80036 := z_z_80038
  have hk := hk.call kf_80035 (fun b hb hp => (nmc (neL hp whkq_80032) nm0))
  have hkI := hkI.call kf_80035 (fun b hb hp => (nmc (neL hp whkIq_80032) nm0))
  have nr_q_80032 : NRg gl_60 ad9 q_80032 := (SHC.nr I whkIq_80032)
  have nr_a__80036 : NRg gl_60 ad9 a__80036 := (SHC.nr I w_80041)
  have I := I.kp hkI (allc nr_h (allc nr_q_79956 (allc nr_q_79978 all0)))
  have hkI : kp L_80034 f_80035 L_80034 f_80035 [h, q_79956, q_79978, q_80032, a__80036] := kp.rf
  obtain ⟨ad10, I, X_80042, Y_80043, Z_80044⟩ := SHC.add (l2 := gl_61) I (k := 21) (n := 8) rfl (by decide) rfl p_a__80036 nr_a__80036 (okE_a (g := (fun _ => 0)) trivial) trivial
  have eq40_1 := (X_80042.2 40 1 (by decide)).trans eq40_1
  have eq41_1 := (X_80042.2 41 1 (by decide)).trans eq41_1
  have eq10_31 := (X_80042.2 10 31 (by decide)).trans eq10_31
  have eq20_5 := (X_80042.2 20 5 (by decide)).trans eq20_5
  have eq20_6 := (X_80042.2 20 6 (by decide)).trans eq20_6
  have eq20_7 := (X_80042.2 20 7 (by decide)).trans eq20_7
  have nr_h := Z_80044 _ nr_h (p_h.neA p_a__80036)
  have nr_q_79956 := Z_80044 _ nr_q_79956 (p_q_79956.neN p_a__80036 (by decide))
  have nr_q_79978 := Z_80044 _ nr_q_79978 (p_q_79978.neN p_a__80036 (by decide))
  have nr_q_80032 := Z_80044 _ nr_q_80032 (p_q_80032.neA p_a__80036)
  have hout : ∀ x, x ∈ L → NRg gl_50 ad x → NRg gl_61 ad10 x := fun x hx hn => Z_80044 x (hout x hx hn) (fun e => w_80040 (by rw [← e]; exact hx))
  have hext := hext.tr X_80042
  have eq21_8 := Y_80043
  have hkI : kp L_80034 f_80035 L_80034 f_80035 [h, q_79956, q_79978, q_80032] := kp.rf
  have I := I.kp hkI (allc nr_h (allc nr_q_79956 (allc nr_q_79978 (allc nr_q_80032 all0))))
  have hkI : kp L_80034 f_80035 L_80034 f_80035 [h, q_79956, q_79978, q_80032] := kp.rf
  obtain ⟨ad11, I, X_80045, Y_80046, Z_80047⟩ := SHC.add (l2 := gl_62) I (k := 20) (n := 8) rfl (by decide) rfl p_q_80032 nr_q_80032 (okE_o (okFs_c (okV_re eq21_8) (okFs_c (okV_p (by constructor <;> decide)) (okFs_c (okV_p (by constructor <;> decide)) okFs_n)))) ⟨(show 8 < nL gl_61 21 from by decide), ⟨trivial, ⟨trivial, trivial⟩⟩⟩
  have eq40_1 := (X_80045.2 40 1 (by decide)).trans eq40_1
  have eq41_1 := (X_80045.2 41 1 (by decide)).trans eq41_1
  have eq10_31 := (X_80045.2 10 31 (by decide)).trans eq10_31
  have eq20_5 := (X_80045.2 20 5 (by decide)).trans eq20_5
  have eq20_6 := (X_80045.2 20 6 (by decide)).trans eq20_6
  have eq20_7 := (X_80045.2 20 7 (by decide)).trans eq20_7
  have eq21_8 := (X_80045.2 21 8 (by decide)).trans eq21_8
  have nr_h := Z_80047 _ nr_h (p_h.neK p_q_80032 (by decide))
  have nr_q_79956 := Z_80047 _ nr_q_79956 (p_q_79956.neB p_q_80032)
  have nr_q_79978 := Z_80047 _ nr_q_79978 (p_q_79978.neB p_q_80032)
  have hout : ∀ x, x ∈ L → NRg gl_50 ad x → NRg gl_62 ad11 x := fun x hx hn => Z_80047 x (hout x hx hn) (fun e => whkq_80032 (by rw [← e]; exact hx))
  have hext := hext.tr X_80045
  have eq20_8 := Y_80046
  have hkI : kp L_80034 f_80035 L_80034 f_80035 [h, q_79956, q_79978] := kp.rf
  refine pg_putF S Y hname ok_X10 8 (by decide) kf10_50 rfl rfl (fs' := [.ref q_79944, .ref q_79950, .ref q_79956, .ref q_79959, .ref q_79978, .ref q_79981, .ref q_79998, .ref q_80015, .ref q_80032, .null, .int 0, .int 0, .int 0, .int 0, .int 0]) (v := .ref q_80032) p_h rfl rfl rfl (Nat.le_of_ble_eq_true rfl) dX10_init_97 (fun f_80048 H locs ef_80048 Y => ?_)
  have p_q_79956 := p_q_79956.up ef_80048 ((p_q_79956.neB p_h))
  have p_q_79978 := p_q_79978.up ef_80048 ((p_q_79978.neB p_h))
  have p_h := p_h.me ef_80048
  have hk := hk.up ef_80048 (by simp)
  have hkI := hkI.up ef_80048 (by simp)
  refine lv_aload_n hx hb dX10_init_100 rfl (lv_at hl 0 rfl) ?_
  refine pg_new S Y ok_X9 kc10_35 kn9 ki9 (fs := [.null, .int 0, .int 0]) (by decide) (by decide) (by decide) dX10_init_101 (fun q_80049 f_80050 H nq_80049 ef_80050 Y => ?_)
  have whkq_80049 := hk.notin nq_80049
  have hk := hk.push ef_80050 nq_80049
  have whkIq_80049 := hkI.notin nq_80049
  have hkI := hkI.push ef_80050 nq_80049
  have p_h := p_h.push ef_80050 nq_80049
  have p_q_79956 := p_q_79956.push ef_80050 nq_80049
  have p_q_79978 := p_q_79978.push ef_80050 nq_80049
  have p_q_80049 := pt.new (L := L_80034) ef_80050
  refine lv_dup hx hb dX10_init_104 rfl ?_
  refine lv_bipush (v := 8) hx hb dX10_init_105 (by decide) ?_
  refine cIv (b := q_80049) (As := [.int 8]) (rest := [.ref q_80049, .ref h]) S Y (c_told8 (l := l) p_q_80049) cw_X9_init km10_37 rfl ⟨Nat.le_of_ble_eq_true rfl, Nat.le_of_ble_eq_true rfl⟩ hl.1 rfl (Nat.le_of_ble_eq_true rfl) ⟨Nat.le_of_ble_eq_true rfl, Nat.le_of_ble_eq_true rfl⟩ dX10_init_107 (fun L_80051 f_80052 H locs hf_80052 Y => ?_)
  obtain ⟨a__80053, kf_80052, z_z_80054, z_z_80055, v_80056⟩ := hf_80052
  have w_80057 := hk.notin v_80056
  have w_80058 := hkI.notin v_80056
  have p_h := kf_80052.1 h _ (nmc (p_h.neK p_q_80049 (by decide)) nm0) p_h
  have p_q_79956 := kf_80052.1 q_79956 _ (nmc (p_q_79956.neB p_q_80049) nm0) p_q_79956
  have p_q_79978 := kf_80052.1 q_79978 _ (nmc (p_q_79978.neB p_q_80049) nm0) p_q_79978
  have p_q_80049 := z_z_80054
  have p_a__80053 := z_z_80055
  have hk := hk.call kf_80052 (fun b hb hp => (nmc (neL hp whkq_80049) nm0))
  have hkI := hkI.call kf_80052 (fun b hb hp => (nmc (neL hp whkIq_80049) nm0))
  have nr_q_80049 : NRg gl_62 ad11 q_80049 := (SHC.nr I whkIq_80049)
  have nr_a__80053 : NRg gl_62 ad11 a__80053 := (SHC.nr I w_80058)
  have I := I.kp hkI (allc nr_h (allc nr_q_79956 (allc nr_q_79978 all0)))
  have hkI : kp L_80051 f_80052 L_80051 f_80052 [h, q_79956, q_79978, q_80049, a__80053] := kp.rf
  obtain ⟨ad12, I, X_80059, Y_80060, Z_80061⟩ := SHC.add (l2 := gl_63) I (k := 21) (n := 9) rfl (by decide) rfl p_a__80053 nr_a__80053 (okE_a (g := (fun _ => 0)) trivial) trivial
  have eq40_1 := (X_80059.2 40 1 (by decide)).trans eq40_1
  have eq41_1 := (X_80059.2 41 1 (by decide)).trans eq41_1
  have eq10_31 := (X_80059.2 10 31 (by decide)).trans eq10_31
  have eq20_5 := (X_80059.2 20 5 (by decide)).trans eq20_5
  have eq20_6 := (X_80059.2 20 6 (by decide)).trans eq20_6
  have eq20_7 := (X_80059.2 20 7 (by decide)).trans eq20_7
  have eq20_8 := (X_80059.2 20 8 (by decide)).trans eq20_8
  have nr_h := Z_80061 _ nr_h (p_h.neA p_a__80053)
  have nr_q_79956 := Z_80061 _ nr_q_79956 (p_q_79956.neN p_a__80053 (by decide))
  have nr_q_79978 := Z_80061 _ nr_q_79978 (p_q_79978.neN p_a__80053 (by decide))
  have nr_q_80049 := Z_80061 _ nr_q_80049 (p_q_80049.neA p_a__80053)
  have hout : ∀ x, x ∈ L → NRg gl_50 ad x → NRg gl_63 ad12 x := fun x hx hn => Z_80061 x (hout x hx hn) (fun e => w_80057 (by rw [← e]; exact hx))
  have hext := hext.tr X_80059
  have eq21_9 := Y_80060
  have hkI : kp L_80051 f_80052 L_80051 f_80052 [h, q_79956, q_79978, q_80049] := kp.rf
  have I := I.kp hkI (allc nr_h (allc nr_q_79956 (allc nr_q_79978 (allc nr_q_80049 all0))))
  have hkI : kp L_80051 f_80052 L_80051 f_80052 [h, q_79956, q_79978, q_80049] := kp.rf
  obtain ⟨ad13, I, X_80062, Y_80063, Z_80064⟩ := SHC.add (l2 := gl_64) I (k := 20) (n := 9) rfl (by decide) rfl p_q_80049 nr_q_80049 (okE_o (okFs_c (okV_re eq21_9) (okFs_c (okV_p (by constructor <;> decide)) (okFs_c (okV_p (by constructor <;> decide)) okFs_n)))) ⟨(show 9 < nL gl_63 21 from by decide), ⟨trivial, ⟨trivial, trivial⟩⟩⟩
  have eq40_1 := (X_80062.2 40 1 (by decide)).trans eq40_1
  have eq41_1 := (X_80062.2 41 1 (by decide)).trans eq41_1
  have eq10_31 := (X_80062.2 10 31 (by decide)).trans eq10_31
  have eq20_5 := (X_80062.2 20 5 (by decide)).trans eq20_5
  have eq20_6 := (X_80062.2 20 6 (by decide)).trans eq20_6
  have eq20_7 := (X_80062.2 20 7 (by decide)).trans eq20_7
  have eq20_8 := (X_80062.2 20 8 (by decide)).trans eq20_8
  have eq21_9 := (X_80062.2 21 9 (by decide)).trans eq21_9
  have nr_h := Z_80064 _ nr_h (p_h.neK p_q_80049 (by decide))
  have nr_q_79956 := Z_80064 _ nr_q_79956 (p_q_79956.neB p_q_80049)
  have nr_q_79978 := Z_80064 _ nr_q_79978 (p_q_79978.neB p_q_80049)
  have hout : ∀ x, x ∈ L → NRg gl_50 ad x → NRg gl_64 ad13 x := fun x hx hn => Z_80064 x (hout x hx hn) (fun e => whkq_80049 (by rw [← e]; exact hx))
  have hext := hext.tr X_80062
  have eq20_9 := Y_80063
  have hkI : kp L_80051 f_80052 L_80051 f_80052 [h, q_79956, q_79978] := kp.rf
  refine pg_putF S Y hname ok_X10 9 (by decide) kf10_53 rfl rfl (fs' := [.ref q_79944, .ref q_79950, .ref q_79956, .ref q_79959, .ref q_79978, .ref q_79981, .ref q_79998, .ref q_80015, .ref q_80032, .ref q_80049, .int 0, .int 0, .int 0, .int 0, .int 0]) (v := .ref q_80049) p_h rfl rfl rfl (Nat.le_of_ble_eq_true rfl) dX10_init_110 (fun f_80065 H locs ef_80065 Y => ?_)
  have p_q_79956 := p_q_79956.up ef_80065 ((p_q_79956.neB p_h))
  have p_q_79978 := p_q_79978.up ef_80065 ((p_q_79978.neB p_h))
  have p_h := p_h.me ef_80065
  have hk := hk.up ef_80065 (by simp)
  have hkI := hkI.up ef_80065 (by simp)
  refine lv_aload_n hx hb dX10_init_113 rfl (lv_at hl 0 rfl) ?_
  refine lv_iconst (v := (-1)) hx hb dX10_init_114 (by decide) ?_
  refine pg_put S Y ok_X10 12 (by decide) kf10_56 rfl (fs' := [.ref q_79944, .ref q_79950, .ref q_79956, .ref q_79959, .ref q_79978, .ref q_79981, .ref q_79998, .ref q_80015, .ref q_80032, .ref q_80049, .int 0, .int 0, .int (-1), .int 0, .int 0]) (v := .int (-1)) p_h rfl rfl rfl (Nat.le_of_ble_eq_true rfl) dX10_init_115 (fun f_80066 H locs ef_80066 Y => ?_)
  have p_q_79956 := p_q_79956.up ef_80066 ((p_q_79956.neB p_h))
  have p_q_79978 := p_q_79978.up ef_80066 ((p_q_79978.neB p_h))
  have p_h := p_h.me ef_80066
  have hk := hk.up ef_80066 (by simp)
  have hkI := hkI.up ef_80066 (by simp)
  have fam_sc : ∀ t, t < 0 → (fun _ => none) t = some (ad13 30 (4 + t)) := fam_0
  have fam_pa : ∀ t, t < 0 → (fun _ => none) t = some (ad13 10 (32 + t)) := fam_0
  refine lv_iconst (v := 0) hx hb dX10_init_118 (by decide) ?_
  refine lv_istore_n (lv' := [(1, .int 0), (0, .ref h)]) hx hb dX10_init_119 rfl hl (by decide) rfl (fun ls hl => ?_)
  refine lv_iload_n hx hb dX10_init_120 rfl (lv_at hl 0 rfl) ?_
  refine lv_iconst (v := 4) hx hb dX10_init_121 (by decide) ?_
  refine lv_icmp_ge (tgt := 144) hx hb dX10_init_122 (by decide) (fun h => absurd h (by decide)) (fun _ => ?_)
  refine lv_aload_n hx hb dX10_init_125 rfl (lv_at hl 1 rfl) ?_
  refine pg_get S Y ok_X10 2 (by decide) kf10_20 (v := .ref q_79956) p_h rfl dX10_init_126 ?_
  refine lv_iload_n hx hb dX10_init_129 rfl (lv_at hl 0 rfl) ?_
  refine pg_new S Y ok_X7 kc10_18 kn7 ki7 (fs := [.null, .null, .null, .null, .null, .int 0, .int 0]) (by decide) (by decide) (by decide) dX10_init_130 (fun q_80067 f_80068 H nq_80067 ef_80068 Y => ?_)
  have whkq_80067 := hk.notin nq_80067
  have hk := hk.push ef_80068 nq_80067
  have whkIq_80067 := hkI.notin nq_80067
  have hkI := hkI.push ef_80068 nq_80067
  have p_h := p_h.push ef_80068 nq_80067
  have p_q_79956 := p_q_79956.push ef_80068 nq_80067
  have p_q_79978 := p_q_79978.push ef_80068 nq_80067
  have p_q_80067 := pt.new (L := L_80051) ef_80068
  refine lv_dup hx hb dX10_init_133 rfl ?_
  refine cINv (b := q_80067) (As := []) (rest := [.ref q_80067, .int 0, .ref q_79956]) S Y (c_X7_init (l := l) p_q_80067) cw_X7_init km10_60 rfl ⟨Nat.le_of_ble_eq_true rfl, Nat.le_of_ble_eq_true rfl⟩ hl.1 rfl (Nat.le_of_ble_eq_true rfl) ⟨Nat.le_of_ble_eq_true rfl, Nat.le_of_ble_eq_true rfl⟩ dX10_init_134 (fun L_80069 f_80070 H locs hf_80070 Y => ?_)
  obtain ⟨a__80071, a__80072, a__80073, a__80074, a__80075, kf_80070, z_z_80076, z_z_80077, z_z_80078, z_z_80079, z_z_80080, z_z_80081, na1a2_80082, na3a4_80083, v_80084, v_80085, v_80086, v_80087, v_80088⟩ := hf_80070
  have w_80089 := hk.notin v_80084
  have w_80090 := hkI.notin v_80084
  have w_80091 := hk.notin v_80085
  have w_80092 := hkI.notin v_80085
  have w_80093 := hk.notin v_80086
  have w_80094 := hkI.notin v_80086
  have w_80095 := hk.notin v_80087
  have w_80096 := hkI.notin v_80087
  have w_80097 := hk.notin v_80088
  have w_80098 := hkI.notin v_80088
  have p_h := kf_80070.1 h _ (nmc (p_h.neK p_q_80067 (by decide)) nm0) p_h
  have p_q_79956 := kf_80070.1 q_79956 _ (nmc (p_q_79956.neB p_q_80067) nm0) p_q_79956
  have p_q_79978 := kf_80070.1 q_79978 _ (nmc (p_q_79978.neB p_q_80067) nm0) p_q_79978
  have p_q_80067 := z_z_80076
  have p_a__80071 := z_z_80077
  have p_a__80072 := z_z_80078
  have p_a__80073 := z_z_80079
  have p_a__80074 := z_z_80080
  have p_a__80075 := z_z_80081
  have hk := hk.call kf_80070 (fun b hb hp => (nmc (neL hp whkq_80067) nm0))
  have hkI := hkI.call kf_80070 (fun b hb hp => (nmc (neL hp whkIq_80067) nm0))
  have nr_q_80067 : NRg gl_64 ad13 q_80067 := (SHC.nr I whkIq_80067)
  have nr_a__80071 : NRg gl_64 ad13 a__80071 := (SHC.nr I w_80090)
  have nr_a__80072 : NRg gl_64 ad13 a__80072 := (SHC.nr I w_80092)
  have nr_a__80073 : NRg gl_64 ad13 a__80073 := (SHC.nr I w_80094)
  have nr_a__80074 : NRg gl_64 ad13 a__80074 := (SHC.nr I w_80096)
  have nr_a__80075 : NRg gl_64 ad13 a__80075 := (SHC.nr I w_80098)
  have I := I.kp hkI (allc nr_h (allc nr_q_79956 (allc nr_q_79978 all0)))
  have hkI : kp L_80069 f_80070 L_80069 f_80070 [h, q_79956, q_79978] := kp.rf
  obtain ⟨ad14, I, X_80099, Y_80100, Z_80101⟩ := SHC.scr (l2 := gl_65) (n := 4) I rfl rfl rfl rfl rfl rfl (by decide) rfl p_q_80067 p_a__80071 p_a__80072 p_a__80073 p_a__80074 p_a__80075 nr_q_80067 nr_a__80071 nr_a__80072 nr_a__80073 nr_a__80074 nr_a__80075 (na1a2_80082) (na3a4_80083)
  have eq40_1 := (X_80099.2 40 1 (by decide)).trans eq40_1
  have eq41_1 := (X_80099.2 41 1 (by decide)).trans eq41_1
  have eq10_31 := (X_80099.2 10 31 (by decide)).trans eq10_31
  have eq20_5 := (X_80099.2 20 5 (by decide)).trans eq20_5
  have eq20_6 := (X_80099.2 20 6 (by decide)).trans eq20_6
  have eq20_7 := (X_80099.2 20 7 (by decide)).trans eq20_7
  have eq20_8 := (X_80099.2 20 8 (by decide)).trans eq20_8
  have eq20_9 := (X_80099.2 20 9 (by decide)).trans eq20_9
  have fam_sc := fam_x fam_sc X_80099 (by decide)
  have fam_pa := fam_x fam_pa X_80099 (by decide)
  have nr_h := Z_80101 _ nr_h (p_h.neK p_q_80067 (by decide)) (p_h.neA p_a__80071) (p_h.neA p_a__80072) (p_h.neA p_a__80073) (p_h.neA p_a__80074) (p_h.neA p_a__80075)
  have nr_q_79956 := Z_80101 _ nr_q_79956 (p_q_79956.neB p_q_80067) (p_q_79956.neN p_a__80071 (by decide)) (p_q_79956.neN p_a__80072 (by decide)) (p_q_79956.neN p_a__80073 (by decide)) (p_q_79956.neN p_a__80074 (by decide)) (p_q_79956.neN p_a__80075 (by decide))
  have nr_q_79978 := Z_80101 _ nr_q_79978 (p_q_79978.neB p_q_80067) (p_q_79978.neN p_a__80071 (by decide)) (p_q_79978.neN p_a__80072 (by decide)) (p_q_79978.neN p_a__80073 (by decide)) (p_q_79978.neN p_a__80074 (by decide)) (p_q_79978.neN p_a__80075 (by decide))
  have hout : ∀ x, x ∈ L → NRg gl_50 ad x → NRg gl_65 ad14 x := fun x hx hn => Z_80101 x (hout x hx hn) (fun e => whkq_80067 (by rw [← e]; exact hx)) (fun e => w_80089 (by rw [← e]; exact hx)) (fun e => w_80091 (by rw [← e]; exact hx)) (fun e => w_80093 (by rw [← e]; exact hx)) (fun e => w_80095 (by rw [← e]; exact hx)) (fun e => w_80097 (by rw [← e]; exact hx))
  have hext := hext.tr X_80099
  have eq30_4 := Y_80100
  have hkI : kp L_80069 f_80070 L_80069 f_80070 [h, q_79956, q_79978] := kp.rf
  refine pg_aast S Y (k := 4) p_q_79956 rfl p_q_80067 ok_X7.1 (by unfold vp_in; decide) dX10_init_137 (fun f_80103 H locs ef_80103 Y => ?_)
  obtain ⟨g_80102, eg_80102⟩ : ∃ z, z = va_up ((fun _ => none)) (0 : Int32).toNatClampNeg (some q_80067) := ⟨_, rfl⟩
  rw [← eg_80102] at ef_80103
  have p_h := p_h.up ef_80103 ((p_h.neA p_q_79956))
  have p_q_79978 := p_q_79978.up ef_80103 ((p_q_79978.neN p_q_79956 (by decide)))
  have p_q_80067 := p_q_80067.up ef_80103 ((p_q_80067.neA p_q_79956))
  have p_q_79956 := p_q_79956.me ef_80103
  have hk := hk.upN ef_80103 whkq_79956
  have hkI := hkI.up ef_80103 (by simp)
  have fam_sc := fam_s (i := 0) fam_sc eq30_4 eg_80102
  refine lv_iinc (v := 1) (lv' := [(1, .int 1), (0, .ref h)]) hx hb dX10_init_138 hl (k := 0) rfl (by decide) (by decide) rfl (fun ls hl => ?_)
  refine lv_goto (tgt := 120) hx hb dX10_init_141 (by decide) ?_
  refine lv_iload_n hx hb dX10_init_120 rfl (lv_at hl 0 rfl) ?_
  refine lv_iconst (v := 4) hx hb dX10_init_121 (by decide) ?_
  refine lv_icmp_ge (tgt := 144) hx hb dX10_init_122 (by decide) (fun h => absurd h (by decide)) (fun _ => ?_)
  refine lv_aload_n hx hb dX10_init_125 rfl (lv_at hl 1 rfl) ?_
  refine pg_get S Y ok_X10 2 (by decide) kf10_20 (v := .ref q_79956) p_h rfl dX10_init_126 ?_
  refine lv_iload_n hx hb dX10_init_129 rfl (lv_at hl 0 rfl) ?_
  refine pg_new S Y ok_X7 kc10_18 kn7 ki7 (fs := [.null, .null, .null, .null, .null, .int 0, .int 0]) (by decide) (by decide) (by decide) dX10_init_130 (fun q_80104 f_80105 H nq_80104 ef_80105 Y => ?_)
  have whkq_80104 := hk.notin nq_80104
  have hk := hk.push ef_80105 nq_80104
  have whkIq_80104 := hkI.notin nq_80104
  have hkI := hkI.push ef_80105 nq_80104
  have p_h := p_h.push ef_80105 nq_80104
  have p_q_79956 := p_q_79956.push ef_80105 nq_80104
  have p_q_79978 := p_q_79978.push ef_80105 nq_80104
  have p_q_80104 := pt.new (L := L_80069) ef_80105
  refine lv_dup hx hb dX10_init_133 rfl ?_
  refine cINv (b := q_80104) (As := []) (rest := [.ref q_80104, .int 1, .ref q_79956]) S Y (c_X7_init (l := l) p_q_80104) cw_X7_init km10_60 rfl ⟨Nat.le_of_ble_eq_true rfl, Nat.le_of_ble_eq_true rfl⟩ hl.1 rfl (Nat.le_of_ble_eq_true rfl) ⟨Nat.le_of_ble_eq_true rfl, Nat.le_of_ble_eq_true rfl⟩ dX10_init_134 (fun L_80106 f_80107 H locs hf_80107 Y => ?_)
  obtain ⟨a__80108, a__80109, a__80110, a__80111, a__80112, kf_80107, z_z_80113, z_z_80114, z_z_80115, z_z_80116, z_z_80117, z_z_80118, na1a2_80119, na3a4_80120, v_80121, v_80122, v_80123, v_80124, v_80125⟩ := hf_80107
  have w_80126 := hk.notin v_80121
  have w_80127 := hkI.notin v_80121
  have w_80128 := hk.notin v_80122
  have w_80129 := hkI.notin v_80122
  have w_80130 := hk.notin v_80123
  have w_80131 := hkI.notin v_80123
  have w_80132 := hk.notin v_80124
  have w_80133 := hkI.notin v_80124
  have w_80134 := hk.notin v_80125
  have w_80135 := hkI.notin v_80125
  have p_h := kf_80107.1 h _ (nmc (p_h.neK p_q_80104 (by decide)) nm0) p_h
  have p_q_79956 := kf_80107.1 q_79956 _ (nmc (p_q_79956.neB p_q_80104) nm0) p_q_79956
  have p_q_79978 := kf_80107.1 q_79978 _ (nmc (p_q_79978.neB p_q_80104) nm0) p_q_79978
  have p_q_80104 := z_z_80113
  have p_a__80108 := z_z_80114
  have p_a__80109 := z_z_80115
  have p_a__80110 := z_z_80116
  have p_a__80111 := z_z_80117
  have p_a__80112 := z_z_80118
  have hk := hk.call kf_80107 (fun b hb hp => (nmc (neL hp whkq_80104) nm0))
  have hkI := hkI.call kf_80107 (fun b hb hp => (nmc (neL hp whkIq_80104) nm0))
  have nr_q_80104 : NRg gl_65 ad14 q_80104 := (SHC.nr I whkIq_80104)
  have nr_a__80108 : NRg gl_65 ad14 a__80108 := (SHC.nr I w_80127)
  have nr_a__80109 : NRg gl_65 ad14 a__80109 := (SHC.nr I w_80129)
  have nr_a__80110 : NRg gl_65 ad14 a__80110 := (SHC.nr I w_80131)
  have nr_a__80111 : NRg gl_65 ad14 a__80111 := (SHC.nr I w_80133)
  have nr_a__80112 : NRg gl_65 ad14 a__80112 := (SHC.nr I w_80135)
  have I := I.kp hkI (allc nr_h (allc nr_q_79956 (allc nr_q_79978 all0)))
  have hkI : kp L_80106 f_80107 L_80106 f_80107 [h, q_79956, q_79978] := kp.rf
  obtain ⟨ad15, I, X_80136, Y_80137, Z_80138⟩ := SHC.scr (l2 := gl_66) (n := 5) I rfl rfl rfl rfl rfl rfl (by decide) rfl p_q_80104 p_a__80108 p_a__80109 p_a__80110 p_a__80111 p_a__80112 nr_q_80104 nr_a__80108 nr_a__80109 nr_a__80110 nr_a__80111 nr_a__80112 (na1a2_80119) (na3a4_80120)
  have eq40_1 := (X_80136.2 40 1 (by decide)).trans eq40_1
  have eq41_1 := (X_80136.2 41 1 (by decide)).trans eq41_1
  have eq10_31 := (X_80136.2 10 31 (by decide)).trans eq10_31
  have eq20_5 := (X_80136.2 20 5 (by decide)).trans eq20_5
  have eq20_6 := (X_80136.2 20 6 (by decide)).trans eq20_6
  have eq20_7 := (X_80136.2 20 7 (by decide)).trans eq20_7
  have eq20_8 := (X_80136.2 20 8 (by decide)).trans eq20_8
  have eq20_9 := (X_80136.2 20 9 (by decide)).trans eq20_9
  have fam_sc := fam_x fam_sc X_80136 (by decide)
  have fam_pa := fam_x fam_pa X_80136 (by decide)
  have nr_h := Z_80138 _ nr_h (p_h.neK p_q_80104 (by decide)) (p_h.neA p_a__80108) (p_h.neA p_a__80109) (p_h.neA p_a__80110) (p_h.neA p_a__80111) (p_h.neA p_a__80112)
  have nr_q_79956 := Z_80138 _ nr_q_79956 (p_q_79956.neB p_q_80104) (p_q_79956.neN p_a__80108 (by decide)) (p_q_79956.neN p_a__80109 (by decide)) (p_q_79956.neN p_a__80110 (by decide)) (p_q_79956.neN p_a__80111 (by decide)) (p_q_79956.neN p_a__80112 (by decide))
  have nr_q_79978 := Z_80138 _ nr_q_79978 (p_q_79978.neB p_q_80104) (p_q_79978.neN p_a__80108 (by decide)) (p_q_79978.neN p_a__80109 (by decide)) (p_q_79978.neN p_a__80110 (by decide)) (p_q_79978.neN p_a__80111 (by decide)) (p_q_79978.neN p_a__80112 (by decide))
  have hout : ∀ x, x ∈ L → NRg gl_50 ad x → NRg gl_66 ad15 x := fun x hx hn => Z_80138 x (hout x hx hn) (fun e => whkq_80104 (by rw [← e]; exact hx)) (fun e => w_80126 (by rw [← e]; exact hx)) (fun e => w_80128 (by rw [← e]; exact hx)) (fun e => w_80130 (by rw [← e]; exact hx)) (fun e => w_80132 (by rw [← e]; exact hx)) (fun e => w_80134 (by rw [← e]; exact hx))
  have hext := hext.tr X_80136
  have eq30_5 := Y_80137
  have hkI : kp L_80106 f_80107 L_80106 f_80107 [h, q_79956, q_79978] := kp.rf
  refine pg_aast S Y (k := 4) p_q_79956 rfl p_q_80104 ok_X7.1 (by unfold vp_in; decide) dX10_init_137 (fun f_80140 H locs ef_80140 Y => ?_)
  obtain ⟨g_80139, eg_80139⟩ : ∃ z, z = va_up (g_80102) (1 : Int32).toNatClampNeg (some q_80104) := ⟨_, rfl⟩
  rw [← eg_80139] at ef_80140
  have p_h := p_h.up ef_80140 ((p_h.neA p_q_79956))
  have p_q_79978 := p_q_79978.up ef_80140 ((p_q_79978.neN p_q_79956 (by decide)))
  have p_q_80104 := p_q_80104.up ef_80140 ((p_q_80104.neA p_q_79956))
  have p_q_79956 := p_q_79956.me ef_80140
  have hk := hk.upN ef_80140 whkq_79956
  have hkI := hkI.up ef_80140 (by simp)
  have fam_sc := fam_s (i := 1) fam_sc eq30_5 eg_80139
  refine lv_iinc (v := 2) (lv' := [(1, .int 2), (0, .ref h)]) hx hb dX10_init_138 hl (k := 0) rfl (by decide) (by decide) rfl (fun ls hl => ?_)
  refine lv_goto (tgt := 120) hx hb dX10_init_141 (by decide) ?_
  refine lv_iload_n hx hb dX10_init_120 rfl (lv_at hl 0 rfl) ?_
  refine lv_iconst (v := 4) hx hb dX10_init_121 (by decide) ?_
  refine lv_icmp_ge (tgt := 144) hx hb dX10_init_122 (by decide) (fun h => absurd h (by decide)) (fun _ => ?_)
  refine lv_aload_n hx hb dX10_init_125 rfl (lv_at hl 1 rfl) ?_
  refine pg_get S Y ok_X10 2 (by decide) kf10_20 (v := .ref q_79956) p_h rfl dX10_init_126 ?_
  refine lv_iload_n hx hb dX10_init_129 rfl (lv_at hl 0 rfl) ?_
  refine pg_new S Y ok_X7 kc10_18 kn7 ki7 (fs := [.null, .null, .null, .null, .null, .int 0, .int 0]) (by decide) (by decide) (by decide) dX10_init_130 (fun q_80141 f_80142 H nq_80141 ef_80142 Y => ?_)
  have whkq_80141 := hk.notin nq_80141
  have hk := hk.push ef_80142 nq_80141
  have whkIq_80141 := hkI.notin nq_80141
  have hkI := hkI.push ef_80142 nq_80141
  have p_h := p_h.push ef_80142 nq_80141
  have p_q_79956 := p_q_79956.push ef_80142 nq_80141
  have p_q_79978 := p_q_79978.push ef_80142 nq_80141
  have p_q_80141 := pt.new (L := L_80106) ef_80142
  refine lv_dup hx hb dX10_init_133 rfl ?_
  refine cINv (b := q_80141) (As := []) (rest := [.ref q_80141, .int 2, .ref q_79956]) S Y (c_X7_init (l := l) p_q_80141) cw_X7_init km10_60 rfl ⟨Nat.le_of_ble_eq_true rfl, Nat.le_of_ble_eq_true rfl⟩ hl.1 rfl (Nat.le_of_ble_eq_true rfl) ⟨Nat.le_of_ble_eq_true rfl, Nat.le_of_ble_eq_true rfl⟩ dX10_init_134 (fun L_80143 f_80144 H locs hf_80144 Y => ?_)
  obtain ⟨a__80145, a__80146, a__80147, a__80148, a__80149, kf_80144, z_z_80150, z_z_80151, z_z_80152, z_z_80153, z_z_80154, z_z_80155, na1a2_80156, na3a4_80157, v_80158, v_80159, v_80160, v_80161, v_80162⟩ := hf_80144
  have w_80163 := hk.notin v_80158
  have w_80164 := hkI.notin v_80158
  have w_80165 := hk.notin v_80159
  have w_80166 := hkI.notin v_80159
  have w_80167 := hk.notin v_80160
  have w_80168 := hkI.notin v_80160
  have w_80169 := hk.notin v_80161
  have w_80170 := hkI.notin v_80161
  have w_80171 := hk.notin v_80162
  have w_80172 := hkI.notin v_80162
  have p_h := kf_80144.1 h _ (nmc (p_h.neK p_q_80141 (by decide)) nm0) p_h
  have p_q_79956 := kf_80144.1 q_79956 _ (nmc (p_q_79956.neB p_q_80141) nm0) p_q_79956
  have p_q_79978 := kf_80144.1 q_79978 _ (nmc (p_q_79978.neB p_q_80141) nm0) p_q_79978
  have p_q_80141 := z_z_80150
  have p_a__80145 := z_z_80151
  have p_a__80146 := z_z_80152
  have p_a__80147 := z_z_80153
  have p_a__80148 := z_z_80154
  have p_a__80149 := z_z_80155
  have hk := hk.call kf_80144 (fun b hb hp => (nmc (neL hp whkq_80141) nm0))
  have hkI := hkI.call kf_80144 (fun b hb hp => (nmc (neL hp whkIq_80141) nm0))
  have nr_q_80141 : NRg gl_66 ad15 q_80141 := (SHC.nr I whkIq_80141)
  have nr_a__80145 : NRg gl_66 ad15 a__80145 := (SHC.nr I w_80164)
  have nr_a__80146 : NRg gl_66 ad15 a__80146 := (SHC.nr I w_80166)
  have nr_a__80147 : NRg gl_66 ad15 a__80147 := (SHC.nr I w_80168)
  have nr_a__80148 : NRg gl_66 ad15 a__80148 := (SHC.nr I w_80170)
  have nr_a__80149 : NRg gl_66 ad15 a__80149 := (SHC.nr I w_80172)
  have I := I.kp hkI (allc nr_h (allc nr_q_79956 (allc nr_q_79978 all0)))
  have hkI : kp L_80143 f_80144 L_80143 f_80144 [h, q_79956, q_79978] := kp.rf
  obtain ⟨ad16, I, X_80173, Y_80174, Z_80175⟩ := SHC.scr (l2 := gl_67) (n := 6) I rfl rfl rfl rfl rfl rfl (by decide) rfl p_q_80141 p_a__80145 p_a__80146 p_a__80147 p_a__80148 p_a__80149 nr_q_80141 nr_a__80145 nr_a__80146 nr_a__80147 nr_a__80148 nr_a__80149 (na1a2_80156) (na3a4_80157)
  have eq40_1 := (X_80173.2 40 1 (by decide)).trans eq40_1
  have eq41_1 := (X_80173.2 41 1 (by decide)).trans eq41_1
  have eq10_31 := (X_80173.2 10 31 (by decide)).trans eq10_31
  have eq20_5 := (X_80173.2 20 5 (by decide)).trans eq20_5
  have eq20_6 := (X_80173.2 20 6 (by decide)).trans eq20_6
  have eq20_7 := (X_80173.2 20 7 (by decide)).trans eq20_7
  have eq20_8 := (X_80173.2 20 8 (by decide)).trans eq20_8
  have eq20_9 := (X_80173.2 20 9 (by decide)).trans eq20_9
  have fam_sc := fam_x fam_sc X_80173 (by decide)
  have fam_pa := fam_x fam_pa X_80173 (by decide)
  have nr_h := Z_80175 _ nr_h (p_h.neK p_q_80141 (by decide)) (p_h.neA p_a__80145) (p_h.neA p_a__80146) (p_h.neA p_a__80147) (p_h.neA p_a__80148) (p_h.neA p_a__80149)
  have nr_q_79956 := Z_80175 _ nr_q_79956 (p_q_79956.neB p_q_80141) (p_q_79956.neN p_a__80145 (by decide)) (p_q_79956.neN p_a__80146 (by decide)) (p_q_79956.neN p_a__80147 (by decide)) (p_q_79956.neN p_a__80148 (by decide)) (p_q_79956.neN p_a__80149 (by decide))
  have nr_q_79978 := Z_80175 _ nr_q_79978 (p_q_79978.neB p_q_80141) (p_q_79978.neN p_a__80145 (by decide)) (p_q_79978.neN p_a__80146 (by decide)) (p_q_79978.neN p_a__80147 (by decide)) (p_q_79978.neN p_a__80148 (by decide)) (p_q_79978.neN p_a__80149 (by decide))
  have hout : ∀ x, x ∈ L → NRg gl_50 ad x → NRg gl_67 ad16 x := fun x hx hn => Z_80175 x (hout x hx hn) (fun e => whkq_80141 (by rw [← e]; exact hx)) (fun e => w_80163 (by rw [← e]; exact hx)) (fun e => w_80165 (by rw [← e]; exact hx)) (fun e => w_80167 (by rw [← e]; exact hx)) (fun e => w_80169 (by rw [← e]; exact hx)) (fun e => w_80171 (by rw [← e]; exact hx))
  have hext := hext.tr X_80173
  have eq30_6 := Y_80174
  have hkI : kp L_80143 f_80144 L_80143 f_80144 [h, q_79956, q_79978] := kp.rf
  refine pg_aast S Y (k := 4) p_q_79956 rfl p_q_80141 ok_X7.1 (by unfold vp_in; decide) dX10_init_137 (fun f_80177 H locs ef_80177 Y => ?_)
  obtain ⟨g_80176, eg_80176⟩ : ∃ z, z = va_up (g_80139) (2 : Int32).toNatClampNeg (some q_80141) := ⟨_, rfl⟩
  rw [← eg_80176] at ef_80177
  have p_h := p_h.up ef_80177 ((p_h.neA p_q_79956))
  have p_q_79978 := p_q_79978.up ef_80177 ((p_q_79978.neN p_q_79956 (by decide)))
  have p_q_80141 := p_q_80141.up ef_80177 ((p_q_80141.neA p_q_79956))
  have p_q_79956 := p_q_79956.me ef_80177
  have hk := hk.upN ef_80177 whkq_79956
  have hkI := hkI.up ef_80177 (by simp)
  have fam_sc := fam_s (i := 2) fam_sc eq30_6 eg_80176
  refine lv_iinc (v := 3) (lv' := [(1, .int 3), (0, .ref h)]) hx hb dX10_init_138 hl (k := 0) rfl (by decide) (by decide) rfl (fun ls hl => ?_)
  refine lv_goto (tgt := 120) hx hb dX10_init_141 (by decide) ?_
  refine lv_iload_n hx hb dX10_init_120 rfl (lv_at hl 0 rfl) ?_
  refine lv_iconst (v := 4) hx hb dX10_init_121 (by decide) ?_
  refine lv_icmp_ge (tgt := 144) hx hb dX10_init_122 (by decide) (fun h => absurd h (by decide)) (fun _ => ?_)
  refine lv_aload_n hx hb dX10_init_125 rfl (lv_at hl 1 rfl) ?_
  refine pg_get S Y ok_X10 2 (by decide) kf10_20 (v := .ref q_79956) p_h rfl dX10_init_126 ?_
  refine lv_iload_n hx hb dX10_init_129 rfl (lv_at hl 0 rfl) ?_
  refine pg_new S Y ok_X7 kc10_18 kn7 ki7 (fs := [.null, .null, .null, .null, .null, .int 0, .int 0]) (by decide) (by decide) (by decide) dX10_init_130 (fun q_80178 f_80179 H nq_80178 ef_80179 Y => ?_)
  have whkq_80178 := hk.notin nq_80178
  have hk := hk.push ef_80179 nq_80178
  have whkIq_80178 := hkI.notin nq_80178
  have hkI := hkI.push ef_80179 nq_80178
  have p_h := p_h.push ef_80179 nq_80178
  have p_q_79956 := p_q_79956.push ef_80179 nq_80178
  have p_q_79978 := p_q_79978.push ef_80179 nq_80178
  have p_q_80178 := pt.new (L := L_80143) ef_80179
  refine lv_dup hx hb dX10_init_133 rfl ?_
  refine cINv (b := q_80178) (As := []) (rest := [.ref q_80178, .int 3, .ref q_79956]) S Y (c_X7_init (l := l) p_q_80178) cw_X7_init km10_60 rfl ⟨Nat.le_of_ble_eq_true rfl, Nat.le_of_ble_eq_true rfl⟩ hl.1 rfl (Nat.le_of_ble_eq_true rfl) ⟨Nat.le_of_ble_eq_true rfl, Nat.le_of_ble_eq_true rfl⟩ dX10_init_134 (fun L_80180 f_80181 H locs hf_80181 Y => ?_)
  obtain ⟨a__80182, a__80183, a__80184, a__80185, a__80186, kf_80181, z_z_80187, z_z_80188, z_z_80189, z_z_80190, z_z_80191, z_z_80192, na1a2_80193, na3a4_80194, v_80195, v_80196, v_80197, v_80198, v_80199⟩ := hf_80181
  have w_80200 := hk.notin v_80195
  have w_80201 := hkI.notin v_80195
  have w_80202 := hk.notin v_80196
  have w_80203 := hkI.notin v_80196
  have w_80204 := hk.notin v_80197
  have w_80205 := hkI.notin v_80197
  have w_80206 := hk.notin v_80198
  have w_80207 := hkI.notin v_80198
  have w_80208 := hk.notin v_80199
  have w_80209 := hkI.notin v_80199
  have p_h := kf_80181.1 h _ (nmc (p_h.neK p_q_80178 (by decide)) nm0) p_h
  have p_q_79956 := kf_80181.1 q_79956 _ (nmc (p_q_79956.neB p_q_80178) nm0) p_q_79956
  have p_q_79978 := kf_80181.1 q_79978 _ (nmc (p_q_79978.neB p_q_80178) nm0) p_q_79978
  have p_q_80178 := z_z_80187
  have p_a__80182 := z_z_80188
  have p_a__80183 := z_z_80189
  have p_a__80184 := z_z_80190
  have p_a__80185 := z_z_80191
  have p_a__80186 := z_z_80192
  have hk := hk.call kf_80181 (fun b hb hp => (nmc (neL hp whkq_80178) nm0))
  have hkI := hkI.call kf_80181 (fun b hb hp => (nmc (neL hp whkIq_80178) nm0))
  have nr_q_80178 : NRg gl_67 ad16 q_80178 := (SHC.nr I whkIq_80178)
  have nr_a__80182 : NRg gl_67 ad16 a__80182 := (SHC.nr I w_80201)
  have nr_a__80183 : NRg gl_67 ad16 a__80183 := (SHC.nr I w_80203)
  have nr_a__80184 : NRg gl_67 ad16 a__80184 := (SHC.nr I w_80205)
  have nr_a__80185 : NRg gl_67 ad16 a__80185 := (SHC.nr I w_80207)
  have nr_a__80186 : NRg gl_67 ad16 a__80186 := (SHC.nr I w_80209)
  have I := I.kp hkI (allc nr_h (allc nr_q_79956 (allc nr_q_79978 all0)))
  have hkI : kp L_80180 f_80181 L_80180 f_80181 [h, q_79956, q_79978] := kp.rf
  obtain ⟨ad17, I, X_80210, Y_80211, Z_80212⟩ := SHC.scr (l2 := gl_68) (n := 7) I rfl rfl rfl rfl rfl rfl (by decide) rfl p_q_80178 p_a__80182 p_a__80183 p_a__80184 p_a__80185 p_a__80186 nr_q_80178 nr_a__80182 nr_a__80183 nr_a__80184 nr_a__80185 nr_a__80186 (na1a2_80193) (na3a4_80194)
  have eq40_1 := (X_80210.2 40 1 (by decide)).trans eq40_1
  have eq41_1 := (X_80210.2 41 1 (by decide)).trans eq41_1
  have eq10_31 := (X_80210.2 10 31 (by decide)).trans eq10_31
  have eq20_5 := (X_80210.2 20 5 (by decide)).trans eq20_5
  have eq20_6 := (X_80210.2 20 6 (by decide)).trans eq20_6
  have eq20_7 := (X_80210.2 20 7 (by decide)).trans eq20_7
  have eq20_8 := (X_80210.2 20 8 (by decide)).trans eq20_8
  have eq20_9 := (X_80210.2 20 9 (by decide)).trans eq20_9
  have fam_sc := fam_x fam_sc X_80210 (by decide)
  have fam_pa := fam_x fam_pa X_80210 (by decide)
  have nr_h := Z_80212 _ nr_h (p_h.neK p_q_80178 (by decide)) (p_h.neA p_a__80182) (p_h.neA p_a__80183) (p_h.neA p_a__80184) (p_h.neA p_a__80185) (p_h.neA p_a__80186)
  have nr_q_79956 := Z_80212 _ nr_q_79956 (p_q_79956.neB p_q_80178) (p_q_79956.neN p_a__80182 (by decide)) (p_q_79956.neN p_a__80183 (by decide)) (p_q_79956.neN p_a__80184 (by decide)) (p_q_79956.neN p_a__80185 (by decide)) (p_q_79956.neN p_a__80186 (by decide))
  have nr_q_79978 := Z_80212 _ nr_q_79978 (p_q_79978.neB p_q_80178) (p_q_79978.neN p_a__80182 (by decide)) (p_q_79978.neN p_a__80183 (by decide)) (p_q_79978.neN p_a__80184 (by decide)) (p_q_79978.neN p_a__80185 (by decide)) (p_q_79978.neN p_a__80186 (by decide))
  have hout : ∀ x, x ∈ L → NRg gl_50 ad x → NRg gl_68 ad17 x := fun x hx hn => Z_80212 x (hout x hx hn) (fun e => whkq_80178 (by rw [← e]; exact hx)) (fun e => w_80200 (by rw [← e]; exact hx)) (fun e => w_80202 (by rw [← e]; exact hx)) (fun e => w_80204 (by rw [← e]; exact hx)) (fun e => w_80206 (by rw [← e]; exact hx)) (fun e => w_80208 (by rw [← e]; exact hx))
  have hext := hext.tr X_80210
  have eq30_7 := Y_80211
  have hkI : kp L_80180 f_80181 L_80180 f_80181 [h, q_79956, q_79978] := kp.rf
  refine pg_aast S Y (k := 4) p_q_79956 rfl p_q_80178 ok_X7.1 (by unfold vp_in; decide) dX10_init_137 (fun f_80214 H locs ef_80214 Y => ?_)
  obtain ⟨g_80213, eg_80213⟩ : ∃ z, z = va_up (g_80176) (3 : Int32).toNatClampNeg (some q_80178) := ⟨_, rfl⟩
  rw [← eg_80213] at ef_80214
  have p_h := p_h.up ef_80214 ((p_h.neA p_q_79956))
  have p_q_79978 := p_q_79978.up ef_80214 ((p_q_79978.neN p_q_79956 (by decide)))
  have p_q_80178 := p_q_80178.up ef_80214 ((p_q_80178.neA p_q_79956))
  have p_q_79956 := p_q_79956.me ef_80214
  have hk := hk.upN ef_80214 whkq_79956
  have hkI := hkI.up ef_80214 (by simp)
  have fam_sc := fam_s (i := 3) fam_sc eq30_7 eg_80213
  refine lv_iinc (v := 4) (lv' := [(1, .int 4), (0, .ref h)]) hx hb dX10_init_138 hl (k := 0) rfl (by decide) (by decide) rfl (fun ls hl => ?_)
  refine lv_goto (tgt := 120) hx hb dX10_init_141 (by decide) ?_
  refine lv_iload_n hx hb dX10_init_120 rfl (lv_at hl 0 rfl) ?_
  refine lv_iconst (v := 4) hx hb dX10_init_121 (by decide) ?_
  refine lv_icmp_ge (tgt := 144) hx hb dX10_init_122 (by decide) (fun _ => ?_) (fun h => absurd (by decide) h)
  refine lv_iconst (v := 0) hx hb dX10_init_144 (by decide) ?_
  refine lv_istore_n (lv' := [(1, .int 0), (0, .ref h)]) hx hb dX10_init_145 rfl hl (by decide) rfl (fun ls hl => ?_)
  refine lv_iload_n hx hb dX10_init_146 rfl (lv_at hl 0 rfl) ?_
  refine lv_bipush (v := 30) hx hb dX10_init_147 (by decide) ?_
  refine lv_icmp_ge (tgt := 171) hx hb dX10_init_149 (by decide) (fun h => absurd h (by decide)) (fun _ => ?_)
  refine lv_aload_n hx hb dX10_init_152 rfl (lv_at hl 1 rfl) ?_
  refine pg_get S Y ok_X10 4 (by decide) kf10_31 (v := .ref q_79978) p_h rfl dX10_init_153 ?_
  refine lv_iload_n hx hb dX10_init_156 rfl (lv_at hl 0 rfl) ?_
  refine pg_new S Y ok_X4 kc10_24 kn4 ki4 (fs := [.null, .null, .int 0, .int 0, .int 0, .int 0, .int 0]) (by decide) (by decide) (by decide) dX10_init_157 (fun q_80215 f_80216 H nq_80215 ef_80216 Y => ?_)
  have whkq_80215 := hk.notin nq_80215
  have hk := hk.push ef_80216 nq_80215
  have whkIq_80215 := hkI.notin nq_80215
  have hkI := hkI.push ef_80216 nq_80215
  have p_h := p_h.push ef_80216 nq_80215
  have p_q_79956 := p_q_79956.push ef_80216 nq_80215
  have p_q_79978 := p_q_79978.push ef_80216 nq_80215
  have p_q_80215 := pt.new (L := L_80180) ef_80216
  refine lv_dup hx hb dX10_init_160 rfl ?_
  refine cINv (b := q_80215) (As := []) (rest := [.ref q_80215, .int 0, .ref q_79978]) S Y (c_X4_init (l := l) p_q_80215) cw_X4_init km10_26 rfl ⟨Nat.le_of_ble_eq_true rfl, Nat.le_of_ble_eq_true rfl⟩ hl.1 rfl (Nat.le_of_ble_eq_true rfl) ⟨Nat.le_of_ble_eq_true rfl, Nat.le_of_ble_eq_true rfl⟩ dX10_init_161 (fun L_80217 f_80218 H locs hf_80218 Y => ?_)
  obtain ⟨a__80219, a__80220, kf_80218, z_z_80221, z_z_80222, z_z_80223, v_80224, v_80225⟩ := hf_80218
  have w_80226 := hk.notin v_80224
  have w_80227 := hkI.notin v_80224
  have w_80228 := hk.notin v_80225
  have w_80229 := hkI.notin v_80225
  have p_h := kf_80218.1 h _ (nmc (p_h.neK p_q_80215 (by decide)) nm0) p_h
  have p_q_79956 := kf_80218.1 q_79956 _ (nmc (p_q_79956.neB p_q_80215) nm0) p_q_79956
  have p_q_79978 := kf_80218.1 q_79978 _ (nmc (p_q_79978.neB p_q_80215) nm0) p_q_79978
  have p_q_80215 := z_z_80221
  have p_a__80219 := z_z_80222
  have p_a__80220 := z_z_80223
  have hk := hk.call kf_80218 (fun b hb hp => (nmc (neL hp whkq_80215) nm0))
  have hkI := hkI.call kf_80218 (fun b hb hp => (nmc (neL hp whkIq_80215) nm0))
  have nr_q_80215 : NRg gl_68 ad17 q_80215 := (SHC.nr I whkIq_80215)
  have nr_a__80219 : NRg gl_68 ad17 a__80219 := (SHC.nr I w_80227)
  have nr_a__80220 : NRg gl_68 ad17 a__80220 := (SHC.nr I w_80229)
  have I := I.kp hkI (allc nr_h (allc nr_q_79956 (allc nr_q_79978 all0)))
  have hkI : kp L_80217 f_80218 L_80217 f_80218 [h, q_79956, q_79978] := kp.rf
  obtain ⟨ad18, I, X_80230, Y_80231, Z_80232⟩ := SHC.led (l2 := gl_69) (n := 32) I rfl rfl rfl (by decide) rfl p_q_80215 p_a__80219 p_a__80220 nr_q_80215 nr_a__80219 nr_a__80220 
  have eq40_1 := (X_80230.2 40 1 (by decide)).trans eq40_1
  have eq41_1 := (X_80230.2 41 1 (by decide)).trans eq41_1
  have eq10_31 := (X_80230.2 10 31 (by decide)).trans eq10_31
  have eq20_5 := (X_80230.2 20 5 (by decide)).trans eq20_5
  have eq20_6 := (X_80230.2 20 6 (by decide)).trans eq20_6
  have eq20_7 := (X_80230.2 20 7 (by decide)).trans eq20_7
  have eq20_8 := (X_80230.2 20 8 (by decide)).trans eq20_8
  have eq20_9 := (X_80230.2 20 9 (by decide)).trans eq20_9
  have fam_sc := fam_x fam_sc X_80230 (by decide)
  have fam_pa := fam_x fam_pa X_80230 (by decide)
  have nr_h := Z_80232 _ nr_h (p_h.neK p_q_80215 (by decide)) (p_h.neA p_a__80219) (p_h.neA p_a__80220)
  have nr_q_79956 := Z_80232 _ nr_q_79956 (p_q_79956.neB p_q_80215) (p_q_79956.neN p_a__80219 (by decide)) (p_q_79956.neN p_a__80220 (by decide))
  have nr_q_79978 := Z_80232 _ nr_q_79978 (p_q_79978.neB p_q_80215) (p_q_79978.neN p_a__80219 (by decide)) (p_q_79978.neN p_a__80220 (by decide))
  have hout : ∀ x, x ∈ L → NRg gl_50 ad x → NRg gl_69 ad18 x := fun x hx hn => Z_80232 x (hout x hx hn) (fun e => whkq_80215 (by rw [← e]; exact hx)) (fun e => w_80226 (by rw [← e]; exact hx)) (fun e => w_80228 (by rw [← e]; exact hx))
  have hext := hext.tr X_80230
  have eq10_32 := Y_80231
  have hkI : kp L_80217 f_80218 L_80217 f_80218 [h, q_79956, q_79978] := kp.rf
  refine pg_aast S Y (k := 3) p_q_79978 rfl p_q_80215 ok_X4.1 (by unfold vp_in; decide) dX10_init_164 (fun f_80234 H locs ef_80234 Y => ?_)
  obtain ⟨g_80233, eg_80233⟩ : ∃ z, z = va_up ((fun _ => none)) (0 : Int32).toNatClampNeg (some q_80215) := ⟨_, rfl⟩
  rw [← eg_80233] at ef_80234
  have p_h := p_h.up ef_80234 ((p_h.neA p_q_79978))
  have p_q_79956 := p_q_79956.up ef_80234 ((p_q_79956.neN p_q_79978 (by decide)))
  have p_q_80215 := p_q_80215.up ef_80234 ((p_q_80215.neA p_q_79978))
  have p_q_79978 := p_q_79978.me ef_80234
  have hk := hk.upN ef_80234 whkq_79978
  have hkI := hkI.up ef_80234 (by simp)
  have fam_pa := fam_s (i := 0) fam_pa eq10_32 eg_80233
  refine lv_iinc (v := 1) (lv' := [(1, .int 1), (0, .ref h)]) hx hb dX10_init_165 hl (k := 0) rfl (by decide) (by decide) rfl (fun ls hl => ?_)
  refine lv_goto (tgt := 146) hx hb dX10_init_168 (by decide) ?_
  refine lv_iload_n hx hb dX10_init_146 rfl (lv_at hl 0 rfl) ?_
  refine lv_bipush (v := 30) hx hb dX10_init_147 (by decide) ?_
  refine lv_icmp_ge (tgt := 171) hx hb dX10_init_149 (by decide) (fun h => absurd h (by decide)) (fun _ => ?_)
  refine lv_aload_n hx hb dX10_init_152 rfl (lv_at hl 1 rfl) ?_
  refine pg_get S Y ok_X10 4 (by decide) kf10_31 (v := .ref q_79978) p_h rfl dX10_init_153 ?_
  refine lv_iload_n hx hb dX10_init_156 rfl (lv_at hl 0 rfl) ?_
  refine pg_new S Y ok_X4 kc10_24 kn4 ki4 (fs := [.null, .null, .int 0, .int 0, .int 0, .int 0, .int 0]) (by decide) (by decide) (by decide) dX10_init_157 (fun q_80235 f_80236 H nq_80235 ef_80236 Y => ?_)
  have whkq_80235 := hk.notin nq_80235
  have hk := hk.push ef_80236 nq_80235
  have whkIq_80235 := hkI.notin nq_80235
  have hkI := hkI.push ef_80236 nq_80235
  have p_h := p_h.push ef_80236 nq_80235
  have p_q_79956 := p_q_79956.push ef_80236 nq_80235
  have p_q_79978 := p_q_79978.push ef_80236 nq_80235
  have p_q_80235 := pt.new (L := L_80217) ef_80236
  refine lv_dup hx hb dX10_init_160 rfl ?_
  refine cINv (b := q_80235) (As := []) (rest := [.ref q_80235, .int 1, .ref q_79978]) S Y (c_X4_init (l := l) p_q_80235) cw_X4_init km10_26 rfl ⟨Nat.le_of_ble_eq_true rfl, Nat.le_of_ble_eq_true rfl⟩ hl.1 rfl (Nat.le_of_ble_eq_true rfl) ⟨Nat.le_of_ble_eq_true rfl, Nat.le_of_ble_eq_true rfl⟩ dX10_init_161 (fun L_80237 f_80238 H locs hf_80238 Y => ?_)
  obtain ⟨a__80239, a__80240, kf_80238, z_z_80241, z_z_80242, z_z_80243, v_80244, v_80245⟩ := hf_80238
  have w_80246 := hk.notin v_80244
  have w_80247 := hkI.notin v_80244
  have w_80248 := hk.notin v_80245
  have w_80249 := hkI.notin v_80245
  have p_h := kf_80238.1 h _ (nmc (p_h.neK p_q_80235 (by decide)) nm0) p_h
  have p_q_79956 := kf_80238.1 q_79956 _ (nmc (p_q_79956.neB p_q_80235) nm0) p_q_79956
  have p_q_79978 := kf_80238.1 q_79978 _ (nmc (p_q_79978.neB p_q_80235) nm0) p_q_79978
  have p_q_80235 := z_z_80241
  have p_a__80239 := z_z_80242
  have p_a__80240 := z_z_80243
  have hk := hk.call kf_80238 (fun b hb hp => (nmc (neL hp whkq_80235) nm0))
  have hkI := hkI.call kf_80238 (fun b hb hp => (nmc (neL hp whkIq_80235) nm0))
  have nr_q_80235 : NRg gl_69 ad18 q_80235 := (SHC.nr I whkIq_80235)
  have nr_a__80239 : NRg gl_69 ad18 a__80239 := (SHC.nr I w_80247)
  have nr_a__80240 : NRg gl_69 ad18 a__80240 := (SHC.nr I w_80249)
  have I := I.kp hkI (allc nr_h (allc nr_q_79956 (allc nr_q_79978 all0)))
  have hkI : kp L_80237 f_80238 L_80237 f_80238 [h, q_79956, q_79978] := kp.rf
  obtain ⟨ad19, I, X_80250, Y_80251, Z_80252⟩ := SHC.led (l2 := gl_70) (n := 33) I rfl rfl rfl (by decide) rfl p_q_80235 p_a__80239 p_a__80240 nr_q_80235 nr_a__80239 nr_a__80240 
  have eq40_1 := (X_80250.2 40 1 (by decide)).trans eq40_1
  have eq41_1 := (X_80250.2 41 1 (by decide)).trans eq41_1
  have eq10_31 := (X_80250.2 10 31 (by decide)).trans eq10_31
  have eq20_5 := (X_80250.2 20 5 (by decide)).trans eq20_5
  have eq20_6 := (X_80250.2 20 6 (by decide)).trans eq20_6
  have eq20_7 := (X_80250.2 20 7 (by decide)).trans eq20_7
  have eq20_8 := (X_80250.2 20 8 (by decide)).trans eq20_8
  have eq20_9 := (X_80250.2 20 9 (by decide)).trans eq20_9
  have fam_sc := fam_x fam_sc X_80250 (by decide)
  have fam_pa := fam_x fam_pa X_80250 (by decide)
  have nr_h := Z_80252 _ nr_h (p_h.neK p_q_80235 (by decide)) (p_h.neA p_a__80239) (p_h.neA p_a__80240)
  have nr_q_79956 := Z_80252 _ nr_q_79956 (p_q_79956.neB p_q_80235) (p_q_79956.neN p_a__80239 (by decide)) (p_q_79956.neN p_a__80240 (by decide))
  have nr_q_79978 := Z_80252 _ nr_q_79978 (p_q_79978.neB p_q_80235) (p_q_79978.neN p_a__80239 (by decide)) (p_q_79978.neN p_a__80240 (by decide))
  have hout : ∀ x, x ∈ L → NRg gl_50 ad x → NRg gl_70 ad19 x := fun x hx hn => Z_80252 x (hout x hx hn) (fun e => whkq_80235 (by rw [← e]; exact hx)) (fun e => w_80246 (by rw [← e]; exact hx)) (fun e => w_80248 (by rw [← e]; exact hx))
  have hext := hext.tr X_80250
  have eq10_33 := Y_80251
  have hkI : kp L_80237 f_80238 L_80237 f_80238 [h, q_79956, q_79978] := kp.rf
  refine pg_aast S Y (k := 3) p_q_79978 rfl p_q_80235 ok_X4.1 (by unfold vp_in; decide) dX10_init_164 (fun f_80254 H locs ef_80254 Y => ?_)
  obtain ⟨g_80253, eg_80253⟩ : ∃ z, z = va_up (g_80233) (1 : Int32).toNatClampNeg (some q_80235) := ⟨_, rfl⟩
  rw [← eg_80253] at ef_80254
  have p_h := p_h.up ef_80254 ((p_h.neA p_q_79978))
  have p_q_79956 := p_q_79956.up ef_80254 ((p_q_79956.neN p_q_79978 (by decide)))
  have p_q_80235 := p_q_80235.up ef_80254 ((p_q_80235.neA p_q_79978))
  have p_q_79978 := p_q_79978.me ef_80254
  have hk := hk.upN ef_80254 whkq_79978
  have hkI := hkI.up ef_80254 (by simp)
  have fam_pa := fam_s (i := 1) fam_pa eq10_33 eg_80253
  refine lv_iinc (v := 2) (lv' := [(1, .int 2), (0, .ref h)]) hx hb dX10_init_165 hl (k := 0) rfl (by decide) (by decide) rfl (fun ls hl => ?_)
  refine lv_goto (tgt := 146) hx hb dX10_init_168 (by decide) ?_
  refine lv_iload_n hx hb dX10_init_146 rfl (lv_at hl 0 rfl) ?_
  refine lv_bipush (v := 30) hx hb dX10_init_147 (by decide) ?_
  refine lv_icmp_ge (tgt := 171) hx hb dX10_init_149 (by decide) (fun h => absurd h (by decide)) (fun _ => ?_)
  refine lv_aload_n hx hb dX10_init_152 rfl (lv_at hl 1 rfl) ?_
  refine pg_get S Y ok_X10 4 (by decide) kf10_31 (v := .ref q_79978) p_h rfl dX10_init_153 ?_
  refine lv_iload_n hx hb dX10_init_156 rfl (lv_at hl 0 rfl) ?_
  refine pg_new S Y ok_X4 kc10_24 kn4 ki4 (fs := [.null, .null, .int 0, .int 0, .int 0, .int 0, .int 0]) (by decide) (by decide) (by decide) dX10_init_157 (fun q_80255 f_80256 H nq_80255 ef_80256 Y => ?_)
  have whkq_80255 := hk.notin nq_80255
  have hk := hk.push ef_80256 nq_80255
  have whkIq_80255 := hkI.notin nq_80255
  have hkI := hkI.push ef_80256 nq_80255
  have p_h := p_h.push ef_80256 nq_80255
  have p_q_79956 := p_q_79956.push ef_80256 nq_80255
  have p_q_79978 := p_q_79978.push ef_80256 nq_80255
  have p_q_80255 := pt.new (L := L_80237) ef_80256
  refine lv_dup hx hb dX10_init_160 rfl ?_
  refine cINv (b := q_80255) (As := []) (rest := [.ref q_80255, .int 2, .ref q_79978]) S Y (c_X4_init (l := l) p_q_80255) cw_X4_init km10_26 rfl ⟨Nat.le_of_ble_eq_true rfl, Nat.le_of_ble_eq_true rfl⟩ hl.1 rfl (Nat.le_of_ble_eq_true rfl) ⟨Nat.le_of_ble_eq_true rfl, Nat.le_of_ble_eq_true rfl⟩ dX10_init_161 (fun L_80257 f_80258 H locs hf_80258 Y => ?_)
  obtain ⟨a__80259, a__80260, kf_80258, z_z_80261, z_z_80262, z_z_80263, v_80264, v_80265⟩ := hf_80258
  have w_80266 := hk.notin v_80264
  have w_80267 := hkI.notin v_80264
  have w_80268 := hk.notin v_80265
  have w_80269 := hkI.notin v_80265
  have p_h := kf_80258.1 h _ (nmc (p_h.neK p_q_80255 (by decide)) nm0) p_h
  have p_q_79956 := kf_80258.1 q_79956 _ (nmc (p_q_79956.neB p_q_80255) nm0) p_q_79956
  have p_q_79978 := kf_80258.1 q_79978 _ (nmc (p_q_79978.neB p_q_80255) nm0) p_q_79978
  have p_q_80255 := z_z_80261
  have p_a__80259 := z_z_80262
  have p_a__80260 := z_z_80263
  have hk := hk.call kf_80258 (fun b hb hp => (nmc (neL hp whkq_80255) nm0))
  have hkI := hkI.call kf_80258 (fun b hb hp => (nmc (neL hp whkIq_80255) nm0))
  have nr_q_80255 : NRg gl_70 ad19 q_80255 := (SHC.nr I whkIq_80255)
  have nr_a__80259 : NRg gl_70 ad19 a__80259 := (SHC.nr I w_80267)
  have nr_a__80260 : NRg gl_70 ad19 a__80260 := (SHC.nr I w_80269)
  have I := I.kp hkI (allc nr_h (allc nr_q_79956 (allc nr_q_79978 all0)))
  have hkI : kp L_80257 f_80258 L_80257 f_80258 [h, q_79956, q_79978] := kp.rf
  obtain ⟨ad20, I, X_80270, Y_80271, Z_80272⟩ := SHC.led (l2 := gl_71) (n := 34) I rfl rfl rfl (by decide) rfl p_q_80255 p_a__80259 p_a__80260 nr_q_80255 nr_a__80259 nr_a__80260 
  have eq40_1 := (X_80270.2 40 1 (by decide)).trans eq40_1
  have eq41_1 := (X_80270.2 41 1 (by decide)).trans eq41_1
  have eq10_31 := (X_80270.2 10 31 (by decide)).trans eq10_31
  have eq20_5 := (X_80270.2 20 5 (by decide)).trans eq20_5
  have eq20_6 := (X_80270.2 20 6 (by decide)).trans eq20_6
  have eq20_7 := (X_80270.2 20 7 (by decide)).trans eq20_7
  have eq20_8 := (X_80270.2 20 8 (by decide)).trans eq20_8
  have eq20_9 := (X_80270.2 20 9 (by decide)).trans eq20_9
  have fam_sc := fam_x fam_sc X_80270 (by decide)
  have fam_pa := fam_x fam_pa X_80270 (by decide)
  have nr_h := Z_80272 _ nr_h (p_h.neK p_q_80255 (by decide)) (p_h.neA p_a__80259) (p_h.neA p_a__80260)
  have nr_q_79956 := Z_80272 _ nr_q_79956 (p_q_79956.neB p_q_80255) (p_q_79956.neN p_a__80259 (by decide)) (p_q_79956.neN p_a__80260 (by decide))
  have nr_q_79978 := Z_80272 _ nr_q_79978 (p_q_79978.neB p_q_80255) (p_q_79978.neN p_a__80259 (by decide)) (p_q_79978.neN p_a__80260 (by decide))
  have hout : ∀ x, x ∈ L → NRg gl_50 ad x → NRg gl_71 ad20 x := fun x hx hn => Z_80272 x (hout x hx hn) (fun e => whkq_80255 (by rw [← e]; exact hx)) (fun e => w_80266 (by rw [← e]; exact hx)) (fun e => w_80268 (by rw [← e]; exact hx))
  have hext := hext.tr X_80270
  have eq10_34 := Y_80271
  have hkI : kp L_80257 f_80258 L_80257 f_80258 [h, q_79956, q_79978] := kp.rf
  refine pg_aast S Y (k := 3) p_q_79978 rfl p_q_80255 ok_X4.1 (by unfold vp_in; decide) dX10_init_164 (fun f_80274 H locs ef_80274 Y => ?_)
  obtain ⟨g_80273, eg_80273⟩ : ∃ z, z = va_up (g_80253) (2 : Int32).toNatClampNeg (some q_80255) := ⟨_, rfl⟩
  rw [← eg_80273] at ef_80274
  have p_h := p_h.up ef_80274 ((p_h.neA p_q_79978))
  have p_q_79956 := p_q_79956.up ef_80274 ((p_q_79956.neN p_q_79978 (by decide)))
  have p_q_80255 := p_q_80255.up ef_80274 ((p_q_80255.neA p_q_79978))
  have p_q_79978 := p_q_79978.me ef_80274
  have hk := hk.upN ef_80274 whkq_79978
  have hkI := hkI.up ef_80274 (by simp)
  have fam_pa := fam_s (i := 2) fam_pa eq10_34 eg_80273
  refine lv_iinc (v := 3) (lv' := [(1, .int 3), (0, .ref h)]) hx hb dX10_init_165 hl (k := 0) rfl (by decide) (by decide) rfl (fun ls hl => ?_)
  refine lv_goto (tgt := 146) hx hb dX10_init_168 (by decide) ?_
  refine lv_iload_n hx hb dX10_init_146 rfl (lv_at hl 0 rfl) ?_
  refine lv_bipush (v := 30) hx hb dX10_init_147 (by decide) ?_
  refine lv_icmp_ge (tgt := 171) hx hb dX10_init_149 (by decide) (fun h => absurd h (by decide)) (fun _ => ?_)
  refine lv_aload_n hx hb dX10_init_152 rfl (lv_at hl 1 rfl) ?_
  refine pg_get S Y ok_X10 4 (by decide) kf10_31 (v := .ref q_79978) p_h rfl dX10_init_153 ?_
  refine lv_iload_n hx hb dX10_init_156 rfl (lv_at hl 0 rfl) ?_
  refine pg_new S Y ok_X4 kc10_24 kn4 ki4 (fs := [.null, .null, .int 0, .int 0, .int 0, .int 0, .int 0]) (by decide) (by decide) (by decide) dX10_init_157 (fun q_80275 f_80276 H nq_80275 ef_80276 Y => ?_)
  have whkq_80275 := hk.notin nq_80275
  have hk := hk.push ef_80276 nq_80275
  have whkIq_80275 := hkI.notin nq_80275
  have hkI := hkI.push ef_80276 nq_80275
  have p_h := p_h.push ef_80276 nq_80275
  have p_q_79956 := p_q_79956.push ef_80276 nq_80275
  have p_q_79978 := p_q_79978.push ef_80276 nq_80275
  have p_q_80275 := pt.new (L := L_80257) ef_80276
  refine lv_dup hx hb dX10_init_160 rfl ?_
  refine cINv (b := q_80275) (As := []) (rest := [.ref q_80275, .int 3, .ref q_79978]) S Y (c_X4_init (l := l) p_q_80275) cw_X4_init km10_26 rfl ⟨Nat.le_of_ble_eq_true rfl, Nat.le_of_ble_eq_true rfl⟩ hl.1 rfl (Nat.le_of_ble_eq_true rfl) ⟨Nat.le_of_ble_eq_true rfl, Nat.le_of_ble_eq_true rfl⟩ dX10_init_161 (fun L_80277 f_80278 H locs hf_80278 Y => ?_)
  obtain ⟨a__80279, a__80280, kf_80278, z_z_80281, z_z_80282, z_z_80283, v_80284, v_80285⟩ := hf_80278
  have w_80286 := hk.notin v_80284
  have w_80287 := hkI.notin v_80284
  have w_80288 := hk.notin v_80285
  have w_80289 := hkI.notin v_80285
  have p_h := kf_80278.1 h _ (nmc (p_h.neK p_q_80275 (by decide)) nm0) p_h
  have p_q_79956 := kf_80278.1 q_79956 _ (nmc (p_q_79956.neB p_q_80275) nm0) p_q_79956
  have p_q_79978 := kf_80278.1 q_79978 _ (nmc (p_q_79978.neB p_q_80275) nm0) p_q_79978
  have p_q_80275 := z_z_80281
  have p_a__80279 := z_z_80282
  have p_a__80280 := z_z_80283
  have hk := hk.call kf_80278 (fun b hb hp => (nmc (neL hp whkq_80275) nm0))
  have hkI := hkI.call kf_80278 (fun b hb hp => (nmc (neL hp whkIq_80275) nm0))
  have nr_q_80275 : NRg gl_71 ad20 q_80275 := (SHC.nr I whkIq_80275)
  have nr_a__80279 : NRg gl_71 ad20 a__80279 := (SHC.nr I w_80287)
  have nr_a__80280 : NRg gl_71 ad20 a__80280 := (SHC.nr I w_80289)
  have I := I.kp hkI (allc nr_h (allc nr_q_79956 (allc nr_q_79978 all0)))
  have hkI : kp L_80277 f_80278 L_80277 f_80278 [h, q_79956, q_79978] := kp.rf
  obtain ⟨ad21, I, X_80290, Y_80291, Z_80292⟩ := SHC.led (l2 := gl_72) (n := 35) I rfl rfl rfl (by decide) rfl p_q_80275 p_a__80279 p_a__80280 nr_q_80275 nr_a__80279 nr_a__80280 
  have eq40_1 := (X_80290.2 40 1 (by decide)).trans eq40_1
  have eq41_1 := (X_80290.2 41 1 (by decide)).trans eq41_1
  have eq10_31 := (X_80290.2 10 31 (by decide)).trans eq10_31
  have eq20_5 := (X_80290.2 20 5 (by decide)).trans eq20_5
  have eq20_6 := (X_80290.2 20 6 (by decide)).trans eq20_6
  have eq20_7 := (X_80290.2 20 7 (by decide)).trans eq20_7
  have eq20_8 := (X_80290.2 20 8 (by decide)).trans eq20_8
  have eq20_9 := (X_80290.2 20 9 (by decide)).trans eq20_9
  have fam_sc := fam_x fam_sc X_80290 (by decide)
  have fam_pa := fam_x fam_pa X_80290 (by decide)
  have nr_h := Z_80292 _ nr_h (p_h.neK p_q_80275 (by decide)) (p_h.neA p_a__80279) (p_h.neA p_a__80280)
  have nr_q_79956 := Z_80292 _ nr_q_79956 (p_q_79956.neB p_q_80275) (p_q_79956.neN p_a__80279 (by decide)) (p_q_79956.neN p_a__80280 (by decide))
  have nr_q_79978 := Z_80292 _ nr_q_79978 (p_q_79978.neB p_q_80275) (p_q_79978.neN p_a__80279 (by decide)) (p_q_79978.neN p_a__80280 (by decide))
  have hout : ∀ x, x ∈ L → NRg gl_50 ad x → NRg gl_72 ad21 x := fun x hx hn => Z_80292 x (hout x hx hn) (fun e => whkq_80275 (by rw [← e]; exact hx)) (fun e => w_80286 (by rw [← e]; exact hx)) (fun e => w_80288 (by rw [← e]; exact hx))
  have hext := hext.tr X_80290
  have eq10_35 := Y_80291
  have hkI : kp L_80277 f_80278 L_80277 f_80278 [h, q_79956, q_79978] := kp.rf
  refine pg_aast S Y (k := 3) p_q_79978 rfl p_q_80275 ok_X4.1 (by unfold vp_in; decide) dX10_init_164 (fun f_80294 H locs ef_80294 Y => ?_)
  obtain ⟨g_80293, eg_80293⟩ : ∃ z, z = va_up (g_80273) (3 : Int32).toNatClampNeg (some q_80275) := ⟨_, rfl⟩
  rw [← eg_80293] at ef_80294
  have p_h := p_h.up ef_80294 ((p_h.neA p_q_79978))
  have p_q_79956 := p_q_79956.up ef_80294 ((p_q_79956.neN p_q_79978 (by decide)))
  have p_q_80275 := p_q_80275.up ef_80294 ((p_q_80275.neA p_q_79978))
  have p_q_79978 := p_q_79978.me ef_80294
  have hk := hk.upN ef_80294 whkq_79978
  have hkI := hkI.up ef_80294 (by simp)
  have fam_pa := fam_s (i := 3) fam_pa eq10_35 eg_80293
  refine lv_iinc (v := 4) (lv' := [(1, .int 4), (0, .ref h)]) hx hb dX10_init_165 hl (k := 0) rfl (by decide) (by decide) rfl (fun ls hl => ?_)
  refine lv_goto (tgt := 146) hx hb dX10_init_168 (by decide) ?_
  refine lv_iload_n hx hb dX10_init_146 rfl (lv_at hl 0 rfl) ?_
  refine lv_bipush (v := 30) hx hb dX10_init_147 (by decide) ?_
  refine lv_icmp_ge (tgt := 171) hx hb dX10_init_149 (by decide) (fun h => absurd h (by decide)) (fun _ => ?_)
  refine lv_aload_n hx hb dX10_init_152 rfl (lv_at hl 1 rfl) ?_
  refine pg_get S Y ok_X10 4 (by decide) kf10_31 (v := .ref q_79978) p_h rfl dX10_init_153 ?_
  refine lv_iload_n hx hb dX10_init_156 rfl (lv_at hl 0 rfl) ?_
  refine pg_new S Y ok_X4 kc10_24 kn4 ki4 (fs := [.null, .null, .int 0, .int 0, .int 0, .int 0, .int 0]) (by decide) (by decide) (by decide) dX10_init_157 (fun q_80295 f_80296 H nq_80295 ef_80296 Y => ?_)
  have whkq_80295 := hk.notin nq_80295
  have hk := hk.push ef_80296 nq_80295
  have whkIq_80295 := hkI.notin nq_80295
  have hkI := hkI.push ef_80296 nq_80295
  have p_h := p_h.push ef_80296 nq_80295
  have p_q_79956 := p_q_79956.push ef_80296 nq_80295
  have p_q_79978 := p_q_79978.push ef_80296 nq_80295
  have p_q_80295 := pt.new (L := L_80277) ef_80296
  refine lv_dup hx hb dX10_init_160 rfl ?_
  refine cINv (b := q_80295) (As := []) (rest := [.ref q_80295, .int 4, .ref q_79978]) S Y (c_X4_init (l := l) p_q_80295) cw_X4_init km10_26 rfl ⟨Nat.le_of_ble_eq_true rfl, Nat.le_of_ble_eq_true rfl⟩ hl.1 rfl (Nat.le_of_ble_eq_true rfl) ⟨Nat.le_of_ble_eq_true rfl, Nat.le_of_ble_eq_true rfl⟩ dX10_init_161 (fun L_80297 f_80298 H locs hf_80298 Y => ?_)
  obtain ⟨a__80299, a__80300, kf_80298, z_z_80301, z_z_80302, z_z_80303, v_80304, v_80305⟩ := hf_80298
  have w_80306 := hk.notin v_80304
  have w_80307 := hkI.notin v_80304
  have w_80308 := hk.notin v_80305
  have w_80309 := hkI.notin v_80305
  have p_h := kf_80298.1 h _ (nmc (p_h.neK p_q_80295 (by decide)) nm0) p_h
  have p_q_79956 := kf_80298.1 q_79956 _ (nmc (p_q_79956.neB p_q_80295) nm0) p_q_79956
  have p_q_79978 := kf_80298.1 q_79978 _ (nmc (p_q_79978.neB p_q_80295) nm0) p_q_79978
  have p_q_80295 := z_z_80301
  have p_a__80299 := z_z_80302
  have p_a__80300 := z_z_80303
  have hk := hk.call kf_80298 (fun b hb hp => (nmc (neL hp whkq_80295) nm0))
  have hkI := hkI.call kf_80298 (fun b hb hp => (nmc (neL hp whkIq_80295) nm0))
  have nr_q_80295 : NRg gl_72 ad21 q_80295 := (SHC.nr I whkIq_80295)
  have nr_a__80299 : NRg gl_72 ad21 a__80299 := (SHC.nr I w_80307)
  have nr_a__80300 : NRg gl_72 ad21 a__80300 := (SHC.nr I w_80309)
  have I := I.kp hkI (allc nr_h (allc nr_q_79956 (allc nr_q_79978 all0)))
  have hkI : kp L_80297 f_80298 L_80297 f_80298 [h, q_79956, q_79978] := kp.rf
  obtain ⟨ad22, I, X_80310, Y_80311, Z_80312⟩ := SHC.led (l2 := gl_73) (n := 36) I rfl rfl rfl (by decide) rfl p_q_80295 p_a__80299 p_a__80300 nr_q_80295 nr_a__80299 nr_a__80300 
  have eq40_1 := (X_80310.2 40 1 (by decide)).trans eq40_1
  have eq41_1 := (X_80310.2 41 1 (by decide)).trans eq41_1
  have eq10_31 := (X_80310.2 10 31 (by decide)).trans eq10_31
  have eq20_5 := (X_80310.2 20 5 (by decide)).trans eq20_5
  have eq20_6 := (X_80310.2 20 6 (by decide)).trans eq20_6
  have eq20_7 := (X_80310.2 20 7 (by decide)).trans eq20_7
  have eq20_8 := (X_80310.2 20 8 (by decide)).trans eq20_8
  have eq20_9 := (X_80310.2 20 9 (by decide)).trans eq20_9
  have fam_sc := fam_x fam_sc X_80310 (by decide)
  have fam_pa := fam_x fam_pa X_80310 (by decide)
  have nr_h := Z_80312 _ nr_h (p_h.neK p_q_80295 (by decide)) (p_h.neA p_a__80299) (p_h.neA p_a__80300)
  have nr_q_79956 := Z_80312 _ nr_q_79956 (p_q_79956.neB p_q_80295) (p_q_79956.neN p_a__80299 (by decide)) (p_q_79956.neN p_a__80300 (by decide))
  have nr_q_79978 := Z_80312 _ nr_q_79978 (p_q_79978.neB p_q_80295) (p_q_79978.neN p_a__80299 (by decide)) (p_q_79978.neN p_a__80300 (by decide))
  have hout : ∀ x, x ∈ L → NRg gl_50 ad x → NRg gl_73 ad22 x := fun x hx hn => Z_80312 x (hout x hx hn) (fun e => whkq_80295 (by rw [← e]; exact hx)) (fun e => w_80306 (by rw [← e]; exact hx)) (fun e => w_80308 (by rw [← e]; exact hx))
  have hext := hext.tr X_80310
  have eq10_36 := Y_80311
  have hkI : kp L_80297 f_80298 L_80297 f_80298 [h, q_79956, q_79978] := kp.rf
  refine pg_aast S Y (k := 3) p_q_79978 rfl p_q_80295 ok_X4.1 (by unfold vp_in; decide) dX10_init_164 (fun f_80314 H locs ef_80314 Y => ?_)
  obtain ⟨g_80313, eg_80313⟩ : ∃ z, z = va_up (g_80293) (4 : Int32).toNatClampNeg (some q_80295) := ⟨_, rfl⟩
  rw [← eg_80313] at ef_80314
  have p_h := p_h.up ef_80314 ((p_h.neA p_q_79978))
  have p_q_79956 := p_q_79956.up ef_80314 ((p_q_79956.neN p_q_79978 (by decide)))
  have p_q_80295 := p_q_80295.up ef_80314 ((p_q_80295.neA p_q_79978))
  have p_q_79978 := p_q_79978.me ef_80314
  have hk := hk.upN ef_80314 whkq_79978
  have hkI := hkI.up ef_80314 (by simp)
  have fam_pa := fam_s (i := 4) fam_pa eq10_36 eg_80313
  refine lv_iinc (v := 5) (lv' := [(1, .int 5), (0, .ref h)]) hx hb dX10_init_165 hl (k := 0) rfl (by decide) (by decide) rfl (fun ls hl => ?_)
  refine lv_goto (tgt := 146) hx hb dX10_init_168 (by decide) ?_
  refine lv_iload_n hx hb dX10_init_146 rfl (lv_at hl 0 rfl) ?_
  refine lv_bipush (v := 30) hx hb dX10_init_147 (by decide) ?_
  refine lv_icmp_ge (tgt := 171) hx hb dX10_init_149 (by decide) (fun h => absurd h (by decide)) (fun _ => ?_)
  refine lv_aload_n hx hb dX10_init_152 rfl (lv_at hl 1 rfl) ?_
  refine pg_get S Y ok_X10 4 (by decide) kf10_31 (v := .ref q_79978) p_h rfl dX10_init_153 ?_
  refine lv_iload_n hx hb dX10_init_156 rfl (lv_at hl 0 rfl) ?_
  refine pg_new S Y ok_X4 kc10_24 kn4 ki4 (fs := [.null, .null, .int 0, .int 0, .int 0, .int 0, .int 0]) (by decide) (by decide) (by decide) dX10_init_157 (fun q_80315 f_80316 H nq_80315 ef_80316 Y => ?_)
  have whkq_80315 := hk.notin nq_80315
  have hk := hk.push ef_80316 nq_80315
  have whkIq_80315 := hkI.notin nq_80315
  have hkI := hkI.push ef_80316 nq_80315
  have p_h := p_h.push ef_80316 nq_80315
  have p_q_79956 := p_q_79956.push ef_80316 nq_80315
  have p_q_79978 := p_q_79978.push ef_80316 nq_80315
  have p_q_80315 := pt.new (L := L_80297) ef_80316
  refine lv_dup hx hb dX10_init_160 rfl ?_
  refine cINv (b := q_80315) (As := []) (rest := [.ref q_80315, .int 5, .ref q_79978]) S Y (c_X4_init (l := l) p_q_80315) cw_X4_init km10_26 rfl ⟨Nat.le_of_ble_eq_true rfl, Nat.le_of_ble_eq_true rfl⟩ hl.1 rfl (Nat.le_of_ble_eq_true rfl) ⟨Nat.le_of_ble_eq_true rfl, Nat.le_of_ble_eq_true rfl⟩ dX10_init_161 (fun L_80317 f_80318 H locs hf_80318 Y => ?_)
  obtain ⟨a__80319, a__80320, kf_80318, z_z_80321, z_z_80322, z_z_80323, v_80324, v_80325⟩ := hf_80318
  have w_80326 := hk.notin v_80324
  have w_80327 := hkI.notin v_80324
  have w_80328 := hk.notin v_80325
  have w_80329 := hkI.notin v_80325
  have p_h := kf_80318.1 h _ (nmc (p_h.neK p_q_80315 (by decide)) nm0) p_h
  have p_q_79956 := kf_80318.1 q_79956 _ (nmc (p_q_79956.neB p_q_80315) nm0) p_q_79956
  have p_q_79978 := kf_80318.1 q_79978 _ (nmc (p_q_79978.neB p_q_80315) nm0) p_q_79978
  have p_q_80315 := z_z_80321
  have p_a__80319 := z_z_80322
  have p_a__80320 := z_z_80323
  have hk := hk.call kf_80318 (fun b hb hp => (nmc (neL hp whkq_80315) nm0))
  have hkI := hkI.call kf_80318 (fun b hb hp => (nmc (neL hp whkIq_80315) nm0))
  have nr_q_80315 : NRg gl_73 ad22 q_80315 := (SHC.nr I whkIq_80315)
  have nr_a__80319 : NRg gl_73 ad22 a__80319 := (SHC.nr I w_80327)
  have nr_a__80320 : NRg gl_73 ad22 a__80320 := (SHC.nr I w_80329)
  have I := I.kp hkI (allc nr_h (allc nr_q_79956 (allc nr_q_79978 all0)))
  have hkI : kp L_80317 f_80318 L_80317 f_80318 [h, q_79956, q_79978] := kp.rf
  obtain ⟨ad23, I, X_80330, Y_80331, Z_80332⟩ := SHC.led (l2 := gl_74) (n := 37) I rfl rfl rfl (by decide) rfl p_q_80315 p_a__80319 p_a__80320 nr_q_80315 nr_a__80319 nr_a__80320 
  have eq40_1 := (X_80330.2 40 1 (by decide)).trans eq40_1
  have eq41_1 := (X_80330.2 41 1 (by decide)).trans eq41_1
  have eq10_31 := (X_80330.2 10 31 (by decide)).trans eq10_31
  have eq20_5 := (X_80330.2 20 5 (by decide)).trans eq20_5
  have eq20_6 := (X_80330.2 20 6 (by decide)).trans eq20_6
  have eq20_7 := (X_80330.2 20 7 (by decide)).trans eq20_7
  have eq20_8 := (X_80330.2 20 8 (by decide)).trans eq20_8
  have eq20_9 := (X_80330.2 20 9 (by decide)).trans eq20_9
  have fam_sc := fam_x fam_sc X_80330 (by decide)
  have fam_pa := fam_x fam_pa X_80330 (by decide)
  have nr_h := Z_80332 _ nr_h (p_h.neK p_q_80315 (by decide)) (p_h.neA p_a__80319) (p_h.neA p_a__80320)
  have nr_q_79956 := Z_80332 _ nr_q_79956 (p_q_79956.neB p_q_80315) (p_q_79956.neN p_a__80319 (by decide)) (p_q_79956.neN p_a__80320 (by decide))
  have nr_q_79978 := Z_80332 _ nr_q_79978 (p_q_79978.neB p_q_80315) (p_q_79978.neN p_a__80319 (by decide)) (p_q_79978.neN p_a__80320 (by decide))
  have hout : ∀ x, x ∈ L → NRg gl_50 ad x → NRg gl_74 ad23 x := fun x hx hn => Z_80332 x (hout x hx hn) (fun e => whkq_80315 (by rw [← e]; exact hx)) (fun e => w_80326 (by rw [← e]; exact hx)) (fun e => w_80328 (by rw [← e]; exact hx))
  have hext := hext.tr X_80330
  have eq10_37 := Y_80331
  have hkI : kp L_80317 f_80318 L_80317 f_80318 [h, q_79956, q_79978] := kp.rf
  refine pg_aast S Y (k := 3) p_q_79978 rfl p_q_80315 ok_X4.1 (by unfold vp_in; decide) dX10_init_164 (fun f_80334 H locs ef_80334 Y => ?_)
  obtain ⟨g_80333, eg_80333⟩ : ∃ z, z = va_up (g_80313) (5 : Int32).toNatClampNeg (some q_80315) := ⟨_, rfl⟩
  rw [← eg_80333] at ef_80334
  have p_h := p_h.up ef_80334 ((p_h.neA p_q_79978))
  have p_q_79956 := p_q_79956.up ef_80334 ((p_q_79956.neN p_q_79978 (by decide)))
  have p_q_80315 := p_q_80315.up ef_80334 ((p_q_80315.neA p_q_79978))
  have p_q_79978 := p_q_79978.me ef_80334
  have hk := hk.upN ef_80334 whkq_79978
  have hkI := hkI.up ef_80334 (by simp)
  have fam_pa := fam_s (i := 5) fam_pa eq10_37 eg_80333
  refine lv_iinc (v := 6) (lv' := [(1, .int 6), (0, .ref h)]) hx hb dX10_init_165 hl (k := 0) rfl (by decide) (by decide) rfl (fun ls hl => ?_)
  refine lv_goto (tgt := 146) hx hb dX10_init_168 (by decide) ?_
  refine lv_iload_n hx hb dX10_init_146 rfl (lv_at hl 0 rfl) ?_
  refine lv_bipush (v := 30) hx hb dX10_init_147 (by decide) ?_
  refine lv_icmp_ge (tgt := 171) hx hb dX10_init_149 (by decide) (fun h => absurd h (by decide)) (fun _ => ?_)
  refine lv_aload_n hx hb dX10_init_152 rfl (lv_at hl 1 rfl) ?_
  refine pg_get S Y ok_X10 4 (by decide) kf10_31 (v := .ref q_79978) p_h rfl dX10_init_153 ?_
  refine lv_iload_n hx hb dX10_init_156 rfl (lv_at hl 0 rfl) ?_
  refine pg_new S Y ok_X4 kc10_24 kn4 ki4 (fs := [.null, .null, .int 0, .int 0, .int 0, .int 0, .int 0]) (by decide) (by decide) (by decide) dX10_init_157 (fun q_80335 f_80336 H nq_80335 ef_80336 Y => ?_)
  have whkq_80335 := hk.notin nq_80335
  have hk := hk.push ef_80336 nq_80335
  have whkIq_80335 := hkI.notin nq_80335
  have hkI := hkI.push ef_80336 nq_80335
  have p_h := p_h.push ef_80336 nq_80335
  have p_q_79956 := p_q_79956.push ef_80336 nq_80335
  have p_q_79978 := p_q_79978.push ef_80336 nq_80335
  have p_q_80335 := pt.new (L := L_80317) ef_80336
  refine lv_dup hx hb dX10_init_160 rfl ?_
  refine cINv (b := q_80335) (As := []) (rest := [.ref q_80335, .int 6, .ref q_79978]) S Y (c_X4_init (l := l) p_q_80335) cw_X4_init km10_26 rfl ⟨Nat.le_of_ble_eq_true rfl, Nat.le_of_ble_eq_true rfl⟩ hl.1 rfl (Nat.le_of_ble_eq_true rfl) ⟨Nat.le_of_ble_eq_true rfl, Nat.le_of_ble_eq_true rfl⟩ dX10_init_161 (fun L_80337 f_80338 H locs hf_80338 Y => ?_)
  obtain ⟨a__80339, a__80340, kf_80338, z_z_80341, z_z_80342, z_z_80343, v_80344, v_80345⟩ := hf_80338
  have w_80346 := hk.notin v_80344
  have w_80347 := hkI.notin v_80344
  have w_80348 := hk.notin v_80345
  have w_80349 := hkI.notin v_80345
  have p_h := kf_80338.1 h _ (nmc (p_h.neK p_q_80335 (by decide)) nm0) p_h
  have p_q_79956 := kf_80338.1 q_79956 _ (nmc (p_q_79956.neB p_q_80335) nm0) p_q_79956
  have p_q_79978 := kf_80338.1 q_79978 _ (nmc (p_q_79978.neB p_q_80335) nm0) p_q_79978
  have p_q_80335 := z_z_80341
  have p_a__80339 := z_z_80342
  have p_a__80340 := z_z_80343
  have hk := hk.call kf_80338 (fun b hb hp => (nmc (neL hp whkq_80335) nm0))
  have hkI := hkI.call kf_80338 (fun b hb hp => (nmc (neL hp whkIq_80335) nm0))
  have nr_q_80335 : NRg gl_74 ad23 q_80335 := (SHC.nr I whkIq_80335)
  have nr_a__80339 : NRg gl_74 ad23 a__80339 := (SHC.nr I w_80347)
  have nr_a__80340 : NRg gl_74 ad23 a__80340 := (SHC.nr I w_80349)
  have I := I.kp hkI (allc nr_h (allc nr_q_79956 (allc nr_q_79978 all0)))
  have hkI : kp L_80337 f_80338 L_80337 f_80338 [h, q_79956, q_79978] := kp.rf
  obtain ⟨ad24, I, X_80350, Y_80351, Z_80352⟩ := SHC.led (l2 := gl_75) (n := 38) I rfl rfl rfl (by decide) rfl p_q_80335 p_a__80339 p_a__80340 nr_q_80335 nr_a__80339 nr_a__80340 
  have eq40_1 := (X_80350.2 40 1 (by decide)).trans eq40_1
  have eq41_1 := (X_80350.2 41 1 (by decide)).trans eq41_1
  have eq10_31 := (X_80350.2 10 31 (by decide)).trans eq10_31
  have eq20_5 := (X_80350.2 20 5 (by decide)).trans eq20_5
  have eq20_6 := (X_80350.2 20 6 (by decide)).trans eq20_6
  have eq20_7 := (X_80350.2 20 7 (by decide)).trans eq20_7
  have eq20_8 := (X_80350.2 20 8 (by decide)).trans eq20_8
  have eq20_9 := (X_80350.2 20 9 (by decide)).trans eq20_9
  have fam_sc := fam_x fam_sc X_80350 (by decide)
  have fam_pa := fam_x fam_pa X_80350 (by decide)
  have nr_h := Z_80352 _ nr_h (p_h.neK p_q_80335 (by decide)) (p_h.neA p_a__80339) (p_h.neA p_a__80340)
  have nr_q_79956 := Z_80352 _ nr_q_79956 (p_q_79956.neB p_q_80335) (p_q_79956.neN p_a__80339 (by decide)) (p_q_79956.neN p_a__80340 (by decide))
  have nr_q_79978 := Z_80352 _ nr_q_79978 (p_q_79978.neB p_q_80335) (p_q_79978.neN p_a__80339 (by decide)) (p_q_79978.neN p_a__80340 (by decide))
  have hout : ∀ x, x ∈ L → NRg gl_50 ad x → NRg gl_75 ad24 x := fun x hx hn => Z_80352 x (hout x hx hn) (fun e => whkq_80335 (by rw [← e]; exact hx)) (fun e => w_80346 (by rw [← e]; exact hx)) (fun e => w_80348 (by rw [← e]; exact hx))
  have hext := hext.tr X_80350
  have eq10_38 := Y_80351
  have hkI : kp L_80337 f_80338 L_80337 f_80338 [h, q_79956, q_79978] := kp.rf
  refine pg_aast S Y (k := 3) p_q_79978 rfl p_q_80335 ok_X4.1 (by unfold vp_in; decide) dX10_init_164 (fun f_80354 H locs ef_80354 Y => ?_)
  obtain ⟨g_80353, eg_80353⟩ : ∃ z, z = va_up (g_80333) (6 : Int32).toNatClampNeg (some q_80335) := ⟨_, rfl⟩
  rw [← eg_80353] at ef_80354
  have p_h := p_h.up ef_80354 ((p_h.neA p_q_79978))
  have p_q_79956 := p_q_79956.up ef_80354 ((p_q_79956.neN p_q_79978 (by decide)))
  have p_q_80335 := p_q_80335.up ef_80354 ((p_q_80335.neA p_q_79978))
  have p_q_79978 := p_q_79978.me ef_80354
  have hk := hk.upN ef_80354 whkq_79978
  have hkI := hkI.up ef_80354 (by simp)
  have fam_pa := fam_s (i := 6) fam_pa eq10_38 eg_80353
  refine lv_iinc (v := 7) (lv' := [(1, .int 7), (0, .ref h)]) hx hb dX10_init_165 hl (k := 0) rfl (by decide) (by decide) rfl (fun ls hl => ?_)
  refine lv_goto (tgt := 146) hx hb dX10_init_168 (by decide) ?_
  refine lv_iload_n hx hb dX10_init_146 rfl (lv_at hl 0 rfl) ?_
  refine lv_bipush (v := 30) hx hb dX10_init_147 (by decide) ?_
  refine lv_icmp_ge (tgt := 171) hx hb dX10_init_149 (by decide) (fun h => absurd h (by decide)) (fun _ => ?_)
  refine lv_aload_n hx hb dX10_init_152 rfl (lv_at hl 1 rfl) ?_
  refine pg_get S Y ok_X10 4 (by decide) kf10_31 (v := .ref q_79978) p_h rfl dX10_init_153 ?_
  refine lv_iload_n hx hb dX10_init_156 rfl (lv_at hl 0 rfl) ?_
  refine pg_new S Y ok_X4 kc10_24 kn4 ki4 (fs := [.null, .null, .int 0, .int 0, .int 0, .int 0, .int 0]) (by decide) (by decide) (by decide) dX10_init_157 (fun q_80355 f_80356 H nq_80355 ef_80356 Y => ?_)
  have whkq_80355 := hk.notin nq_80355
  have hk := hk.push ef_80356 nq_80355
  have whkIq_80355 := hkI.notin nq_80355
  have hkI := hkI.push ef_80356 nq_80355
  have p_h := p_h.push ef_80356 nq_80355
  have p_q_79956 := p_q_79956.push ef_80356 nq_80355
  have p_q_79978 := p_q_79978.push ef_80356 nq_80355
  have p_q_80355 := pt.new (L := L_80337) ef_80356
  refine lv_dup hx hb dX10_init_160 rfl ?_
  refine cINv (b := q_80355) (As := []) (rest := [.ref q_80355, .int 7, .ref q_79978]) S Y (c_X4_init (l := l) p_q_80355) cw_X4_init km10_26 rfl ⟨Nat.le_of_ble_eq_true rfl, Nat.le_of_ble_eq_true rfl⟩ hl.1 rfl (Nat.le_of_ble_eq_true rfl) ⟨Nat.le_of_ble_eq_true rfl, Nat.le_of_ble_eq_true rfl⟩ dX10_init_161 (fun L_80357 f_80358 H locs hf_80358 Y => ?_)
  obtain ⟨a__80359, a__80360, kf_80358, z_z_80361, z_z_80362, z_z_80363, v_80364, v_80365⟩ := hf_80358
  have w_80366 := hk.notin v_80364
  have w_80367 := hkI.notin v_80364
  have w_80368 := hk.notin v_80365
  have w_80369 := hkI.notin v_80365
  have p_h := kf_80358.1 h _ (nmc (p_h.neK p_q_80355 (by decide)) nm0) p_h
  have p_q_79956 := kf_80358.1 q_79956 _ (nmc (p_q_79956.neB p_q_80355) nm0) p_q_79956
  have p_q_79978 := kf_80358.1 q_79978 _ (nmc (p_q_79978.neB p_q_80355) nm0) p_q_79978
  have p_q_80355 := z_z_80361
  have p_a__80359 := z_z_80362
  have p_a__80360 := z_z_80363
  have hk := hk.call kf_80358 (fun b hb hp => (nmc (neL hp whkq_80355) nm0))
  have hkI := hkI.call kf_80358 (fun b hb hp => (nmc (neL hp whkIq_80355) nm0))
  have nr_q_80355 : NRg gl_75 ad24 q_80355 := (SHC.nr I whkIq_80355)
  have nr_a__80359 : NRg gl_75 ad24 a__80359 := (SHC.nr I w_80367)
  have nr_a__80360 : NRg gl_75 ad24 a__80360 := (SHC.nr I w_80369)
  have I := I.kp hkI (allc nr_h (allc nr_q_79956 (allc nr_q_79978 all0)))
  have hkI : kp L_80357 f_80358 L_80357 f_80358 [h, q_79956, q_79978] := kp.rf
  obtain ⟨ad25, I, X_80370, Y_80371, Z_80372⟩ := SHC.led (l2 := gl_76) (n := 39) I rfl rfl rfl (by decide) rfl p_q_80355 p_a__80359 p_a__80360 nr_q_80355 nr_a__80359 nr_a__80360 
  have eq40_1 := (X_80370.2 40 1 (by decide)).trans eq40_1
  have eq41_1 := (X_80370.2 41 1 (by decide)).trans eq41_1
  have eq10_31 := (X_80370.2 10 31 (by decide)).trans eq10_31
  have eq20_5 := (X_80370.2 20 5 (by decide)).trans eq20_5
  have eq20_6 := (X_80370.2 20 6 (by decide)).trans eq20_6
  have eq20_7 := (X_80370.2 20 7 (by decide)).trans eq20_7
  have eq20_8 := (X_80370.2 20 8 (by decide)).trans eq20_8
  have eq20_9 := (X_80370.2 20 9 (by decide)).trans eq20_9
  have fam_sc := fam_x fam_sc X_80370 (by decide)
  have fam_pa := fam_x fam_pa X_80370 (by decide)
  have nr_h := Z_80372 _ nr_h (p_h.neK p_q_80355 (by decide)) (p_h.neA p_a__80359) (p_h.neA p_a__80360)
  have nr_q_79956 := Z_80372 _ nr_q_79956 (p_q_79956.neB p_q_80355) (p_q_79956.neN p_a__80359 (by decide)) (p_q_79956.neN p_a__80360 (by decide))
  have nr_q_79978 := Z_80372 _ nr_q_79978 (p_q_79978.neB p_q_80355) (p_q_79978.neN p_a__80359 (by decide)) (p_q_79978.neN p_a__80360 (by decide))
  have hout : ∀ x, x ∈ L → NRg gl_50 ad x → NRg gl_76 ad25 x := fun x hx hn => Z_80372 x (hout x hx hn) (fun e => whkq_80355 (by rw [← e]; exact hx)) (fun e => w_80366 (by rw [← e]; exact hx)) (fun e => w_80368 (by rw [← e]; exact hx))
  have hext := hext.tr X_80370
  have eq10_39 := Y_80371
  have hkI : kp L_80357 f_80358 L_80357 f_80358 [h, q_79956, q_79978] := kp.rf
  refine pg_aast S Y (k := 3) p_q_79978 rfl p_q_80355 ok_X4.1 (by unfold vp_in; decide) dX10_init_164 (fun f_80374 H locs ef_80374 Y => ?_)
  obtain ⟨g_80373, eg_80373⟩ : ∃ z, z = va_up (g_80353) (7 : Int32).toNatClampNeg (some q_80355) := ⟨_, rfl⟩
  rw [← eg_80373] at ef_80374
  have p_h := p_h.up ef_80374 ((p_h.neA p_q_79978))
  have p_q_79956 := p_q_79956.up ef_80374 ((p_q_79956.neN p_q_79978 (by decide)))
  have p_q_80355 := p_q_80355.up ef_80374 ((p_q_80355.neA p_q_79978))
  have p_q_79978 := p_q_79978.me ef_80374
  have hk := hk.upN ef_80374 whkq_79978
  have hkI := hkI.up ef_80374 (by simp)
  have fam_pa := fam_s (i := 7) fam_pa eq10_39 eg_80373
  refine lv_iinc (v := 8) (lv' := [(1, .int 8), (0, .ref h)]) hx hb dX10_init_165 hl (k := 0) rfl (by decide) (by decide) rfl (fun ls hl => ?_)
  refine lv_goto (tgt := 146) hx hb dX10_init_168 (by decide) ?_
  refine lv_iload_n hx hb dX10_init_146 rfl (lv_at hl 0 rfl) ?_
  refine lv_bipush (v := 30) hx hb dX10_init_147 (by decide) ?_
  refine lv_icmp_ge (tgt := 171) hx hb dX10_init_149 (by decide) (fun h => absurd h (by decide)) (fun _ => ?_)
  refine lv_aload_n hx hb dX10_init_152 rfl (lv_at hl 1 rfl) ?_
  refine pg_get S Y ok_X10 4 (by decide) kf10_31 (v := .ref q_79978) p_h rfl dX10_init_153 ?_
  refine lv_iload_n hx hb dX10_init_156 rfl (lv_at hl 0 rfl) ?_
  refine pg_new S Y ok_X4 kc10_24 kn4 ki4 (fs := [.null, .null, .int 0, .int 0, .int 0, .int 0, .int 0]) (by decide) (by decide) (by decide) dX10_init_157 (fun q_80375 f_80376 H nq_80375 ef_80376 Y => ?_)
  have whkq_80375 := hk.notin nq_80375
  have hk := hk.push ef_80376 nq_80375
  have whkIq_80375 := hkI.notin nq_80375
  have hkI := hkI.push ef_80376 nq_80375
  have p_h := p_h.push ef_80376 nq_80375
  have p_q_79956 := p_q_79956.push ef_80376 nq_80375
  have p_q_79978 := p_q_79978.push ef_80376 nq_80375
  have p_q_80375 := pt.new (L := L_80357) ef_80376
  refine lv_dup hx hb dX10_init_160 rfl ?_
  refine cINv (b := q_80375) (As := []) (rest := [.ref q_80375, .int 8, .ref q_79978]) S Y (c_X4_init (l := l) p_q_80375) cw_X4_init km10_26 rfl ⟨Nat.le_of_ble_eq_true rfl, Nat.le_of_ble_eq_true rfl⟩ hl.1 rfl (Nat.le_of_ble_eq_true rfl) ⟨Nat.le_of_ble_eq_true rfl, Nat.le_of_ble_eq_true rfl⟩ dX10_init_161 (fun L_80377 f_80378 H locs hf_80378 Y => ?_)
  obtain ⟨a__80379, a__80380, kf_80378, z_z_80381, z_z_80382, z_z_80383, v_80384, v_80385⟩ := hf_80378
  have w_80386 := hk.notin v_80384
  have w_80387 := hkI.notin v_80384
  have w_80388 := hk.notin v_80385
  have w_80389 := hkI.notin v_80385
  have p_h := kf_80378.1 h _ (nmc (p_h.neK p_q_80375 (by decide)) nm0) p_h
  have p_q_79956 := kf_80378.1 q_79956 _ (nmc (p_q_79956.neB p_q_80375) nm0) p_q_79956
  have p_q_79978 := kf_80378.1 q_79978 _ (nmc (p_q_79978.neB p_q_80375) nm0) p_q_79978
  have p_q_80375 := z_z_80381
  have p_a__80379 := z_z_80382
  have p_a__80380 := z_z_80383
  have hk := hk.call kf_80378 (fun b hb hp => (nmc (neL hp whkq_80375) nm0))
  have hkI := hkI.call kf_80378 (fun b hb hp => (nmc (neL hp whkIq_80375) nm0))
  have nr_q_80375 : NRg gl_76 ad25 q_80375 := (SHC.nr I whkIq_80375)
  have nr_a__80379 : NRg gl_76 ad25 a__80379 := (SHC.nr I w_80387)
  have nr_a__80380 : NRg gl_76 ad25 a__80380 := (SHC.nr I w_80389)
  have I := I.kp hkI (allc nr_h (allc nr_q_79956 (allc nr_q_79978 all0)))
  have hkI : kp L_80377 f_80378 L_80377 f_80378 [h, q_79956, q_79978] := kp.rf
  obtain ⟨ad26, I, X_80390, Y_80391, Z_80392⟩ := SHC.led (l2 := gl_77) (n := 40) I rfl rfl rfl (by decide) rfl p_q_80375 p_a__80379 p_a__80380 nr_q_80375 nr_a__80379 nr_a__80380 
  have eq40_1 := (X_80390.2 40 1 (by decide)).trans eq40_1
  have eq41_1 := (X_80390.2 41 1 (by decide)).trans eq41_1
  have eq10_31 := (X_80390.2 10 31 (by decide)).trans eq10_31
  have eq20_5 := (X_80390.2 20 5 (by decide)).trans eq20_5
  have eq20_6 := (X_80390.2 20 6 (by decide)).trans eq20_6
  have eq20_7 := (X_80390.2 20 7 (by decide)).trans eq20_7
  have eq20_8 := (X_80390.2 20 8 (by decide)).trans eq20_8
  have eq20_9 := (X_80390.2 20 9 (by decide)).trans eq20_9
  have fam_sc := fam_x fam_sc X_80390 (by decide)
  have fam_pa := fam_x fam_pa X_80390 (by decide)
  have nr_h := Z_80392 _ nr_h (p_h.neK p_q_80375 (by decide)) (p_h.neA p_a__80379) (p_h.neA p_a__80380)
  have nr_q_79956 := Z_80392 _ nr_q_79956 (p_q_79956.neB p_q_80375) (p_q_79956.neN p_a__80379 (by decide)) (p_q_79956.neN p_a__80380 (by decide))
  have nr_q_79978 := Z_80392 _ nr_q_79978 (p_q_79978.neB p_q_80375) (p_q_79978.neN p_a__80379 (by decide)) (p_q_79978.neN p_a__80380 (by decide))
  have hout : ∀ x, x ∈ L → NRg gl_50 ad x → NRg gl_77 ad26 x := fun x hx hn => Z_80392 x (hout x hx hn) (fun e => whkq_80375 (by rw [← e]; exact hx)) (fun e => w_80386 (by rw [← e]; exact hx)) (fun e => w_80388 (by rw [← e]; exact hx))
  have hext := hext.tr X_80390
  have eq10_40 := Y_80391
  have hkI : kp L_80377 f_80378 L_80377 f_80378 [h, q_79956, q_79978] := kp.rf
  refine pg_aast S Y (k := 3) p_q_79978 rfl p_q_80375 ok_X4.1 (by unfold vp_in; decide) dX10_init_164 (fun f_80394 H locs ef_80394 Y => ?_)
  obtain ⟨g_80393, eg_80393⟩ : ∃ z, z = va_up (g_80373) (8 : Int32).toNatClampNeg (some q_80375) := ⟨_, rfl⟩
  rw [← eg_80393] at ef_80394
  have p_h := p_h.up ef_80394 ((p_h.neA p_q_79978))
  have p_q_79956 := p_q_79956.up ef_80394 ((p_q_79956.neN p_q_79978 (by decide)))
  have p_q_80375 := p_q_80375.up ef_80394 ((p_q_80375.neA p_q_79978))
  have p_q_79978 := p_q_79978.me ef_80394
  have hk := hk.upN ef_80394 whkq_79978
  have hkI := hkI.up ef_80394 (by simp)
  have fam_pa := fam_s (i := 8) fam_pa eq10_40 eg_80393
  refine lv_iinc (v := 9) (lv' := [(1, .int 9), (0, .ref h)]) hx hb dX10_init_165 hl (k := 0) rfl (by decide) (by decide) rfl (fun ls hl => ?_)
  refine lv_goto (tgt := 146) hx hb dX10_init_168 (by decide) ?_
  refine lv_iload_n hx hb dX10_init_146 rfl (lv_at hl 0 rfl) ?_
  refine lv_bipush (v := 30) hx hb dX10_init_147 (by decide) ?_
  refine lv_icmp_ge (tgt := 171) hx hb dX10_init_149 (by decide) (fun h => absurd h (by decide)) (fun _ => ?_)
  refine lv_aload_n hx hb dX10_init_152 rfl (lv_at hl 1 rfl) ?_
  refine pg_get S Y ok_X10 4 (by decide) kf10_31 (v := .ref q_79978) p_h rfl dX10_init_153 ?_
  refine lv_iload_n hx hb dX10_init_156 rfl (lv_at hl 0 rfl) ?_
  refine pg_new S Y ok_X4 kc10_24 kn4 ki4 (fs := [.null, .null, .int 0, .int 0, .int 0, .int 0, .int 0]) (by decide) (by decide) (by decide) dX10_init_157 (fun q_80395 f_80396 H nq_80395 ef_80396 Y => ?_)
  have whkq_80395 := hk.notin nq_80395
  have hk := hk.push ef_80396 nq_80395
  have whkIq_80395 := hkI.notin nq_80395
  have hkI := hkI.push ef_80396 nq_80395
  have p_h := p_h.push ef_80396 nq_80395
  have p_q_79956 := p_q_79956.push ef_80396 nq_80395
  have p_q_79978 := p_q_79978.push ef_80396 nq_80395
  have p_q_80395 := pt.new (L := L_80377) ef_80396
  refine lv_dup hx hb dX10_init_160 rfl ?_
  refine cINv (b := q_80395) (As := []) (rest := [.ref q_80395, .int 9, .ref q_79978]) S Y (c_X4_init (l := l) p_q_80395) cw_X4_init km10_26 rfl ⟨Nat.le_of_ble_eq_true rfl, Nat.le_of_ble_eq_true rfl⟩ hl.1 rfl (Nat.le_of_ble_eq_true rfl) ⟨Nat.le_of_ble_eq_true rfl, Nat.le_of_ble_eq_true rfl⟩ dX10_init_161 (fun L_80397 f_80398 H locs hf_80398 Y => ?_)
  obtain ⟨a__80399, a__80400, kf_80398, z_z_80401, z_z_80402, z_z_80403, v_80404, v_80405⟩ := hf_80398
  have w_80406 := hk.notin v_80404
  have w_80407 := hkI.notin v_80404
  have w_80408 := hk.notin v_80405
  have w_80409 := hkI.notin v_80405
  have p_h := kf_80398.1 h _ (nmc (p_h.neK p_q_80395 (by decide)) nm0) p_h
  have p_q_79956 := kf_80398.1 q_79956 _ (nmc (p_q_79956.neB p_q_80395) nm0) p_q_79956
  have p_q_79978 := kf_80398.1 q_79978 _ (nmc (p_q_79978.neB p_q_80395) nm0) p_q_79978
  have p_q_80395 := z_z_80401
  have p_a__80399 := z_z_80402
  have p_a__80400 := z_z_80403
  have hk := hk.call kf_80398 (fun b hb hp => (nmc (neL hp whkq_80395) nm0))
  have hkI := hkI.call kf_80398 (fun b hb hp => (nmc (neL hp whkIq_80395) nm0))
  have nr_q_80395 : NRg gl_77 ad26 q_80395 := (SHC.nr I whkIq_80395)
  have nr_a__80399 : NRg gl_77 ad26 a__80399 := (SHC.nr I w_80407)
  have nr_a__80400 : NRg gl_77 ad26 a__80400 := (SHC.nr I w_80409)
  have I := I.kp hkI (allc nr_h (allc nr_q_79956 (allc nr_q_79978 all0)))
  have hkI : kp L_80397 f_80398 L_80397 f_80398 [h, q_79956, q_79978] := kp.rf
  obtain ⟨ad27, I, X_80410, Y_80411, Z_80412⟩ := SHC.led (l2 := gl_78) (n := 41) I rfl rfl rfl (by decide) rfl p_q_80395 p_a__80399 p_a__80400 nr_q_80395 nr_a__80399 nr_a__80400 
  have eq40_1 := (X_80410.2 40 1 (by decide)).trans eq40_1
  have eq41_1 := (X_80410.2 41 1 (by decide)).trans eq41_1
  have eq10_31 := (X_80410.2 10 31 (by decide)).trans eq10_31
  have eq20_5 := (X_80410.2 20 5 (by decide)).trans eq20_5
  have eq20_6 := (X_80410.2 20 6 (by decide)).trans eq20_6
  have eq20_7 := (X_80410.2 20 7 (by decide)).trans eq20_7
  have eq20_8 := (X_80410.2 20 8 (by decide)).trans eq20_8
  have eq20_9 := (X_80410.2 20 9 (by decide)).trans eq20_9
  have fam_sc := fam_x fam_sc X_80410 (by decide)
  have fam_pa := fam_x fam_pa X_80410 (by decide)
  have nr_h := Z_80412 _ nr_h (p_h.neK p_q_80395 (by decide)) (p_h.neA p_a__80399) (p_h.neA p_a__80400)
  have nr_q_79956 := Z_80412 _ nr_q_79956 (p_q_79956.neB p_q_80395) (p_q_79956.neN p_a__80399 (by decide)) (p_q_79956.neN p_a__80400 (by decide))
  have nr_q_79978 := Z_80412 _ nr_q_79978 (p_q_79978.neB p_q_80395) (p_q_79978.neN p_a__80399 (by decide)) (p_q_79978.neN p_a__80400 (by decide))
  have hout : ∀ x, x ∈ L → NRg gl_50 ad x → NRg gl_78 ad27 x := fun x hx hn => Z_80412 x (hout x hx hn) (fun e => whkq_80395 (by rw [← e]; exact hx)) (fun e => w_80406 (by rw [← e]; exact hx)) (fun e => w_80408 (by rw [← e]; exact hx))
  have hext := hext.tr X_80410
  have eq10_41 := Y_80411
  have hkI : kp L_80397 f_80398 L_80397 f_80398 [h, q_79956, q_79978] := kp.rf
  refine pg_aast S Y (k := 3) p_q_79978 rfl p_q_80395 ok_X4.1 (by unfold vp_in; decide) dX10_init_164 (fun f_80414 H locs ef_80414 Y => ?_)
  obtain ⟨g_80413, eg_80413⟩ : ∃ z, z = va_up (g_80393) (9 : Int32).toNatClampNeg (some q_80395) := ⟨_, rfl⟩
  rw [← eg_80413] at ef_80414
  have p_h := p_h.up ef_80414 ((p_h.neA p_q_79978))
  have p_q_79956 := p_q_79956.up ef_80414 ((p_q_79956.neN p_q_79978 (by decide)))
  have p_q_80395 := p_q_80395.up ef_80414 ((p_q_80395.neA p_q_79978))
  have p_q_79978 := p_q_79978.me ef_80414
  have hk := hk.upN ef_80414 whkq_79978
  have hkI := hkI.up ef_80414 (by simp)
  have fam_pa := fam_s (i := 9) fam_pa eq10_41 eg_80413
  refine lv_iinc (v := 10) (lv' := [(1, .int 10), (0, .ref h)]) hx hb dX10_init_165 hl (k := 0) rfl (by decide) (by decide) rfl (fun ls hl => ?_)
  refine lv_goto (tgt := 146) hx hb dX10_init_168 (by decide) ?_
  refine lv_iload_n hx hb dX10_init_146 rfl (lv_at hl 0 rfl) ?_
  refine lv_bipush (v := 30) hx hb dX10_init_147 (by decide) ?_
  refine lv_icmp_ge (tgt := 171) hx hb dX10_init_149 (by decide) (fun h => absurd h (by decide)) (fun _ => ?_)
  refine lv_aload_n hx hb dX10_init_152 rfl (lv_at hl 1 rfl) ?_
  refine pg_get S Y ok_X10 4 (by decide) kf10_31 (v := .ref q_79978) p_h rfl dX10_init_153 ?_
  refine lv_iload_n hx hb dX10_init_156 rfl (lv_at hl 0 rfl) ?_
  refine pg_new S Y ok_X4 kc10_24 kn4 ki4 (fs := [.null, .null, .int 0, .int 0, .int 0, .int 0, .int 0]) (by decide) (by decide) (by decide) dX10_init_157 (fun q_80415 f_80416 H nq_80415 ef_80416 Y => ?_)
  have whkq_80415 := hk.notin nq_80415
  have hk := hk.push ef_80416 nq_80415
  have whkIq_80415 := hkI.notin nq_80415
  have hkI := hkI.push ef_80416 nq_80415
  have p_h := p_h.push ef_80416 nq_80415
  have p_q_79956 := p_q_79956.push ef_80416 nq_80415
  have p_q_79978 := p_q_79978.push ef_80416 nq_80415
  have p_q_80415 := pt.new (L := L_80397) ef_80416
  refine lv_dup hx hb dX10_init_160 rfl ?_
  refine cINv (b := q_80415) (As := []) (rest := [.ref q_80415, .int 10, .ref q_79978]) S Y (c_X4_init (l := l) p_q_80415) cw_X4_init km10_26 rfl ⟨Nat.le_of_ble_eq_true rfl, Nat.le_of_ble_eq_true rfl⟩ hl.1 rfl (Nat.le_of_ble_eq_true rfl) ⟨Nat.le_of_ble_eq_true rfl, Nat.le_of_ble_eq_true rfl⟩ dX10_init_161 (fun L_80417 f_80418 H locs hf_80418 Y => ?_)
  obtain ⟨a__80419, a__80420, kf_80418, z_z_80421, z_z_80422, z_z_80423, v_80424, v_80425⟩ := hf_80418
  have w_80426 := hk.notin v_80424
  have w_80427 := hkI.notin v_80424
  have w_80428 := hk.notin v_80425
  have w_80429 := hkI.notin v_80425
  have p_h := kf_80418.1 h _ (nmc (p_h.neK p_q_80415 (by decide)) nm0) p_h
  have p_q_79956 := kf_80418.1 q_79956 _ (nmc (p_q_79956.neB p_q_80415) nm0) p_q_79956
  have p_q_79978 := kf_80418.1 q_79978 _ (nmc (p_q_79978.neB p_q_80415) nm0) p_q_79978
  have p_q_80415 := z_z_80421
  have p_a__80419 := z_z_80422
  have p_a__80420 := z_z_80423
  have hk := hk.call kf_80418 (fun b hb hp => (nmc (neL hp whkq_80415) nm0))
  have hkI := hkI.call kf_80418 (fun b hb hp => (nmc (neL hp whkIq_80415) nm0))
  have nr_q_80415 : NRg gl_78 ad27 q_80415 := (SHC.nr I whkIq_80415)
  have nr_a__80419 : NRg gl_78 ad27 a__80419 := (SHC.nr I w_80427)
  have nr_a__80420 : NRg gl_78 ad27 a__80420 := (SHC.nr I w_80429)
  have I := I.kp hkI (allc nr_h (allc nr_q_79956 (allc nr_q_79978 all0)))
  have hkI : kp L_80417 f_80418 L_80417 f_80418 [h, q_79956, q_79978] := kp.rf
  obtain ⟨ad28, I, X_80430, Y_80431, Z_80432⟩ := SHC.led (l2 := gl_79) (n := 42) I rfl rfl rfl (by decide) rfl p_q_80415 p_a__80419 p_a__80420 nr_q_80415 nr_a__80419 nr_a__80420 
  have eq40_1 := (X_80430.2 40 1 (by decide)).trans eq40_1
  have eq41_1 := (X_80430.2 41 1 (by decide)).trans eq41_1
  have eq10_31 := (X_80430.2 10 31 (by decide)).trans eq10_31
  have eq20_5 := (X_80430.2 20 5 (by decide)).trans eq20_5
  have eq20_6 := (X_80430.2 20 6 (by decide)).trans eq20_6
  have eq20_7 := (X_80430.2 20 7 (by decide)).trans eq20_7
  have eq20_8 := (X_80430.2 20 8 (by decide)).trans eq20_8
  have eq20_9 := (X_80430.2 20 9 (by decide)).trans eq20_9
  have fam_sc := fam_x fam_sc X_80430 (by decide)
  have fam_pa := fam_x fam_pa X_80430 (by decide)
  have nr_h := Z_80432 _ nr_h (p_h.neK p_q_80415 (by decide)) (p_h.neA p_a__80419) (p_h.neA p_a__80420)
  have nr_q_79956 := Z_80432 _ nr_q_79956 (p_q_79956.neB p_q_80415) (p_q_79956.neN p_a__80419 (by decide)) (p_q_79956.neN p_a__80420 (by decide))
  have nr_q_79978 := Z_80432 _ nr_q_79978 (p_q_79978.neB p_q_80415) (p_q_79978.neN p_a__80419 (by decide)) (p_q_79978.neN p_a__80420 (by decide))
  have hout : ∀ x, x ∈ L → NRg gl_50 ad x → NRg gl_79 ad28 x := fun x hx hn => Z_80432 x (hout x hx hn) (fun e => whkq_80415 (by rw [← e]; exact hx)) (fun e => w_80426 (by rw [← e]; exact hx)) (fun e => w_80428 (by rw [← e]; exact hx))
  have hext := hext.tr X_80430
  have eq10_42 := Y_80431
  have hkI : kp L_80417 f_80418 L_80417 f_80418 [h, q_79956, q_79978] := kp.rf
  refine pg_aast S Y (k := 3) p_q_79978 rfl p_q_80415 ok_X4.1 (by unfold vp_in; decide) dX10_init_164 (fun f_80434 H locs ef_80434 Y => ?_)
  obtain ⟨g_80433, eg_80433⟩ : ∃ z, z = va_up (g_80413) (10 : Int32).toNatClampNeg (some q_80415) := ⟨_, rfl⟩
  rw [← eg_80433] at ef_80434
  have p_h := p_h.up ef_80434 ((p_h.neA p_q_79978))
  have p_q_79956 := p_q_79956.up ef_80434 ((p_q_79956.neN p_q_79978 (by decide)))
  have p_q_80415 := p_q_80415.up ef_80434 ((p_q_80415.neA p_q_79978))
  have p_q_79978 := p_q_79978.me ef_80434
  have hk := hk.upN ef_80434 whkq_79978
  have hkI := hkI.up ef_80434 (by simp)
  have fam_pa := fam_s (i := 10) fam_pa eq10_42 eg_80433
  refine lv_iinc (v := 11) (lv' := [(1, .int 11), (0, .ref h)]) hx hb dX10_init_165 hl (k := 0) rfl (by decide) (by decide) rfl (fun ls hl => ?_)
  refine lv_goto (tgt := 146) hx hb dX10_init_168 (by decide) ?_
  refine lv_iload_n hx hb dX10_init_146 rfl (lv_at hl 0 rfl) ?_
  refine lv_bipush (v := 30) hx hb dX10_init_147 (by decide) ?_
  refine lv_icmp_ge (tgt := 171) hx hb dX10_init_149 (by decide) (fun h => absurd h (by decide)) (fun _ => ?_)
  refine lv_aload_n hx hb dX10_init_152 rfl (lv_at hl 1 rfl) ?_
  refine pg_get S Y ok_X10 4 (by decide) kf10_31 (v := .ref q_79978) p_h rfl dX10_init_153 ?_
  refine lv_iload_n hx hb dX10_init_156 rfl (lv_at hl 0 rfl) ?_
  refine pg_new S Y ok_X4 kc10_24 kn4 ki4 (fs := [.null, .null, .int 0, .int 0, .int 0, .int 0, .int 0]) (by decide) (by decide) (by decide) dX10_init_157 (fun q_80435 f_80436 H nq_80435 ef_80436 Y => ?_)
  have whkq_80435 := hk.notin nq_80435
  have hk := hk.push ef_80436 nq_80435
  have whkIq_80435 := hkI.notin nq_80435
  have hkI := hkI.push ef_80436 nq_80435
  have p_h := p_h.push ef_80436 nq_80435
  have p_q_79956 := p_q_79956.push ef_80436 nq_80435
  have p_q_79978 := p_q_79978.push ef_80436 nq_80435
  have p_q_80435 := pt.new (L := L_80417) ef_80436
  refine lv_dup hx hb dX10_init_160 rfl ?_
  refine cINv (b := q_80435) (As := []) (rest := [.ref q_80435, .int 11, .ref q_79978]) S Y (c_X4_init (l := l) p_q_80435) cw_X4_init km10_26 rfl ⟨Nat.le_of_ble_eq_true rfl, Nat.le_of_ble_eq_true rfl⟩ hl.1 rfl (Nat.le_of_ble_eq_true rfl) ⟨Nat.le_of_ble_eq_true rfl, Nat.le_of_ble_eq_true rfl⟩ dX10_init_161 (fun L_80437 f_80438 H locs hf_80438 Y => ?_)
  obtain ⟨a__80439, a__80440, kf_80438, z_z_80441, z_z_80442, z_z_80443, v_80444, v_80445⟩ := hf_80438
  have w_80446 := hk.notin v_80444
  have w_80447 := hkI.notin v_80444
  have w_80448 := hk.notin v_80445
  have w_80449 := hkI.notin v_80445
  have p_h := kf_80438.1 h _ (nmc (p_h.neK p_q_80435 (by decide)) nm0) p_h
  have p_q_79956 := kf_80438.1 q_79956 _ (nmc (p_q_79956.neB p_q_80435) nm0) p_q_79956
  have p_q_79978 := kf_80438.1 q_79978 _ (nmc (p_q_79978.neB p_q_80435) nm0) p_q_79978
  have p_q_80435 := z_z_80441
  have p_a__80439 := z_z_80442
  have p_a__80440 := z_z_80443
  have hk := hk.call kf_80438 (fun b hb hp => (nmc (neL hp whkq_80435) nm0))
  have hkI := hkI.call kf_80438 (fun b hb hp => (nmc (neL hp whkIq_80435) nm0))
  have nr_q_80435 : NRg gl_79 ad28 q_80435 := (SHC.nr I whkIq_80435)
  have nr_a__80439 : NRg gl_79 ad28 a__80439 := (SHC.nr I w_80447)
  have nr_a__80440 : NRg gl_79 ad28 a__80440 := (SHC.nr I w_80449)
  have I := I.kp hkI (allc nr_h (allc nr_q_79956 (allc nr_q_79978 all0)))
  have hkI : kp L_80437 f_80438 L_80437 f_80438 [h, q_79956, q_79978] := kp.rf
  obtain ⟨ad29, I, X_80450, Y_80451, Z_80452⟩ := SHC.led (l2 := gl_80) (n := 43) I rfl rfl rfl (by decide) rfl p_q_80435 p_a__80439 p_a__80440 nr_q_80435 nr_a__80439 nr_a__80440 
  have eq40_1 := (X_80450.2 40 1 (by decide)).trans eq40_1
  have eq41_1 := (X_80450.2 41 1 (by decide)).trans eq41_1
  have eq10_31 := (X_80450.2 10 31 (by decide)).trans eq10_31
  have eq20_5 := (X_80450.2 20 5 (by decide)).trans eq20_5
  have eq20_6 := (X_80450.2 20 6 (by decide)).trans eq20_6
  have eq20_7 := (X_80450.2 20 7 (by decide)).trans eq20_7
  have eq20_8 := (X_80450.2 20 8 (by decide)).trans eq20_8
  have eq20_9 := (X_80450.2 20 9 (by decide)).trans eq20_9
  have fam_sc := fam_x fam_sc X_80450 (by decide)
  have fam_pa := fam_x fam_pa X_80450 (by decide)
  have nr_h := Z_80452 _ nr_h (p_h.neK p_q_80435 (by decide)) (p_h.neA p_a__80439) (p_h.neA p_a__80440)
  have nr_q_79956 := Z_80452 _ nr_q_79956 (p_q_79956.neB p_q_80435) (p_q_79956.neN p_a__80439 (by decide)) (p_q_79956.neN p_a__80440 (by decide))
  have nr_q_79978 := Z_80452 _ nr_q_79978 (p_q_79978.neB p_q_80435) (p_q_79978.neN p_a__80439 (by decide)) (p_q_79978.neN p_a__80440 (by decide))
  have hout : ∀ x, x ∈ L → NRg gl_50 ad x → NRg gl_80 ad29 x := fun x hx hn => Z_80452 x (hout x hx hn) (fun e => whkq_80435 (by rw [← e]; exact hx)) (fun e => w_80446 (by rw [← e]; exact hx)) (fun e => w_80448 (by rw [← e]; exact hx))
  have hext := hext.tr X_80450
  have eq10_43 := Y_80451
  have hkI : kp L_80437 f_80438 L_80437 f_80438 [h, q_79956, q_79978] := kp.rf
  refine pg_aast S Y (k := 3) p_q_79978 rfl p_q_80435 ok_X4.1 (by unfold vp_in; decide) dX10_init_164 (fun f_80454 H locs ef_80454 Y => ?_)
  obtain ⟨g_80453, eg_80453⟩ : ∃ z, z = va_up (g_80433) (11 : Int32).toNatClampNeg (some q_80435) := ⟨_, rfl⟩
  rw [← eg_80453] at ef_80454
  have p_h := p_h.up ef_80454 ((p_h.neA p_q_79978))
  have p_q_79956 := p_q_79956.up ef_80454 ((p_q_79956.neN p_q_79978 (by decide)))
  have p_q_80435 := p_q_80435.up ef_80454 ((p_q_80435.neA p_q_79978))
  have p_q_79978 := p_q_79978.me ef_80454
  have hk := hk.upN ef_80454 whkq_79978
  have hkI := hkI.up ef_80454 (by simp)
  have fam_pa := fam_s (i := 11) fam_pa eq10_43 eg_80453
  refine lv_iinc (v := 12) (lv' := [(1, .int 12), (0, .ref h)]) hx hb dX10_init_165 hl (k := 0) rfl (by decide) (by decide) rfl (fun ls hl => ?_)
  refine lv_goto (tgt := 146) hx hb dX10_init_168 (by decide) ?_
  refine lv_iload_n hx hb dX10_init_146 rfl (lv_at hl 0 rfl) ?_
  refine lv_bipush (v := 30) hx hb dX10_init_147 (by decide) ?_
  refine lv_icmp_ge (tgt := 171) hx hb dX10_init_149 (by decide) (fun h => absurd h (by decide)) (fun _ => ?_)
  refine lv_aload_n hx hb dX10_init_152 rfl (lv_at hl 1 rfl) ?_
  refine pg_get S Y ok_X10 4 (by decide) kf10_31 (v := .ref q_79978) p_h rfl dX10_init_153 ?_
  refine lv_iload_n hx hb dX10_init_156 rfl (lv_at hl 0 rfl) ?_
  refine pg_new S Y ok_X4 kc10_24 kn4 ki4 (fs := [.null, .null, .int 0, .int 0, .int 0, .int 0, .int 0]) (by decide) (by decide) (by decide) dX10_init_157 (fun q_80455 f_80456 H nq_80455 ef_80456 Y => ?_)
  have whkq_80455 := hk.notin nq_80455
  have hk := hk.push ef_80456 nq_80455
  have whkIq_80455 := hkI.notin nq_80455
  have hkI := hkI.push ef_80456 nq_80455
  have p_h := p_h.push ef_80456 nq_80455
  have p_q_79956 := p_q_79956.push ef_80456 nq_80455
  have p_q_79978 := p_q_79978.push ef_80456 nq_80455
  have p_q_80455 := pt.new (L := L_80437) ef_80456
  refine lv_dup hx hb dX10_init_160 rfl ?_
  refine cINv (b := q_80455) (As := []) (rest := [.ref q_80455, .int 12, .ref q_79978]) S Y (c_X4_init (l := l) p_q_80455) cw_X4_init km10_26 rfl ⟨Nat.le_of_ble_eq_true rfl, Nat.le_of_ble_eq_true rfl⟩ hl.1 rfl (Nat.le_of_ble_eq_true rfl) ⟨Nat.le_of_ble_eq_true rfl, Nat.le_of_ble_eq_true rfl⟩ dX10_init_161 (fun L_80457 f_80458 H locs hf_80458 Y => ?_)
  obtain ⟨a__80459, a__80460, kf_80458, z_z_80461, z_z_80462, z_z_80463, v_80464, v_80465⟩ := hf_80458
  have w_80466 := hk.notin v_80464
  have w_80467 := hkI.notin v_80464
  have w_80468 := hk.notin v_80465
  have w_80469 := hkI.notin v_80465
  have p_h := kf_80458.1 h _ (nmc (p_h.neK p_q_80455 (by decide)) nm0) p_h
  have p_q_79956 := kf_80458.1 q_79956 _ (nmc (p_q_79956.neB p_q_80455) nm0) p_q_79956
  have p_q_79978 := kf_80458.1 q_79978 _ (nmc (p_q_79978.neB p_q_80455) nm0) p_q_79978
  have p_q_80455 := z_z_80461
  have p_a__80459 := z_z_80462
  have p_a__80460 := z_z_80463
  have hk := hk.call kf_80458 (fun b hb hp => (nmc (neL hp whkq_80455) nm0))
  have hkI := hkI.call kf_80458 (fun b hb hp => (nmc (neL hp whkIq_80455) nm0))
  have nr_q_80455 : NRg gl_80 ad29 q_80455 := (SHC.nr I whkIq_80455)
  have nr_a__80459 : NRg gl_80 ad29 a__80459 := (SHC.nr I w_80467)
  have nr_a__80460 : NRg gl_80 ad29 a__80460 := (SHC.nr I w_80469)
  have I := I.kp hkI (allc nr_h (allc nr_q_79956 (allc nr_q_79978 all0)))
  have hkI : kp L_80457 f_80458 L_80457 f_80458 [h, q_79956, q_79978] := kp.rf
  obtain ⟨ad30, I, X_80470, Y_80471, Z_80472⟩ := SHC.led (l2 := gl_81) (n := 44) I rfl rfl rfl (by decide) rfl p_q_80455 p_a__80459 p_a__80460 nr_q_80455 nr_a__80459 nr_a__80460 
  have eq40_1 := (X_80470.2 40 1 (by decide)).trans eq40_1
  have eq41_1 := (X_80470.2 41 1 (by decide)).trans eq41_1
  have eq10_31 := (X_80470.2 10 31 (by decide)).trans eq10_31
  have eq20_5 := (X_80470.2 20 5 (by decide)).trans eq20_5
  have eq20_6 := (X_80470.2 20 6 (by decide)).trans eq20_6
  have eq20_7 := (X_80470.2 20 7 (by decide)).trans eq20_7
  have eq20_8 := (X_80470.2 20 8 (by decide)).trans eq20_8
  have eq20_9 := (X_80470.2 20 9 (by decide)).trans eq20_9
  have fam_sc := fam_x fam_sc X_80470 (by decide)
  have fam_pa := fam_x fam_pa X_80470 (by decide)
  have nr_h := Z_80472 _ nr_h (p_h.neK p_q_80455 (by decide)) (p_h.neA p_a__80459) (p_h.neA p_a__80460)
  have nr_q_79956 := Z_80472 _ nr_q_79956 (p_q_79956.neB p_q_80455) (p_q_79956.neN p_a__80459 (by decide)) (p_q_79956.neN p_a__80460 (by decide))
  have nr_q_79978 := Z_80472 _ nr_q_79978 (p_q_79978.neB p_q_80455) (p_q_79978.neN p_a__80459 (by decide)) (p_q_79978.neN p_a__80460 (by decide))
  have hout : ∀ x, x ∈ L → NRg gl_50 ad x → NRg gl_81 ad30 x := fun x hx hn => Z_80472 x (hout x hx hn) (fun e => whkq_80455 (by rw [← e]; exact hx)) (fun e => w_80466 (by rw [← e]; exact hx)) (fun e => w_80468 (by rw [← e]; exact hx))
  have hext := hext.tr X_80470
  have eq10_44 := Y_80471
  have hkI : kp L_80457 f_80458 L_80457 f_80458 [h, q_79956, q_79978] := kp.rf
  refine pg_aast S Y (k := 3) p_q_79978 rfl p_q_80455 ok_X4.1 (by unfold vp_in; decide) dX10_init_164 (fun f_80474 H locs ef_80474 Y => ?_)
  obtain ⟨g_80473, eg_80473⟩ : ∃ z, z = va_up (g_80453) (12 : Int32).toNatClampNeg (some q_80455) := ⟨_, rfl⟩
  rw [← eg_80473] at ef_80474
  have p_h := p_h.up ef_80474 ((p_h.neA p_q_79978))
  have p_q_79956 := p_q_79956.up ef_80474 ((p_q_79956.neN p_q_79978 (by decide)))
  have p_q_80455 := p_q_80455.up ef_80474 ((p_q_80455.neA p_q_79978))
  have p_q_79978 := p_q_79978.me ef_80474
  have hk := hk.upN ef_80474 whkq_79978
  have hkI := hkI.up ef_80474 (by simp)
  have fam_pa := fam_s (i := 12) fam_pa eq10_44 eg_80473
  refine lv_iinc (v := 13) (lv' := [(1, .int 13), (0, .ref h)]) hx hb dX10_init_165 hl (k := 0) rfl (by decide) (by decide) rfl (fun ls hl => ?_)
  refine lv_goto (tgt := 146) hx hb dX10_init_168 (by decide) ?_
  refine lv_iload_n hx hb dX10_init_146 rfl (lv_at hl 0 rfl) ?_
  refine lv_bipush (v := 30) hx hb dX10_init_147 (by decide) ?_
  refine lv_icmp_ge (tgt := 171) hx hb dX10_init_149 (by decide) (fun h => absurd h (by decide)) (fun _ => ?_)
  refine lv_aload_n hx hb dX10_init_152 rfl (lv_at hl 1 rfl) ?_
  refine pg_get S Y ok_X10 4 (by decide) kf10_31 (v := .ref q_79978) p_h rfl dX10_init_153 ?_
  refine lv_iload_n hx hb dX10_init_156 rfl (lv_at hl 0 rfl) ?_
  refine pg_new S Y ok_X4 kc10_24 kn4 ki4 (fs := [.null, .null, .int 0, .int 0, .int 0, .int 0, .int 0]) (by decide) (by decide) (by decide) dX10_init_157 (fun q_80475 f_80476 H nq_80475 ef_80476 Y => ?_)
  have whkq_80475 := hk.notin nq_80475
  have hk := hk.push ef_80476 nq_80475
  have whkIq_80475 := hkI.notin nq_80475
  have hkI := hkI.push ef_80476 nq_80475
  have p_h := p_h.push ef_80476 nq_80475
  have p_q_79956 := p_q_79956.push ef_80476 nq_80475
  have p_q_79978 := p_q_79978.push ef_80476 nq_80475
  have p_q_80475 := pt.new (L := L_80457) ef_80476
  refine lv_dup hx hb dX10_init_160 rfl ?_
  refine cINv (b := q_80475) (As := []) (rest := [.ref q_80475, .int 13, .ref q_79978]) S Y (c_X4_init (l := l) p_q_80475) cw_X4_init km10_26 rfl ⟨Nat.le_of_ble_eq_true rfl, Nat.le_of_ble_eq_true rfl⟩ hl.1 rfl (Nat.le_of_ble_eq_true rfl) ⟨Nat.le_of_ble_eq_true rfl, Nat.le_of_ble_eq_true rfl⟩ dX10_init_161 (fun L_80477 f_80478 H locs hf_80478 Y => ?_)
  obtain ⟨a__80479, a__80480, kf_80478, z_z_80481, z_z_80482, z_z_80483, v_80484, v_80485⟩ := hf_80478
  have w_80486 := hk.notin v_80484
  have w_80487 := hkI.notin v_80484
  have w_80488 := hk.notin v_80485
  have w_80489 := hkI.notin v_80485
  have p_h := kf_80478.1 h _ (nmc (p_h.neK p_q_80475 (by decide)) nm0) p_h
  have p_q_79956 := kf_80478.1 q_79956 _ (nmc (p_q_79956.neB p_q_80475) nm0) p_q_79956
  have p_q_79978 := kf_80478.1 q_79978 _ (nmc (p_q_79978.neB p_q_80475) nm0) p_q_79978
  have p_q_80475 := z_z_80481
  have p_a__80479 := z_z_80482
  have p_a__80480 := z_z_80483
  have hk := hk.call kf_80478 (fun b hb hp => (nmc (neL hp whkq_80475) nm0))
  have hkI := hkI.call kf_80478 (fun b hb hp => (nmc (neL hp whkIq_80475) nm0))
  have nr_q_80475 : NRg gl_81 ad30 q_80475 := (SHC.nr I whkIq_80475)
  have nr_a__80479 : NRg gl_81 ad30 a__80479 := (SHC.nr I w_80487)
  have nr_a__80480 : NRg gl_81 ad30 a__80480 := (SHC.nr I w_80489)
  have I := I.kp hkI (allc nr_h (allc nr_q_79956 (allc nr_q_79978 all0)))
  have hkI : kp L_80477 f_80478 L_80477 f_80478 [h, q_79956, q_79978] := kp.rf
  obtain ⟨ad31, I, X_80490, Y_80491, Z_80492⟩ := SHC.led (l2 := gl_82) (n := 45) I rfl rfl rfl (by decide) rfl p_q_80475 p_a__80479 p_a__80480 nr_q_80475 nr_a__80479 nr_a__80480 
  have eq40_1 := (X_80490.2 40 1 (by decide)).trans eq40_1
  have eq41_1 := (X_80490.2 41 1 (by decide)).trans eq41_1
  have eq10_31 := (X_80490.2 10 31 (by decide)).trans eq10_31
  have eq20_5 := (X_80490.2 20 5 (by decide)).trans eq20_5
  have eq20_6 := (X_80490.2 20 6 (by decide)).trans eq20_6
  have eq20_7 := (X_80490.2 20 7 (by decide)).trans eq20_7
  have eq20_8 := (X_80490.2 20 8 (by decide)).trans eq20_8
  have eq20_9 := (X_80490.2 20 9 (by decide)).trans eq20_9
  have fam_sc := fam_x fam_sc X_80490 (by decide)
  have fam_pa := fam_x fam_pa X_80490 (by decide)
  have nr_h := Z_80492 _ nr_h (p_h.neK p_q_80475 (by decide)) (p_h.neA p_a__80479) (p_h.neA p_a__80480)
  have nr_q_79956 := Z_80492 _ nr_q_79956 (p_q_79956.neB p_q_80475) (p_q_79956.neN p_a__80479 (by decide)) (p_q_79956.neN p_a__80480 (by decide))
  have nr_q_79978 := Z_80492 _ nr_q_79978 (p_q_79978.neB p_q_80475) (p_q_79978.neN p_a__80479 (by decide)) (p_q_79978.neN p_a__80480 (by decide))
  have hout : ∀ x, x ∈ L → NRg gl_50 ad x → NRg gl_82 ad31 x := fun x hx hn => Z_80492 x (hout x hx hn) (fun e => whkq_80475 (by rw [← e]; exact hx)) (fun e => w_80486 (by rw [← e]; exact hx)) (fun e => w_80488 (by rw [← e]; exact hx))
  have hext := hext.tr X_80490
  have eq10_45 := Y_80491
  have hkI : kp L_80477 f_80478 L_80477 f_80478 [h, q_79956, q_79978] := kp.rf
  refine pg_aast S Y (k := 3) p_q_79978 rfl p_q_80475 ok_X4.1 (by unfold vp_in; decide) dX10_init_164 (fun f_80494 H locs ef_80494 Y => ?_)
  obtain ⟨g_80493, eg_80493⟩ : ∃ z, z = va_up (g_80473) (13 : Int32).toNatClampNeg (some q_80475) := ⟨_, rfl⟩
  rw [← eg_80493] at ef_80494
  have p_h := p_h.up ef_80494 ((p_h.neA p_q_79978))
  have p_q_79956 := p_q_79956.up ef_80494 ((p_q_79956.neN p_q_79978 (by decide)))
  have p_q_80475 := p_q_80475.up ef_80494 ((p_q_80475.neA p_q_79978))
  have p_q_79978 := p_q_79978.me ef_80494
  have hk := hk.upN ef_80494 whkq_79978
  have hkI := hkI.up ef_80494 (by simp)
  have fam_pa := fam_s (i := 13) fam_pa eq10_45 eg_80493
  refine lv_iinc (v := 14) (lv' := [(1, .int 14), (0, .ref h)]) hx hb dX10_init_165 hl (k := 0) rfl (by decide) (by decide) rfl (fun ls hl => ?_)
  refine lv_goto (tgt := 146) hx hb dX10_init_168 (by decide) ?_
  refine lv_iload_n hx hb dX10_init_146 rfl (lv_at hl 0 rfl) ?_
  refine lv_bipush (v := 30) hx hb dX10_init_147 (by decide) ?_
  refine lv_icmp_ge (tgt := 171) hx hb dX10_init_149 (by decide) (fun h => absurd h (by decide)) (fun _ => ?_)
  refine lv_aload_n hx hb dX10_init_152 rfl (lv_at hl 1 rfl) ?_
  refine pg_get S Y ok_X10 4 (by decide) kf10_31 (v := .ref q_79978) p_h rfl dX10_init_153 ?_
  refine lv_iload_n hx hb dX10_init_156 rfl (lv_at hl 0 rfl) ?_
  refine pg_new S Y ok_X4 kc10_24 kn4 ki4 (fs := [.null, .null, .int 0, .int 0, .int 0, .int 0, .int 0]) (by decide) (by decide) (by decide) dX10_init_157 (fun q_80495 f_80496 H nq_80495 ef_80496 Y => ?_)
  have whkq_80495 := hk.notin nq_80495
  have hk := hk.push ef_80496 nq_80495
  have whkIq_80495 := hkI.notin nq_80495
  have hkI := hkI.push ef_80496 nq_80495
  have p_h := p_h.push ef_80496 nq_80495
  have p_q_79956 := p_q_79956.push ef_80496 nq_80495
  have p_q_79978 := p_q_79978.push ef_80496 nq_80495
  have p_q_80495 := pt.new (L := L_80477) ef_80496
  refine lv_dup hx hb dX10_init_160 rfl ?_
  refine cINv (b := q_80495) (As := []) (rest := [.ref q_80495, .int 14, .ref q_79978]) S Y (c_X4_init (l := l) p_q_80495) cw_X4_init km10_26 rfl ⟨Nat.le_of_ble_eq_true rfl, Nat.le_of_ble_eq_true rfl⟩ hl.1 rfl (Nat.le_of_ble_eq_true rfl) ⟨Nat.le_of_ble_eq_true rfl, Nat.le_of_ble_eq_true rfl⟩ dX10_init_161 (fun L_80497 f_80498 H locs hf_80498 Y => ?_)
  obtain ⟨a__80499, a__80500, kf_80498, z_z_80501, z_z_80502, z_z_80503, v_80504, v_80505⟩ := hf_80498
  have w_80506 := hk.notin v_80504
  have w_80507 := hkI.notin v_80504
  have w_80508 := hk.notin v_80505
  have w_80509 := hkI.notin v_80505
  have p_h := kf_80498.1 h _ (nmc (p_h.neK p_q_80495 (by decide)) nm0) p_h
  have p_q_79956 := kf_80498.1 q_79956 _ (nmc (p_q_79956.neB p_q_80495) nm0) p_q_79956
  have p_q_79978 := kf_80498.1 q_79978 _ (nmc (p_q_79978.neB p_q_80495) nm0) p_q_79978
  have p_q_80495 := z_z_80501
  have p_a__80499 := z_z_80502
  have p_a__80500 := z_z_80503
  have hk := hk.call kf_80498 (fun b hb hp => (nmc (neL hp whkq_80495) nm0))
  have hkI := hkI.call kf_80498 (fun b hb hp => (nmc (neL hp whkIq_80495) nm0))
  have nr_q_80495 : NRg gl_82 ad31 q_80495 := (SHC.nr I whkIq_80495)
  have nr_a__80499 : NRg gl_82 ad31 a__80499 := (SHC.nr I w_80507)
  have nr_a__80500 : NRg gl_82 ad31 a__80500 := (SHC.nr I w_80509)
  have I := I.kp hkI (allc nr_h (allc nr_q_79956 (allc nr_q_79978 all0)))
  have hkI : kp L_80497 f_80498 L_80497 f_80498 [h, q_79956, q_79978] := kp.rf
  obtain ⟨ad32, I, X_80510, Y_80511, Z_80512⟩ := SHC.led (l2 := gl_83) (n := 46) I rfl rfl rfl (by decide) rfl p_q_80495 p_a__80499 p_a__80500 nr_q_80495 nr_a__80499 nr_a__80500 
  have eq40_1 := (X_80510.2 40 1 (by decide)).trans eq40_1
  have eq41_1 := (X_80510.2 41 1 (by decide)).trans eq41_1
  have eq10_31 := (X_80510.2 10 31 (by decide)).trans eq10_31
  have eq20_5 := (X_80510.2 20 5 (by decide)).trans eq20_5
  have eq20_6 := (X_80510.2 20 6 (by decide)).trans eq20_6
  have eq20_7 := (X_80510.2 20 7 (by decide)).trans eq20_7
  have eq20_8 := (X_80510.2 20 8 (by decide)).trans eq20_8
  have eq20_9 := (X_80510.2 20 9 (by decide)).trans eq20_9
  have fam_sc := fam_x fam_sc X_80510 (by decide)
  have fam_pa := fam_x fam_pa X_80510 (by decide)
  have nr_h := Z_80512 _ nr_h (p_h.neK p_q_80495 (by decide)) (p_h.neA p_a__80499) (p_h.neA p_a__80500)
  have nr_q_79956 := Z_80512 _ nr_q_79956 (p_q_79956.neB p_q_80495) (p_q_79956.neN p_a__80499 (by decide)) (p_q_79956.neN p_a__80500 (by decide))
  have nr_q_79978 := Z_80512 _ nr_q_79978 (p_q_79978.neB p_q_80495) (p_q_79978.neN p_a__80499 (by decide)) (p_q_79978.neN p_a__80500 (by decide))
  have hout : ∀ x, x ∈ L → NRg gl_50 ad x → NRg gl_83 ad32 x := fun x hx hn => Z_80512 x (hout x hx hn) (fun e => whkq_80495 (by rw [← e]; exact hx)) (fun e => w_80506 (by rw [← e]; exact hx)) (fun e => w_80508 (by rw [← e]; exact hx))
  have hext := hext.tr X_80510
  have eq10_46 := Y_80511
  have hkI : kp L_80497 f_80498 L_80497 f_80498 [h, q_79956, q_79978] := kp.rf
  refine pg_aast S Y (k := 3) p_q_79978 rfl p_q_80495 ok_X4.1 (by unfold vp_in; decide) dX10_init_164 (fun f_80514 H locs ef_80514 Y => ?_)
  obtain ⟨g_80513, eg_80513⟩ : ∃ z, z = va_up (g_80493) (14 : Int32).toNatClampNeg (some q_80495) := ⟨_, rfl⟩
  rw [← eg_80513] at ef_80514
  have p_h := p_h.up ef_80514 ((p_h.neA p_q_79978))
  have p_q_79956 := p_q_79956.up ef_80514 ((p_q_79956.neN p_q_79978 (by decide)))
  have p_q_80495 := p_q_80495.up ef_80514 ((p_q_80495.neA p_q_79978))
  have p_q_79978 := p_q_79978.me ef_80514
  have hk := hk.upN ef_80514 whkq_79978
  have hkI := hkI.up ef_80514 (by simp)
  have fam_pa := fam_s (i := 14) fam_pa eq10_46 eg_80513
  refine lv_iinc (v := 15) (lv' := [(1, .int 15), (0, .ref h)]) hx hb dX10_init_165 hl (k := 0) rfl (by decide) (by decide) rfl (fun ls hl => ?_)
  refine lv_goto (tgt := 146) hx hb dX10_init_168 (by decide) ?_
  refine lv_iload_n hx hb dX10_init_146 rfl (lv_at hl 0 rfl) ?_
  refine lv_bipush (v := 30) hx hb dX10_init_147 (by decide) ?_
  refine lv_icmp_ge (tgt := 171) hx hb dX10_init_149 (by decide) (fun h => absurd h (by decide)) (fun _ => ?_)
  refine lv_aload_n hx hb dX10_init_152 rfl (lv_at hl 1 rfl) ?_
  refine pg_get S Y ok_X10 4 (by decide) kf10_31 (v := .ref q_79978) p_h rfl dX10_init_153 ?_
  refine lv_iload_n hx hb dX10_init_156 rfl (lv_at hl 0 rfl) ?_
  refine pg_new S Y ok_X4 kc10_24 kn4 ki4 (fs := [.null, .null, .int 0, .int 0, .int 0, .int 0, .int 0]) (by decide) (by decide) (by decide) dX10_init_157 (fun q_80515 f_80516 H nq_80515 ef_80516 Y => ?_)
  have whkq_80515 := hk.notin nq_80515
  have hk := hk.push ef_80516 nq_80515
  have whkIq_80515 := hkI.notin nq_80515
  have hkI := hkI.push ef_80516 nq_80515
  have p_h := p_h.push ef_80516 nq_80515
  have p_q_79956 := p_q_79956.push ef_80516 nq_80515
  have p_q_79978 := p_q_79978.push ef_80516 nq_80515
  have p_q_80515 := pt.new (L := L_80497) ef_80516
  refine lv_dup hx hb dX10_init_160 rfl ?_
  refine cINv (b := q_80515) (As := []) (rest := [.ref q_80515, .int 15, .ref q_79978]) S Y (c_X4_init (l := l) p_q_80515) cw_X4_init km10_26 rfl ⟨Nat.le_of_ble_eq_true rfl, Nat.le_of_ble_eq_true rfl⟩ hl.1 rfl (Nat.le_of_ble_eq_true rfl) ⟨Nat.le_of_ble_eq_true rfl, Nat.le_of_ble_eq_true rfl⟩ dX10_init_161 (fun L_80517 f_80518 H locs hf_80518 Y => ?_)
  obtain ⟨a__80519, a__80520, kf_80518, z_z_80521, z_z_80522, z_z_80523, v_80524, v_80525⟩ := hf_80518
  have w_80526 := hk.notin v_80524
  have w_80527 := hkI.notin v_80524
  have w_80528 := hk.notin v_80525
  have w_80529 := hkI.notin v_80525
  have p_h := kf_80518.1 h _ (nmc (p_h.neK p_q_80515 (by decide)) nm0) p_h
  have p_q_79956 := kf_80518.1 q_79956 _ (nmc (p_q_79956.neB p_q_80515) nm0) p_q_79956
  have p_q_79978 := kf_80518.1 q_79978 _ (nmc (p_q_79978.neB p_q_80515) nm0) p_q_79978
  have p_q_80515 := z_z_80521
  have p_a__80519 := z_z_80522
  have p_a__80520 := z_z_80523
  have hk := hk.call kf_80518 (fun b hb hp => (nmc (neL hp whkq_80515) nm0))
  have hkI := hkI.call kf_80518 (fun b hb hp => (nmc (neL hp whkIq_80515) nm0))
  have nr_q_80515 : NRg gl_83 ad32 q_80515 := (SHC.nr I whkIq_80515)
  have nr_a__80519 : NRg gl_83 ad32 a__80519 := (SHC.nr I w_80527)
  have nr_a__80520 : NRg gl_83 ad32 a__80520 := (SHC.nr I w_80529)
  have I := I.kp hkI (allc nr_h (allc nr_q_79956 (allc nr_q_79978 all0)))
  have hkI : kp L_80517 f_80518 L_80517 f_80518 [h, q_79956, q_79978] := kp.rf
  obtain ⟨ad33, I, X_80530, Y_80531, Z_80532⟩ := SHC.led (l2 := gl_84) (n := 47) I rfl rfl rfl (by decide) rfl p_q_80515 p_a__80519 p_a__80520 nr_q_80515 nr_a__80519 nr_a__80520 
  have eq40_1 := (X_80530.2 40 1 (by decide)).trans eq40_1
  have eq41_1 := (X_80530.2 41 1 (by decide)).trans eq41_1
  have eq10_31 := (X_80530.2 10 31 (by decide)).trans eq10_31
  have eq20_5 := (X_80530.2 20 5 (by decide)).trans eq20_5
  have eq20_6 := (X_80530.2 20 6 (by decide)).trans eq20_6
  have eq20_7 := (X_80530.2 20 7 (by decide)).trans eq20_7
  have eq20_8 := (X_80530.2 20 8 (by decide)).trans eq20_8
  have eq20_9 := (X_80530.2 20 9 (by decide)).trans eq20_9
  have fam_sc := fam_x fam_sc X_80530 (by decide)
  have fam_pa := fam_x fam_pa X_80530 (by decide)
  have nr_h := Z_80532 _ nr_h (p_h.neK p_q_80515 (by decide)) (p_h.neA p_a__80519) (p_h.neA p_a__80520)
  have nr_q_79956 := Z_80532 _ nr_q_79956 (p_q_79956.neB p_q_80515) (p_q_79956.neN p_a__80519 (by decide)) (p_q_79956.neN p_a__80520 (by decide))
  have nr_q_79978 := Z_80532 _ nr_q_79978 (p_q_79978.neB p_q_80515) (p_q_79978.neN p_a__80519 (by decide)) (p_q_79978.neN p_a__80520 (by decide))
  have hout : ∀ x, x ∈ L → NRg gl_50 ad x → NRg gl_84 ad33 x := fun x hx hn => Z_80532 x (hout x hx hn) (fun e => whkq_80515 (by rw [← e]; exact hx)) (fun e => w_80526 (by rw [← e]; exact hx)) (fun e => w_80528 (by rw [← e]; exact hx))
  have hext := hext.tr X_80530
  have eq10_47 := Y_80531
  have hkI : kp L_80517 f_80518 L_80517 f_80518 [h, q_79956, q_79978] := kp.rf
  refine pg_aast S Y (k := 3) p_q_79978 rfl p_q_80515 ok_X4.1 (by unfold vp_in; decide) dX10_init_164 (fun f_80534 H locs ef_80534 Y => ?_)
  obtain ⟨g_80533, eg_80533⟩ : ∃ z, z = va_up (g_80513) (15 : Int32).toNatClampNeg (some q_80515) := ⟨_, rfl⟩
  rw [← eg_80533] at ef_80534
  have p_h := p_h.up ef_80534 ((p_h.neA p_q_79978))
  have p_q_79956 := p_q_79956.up ef_80534 ((p_q_79956.neN p_q_79978 (by decide)))
  have p_q_80515 := p_q_80515.up ef_80534 ((p_q_80515.neA p_q_79978))
  have p_q_79978 := p_q_79978.me ef_80534
  have hk := hk.upN ef_80534 whkq_79978
  have hkI := hkI.up ef_80534 (by simp)
  have fam_pa := fam_s (i := 15) fam_pa eq10_47 eg_80533
  refine lv_iinc (v := 16) (lv' := [(1, .int 16), (0, .ref h)]) hx hb dX10_init_165 hl (k := 0) rfl (by decide) (by decide) rfl (fun ls hl => ?_)
  refine lv_goto (tgt := 146) hx hb dX10_init_168 (by decide) ?_
  refine lv_iload_n hx hb dX10_init_146 rfl (lv_at hl 0 rfl) ?_
  refine lv_bipush (v := 30) hx hb dX10_init_147 (by decide) ?_
  refine lv_icmp_ge (tgt := 171) hx hb dX10_init_149 (by decide) (fun h => absurd h (by decide)) (fun _ => ?_)
  refine lv_aload_n hx hb dX10_init_152 rfl (lv_at hl 1 rfl) ?_
  refine pg_get S Y ok_X10 4 (by decide) kf10_31 (v := .ref q_79978) p_h rfl dX10_init_153 ?_
  refine lv_iload_n hx hb dX10_init_156 rfl (lv_at hl 0 rfl) ?_
  refine pg_new S Y ok_X4 kc10_24 kn4 ki4 (fs := [.null, .null, .int 0, .int 0, .int 0, .int 0, .int 0]) (by decide) (by decide) (by decide) dX10_init_157 (fun q_80535 f_80536 H nq_80535 ef_80536 Y => ?_)
  have whkq_80535 := hk.notin nq_80535
  have hk := hk.push ef_80536 nq_80535
  have whkIq_80535 := hkI.notin nq_80535
  have hkI := hkI.push ef_80536 nq_80535
  have p_h := p_h.push ef_80536 nq_80535
  have p_q_79956 := p_q_79956.push ef_80536 nq_80535
  have p_q_79978 := p_q_79978.push ef_80536 nq_80535
  have p_q_80535 := pt.new (L := L_80517) ef_80536
  refine lv_dup hx hb dX10_init_160 rfl ?_
  refine cINv (b := q_80535) (As := []) (rest := [.ref q_80535, .int 16, .ref q_79978]) S Y (c_X4_init (l := l) p_q_80535) cw_X4_init km10_26 rfl ⟨Nat.le_of_ble_eq_true rfl, Nat.le_of_ble_eq_true rfl⟩ hl.1 rfl (Nat.le_of_ble_eq_true rfl) ⟨Nat.le_of_ble_eq_true rfl, Nat.le_of_ble_eq_true rfl⟩ dX10_init_161 (fun L_80537 f_80538 H locs hf_80538 Y => ?_)
  obtain ⟨a__80539, a__80540, kf_80538, z_z_80541, z_z_80542, z_z_80543, v_80544, v_80545⟩ := hf_80538
  have w_80546 := hk.notin v_80544
  have w_80547 := hkI.notin v_80544
  have w_80548 := hk.notin v_80545
  have w_80549 := hkI.notin v_80545
  have p_h := kf_80538.1 h _ (nmc (p_h.neK p_q_80535 (by decide)) nm0) p_h
  have p_q_79956 := kf_80538.1 q_79956 _ (nmc (p_q_79956.neB p_q_80535) nm0) p_q_79956
  have p_q_79978 := kf_80538.1 q_79978 _ (nmc (p_q_79978.neB p_q_80535) nm0) p_q_79978
  have p_q_80535 := z_z_80541
  have p_a__80539 := z_z_80542
  have p_a__80540 := z_z_80543
  have hk := hk.call kf_80538 (fun b hb hp => (nmc (neL hp whkq_80535) nm0))
  have hkI := hkI.call kf_80538 (fun b hb hp => (nmc (neL hp whkIq_80535) nm0))
  have nr_q_80535 : NRg gl_84 ad33 q_80535 := (SHC.nr I whkIq_80535)
  have nr_a__80539 : NRg gl_84 ad33 a__80539 := (SHC.nr I w_80547)
  have nr_a__80540 : NRg gl_84 ad33 a__80540 := (SHC.nr I w_80549)
  have I := I.kp hkI (allc nr_h (allc nr_q_79956 (allc nr_q_79978 all0)))
  have hkI : kp L_80537 f_80538 L_80537 f_80538 [h, q_79956, q_79978] := kp.rf
  obtain ⟨ad34, I, X_80550, Y_80551, Z_80552⟩ := SHC.led (l2 := gl_85) (n := 48) I rfl rfl rfl (by decide) rfl p_q_80535 p_a__80539 p_a__80540 nr_q_80535 nr_a__80539 nr_a__80540 
  have eq40_1 := (X_80550.2 40 1 (by decide)).trans eq40_1
  have eq41_1 := (X_80550.2 41 1 (by decide)).trans eq41_1
  have eq10_31 := (X_80550.2 10 31 (by decide)).trans eq10_31
  have eq20_5 := (X_80550.2 20 5 (by decide)).trans eq20_5
  have eq20_6 := (X_80550.2 20 6 (by decide)).trans eq20_6
  have eq20_7 := (X_80550.2 20 7 (by decide)).trans eq20_7
  have eq20_8 := (X_80550.2 20 8 (by decide)).trans eq20_8
  have eq20_9 := (X_80550.2 20 9 (by decide)).trans eq20_9
  have fam_sc := fam_x fam_sc X_80550 (by decide)
  have fam_pa := fam_x fam_pa X_80550 (by decide)
  have nr_h := Z_80552 _ nr_h (p_h.neK p_q_80535 (by decide)) (p_h.neA p_a__80539) (p_h.neA p_a__80540)
  have nr_q_79956 := Z_80552 _ nr_q_79956 (p_q_79956.neB p_q_80535) (p_q_79956.neN p_a__80539 (by decide)) (p_q_79956.neN p_a__80540 (by decide))
  have nr_q_79978 := Z_80552 _ nr_q_79978 (p_q_79978.neB p_q_80535) (p_q_79978.neN p_a__80539 (by decide)) (p_q_79978.neN p_a__80540 (by decide))
  have hout : ∀ x, x ∈ L → NRg gl_50 ad x → NRg gl_85 ad34 x := fun x hx hn => Z_80552 x (hout x hx hn) (fun e => whkq_80535 (by rw [← e]; exact hx)) (fun e => w_80546 (by rw [← e]; exact hx)) (fun e => w_80548 (by rw [← e]; exact hx))
  have hext := hext.tr X_80550
  have eq10_48 := Y_80551
  have hkI : kp L_80537 f_80538 L_80537 f_80538 [h, q_79956, q_79978] := kp.rf
  refine pg_aast S Y (k := 3) p_q_79978 rfl p_q_80535 ok_X4.1 (by unfold vp_in; decide) dX10_init_164 (fun f_80554 H locs ef_80554 Y => ?_)
  obtain ⟨g_80553, eg_80553⟩ : ∃ z, z = va_up (g_80533) (16 : Int32).toNatClampNeg (some q_80535) := ⟨_, rfl⟩
  rw [← eg_80553] at ef_80554
  have p_h := p_h.up ef_80554 ((p_h.neA p_q_79978))
  have p_q_79956 := p_q_79956.up ef_80554 ((p_q_79956.neN p_q_79978 (by decide)))
  have p_q_80535 := p_q_80535.up ef_80554 ((p_q_80535.neA p_q_79978))
  have p_q_79978 := p_q_79978.me ef_80554
  have hk := hk.upN ef_80554 whkq_79978
  have hkI := hkI.up ef_80554 (by simp)
  have fam_pa := fam_s (i := 16) fam_pa eq10_48 eg_80553
  refine lv_iinc (v := 17) (lv' := [(1, .int 17), (0, .ref h)]) hx hb dX10_init_165 hl (k := 0) rfl (by decide) (by decide) rfl (fun ls hl => ?_)
  refine lv_goto (tgt := 146) hx hb dX10_init_168 (by decide) ?_
  refine lv_iload_n hx hb dX10_init_146 rfl (lv_at hl 0 rfl) ?_
  refine lv_bipush (v := 30) hx hb dX10_init_147 (by decide) ?_
  refine lv_icmp_ge (tgt := 171) hx hb dX10_init_149 (by decide) (fun h => absurd h (by decide)) (fun _ => ?_)
  refine lv_aload_n hx hb dX10_init_152 rfl (lv_at hl 1 rfl) ?_
  refine pg_get S Y ok_X10 4 (by decide) kf10_31 (v := .ref q_79978) p_h rfl dX10_init_153 ?_
  refine lv_iload_n hx hb dX10_init_156 rfl (lv_at hl 0 rfl) ?_
  refine pg_new S Y ok_X4 kc10_24 kn4 ki4 (fs := [.null, .null, .int 0, .int 0, .int 0, .int 0, .int 0]) (by decide) (by decide) (by decide) dX10_init_157 (fun q_80555 f_80556 H nq_80555 ef_80556 Y => ?_)
  have whkq_80555 := hk.notin nq_80555
  have hk := hk.push ef_80556 nq_80555
  have whkIq_80555 := hkI.notin nq_80555
  have hkI := hkI.push ef_80556 nq_80555
  have p_h := p_h.push ef_80556 nq_80555
  have p_q_79956 := p_q_79956.push ef_80556 nq_80555
  have p_q_79978 := p_q_79978.push ef_80556 nq_80555
  have p_q_80555 := pt.new (L := L_80537) ef_80556
  refine lv_dup hx hb dX10_init_160 rfl ?_
  refine cINv (b := q_80555) (As := []) (rest := [.ref q_80555, .int 17, .ref q_79978]) S Y (c_X4_init (l := l) p_q_80555) cw_X4_init km10_26 rfl ⟨Nat.le_of_ble_eq_true rfl, Nat.le_of_ble_eq_true rfl⟩ hl.1 rfl (Nat.le_of_ble_eq_true rfl) ⟨Nat.le_of_ble_eq_true rfl, Nat.le_of_ble_eq_true rfl⟩ dX10_init_161 (fun L_80557 f_80558 H locs hf_80558 Y => ?_)
  obtain ⟨a__80559, a__80560, kf_80558, z_z_80561, z_z_80562, z_z_80563, v_80564, v_80565⟩ := hf_80558
  have w_80566 := hk.notin v_80564
  have w_80567 := hkI.notin v_80564
  have w_80568 := hk.notin v_80565
  have w_80569 := hkI.notin v_80565
  have p_h := kf_80558.1 h _ (nmc (p_h.neK p_q_80555 (by decide)) nm0) p_h
  have p_q_79956 := kf_80558.1 q_79956 _ (nmc (p_q_79956.neB p_q_80555) nm0) p_q_79956
  have p_q_79978 := kf_80558.1 q_79978 _ (nmc (p_q_79978.neB p_q_80555) nm0) p_q_79978
  have p_q_80555 := z_z_80561
  have p_a__80559 := z_z_80562
  have p_a__80560 := z_z_80563
  have hk := hk.call kf_80558 (fun b hb hp => (nmc (neL hp whkq_80555) nm0))
  have hkI := hkI.call kf_80558 (fun b hb hp => (nmc (neL hp whkIq_80555) nm0))
  have nr_q_80555 : NRg gl_85 ad34 q_80555 := (SHC.nr I whkIq_80555)
  have nr_a__80559 : NRg gl_85 ad34 a__80559 := (SHC.nr I w_80567)
  have nr_a__80560 : NRg gl_85 ad34 a__80560 := (SHC.nr I w_80569)
  have I := I.kp hkI (allc nr_h (allc nr_q_79956 (allc nr_q_79978 all0)))
  have hkI : kp L_80557 f_80558 L_80557 f_80558 [h, q_79956, q_79978] := kp.rf
  obtain ⟨ad35, I, X_80570, Y_80571, Z_80572⟩ := SHC.led (l2 := gl_86) (n := 49) I rfl rfl rfl (by decide) rfl p_q_80555 p_a__80559 p_a__80560 nr_q_80555 nr_a__80559 nr_a__80560 
  have eq40_1 := (X_80570.2 40 1 (by decide)).trans eq40_1
  have eq41_1 := (X_80570.2 41 1 (by decide)).trans eq41_1
  have eq10_31 := (X_80570.2 10 31 (by decide)).trans eq10_31
  have eq20_5 := (X_80570.2 20 5 (by decide)).trans eq20_5
  have eq20_6 := (X_80570.2 20 6 (by decide)).trans eq20_6
  have eq20_7 := (X_80570.2 20 7 (by decide)).trans eq20_7
  have eq20_8 := (X_80570.2 20 8 (by decide)).trans eq20_8
  have eq20_9 := (X_80570.2 20 9 (by decide)).trans eq20_9
  have fam_sc := fam_x fam_sc X_80570 (by decide)
  have fam_pa := fam_x fam_pa X_80570 (by decide)
  have nr_h := Z_80572 _ nr_h (p_h.neK p_q_80555 (by decide)) (p_h.neA p_a__80559) (p_h.neA p_a__80560)
  have nr_q_79956 := Z_80572 _ nr_q_79956 (p_q_79956.neB p_q_80555) (p_q_79956.neN p_a__80559 (by decide)) (p_q_79956.neN p_a__80560 (by decide))
  have nr_q_79978 := Z_80572 _ nr_q_79978 (p_q_79978.neB p_q_80555) (p_q_79978.neN p_a__80559 (by decide)) (p_q_79978.neN p_a__80560 (by decide))
  have hout : ∀ x, x ∈ L → NRg gl_50 ad x → NRg gl_86 ad35 x := fun x hx hn => Z_80572 x (hout x hx hn) (fun e => whkq_80555 (by rw [← e]; exact hx)) (fun e => w_80566 (by rw [← e]; exact hx)) (fun e => w_80568 (by rw [← e]; exact hx))
  have hext := hext.tr X_80570
  have eq10_49 := Y_80571
  have hkI : kp L_80557 f_80558 L_80557 f_80558 [h, q_79956, q_79978] := kp.rf
  refine pg_aast S Y (k := 3) p_q_79978 rfl p_q_80555 ok_X4.1 (by unfold vp_in; decide) dX10_init_164 (fun f_80574 H locs ef_80574 Y => ?_)
  obtain ⟨g_80573, eg_80573⟩ : ∃ z, z = va_up (g_80553) (17 : Int32).toNatClampNeg (some q_80555) := ⟨_, rfl⟩
  rw [← eg_80573] at ef_80574
  have p_h := p_h.up ef_80574 ((p_h.neA p_q_79978))
  have p_q_79956 := p_q_79956.up ef_80574 ((p_q_79956.neN p_q_79978 (by decide)))
  have p_q_80555 := p_q_80555.up ef_80574 ((p_q_80555.neA p_q_79978))
  have p_q_79978 := p_q_79978.me ef_80574
  have hk := hk.upN ef_80574 whkq_79978
  have hkI := hkI.up ef_80574 (by simp)
  have fam_pa := fam_s (i := 17) fam_pa eq10_49 eg_80573
  refine lv_iinc (v := 18) (lv' := [(1, .int 18), (0, .ref h)]) hx hb dX10_init_165 hl (k := 0) rfl (by decide) (by decide) rfl (fun ls hl => ?_)
  refine lv_goto (tgt := 146) hx hb dX10_init_168 (by decide) ?_
  refine lv_iload_n hx hb dX10_init_146 rfl (lv_at hl 0 rfl) ?_
  refine lv_bipush (v := 30) hx hb dX10_init_147 (by decide) ?_
  refine lv_icmp_ge (tgt := 171) hx hb dX10_init_149 (by decide) (fun h => absurd h (by decide)) (fun _ => ?_)
  refine lv_aload_n hx hb dX10_init_152 rfl (lv_at hl 1 rfl) ?_
  refine pg_get S Y ok_X10 4 (by decide) kf10_31 (v := .ref q_79978) p_h rfl dX10_init_153 ?_
  refine lv_iload_n hx hb dX10_init_156 rfl (lv_at hl 0 rfl) ?_
  refine pg_new S Y ok_X4 kc10_24 kn4 ki4 (fs := [.null, .null, .int 0, .int 0, .int 0, .int 0, .int 0]) (by decide) (by decide) (by decide) dX10_init_157 (fun q_80575 f_80576 H nq_80575 ef_80576 Y => ?_)
  have whkq_80575 := hk.notin nq_80575
  have hk := hk.push ef_80576 nq_80575
  have whkIq_80575 := hkI.notin nq_80575
  have hkI := hkI.push ef_80576 nq_80575
  have p_h := p_h.push ef_80576 nq_80575
  have p_q_79956 := p_q_79956.push ef_80576 nq_80575
  have p_q_79978 := p_q_79978.push ef_80576 nq_80575
  have p_q_80575 := pt.new (L := L_80557) ef_80576
  refine lv_dup hx hb dX10_init_160 rfl ?_
  refine cINv (b := q_80575) (As := []) (rest := [.ref q_80575, .int 18, .ref q_79978]) S Y (c_X4_init (l := l) p_q_80575) cw_X4_init km10_26 rfl ⟨Nat.le_of_ble_eq_true rfl, Nat.le_of_ble_eq_true rfl⟩ hl.1 rfl (Nat.le_of_ble_eq_true rfl) ⟨Nat.le_of_ble_eq_true rfl, Nat.le_of_ble_eq_true rfl⟩ dX10_init_161 (fun L_80577 f_80578 H locs hf_80578 Y => ?_)
  obtain ⟨a__80579, a__80580, kf_80578, z_z_80581, z_z_80582, z_z_80583, v_80584, v_80585⟩ := hf_80578
  have w_80586 := hk.notin v_80584
  have w_80587 := hkI.notin v_80584
  have w_80588 := hk.notin v_80585
  have w_80589 := hkI.notin v_80585
  have p_h := kf_80578.1 h _ (nmc (p_h.neK p_q_80575 (by decide)) nm0) p_h
  have p_q_79956 := kf_80578.1 q_79956 _ (nmc (p_q_79956.neB p_q_80575) nm0) p_q_79956
  have p_q_79978 := kf_80578.1 q_79978 _ (nmc (p_q_79978.neB p_q_80575) nm0) p_q_79978
  have p_q_80575 := z_z_80581
  have p_a__80579 := z_z_80582
  have p_a__80580 := z_z_80583
  have hk := hk.call kf_80578 (fun b hb hp => (nmc (neL hp whkq_80575) nm0))
  have hkI := hkI.call kf_80578 (fun b hb hp => (nmc (neL hp whkIq_80575) nm0))
  have nr_q_80575 : NRg gl_86 ad35 q_80575 := (SHC.nr I whkIq_80575)
  have nr_a__80579 : NRg gl_86 ad35 a__80579 := (SHC.nr I w_80587)
  have nr_a__80580 : NRg gl_86 ad35 a__80580 := (SHC.nr I w_80589)
  have I := I.kp hkI (allc nr_h (allc nr_q_79956 (allc nr_q_79978 all0)))
  have hkI : kp L_80577 f_80578 L_80577 f_80578 [h, q_79956, q_79978] := kp.rf
  obtain ⟨ad36, I, X_80590, Y_80591, Z_80592⟩ := SHC.led (l2 := gl_87) (n := 50) I rfl rfl rfl (by decide) rfl p_q_80575 p_a__80579 p_a__80580 nr_q_80575 nr_a__80579 nr_a__80580 
  have eq40_1 := (X_80590.2 40 1 (by decide)).trans eq40_1
  have eq41_1 := (X_80590.2 41 1 (by decide)).trans eq41_1
  have eq10_31 := (X_80590.2 10 31 (by decide)).trans eq10_31
  have eq20_5 := (X_80590.2 20 5 (by decide)).trans eq20_5
  have eq20_6 := (X_80590.2 20 6 (by decide)).trans eq20_6
  have eq20_7 := (X_80590.2 20 7 (by decide)).trans eq20_7
  have eq20_8 := (X_80590.2 20 8 (by decide)).trans eq20_8
  have eq20_9 := (X_80590.2 20 9 (by decide)).trans eq20_9
  have fam_sc := fam_x fam_sc X_80590 (by decide)
  have fam_pa := fam_x fam_pa X_80590 (by decide)
  have nr_h := Z_80592 _ nr_h (p_h.neK p_q_80575 (by decide)) (p_h.neA p_a__80579) (p_h.neA p_a__80580)
  have nr_q_79956 := Z_80592 _ nr_q_79956 (p_q_79956.neB p_q_80575) (p_q_79956.neN p_a__80579 (by decide)) (p_q_79956.neN p_a__80580 (by decide))
  have nr_q_79978 := Z_80592 _ nr_q_79978 (p_q_79978.neB p_q_80575) (p_q_79978.neN p_a__80579 (by decide)) (p_q_79978.neN p_a__80580 (by decide))
  have hout : ∀ x, x ∈ L → NRg gl_50 ad x → NRg gl_87 ad36 x := fun x hx hn => Z_80592 x (hout x hx hn) (fun e => whkq_80575 (by rw [← e]; exact hx)) (fun e => w_80586 (by rw [← e]; exact hx)) (fun e => w_80588 (by rw [← e]; exact hx))
  have hext := hext.tr X_80590
  have eq10_50 := Y_80591
  have hkI : kp L_80577 f_80578 L_80577 f_80578 [h, q_79956, q_79978] := kp.rf
  refine pg_aast S Y (k := 3) p_q_79978 rfl p_q_80575 ok_X4.1 (by unfold vp_in; decide) dX10_init_164 (fun f_80594 H locs ef_80594 Y => ?_)
  obtain ⟨g_80593, eg_80593⟩ : ∃ z, z = va_up (g_80573) (18 : Int32).toNatClampNeg (some q_80575) := ⟨_, rfl⟩
  rw [← eg_80593] at ef_80594
  have p_h := p_h.up ef_80594 ((p_h.neA p_q_79978))
  have p_q_79956 := p_q_79956.up ef_80594 ((p_q_79956.neN p_q_79978 (by decide)))
  have p_q_80575 := p_q_80575.up ef_80594 ((p_q_80575.neA p_q_79978))
  have p_q_79978 := p_q_79978.me ef_80594
  have hk := hk.upN ef_80594 whkq_79978
  have hkI := hkI.up ef_80594 (by simp)
  have fam_pa := fam_s (i := 18) fam_pa eq10_50 eg_80593
  refine lv_iinc (v := 19) (lv' := [(1, .int 19), (0, .ref h)]) hx hb dX10_init_165 hl (k := 0) rfl (by decide) (by decide) rfl (fun ls hl => ?_)
  refine lv_goto (tgt := 146) hx hb dX10_init_168 (by decide) ?_
  refine lv_iload_n hx hb dX10_init_146 rfl (lv_at hl 0 rfl) ?_
  refine lv_bipush (v := 30) hx hb dX10_init_147 (by decide) ?_
  refine lv_icmp_ge (tgt := 171) hx hb dX10_init_149 (by decide) (fun h => absurd h (by decide)) (fun _ => ?_)
  refine lv_aload_n hx hb dX10_init_152 rfl (lv_at hl 1 rfl) ?_
  refine pg_get S Y ok_X10 4 (by decide) kf10_31 (v := .ref q_79978) p_h rfl dX10_init_153 ?_
  refine lv_iload_n hx hb dX10_init_156 rfl (lv_at hl 0 rfl) ?_
  refine pg_new S Y ok_X4 kc10_24 kn4 ki4 (fs := [.null, .null, .int 0, .int 0, .int 0, .int 0, .int 0]) (by decide) (by decide) (by decide) dX10_init_157 (fun q_80595 f_80596 H nq_80595 ef_80596 Y => ?_)
  have whkq_80595 := hk.notin nq_80595
  have hk := hk.push ef_80596 nq_80595
  have whkIq_80595 := hkI.notin nq_80595
  have hkI := hkI.push ef_80596 nq_80595
  have p_h := p_h.push ef_80596 nq_80595
  have p_q_79956 := p_q_79956.push ef_80596 nq_80595
  have p_q_79978 := p_q_79978.push ef_80596 nq_80595
  have p_q_80595 := pt.new (L := L_80577) ef_80596
  refine lv_dup hx hb dX10_init_160 rfl ?_
  refine cINv (b := q_80595) (As := []) (rest := [.ref q_80595, .int 19, .ref q_79978]) S Y (c_X4_init (l := l) p_q_80595) cw_X4_init km10_26 rfl ⟨Nat.le_of_ble_eq_true rfl, Nat.le_of_ble_eq_true rfl⟩ hl.1 rfl (Nat.le_of_ble_eq_true rfl) ⟨Nat.le_of_ble_eq_true rfl, Nat.le_of_ble_eq_true rfl⟩ dX10_init_161 (fun L_80597 f_80598 H locs hf_80598 Y => ?_)
  obtain ⟨a__80599, a__80600, kf_80598, z_z_80601, z_z_80602, z_z_80603, v_80604, v_80605⟩ := hf_80598
  have w_80606 := hk.notin v_80604
  have w_80607 := hkI.notin v_80604
  have w_80608 := hk.notin v_80605
  have w_80609 := hkI.notin v_80605
  have p_h := kf_80598.1 h _ (nmc (p_h.neK p_q_80595 (by decide)) nm0) p_h
  have p_q_79956 := kf_80598.1 q_79956 _ (nmc (p_q_79956.neB p_q_80595) nm0) p_q_79956
  have p_q_79978 := kf_80598.1 q_79978 _ (nmc (p_q_79978.neB p_q_80595) nm0) p_q_79978
  have p_q_80595 := z_z_80601
  have p_a__80599 := z_z_80602
  have p_a__80600 := z_z_80603
  have hk := hk.call kf_80598 (fun b hb hp => (nmc (neL hp whkq_80595) nm0))
  have hkI := hkI.call kf_80598 (fun b hb hp => (nmc (neL hp whkIq_80595) nm0))
  have nr_q_80595 : NRg gl_87 ad36 q_80595 := (SHC.nr I whkIq_80595)
  have nr_a__80599 : NRg gl_87 ad36 a__80599 := (SHC.nr I w_80607)
  have nr_a__80600 : NRg gl_87 ad36 a__80600 := (SHC.nr I w_80609)
  have I := I.kp hkI (allc nr_h (allc nr_q_79956 (allc nr_q_79978 all0)))
  have hkI : kp L_80597 f_80598 L_80597 f_80598 [h, q_79956, q_79978] := kp.rf
  obtain ⟨ad37, I, X_80610, Y_80611, Z_80612⟩ := SHC.led (l2 := gl_88) (n := 51) I rfl rfl rfl (by decide) rfl p_q_80595 p_a__80599 p_a__80600 nr_q_80595 nr_a__80599 nr_a__80600 
  have eq40_1 := (X_80610.2 40 1 (by decide)).trans eq40_1
  have eq41_1 := (X_80610.2 41 1 (by decide)).trans eq41_1
  have eq10_31 := (X_80610.2 10 31 (by decide)).trans eq10_31
  have eq20_5 := (X_80610.2 20 5 (by decide)).trans eq20_5
  have eq20_6 := (X_80610.2 20 6 (by decide)).trans eq20_6
  have eq20_7 := (X_80610.2 20 7 (by decide)).trans eq20_7
  have eq20_8 := (X_80610.2 20 8 (by decide)).trans eq20_8
  have eq20_9 := (X_80610.2 20 9 (by decide)).trans eq20_9
  have fam_sc := fam_x fam_sc X_80610 (by decide)
  have fam_pa := fam_x fam_pa X_80610 (by decide)
  have nr_h := Z_80612 _ nr_h (p_h.neK p_q_80595 (by decide)) (p_h.neA p_a__80599) (p_h.neA p_a__80600)
  have nr_q_79956 := Z_80612 _ nr_q_79956 (p_q_79956.neB p_q_80595) (p_q_79956.neN p_a__80599 (by decide)) (p_q_79956.neN p_a__80600 (by decide))
  have nr_q_79978 := Z_80612 _ nr_q_79978 (p_q_79978.neB p_q_80595) (p_q_79978.neN p_a__80599 (by decide)) (p_q_79978.neN p_a__80600 (by decide))
  have hout : ∀ x, x ∈ L → NRg gl_50 ad x → NRg gl_88 ad37 x := fun x hx hn => Z_80612 x (hout x hx hn) (fun e => whkq_80595 (by rw [← e]; exact hx)) (fun e => w_80606 (by rw [← e]; exact hx)) (fun e => w_80608 (by rw [← e]; exact hx))
  have hext := hext.tr X_80610
  have eq10_51 := Y_80611
  have hkI : kp L_80597 f_80598 L_80597 f_80598 [h, q_79956, q_79978] := kp.rf
  refine pg_aast S Y (k := 3) p_q_79978 rfl p_q_80595 ok_X4.1 (by unfold vp_in; decide) dX10_init_164 (fun f_80614 H locs ef_80614 Y => ?_)
  obtain ⟨g_80613, eg_80613⟩ : ∃ z, z = va_up (g_80593) (19 : Int32).toNatClampNeg (some q_80595) := ⟨_, rfl⟩
  rw [← eg_80613] at ef_80614
  have p_h := p_h.up ef_80614 ((p_h.neA p_q_79978))
  have p_q_79956 := p_q_79956.up ef_80614 ((p_q_79956.neN p_q_79978 (by decide)))
  have p_q_80595 := p_q_80595.up ef_80614 ((p_q_80595.neA p_q_79978))
  have p_q_79978 := p_q_79978.me ef_80614
  have hk := hk.upN ef_80614 whkq_79978
  have hkI := hkI.up ef_80614 (by simp)
  have fam_pa := fam_s (i := 19) fam_pa eq10_51 eg_80613
  refine lv_iinc (v := 20) (lv' := [(1, .int 20), (0, .ref h)]) hx hb dX10_init_165 hl (k := 0) rfl (by decide) (by decide) rfl (fun ls hl => ?_)
  refine lv_goto (tgt := 146) hx hb dX10_init_168 (by decide) ?_
  refine lv_iload_n hx hb dX10_init_146 rfl (lv_at hl 0 rfl) ?_
  refine lv_bipush (v := 30) hx hb dX10_init_147 (by decide) ?_
  refine lv_icmp_ge (tgt := 171) hx hb dX10_init_149 (by decide) (fun h => absurd h (by decide)) (fun _ => ?_)
  refine lv_aload_n hx hb dX10_init_152 rfl (lv_at hl 1 rfl) ?_
  refine pg_get S Y ok_X10 4 (by decide) kf10_31 (v := .ref q_79978) p_h rfl dX10_init_153 ?_
  refine lv_iload_n hx hb dX10_init_156 rfl (lv_at hl 0 rfl) ?_
  refine pg_new S Y ok_X4 kc10_24 kn4 ki4 (fs := [.null, .null, .int 0, .int 0, .int 0, .int 0, .int 0]) (by decide) (by decide) (by decide) dX10_init_157 (fun q_80615 f_80616 H nq_80615 ef_80616 Y => ?_)
  have whkq_80615 := hk.notin nq_80615
  have hk := hk.push ef_80616 nq_80615
  have whkIq_80615 := hkI.notin nq_80615
  have hkI := hkI.push ef_80616 nq_80615
  have p_h := p_h.push ef_80616 nq_80615
  have p_q_79956 := p_q_79956.push ef_80616 nq_80615
  have p_q_79978 := p_q_79978.push ef_80616 nq_80615
  have p_q_80615 := pt.new (L := L_80597) ef_80616
  refine lv_dup hx hb dX10_init_160 rfl ?_
  refine cINv (b := q_80615) (As := []) (rest := [.ref q_80615, .int 20, .ref q_79978]) S Y (c_X4_init (l := l) p_q_80615) cw_X4_init km10_26 rfl ⟨Nat.le_of_ble_eq_true rfl, Nat.le_of_ble_eq_true rfl⟩ hl.1 rfl (Nat.le_of_ble_eq_true rfl) ⟨Nat.le_of_ble_eq_true rfl, Nat.le_of_ble_eq_true rfl⟩ dX10_init_161 (fun L_80617 f_80618 H locs hf_80618 Y => ?_)
  obtain ⟨a__80619, a__80620, kf_80618, z_z_80621, z_z_80622, z_z_80623, v_80624, v_80625⟩ := hf_80618
  have w_80626 := hk.notin v_80624
  have w_80627 := hkI.notin v_80624
  have w_80628 := hk.notin v_80625
  have w_80629 := hkI.notin v_80625
  have p_h := kf_80618.1 h _ (nmc (p_h.neK p_q_80615 (by decide)) nm0) p_h
  have p_q_79956 := kf_80618.1 q_79956 _ (nmc (p_q_79956.neB p_q_80615) nm0) p_q_79956
  have p_q_79978 := kf_80618.1 q_79978 _ (nmc (p_q_79978.neB p_q_80615) nm0) p_q_79978
  have p_q_80615 := z_z_80621
  have p_a__80619 := z_z_80622
  have p_a__80620 := z_z_80623
  have hk := hk.call kf_80618 (fun b hb hp => (nmc (neL hp whkq_80615) nm0))
  have hkI := hkI.call kf_80618 (fun b hb hp => (nmc (neL hp whkIq_80615) nm0))
  have nr_q_80615 : NRg gl_88 ad37 q_80615 := (SHC.nr I whkIq_80615)
  have nr_a__80619 : NRg gl_88 ad37 a__80619 := (SHC.nr I w_80627)
  have nr_a__80620 : NRg gl_88 ad37 a__80620 := (SHC.nr I w_80629)
  have I := I.kp hkI (allc nr_h (allc nr_q_79956 (allc nr_q_79978 all0)))
  have hkI : kp L_80617 f_80618 L_80617 f_80618 [h, q_79956, q_79978] := kp.rf
  obtain ⟨ad38, I, X_80630, Y_80631, Z_80632⟩ := SHC.led (l2 := gl_89) (n := 52) I rfl rfl rfl (by decide) rfl p_q_80615 p_a__80619 p_a__80620 nr_q_80615 nr_a__80619 nr_a__80620 
  have eq40_1 := (X_80630.2 40 1 (by decide)).trans eq40_1
  have eq41_1 := (X_80630.2 41 1 (by decide)).trans eq41_1
  have eq10_31 := (X_80630.2 10 31 (by decide)).trans eq10_31
  have eq20_5 := (X_80630.2 20 5 (by decide)).trans eq20_5
  have eq20_6 := (X_80630.2 20 6 (by decide)).trans eq20_6
  have eq20_7 := (X_80630.2 20 7 (by decide)).trans eq20_7
  have eq20_8 := (X_80630.2 20 8 (by decide)).trans eq20_8
  have eq20_9 := (X_80630.2 20 9 (by decide)).trans eq20_9
  have fam_sc := fam_x fam_sc X_80630 (by decide)
  have fam_pa := fam_x fam_pa X_80630 (by decide)
  have nr_h := Z_80632 _ nr_h (p_h.neK p_q_80615 (by decide)) (p_h.neA p_a__80619) (p_h.neA p_a__80620)
  have nr_q_79956 := Z_80632 _ nr_q_79956 (p_q_79956.neB p_q_80615) (p_q_79956.neN p_a__80619 (by decide)) (p_q_79956.neN p_a__80620 (by decide))
  have nr_q_79978 := Z_80632 _ nr_q_79978 (p_q_79978.neB p_q_80615) (p_q_79978.neN p_a__80619 (by decide)) (p_q_79978.neN p_a__80620 (by decide))
  have hout : ∀ x, x ∈ L → NRg gl_50 ad x → NRg gl_89 ad38 x := fun x hx hn => Z_80632 x (hout x hx hn) (fun e => whkq_80615 (by rw [← e]; exact hx)) (fun e => w_80626 (by rw [← e]; exact hx)) (fun e => w_80628 (by rw [← e]; exact hx))
  have hext := hext.tr X_80630
  have eq10_52 := Y_80631
  have hkI : kp L_80617 f_80618 L_80617 f_80618 [h, q_79956, q_79978] := kp.rf
  refine pg_aast S Y (k := 3) p_q_79978 rfl p_q_80615 ok_X4.1 (by unfold vp_in; decide) dX10_init_164 (fun f_80634 H locs ef_80634 Y => ?_)
  obtain ⟨g_80633, eg_80633⟩ : ∃ z, z = va_up (g_80613) (20 : Int32).toNatClampNeg (some q_80615) := ⟨_, rfl⟩
  rw [← eg_80633] at ef_80634
  have p_h := p_h.up ef_80634 ((p_h.neA p_q_79978))
  have p_q_79956 := p_q_79956.up ef_80634 ((p_q_79956.neN p_q_79978 (by decide)))
  have p_q_80615 := p_q_80615.up ef_80634 ((p_q_80615.neA p_q_79978))
  have p_q_79978 := p_q_79978.me ef_80634
  have hk := hk.upN ef_80634 whkq_79978
  have hkI := hkI.up ef_80634 (by simp)
  have fam_pa := fam_s (i := 20) fam_pa eq10_52 eg_80633
  refine lv_iinc (v := 21) (lv' := [(1, .int 21), (0, .ref h)]) hx hb dX10_init_165 hl (k := 0) rfl (by decide) (by decide) rfl (fun ls hl => ?_)
  refine lv_goto (tgt := 146) hx hb dX10_init_168 (by decide) ?_
  refine lv_iload_n hx hb dX10_init_146 rfl (lv_at hl 0 rfl) ?_
  refine lv_bipush (v := 30) hx hb dX10_init_147 (by decide) ?_
  refine lv_icmp_ge (tgt := 171) hx hb dX10_init_149 (by decide) (fun h => absurd h (by decide)) (fun _ => ?_)
  refine lv_aload_n hx hb dX10_init_152 rfl (lv_at hl 1 rfl) ?_
  refine pg_get S Y ok_X10 4 (by decide) kf10_31 (v := .ref q_79978) p_h rfl dX10_init_153 ?_
  refine lv_iload_n hx hb dX10_init_156 rfl (lv_at hl 0 rfl) ?_
  refine pg_new S Y ok_X4 kc10_24 kn4 ki4 (fs := [.null, .null, .int 0, .int 0, .int 0, .int 0, .int 0]) (by decide) (by decide) (by decide) dX10_init_157 (fun q_80635 f_80636 H nq_80635 ef_80636 Y => ?_)
  have whkq_80635 := hk.notin nq_80635
  have hk := hk.push ef_80636 nq_80635
  have whkIq_80635 := hkI.notin nq_80635
  have hkI := hkI.push ef_80636 nq_80635
  have p_h := p_h.push ef_80636 nq_80635
  have p_q_79956 := p_q_79956.push ef_80636 nq_80635
  have p_q_79978 := p_q_79978.push ef_80636 nq_80635
  have p_q_80635 := pt.new (L := L_80617) ef_80636
  refine lv_dup hx hb dX10_init_160 rfl ?_
  refine cINv (b := q_80635) (As := []) (rest := [.ref q_80635, .int 21, .ref q_79978]) S Y (c_X4_init (l := l) p_q_80635) cw_X4_init km10_26 rfl ⟨Nat.le_of_ble_eq_true rfl, Nat.le_of_ble_eq_true rfl⟩ hl.1 rfl (Nat.le_of_ble_eq_true rfl) ⟨Nat.le_of_ble_eq_true rfl, Nat.le_of_ble_eq_true rfl⟩ dX10_init_161 (fun L_80637 f_80638 H locs hf_80638 Y => ?_)
  obtain ⟨a__80639, a__80640, kf_80638, z_z_80641, z_z_80642, z_z_80643, v_80644, v_80645⟩ := hf_80638
  have w_80646 := hk.notin v_80644
  have w_80647 := hkI.notin v_80644
  have w_80648 := hk.notin v_80645
  have w_80649 := hkI.notin v_80645
  have p_h := kf_80638.1 h _ (nmc (p_h.neK p_q_80635 (by decide)) nm0) p_h
  have p_q_79956 := kf_80638.1 q_79956 _ (nmc (p_q_79956.neB p_q_80635) nm0) p_q_79956
  have p_q_79978 := kf_80638.1 q_79978 _ (nmc (p_q_79978.neB p_q_80635) nm0) p_q_79978
  have p_q_80635 := z_z_80641
  have p_a__80639 := z_z_80642
  have p_a__80640 := z_z_80643
  have hk := hk.call kf_80638 (fun b hb hp => (nmc (neL hp whkq_80635) nm0))
  have hkI := hkI.call kf_80638 (fun b hb hp => (nmc (neL hp whkIq_80635) nm0))
  have nr_q_80635 : NRg gl_89 ad38 q_80635 := (SHC.nr I whkIq_80635)
  have nr_a__80639 : NRg gl_89 ad38 a__80639 := (SHC.nr I w_80647)
  have nr_a__80640 : NRg gl_89 ad38 a__80640 := (SHC.nr I w_80649)
  have I := I.kp hkI (allc nr_h (allc nr_q_79956 (allc nr_q_79978 all0)))
  have hkI : kp L_80637 f_80638 L_80637 f_80638 [h, q_79956, q_79978] := kp.rf
  obtain ⟨ad39, I, X_80650, Y_80651, Z_80652⟩ := SHC.led (l2 := gl_90) (n := 53) I rfl rfl rfl (by decide) rfl p_q_80635 p_a__80639 p_a__80640 nr_q_80635 nr_a__80639 nr_a__80640 
  have eq40_1 := (X_80650.2 40 1 (by decide)).trans eq40_1
  have eq41_1 := (X_80650.2 41 1 (by decide)).trans eq41_1
  have eq10_31 := (X_80650.2 10 31 (by decide)).trans eq10_31
  have eq20_5 := (X_80650.2 20 5 (by decide)).trans eq20_5
  have eq20_6 := (X_80650.2 20 6 (by decide)).trans eq20_6
  have eq20_7 := (X_80650.2 20 7 (by decide)).trans eq20_7
  have eq20_8 := (X_80650.2 20 8 (by decide)).trans eq20_8
  have eq20_9 := (X_80650.2 20 9 (by decide)).trans eq20_9
  have fam_sc := fam_x fam_sc X_80650 (by decide)
  have fam_pa := fam_x fam_pa X_80650 (by decide)
  have nr_h := Z_80652 _ nr_h (p_h.neK p_q_80635 (by decide)) (p_h.neA p_a__80639) (p_h.neA p_a__80640)
  have nr_q_79956 := Z_80652 _ nr_q_79956 (p_q_79956.neB p_q_80635) (p_q_79956.neN p_a__80639 (by decide)) (p_q_79956.neN p_a__80640 (by decide))
  have nr_q_79978 := Z_80652 _ nr_q_79978 (p_q_79978.neB p_q_80635) (p_q_79978.neN p_a__80639 (by decide)) (p_q_79978.neN p_a__80640 (by decide))
  have hout : ∀ x, x ∈ L → NRg gl_50 ad x → NRg gl_90 ad39 x := fun x hx hn => Z_80652 x (hout x hx hn) (fun e => whkq_80635 (by rw [← e]; exact hx)) (fun e => w_80646 (by rw [← e]; exact hx)) (fun e => w_80648 (by rw [← e]; exact hx))
  have hext := hext.tr X_80650
  have eq10_53 := Y_80651
  have hkI : kp L_80637 f_80638 L_80637 f_80638 [h, q_79956, q_79978] := kp.rf
  refine pg_aast S Y (k := 3) p_q_79978 rfl p_q_80635 ok_X4.1 (by unfold vp_in; decide) dX10_init_164 (fun f_80654 H locs ef_80654 Y => ?_)
  obtain ⟨g_80653, eg_80653⟩ : ∃ z, z = va_up (g_80633) (21 : Int32).toNatClampNeg (some q_80635) := ⟨_, rfl⟩
  rw [← eg_80653] at ef_80654
  have p_h := p_h.up ef_80654 ((p_h.neA p_q_79978))
  have p_q_79956 := p_q_79956.up ef_80654 ((p_q_79956.neN p_q_79978 (by decide)))
  have p_q_80635 := p_q_80635.up ef_80654 ((p_q_80635.neA p_q_79978))
  have p_q_79978 := p_q_79978.me ef_80654
  have hk := hk.upN ef_80654 whkq_79978
  have hkI := hkI.up ef_80654 (by simp)
  have fam_pa := fam_s (i := 21) fam_pa eq10_53 eg_80653
  refine lv_iinc (v := 22) (lv' := [(1, .int 22), (0, .ref h)]) hx hb dX10_init_165 hl (k := 0) rfl (by decide) (by decide) rfl (fun ls hl => ?_)
  refine lv_goto (tgt := 146) hx hb dX10_init_168 (by decide) ?_
  refine lv_iload_n hx hb dX10_init_146 rfl (lv_at hl 0 rfl) ?_
  refine lv_bipush (v := 30) hx hb dX10_init_147 (by decide) ?_
  refine lv_icmp_ge (tgt := 171) hx hb dX10_init_149 (by decide) (fun h => absurd h (by decide)) (fun _ => ?_)
  refine lv_aload_n hx hb dX10_init_152 rfl (lv_at hl 1 rfl) ?_
  refine pg_get S Y ok_X10 4 (by decide) kf10_31 (v := .ref q_79978) p_h rfl dX10_init_153 ?_
  refine lv_iload_n hx hb dX10_init_156 rfl (lv_at hl 0 rfl) ?_
  refine pg_new S Y ok_X4 kc10_24 kn4 ki4 (fs := [.null, .null, .int 0, .int 0, .int 0, .int 0, .int 0]) (by decide) (by decide) (by decide) dX10_init_157 (fun q_80655 f_80656 H nq_80655 ef_80656 Y => ?_)
  have whkq_80655 := hk.notin nq_80655
  have hk := hk.push ef_80656 nq_80655
  have whkIq_80655 := hkI.notin nq_80655
  have hkI := hkI.push ef_80656 nq_80655
  have p_h := p_h.push ef_80656 nq_80655
  have p_q_79956 := p_q_79956.push ef_80656 nq_80655
  have p_q_79978 := p_q_79978.push ef_80656 nq_80655
  have p_q_80655 := pt.new (L := L_80637) ef_80656
  refine lv_dup hx hb dX10_init_160 rfl ?_
  refine cINv (b := q_80655) (As := []) (rest := [.ref q_80655, .int 22, .ref q_79978]) S Y (c_X4_init (l := l) p_q_80655) cw_X4_init km10_26 rfl ⟨Nat.le_of_ble_eq_true rfl, Nat.le_of_ble_eq_true rfl⟩ hl.1 rfl (Nat.le_of_ble_eq_true rfl) ⟨Nat.le_of_ble_eq_true rfl, Nat.le_of_ble_eq_true rfl⟩ dX10_init_161 (fun L_80657 f_80658 H locs hf_80658 Y => ?_)
  obtain ⟨a__80659, a__80660, kf_80658, z_z_80661, z_z_80662, z_z_80663, v_80664, v_80665⟩ := hf_80658
  have w_80666 := hk.notin v_80664
  have w_80667 := hkI.notin v_80664
  have w_80668 := hk.notin v_80665
  have w_80669 := hkI.notin v_80665
  have p_h := kf_80658.1 h _ (nmc (p_h.neK p_q_80655 (by decide)) nm0) p_h
  have p_q_79956 := kf_80658.1 q_79956 _ (nmc (p_q_79956.neB p_q_80655) nm0) p_q_79956
  have p_q_79978 := kf_80658.1 q_79978 _ (nmc (p_q_79978.neB p_q_80655) nm0) p_q_79978
  have p_q_80655 := z_z_80661
  have p_a__80659 := z_z_80662
  have p_a__80660 := z_z_80663
  have hk := hk.call kf_80658 (fun b hb hp => (nmc (neL hp whkq_80655) nm0))
  have hkI := hkI.call kf_80658 (fun b hb hp => (nmc (neL hp whkIq_80655) nm0))
  have nr_q_80655 : NRg gl_90 ad39 q_80655 := (SHC.nr I whkIq_80655)
  have nr_a__80659 : NRg gl_90 ad39 a__80659 := (SHC.nr I w_80667)
  have nr_a__80660 : NRg gl_90 ad39 a__80660 := (SHC.nr I w_80669)
  have I := I.kp hkI (allc nr_h (allc nr_q_79956 (allc nr_q_79978 all0)))
  have hkI : kp L_80657 f_80658 L_80657 f_80658 [h, q_79956, q_79978] := kp.rf
  obtain ⟨ad40, I, X_80670, Y_80671, Z_80672⟩ := SHC.led (l2 := gl_91) (n := 54) I rfl rfl rfl (by decide) rfl p_q_80655 p_a__80659 p_a__80660 nr_q_80655 nr_a__80659 nr_a__80660 
  have eq40_1 := (X_80670.2 40 1 (by decide)).trans eq40_1
  have eq41_1 := (X_80670.2 41 1 (by decide)).trans eq41_1
  have eq10_31 := (X_80670.2 10 31 (by decide)).trans eq10_31
  have eq20_5 := (X_80670.2 20 5 (by decide)).trans eq20_5
  have eq20_6 := (X_80670.2 20 6 (by decide)).trans eq20_6
  have eq20_7 := (X_80670.2 20 7 (by decide)).trans eq20_7
  have eq20_8 := (X_80670.2 20 8 (by decide)).trans eq20_8
  have eq20_9 := (X_80670.2 20 9 (by decide)).trans eq20_9
  have fam_sc := fam_x fam_sc X_80670 (by decide)
  have fam_pa := fam_x fam_pa X_80670 (by decide)
  have nr_h := Z_80672 _ nr_h (p_h.neK p_q_80655 (by decide)) (p_h.neA p_a__80659) (p_h.neA p_a__80660)
  have nr_q_79956 := Z_80672 _ nr_q_79956 (p_q_79956.neB p_q_80655) (p_q_79956.neN p_a__80659 (by decide)) (p_q_79956.neN p_a__80660 (by decide))
  have nr_q_79978 := Z_80672 _ nr_q_79978 (p_q_79978.neB p_q_80655) (p_q_79978.neN p_a__80659 (by decide)) (p_q_79978.neN p_a__80660 (by decide))
  have hout : ∀ x, x ∈ L → NRg gl_50 ad x → NRg gl_91 ad40 x := fun x hx hn => Z_80672 x (hout x hx hn) (fun e => whkq_80655 (by rw [← e]; exact hx)) (fun e => w_80666 (by rw [← e]; exact hx)) (fun e => w_80668 (by rw [← e]; exact hx))
  have hext := hext.tr X_80670
  have eq10_54 := Y_80671
  have hkI : kp L_80657 f_80658 L_80657 f_80658 [h, q_79956, q_79978] := kp.rf
  refine pg_aast S Y (k := 3) p_q_79978 rfl p_q_80655 ok_X4.1 (by unfold vp_in; decide) dX10_init_164 (fun f_80674 H locs ef_80674 Y => ?_)
  obtain ⟨g_80673, eg_80673⟩ : ∃ z, z = va_up (g_80653) (22 : Int32).toNatClampNeg (some q_80655) := ⟨_, rfl⟩
  rw [← eg_80673] at ef_80674
  have p_h := p_h.up ef_80674 ((p_h.neA p_q_79978))
  have p_q_79956 := p_q_79956.up ef_80674 ((p_q_79956.neN p_q_79978 (by decide)))
  have p_q_80655 := p_q_80655.up ef_80674 ((p_q_80655.neA p_q_79978))
  have p_q_79978 := p_q_79978.me ef_80674
  have hk := hk.upN ef_80674 whkq_79978
  have hkI := hkI.up ef_80674 (by simp)
  have fam_pa := fam_s (i := 22) fam_pa eq10_54 eg_80673
  refine lv_iinc (v := 23) (lv' := [(1, .int 23), (0, .ref h)]) hx hb dX10_init_165 hl (k := 0) rfl (by decide) (by decide) rfl (fun ls hl => ?_)
  refine lv_goto (tgt := 146) hx hb dX10_init_168 (by decide) ?_
  refine lv_iload_n hx hb dX10_init_146 rfl (lv_at hl 0 rfl) ?_
  refine lv_bipush (v := 30) hx hb dX10_init_147 (by decide) ?_
  refine lv_icmp_ge (tgt := 171) hx hb dX10_init_149 (by decide) (fun h => absurd h (by decide)) (fun _ => ?_)
  refine lv_aload_n hx hb dX10_init_152 rfl (lv_at hl 1 rfl) ?_
  refine pg_get S Y ok_X10 4 (by decide) kf10_31 (v := .ref q_79978) p_h rfl dX10_init_153 ?_
  refine lv_iload_n hx hb dX10_init_156 rfl (lv_at hl 0 rfl) ?_
  refine pg_new S Y ok_X4 kc10_24 kn4 ki4 (fs := [.null, .null, .int 0, .int 0, .int 0, .int 0, .int 0]) (by decide) (by decide) (by decide) dX10_init_157 (fun q_80675 f_80676 H nq_80675 ef_80676 Y => ?_)
  have whkq_80675 := hk.notin nq_80675
  have hk := hk.push ef_80676 nq_80675
  have whkIq_80675 := hkI.notin nq_80675
  have hkI := hkI.push ef_80676 nq_80675
  have p_h := p_h.push ef_80676 nq_80675
  have p_q_79956 := p_q_79956.push ef_80676 nq_80675
  have p_q_79978 := p_q_79978.push ef_80676 nq_80675
  have p_q_80675 := pt.new (L := L_80657) ef_80676
  refine lv_dup hx hb dX10_init_160 rfl ?_
  refine cINv (b := q_80675) (As := []) (rest := [.ref q_80675, .int 23, .ref q_79978]) S Y (c_X4_init (l := l) p_q_80675) cw_X4_init km10_26 rfl ⟨Nat.le_of_ble_eq_true rfl, Nat.le_of_ble_eq_true rfl⟩ hl.1 rfl (Nat.le_of_ble_eq_true rfl) ⟨Nat.le_of_ble_eq_true rfl, Nat.le_of_ble_eq_true rfl⟩ dX10_init_161 (fun L_80677 f_80678 H locs hf_80678 Y => ?_)
  obtain ⟨a__80679, a__80680, kf_80678, z_z_80681, z_z_80682, z_z_80683, v_80684, v_80685⟩ := hf_80678
  have w_80686 := hk.notin v_80684
  have w_80687 := hkI.notin v_80684
  have w_80688 := hk.notin v_80685
  have w_80689 := hkI.notin v_80685
  have p_h := kf_80678.1 h _ (nmc (p_h.neK p_q_80675 (by decide)) nm0) p_h
  have p_q_79956 := kf_80678.1 q_79956 _ (nmc (p_q_79956.neB p_q_80675) nm0) p_q_79956
  have p_q_79978 := kf_80678.1 q_79978 _ (nmc (p_q_79978.neB p_q_80675) nm0) p_q_79978
  have p_q_80675 := z_z_80681
  have p_a__80679 := z_z_80682
  have p_a__80680 := z_z_80683
  have hk := hk.call kf_80678 (fun b hb hp => (nmc (neL hp whkq_80675) nm0))
  have hkI := hkI.call kf_80678 (fun b hb hp => (nmc (neL hp whkIq_80675) nm0))
  have nr_q_80675 : NRg gl_91 ad40 q_80675 := (SHC.nr I whkIq_80675)
  have nr_a__80679 : NRg gl_91 ad40 a__80679 := (SHC.nr I w_80687)
  have nr_a__80680 : NRg gl_91 ad40 a__80680 := (SHC.nr I w_80689)
  have I := I.kp hkI (allc nr_h (allc nr_q_79956 (allc nr_q_79978 all0)))
  have hkI : kp L_80677 f_80678 L_80677 f_80678 [h, q_79956, q_79978] := kp.rf
  obtain ⟨ad41, I, X_80690, Y_80691, Z_80692⟩ := SHC.led (l2 := gl_92) (n := 55) I rfl rfl rfl (by decide) rfl p_q_80675 p_a__80679 p_a__80680 nr_q_80675 nr_a__80679 nr_a__80680 
  have eq40_1 := (X_80690.2 40 1 (by decide)).trans eq40_1
  have eq41_1 := (X_80690.2 41 1 (by decide)).trans eq41_1
  have eq10_31 := (X_80690.2 10 31 (by decide)).trans eq10_31
  have eq20_5 := (X_80690.2 20 5 (by decide)).trans eq20_5
  have eq20_6 := (X_80690.2 20 6 (by decide)).trans eq20_6
  have eq20_7 := (X_80690.2 20 7 (by decide)).trans eq20_7
  have eq20_8 := (X_80690.2 20 8 (by decide)).trans eq20_8
  have eq20_9 := (X_80690.2 20 9 (by decide)).trans eq20_9
  have fam_sc := fam_x fam_sc X_80690 (by decide)
  have fam_pa := fam_x fam_pa X_80690 (by decide)
  have nr_h := Z_80692 _ nr_h (p_h.neK p_q_80675 (by decide)) (p_h.neA p_a__80679) (p_h.neA p_a__80680)
  have nr_q_79956 := Z_80692 _ nr_q_79956 (p_q_79956.neB p_q_80675) (p_q_79956.neN p_a__80679 (by decide)) (p_q_79956.neN p_a__80680 (by decide))
  have nr_q_79978 := Z_80692 _ nr_q_79978 (p_q_79978.neB p_q_80675) (p_q_79978.neN p_a__80679 (by decide)) (p_q_79978.neN p_a__80680 (by decide))
  have hout : ∀ x, x ∈ L → NRg gl_50 ad x → NRg gl_92 ad41 x := fun x hx hn => Z_80692 x (hout x hx hn) (fun e => whkq_80675 (by rw [← e]; exact hx)) (fun e => w_80686 (by rw [← e]; exact hx)) (fun e => w_80688 (by rw [← e]; exact hx))
  have hext := hext.tr X_80690
  have eq10_55 := Y_80691
  have hkI : kp L_80677 f_80678 L_80677 f_80678 [h, q_79956, q_79978] := kp.rf
  refine pg_aast S Y (k := 3) p_q_79978 rfl p_q_80675 ok_X4.1 (by unfold vp_in; decide) dX10_init_164 (fun f_80694 H locs ef_80694 Y => ?_)
  obtain ⟨g_80693, eg_80693⟩ : ∃ z, z = va_up (g_80673) (23 : Int32).toNatClampNeg (some q_80675) := ⟨_, rfl⟩
  rw [← eg_80693] at ef_80694
  have p_h := p_h.up ef_80694 ((p_h.neA p_q_79978))
  have p_q_79956 := p_q_79956.up ef_80694 ((p_q_79956.neN p_q_79978 (by decide)))
  have p_q_80675 := p_q_80675.up ef_80694 ((p_q_80675.neA p_q_79978))
  have p_q_79978 := p_q_79978.me ef_80694
  have hk := hk.upN ef_80694 whkq_79978
  have hkI := hkI.up ef_80694 (by simp)
  have fam_pa := fam_s (i := 23) fam_pa eq10_55 eg_80693
  refine lv_iinc (v := 24) (lv' := [(1, .int 24), (0, .ref h)]) hx hb dX10_init_165 hl (k := 0) rfl (by decide) (by decide) rfl (fun ls hl => ?_)
  refine lv_goto (tgt := 146) hx hb dX10_init_168 (by decide) ?_
  refine lv_iload_n hx hb dX10_init_146 rfl (lv_at hl 0 rfl) ?_
  refine lv_bipush (v := 30) hx hb dX10_init_147 (by decide) ?_
  refine lv_icmp_ge (tgt := 171) hx hb dX10_init_149 (by decide) (fun h => absurd h (by decide)) (fun _ => ?_)
  refine lv_aload_n hx hb dX10_init_152 rfl (lv_at hl 1 rfl) ?_
  refine pg_get S Y ok_X10 4 (by decide) kf10_31 (v := .ref q_79978) p_h rfl dX10_init_153 ?_
  refine lv_iload_n hx hb dX10_init_156 rfl (lv_at hl 0 rfl) ?_
  refine pg_new S Y ok_X4 kc10_24 kn4 ki4 (fs := [.null, .null, .int 0, .int 0, .int 0, .int 0, .int 0]) (by decide) (by decide) (by decide) dX10_init_157 (fun q_80695 f_80696 H nq_80695 ef_80696 Y => ?_)
  have whkq_80695 := hk.notin nq_80695
  have hk := hk.push ef_80696 nq_80695
  have whkIq_80695 := hkI.notin nq_80695
  have hkI := hkI.push ef_80696 nq_80695
  have p_h := p_h.push ef_80696 nq_80695
  have p_q_79956 := p_q_79956.push ef_80696 nq_80695
  have p_q_79978 := p_q_79978.push ef_80696 nq_80695
  have p_q_80695 := pt.new (L := L_80677) ef_80696
  refine lv_dup hx hb dX10_init_160 rfl ?_
  refine cINv (b := q_80695) (As := []) (rest := [.ref q_80695, .int 24, .ref q_79978]) S Y (c_X4_init (l := l) p_q_80695) cw_X4_init km10_26 rfl ⟨Nat.le_of_ble_eq_true rfl, Nat.le_of_ble_eq_true rfl⟩ hl.1 rfl (Nat.le_of_ble_eq_true rfl) ⟨Nat.le_of_ble_eq_true rfl, Nat.le_of_ble_eq_true rfl⟩ dX10_init_161 (fun L_80697 f_80698 H locs hf_80698 Y => ?_)
  obtain ⟨a__80699, a__80700, kf_80698, z_z_80701, z_z_80702, z_z_80703, v_80704, v_80705⟩ := hf_80698
  have w_80706 := hk.notin v_80704
  have w_80707 := hkI.notin v_80704
  have w_80708 := hk.notin v_80705
  have w_80709 := hkI.notin v_80705
  have p_h := kf_80698.1 h _ (nmc (p_h.neK p_q_80695 (by decide)) nm0) p_h
  have p_q_79956 := kf_80698.1 q_79956 _ (nmc (p_q_79956.neB p_q_80695) nm0) p_q_79956
  have p_q_79978 := kf_80698.1 q_79978 _ (nmc (p_q_79978.neB p_q_80695) nm0) p_q_79978
  have p_q_80695 := z_z_80701
  have p_a__80699 := z_z_80702
  have p_a__80700 := z_z_80703
  have hk := hk.call kf_80698 (fun b hb hp => (nmc (neL hp whkq_80695) nm0))
  have hkI := hkI.call kf_80698 (fun b hb hp => (nmc (neL hp whkIq_80695) nm0))
  have nr_q_80695 : NRg gl_92 ad41 q_80695 := (SHC.nr I whkIq_80695)
  have nr_a__80699 : NRg gl_92 ad41 a__80699 := (SHC.nr I w_80707)
  have nr_a__80700 : NRg gl_92 ad41 a__80700 := (SHC.nr I w_80709)
  have I := I.kp hkI (allc nr_h (allc nr_q_79956 (allc nr_q_79978 all0)))
  have hkI : kp L_80697 f_80698 L_80697 f_80698 [h, q_79956, q_79978] := kp.rf
  obtain ⟨ad42, I, X_80710, Y_80711, Z_80712⟩ := SHC.led (l2 := gl_93) (n := 56) I rfl rfl rfl (by decide) rfl p_q_80695 p_a__80699 p_a__80700 nr_q_80695 nr_a__80699 nr_a__80700 
  have eq40_1 := (X_80710.2 40 1 (by decide)).trans eq40_1
  have eq41_1 := (X_80710.2 41 1 (by decide)).trans eq41_1
  have eq10_31 := (X_80710.2 10 31 (by decide)).trans eq10_31
  have eq20_5 := (X_80710.2 20 5 (by decide)).trans eq20_5
  have eq20_6 := (X_80710.2 20 6 (by decide)).trans eq20_6
  have eq20_7 := (X_80710.2 20 7 (by decide)).trans eq20_7
  have eq20_8 := (X_80710.2 20 8 (by decide)).trans eq20_8
  have eq20_9 := (X_80710.2 20 9 (by decide)).trans eq20_9
  have fam_sc := fam_x fam_sc X_80710 (by decide)
  have fam_pa := fam_x fam_pa X_80710 (by decide)
  have nr_h := Z_80712 _ nr_h (p_h.neK p_q_80695 (by decide)) (p_h.neA p_a__80699) (p_h.neA p_a__80700)
  have nr_q_79956 := Z_80712 _ nr_q_79956 (p_q_79956.neB p_q_80695) (p_q_79956.neN p_a__80699 (by decide)) (p_q_79956.neN p_a__80700 (by decide))
  have nr_q_79978 := Z_80712 _ nr_q_79978 (p_q_79978.neB p_q_80695) (p_q_79978.neN p_a__80699 (by decide)) (p_q_79978.neN p_a__80700 (by decide))
  have hout : ∀ x, x ∈ L → NRg gl_50 ad x → NRg gl_93 ad42 x := fun x hx hn => Z_80712 x (hout x hx hn) (fun e => whkq_80695 (by rw [← e]; exact hx)) (fun e => w_80706 (by rw [← e]; exact hx)) (fun e => w_80708 (by rw [← e]; exact hx))
  have hext := hext.tr X_80710
  have eq10_56 := Y_80711
  have hkI : kp L_80697 f_80698 L_80697 f_80698 [h, q_79956, q_79978] := kp.rf
  refine pg_aast S Y (k := 3) p_q_79978 rfl p_q_80695 ok_X4.1 (by unfold vp_in; decide) dX10_init_164 (fun f_80714 H locs ef_80714 Y => ?_)
  obtain ⟨g_80713, eg_80713⟩ : ∃ z, z = va_up (g_80693) (24 : Int32).toNatClampNeg (some q_80695) := ⟨_, rfl⟩
  rw [← eg_80713] at ef_80714
  have p_h := p_h.up ef_80714 ((p_h.neA p_q_79978))
  have p_q_79956 := p_q_79956.up ef_80714 ((p_q_79956.neN p_q_79978 (by decide)))
  have p_q_80695 := p_q_80695.up ef_80714 ((p_q_80695.neA p_q_79978))
  have p_q_79978 := p_q_79978.me ef_80714
  have hk := hk.upN ef_80714 whkq_79978
  have hkI := hkI.up ef_80714 (by simp)
  have fam_pa := fam_s (i := 24) fam_pa eq10_56 eg_80713
  refine lv_iinc (v := 25) (lv' := [(1, .int 25), (0, .ref h)]) hx hb dX10_init_165 hl (k := 0) rfl (by decide) (by decide) rfl (fun ls hl => ?_)
  refine lv_goto (tgt := 146) hx hb dX10_init_168 (by decide) ?_
  refine lv_iload_n hx hb dX10_init_146 rfl (lv_at hl 0 rfl) ?_
  refine lv_bipush (v := 30) hx hb dX10_init_147 (by decide) ?_
  refine lv_icmp_ge (tgt := 171) hx hb dX10_init_149 (by decide) (fun h => absurd h (by decide)) (fun _ => ?_)
  refine lv_aload_n hx hb dX10_init_152 rfl (lv_at hl 1 rfl) ?_
  refine pg_get S Y ok_X10 4 (by decide) kf10_31 (v := .ref q_79978) p_h rfl dX10_init_153 ?_
  refine lv_iload_n hx hb dX10_init_156 rfl (lv_at hl 0 rfl) ?_
  refine pg_new S Y ok_X4 kc10_24 kn4 ki4 (fs := [.null, .null, .int 0, .int 0, .int 0, .int 0, .int 0]) (by decide) (by decide) (by decide) dX10_init_157 (fun q_80715 f_80716 H nq_80715 ef_80716 Y => ?_)
  have whkq_80715 := hk.notin nq_80715
  have hk := hk.push ef_80716 nq_80715
  have whkIq_80715 := hkI.notin nq_80715
  have hkI := hkI.push ef_80716 nq_80715
  have p_h := p_h.push ef_80716 nq_80715
  have p_q_79956 := p_q_79956.push ef_80716 nq_80715
  have p_q_79978 := p_q_79978.push ef_80716 nq_80715
  have p_q_80715 := pt.new (L := L_80697) ef_80716
  refine lv_dup hx hb dX10_init_160 rfl ?_
  refine cINv (b := q_80715) (As := []) (rest := [.ref q_80715, .int 25, .ref q_79978]) S Y (c_X4_init (l := l) p_q_80715) cw_X4_init km10_26 rfl ⟨Nat.le_of_ble_eq_true rfl, Nat.le_of_ble_eq_true rfl⟩ hl.1 rfl (Nat.le_of_ble_eq_true rfl) ⟨Nat.le_of_ble_eq_true rfl, Nat.le_of_ble_eq_true rfl⟩ dX10_init_161 (fun L_80717 f_80718 H locs hf_80718 Y => ?_)
  obtain ⟨a__80719, a__80720, kf_80718, z_z_80721, z_z_80722, z_z_80723, v_80724, v_80725⟩ := hf_80718
  have w_80726 := hk.notin v_80724
  have w_80727 := hkI.notin v_80724
  have w_80728 := hk.notin v_80725
  have w_80729 := hkI.notin v_80725
  have p_h := kf_80718.1 h _ (nmc (p_h.neK p_q_80715 (by decide)) nm0) p_h
  have p_q_79956 := kf_80718.1 q_79956 _ (nmc (p_q_79956.neB p_q_80715) nm0) p_q_79956
  have p_q_79978 := kf_80718.1 q_79978 _ (nmc (p_q_79978.neB p_q_80715) nm0) p_q_79978
  have p_q_80715 := z_z_80721
  have p_a__80719 := z_z_80722
  have p_a__80720 := z_z_80723
  have hk := hk.call kf_80718 (fun b hb hp => (nmc (neL hp whkq_80715) nm0))
  have hkI := hkI.call kf_80718 (fun b hb hp => (nmc (neL hp whkIq_80715) nm0))
  have nr_q_80715 : NRg gl_93 ad42 q_80715 := (SHC.nr I whkIq_80715)
  have nr_a__80719 : NRg gl_93 ad42 a__80719 := (SHC.nr I w_80727)
  have nr_a__80720 : NRg gl_93 ad42 a__80720 := (SHC.nr I w_80729)
  have I := I.kp hkI (allc nr_h (allc nr_q_79956 (allc nr_q_79978 all0)))
  have hkI : kp L_80717 f_80718 L_80717 f_80718 [h, q_79956, q_79978] := kp.rf
  obtain ⟨ad43, I, X_80730, Y_80731, Z_80732⟩ := SHC.led (l2 := gl_94) (n := 57) I rfl rfl rfl (by decide) rfl p_q_80715 p_a__80719 p_a__80720 nr_q_80715 nr_a__80719 nr_a__80720 
  have eq40_1 := (X_80730.2 40 1 (by decide)).trans eq40_1
  have eq41_1 := (X_80730.2 41 1 (by decide)).trans eq41_1
  have eq10_31 := (X_80730.2 10 31 (by decide)).trans eq10_31
  have eq20_5 := (X_80730.2 20 5 (by decide)).trans eq20_5
  have eq20_6 := (X_80730.2 20 6 (by decide)).trans eq20_6
  have eq20_7 := (X_80730.2 20 7 (by decide)).trans eq20_7
  have eq20_8 := (X_80730.2 20 8 (by decide)).trans eq20_8
  have eq20_9 := (X_80730.2 20 9 (by decide)).trans eq20_9
  have fam_sc := fam_x fam_sc X_80730 (by decide)
  have fam_pa := fam_x fam_pa X_80730 (by decide)
  have nr_h := Z_80732 _ nr_h (p_h.neK p_q_80715 (by decide)) (p_h.neA p_a__80719) (p_h.neA p_a__80720)
  have nr_q_79956 := Z_80732 _ nr_q_79956 (p_q_79956.neB p_q_80715) (p_q_79956.neN p_a__80719 (by decide)) (p_q_79956.neN p_a__80720 (by decide))
  have nr_q_79978 := Z_80732 _ nr_q_79978 (p_q_79978.neB p_q_80715) (p_q_79978.neN p_a__80719 (by decide)) (p_q_79978.neN p_a__80720 (by decide))
  have hout : ∀ x, x ∈ L → NRg gl_50 ad x → NRg gl_94 ad43 x := fun x hx hn => Z_80732 x (hout x hx hn) (fun e => whkq_80715 (by rw [← e]; exact hx)) (fun e => w_80726 (by rw [← e]; exact hx)) (fun e => w_80728 (by rw [← e]; exact hx))
  have hext := hext.tr X_80730
  have eq10_57 := Y_80731
  have hkI : kp L_80717 f_80718 L_80717 f_80718 [h, q_79956, q_79978] := kp.rf
  refine pg_aast S Y (k := 3) p_q_79978 rfl p_q_80715 ok_X4.1 (by unfold vp_in; decide) dX10_init_164 (fun f_80734 H locs ef_80734 Y => ?_)
  obtain ⟨g_80733, eg_80733⟩ : ∃ z, z = va_up (g_80713) (25 : Int32).toNatClampNeg (some q_80715) := ⟨_, rfl⟩
  rw [← eg_80733] at ef_80734
  have p_h := p_h.up ef_80734 ((p_h.neA p_q_79978))
  have p_q_79956 := p_q_79956.up ef_80734 ((p_q_79956.neN p_q_79978 (by decide)))
  have p_q_80715 := p_q_80715.up ef_80734 ((p_q_80715.neA p_q_79978))
  have p_q_79978 := p_q_79978.me ef_80734
  have hk := hk.upN ef_80734 whkq_79978
  have hkI := hkI.up ef_80734 (by simp)
  have fam_pa := fam_s (i := 25) fam_pa eq10_57 eg_80733
  refine lv_iinc (v := 26) (lv' := [(1, .int 26), (0, .ref h)]) hx hb dX10_init_165 hl (k := 0) rfl (by decide) (by decide) rfl (fun ls hl => ?_)
  refine lv_goto (tgt := 146) hx hb dX10_init_168 (by decide) ?_
  refine lv_iload_n hx hb dX10_init_146 rfl (lv_at hl 0 rfl) ?_
  refine lv_bipush (v := 30) hx hb dX10_init_147 (by decide) ?_
  refine lv_icmp_ge (tgt := 171) hx hb dX10_init_149 (by decide) (fun h => absurd h (by decide)) (fun _ => ?_)
  refine lv_aload_n hx hb dX10_init_152 rfl (lv_at hl 1 rfl) ?_
  refine pg_get S Y ok_X10 4 (by decide) kf10_31 (v := .ref q_79978) p_h rfl dX10_init_153 ?_
  refine lv_iload_n hx hb dX10_init_156 rfl (lv_at hl 0 rfl) ?_
  refine pg_new S Y ok_X4 kc10_24 kn4 ki4 (fs := [.null, .null, .int 0, .int 0, .int 0, .int 0, .int 0]) (by decide) (by decide) (by decide) dX10_init_157 (fun q_80735 f_80736 H nq_80735 ef_80736 Y => ?_)
  have whkq_80735 := hk.notin nq_80735
  have hk := hk.push ef_80736 nq_80735
  have whkIq_80735 := hkI.notin nq_80735
  have hkI := hkI.push ef_80736 nq_80735
  have p_h := p_h.push ef_80736 nq_80735
  have p_q_79956 := p_q_79956.push ef_80736 nq_80735
  have p_q_79978 := p_q_79978.push ef_80736 nq_80735
  have p_q_80735 := pt.new (L := L_80717) ef_80736
  refine lv_dup hx hb dX10_init_160 rfl ?_
  refine cINv (b := q_80735) (As := []) (rest := [.ref q_80735, .int 26, .ref q_79978]) S Y (c_X4_init (l := l) p_q_80735) cw_X4_init km10_26 rfl ⟨Nat.le_of_ble_eq_true rfl, Nat.le_of_ble_eq_true rfl⟩ hl.1 rfl (Nat.le_of_ble_eq_true rfl) ⟨Nat.le_of_ble_eq_true rfl, Nat.le_of_ble_eq_true rfl⟩ dX10_init_161 (fun L_80737 f_80738 H locs hf_80738 Y => ?_)
  obtain ⟨a__80739, a__80740, kf_80738, z_z_80741, z_z_80742, z_z_80743, v_80744, v_80745⟩ := hf_80738
  have w_80746 := hk.notin v_80744
  have w_80747 := hkI.notin v_80744
  have w_80748 := hk.notin v_80745
  have w_80749 := hkI.notin v_80745
  have p_h := kf_80738.1 h _ (nmc (p_h.neK p_q_80735 (by decide)) nm0) p_h
  have p_q_79956 := kf_80738.1 q_79956 _ (nmc (p_q_79956.neB p_q_80735) nm0) p_q_79956
  have p_q_79978 := kf_80738.1 q_79978 _ (nmc (p_q_79978.neB p_q_80735) nm0) p_q_79978
  have p_q_80735 := z_z_80741
  have p_a__80739 := z_z_80742
  have p_a__80740 := z_z_80743
  have hk := hk.call kf_80738 (fun b hb hp => (nmc (neL hp whkq_80735) nm0))
  have hkI := hkI.call kf_80738 (fun b hb hp => (nmc (neL hp whkIq_80735) nm0))
  have nr_q_80735 : NRg gl_94 ad43 q_80735 := (SHC.nr I whkIq_80735)
  have nr_a__80739 : NRg gl_94 ad43 a__80739 := (SHC.nr I w_80747)
  have nr_a__80740 : NRg gl_94 ad43 a__80740 := (SHC.nr I w_80749)
  have I := I.kp hkI (allc nr_h (allc nr_q_79956 (allc nr_q_79978 all0)))
  have hkI : kp L_80737 f_80738 L_80737 f_80738 [h, q_79956, q_79978] := kp.rf
  obtain ⟨ad44, I, X_80750, Y_80751, Z_80752⟩ := SHC.led (l2 := gl_95) (n := 58) I rfl rfl rfl (by decide) rfl p_q_80735 p_a__80739 p_a__80740 nr_q_80735 nr_a__80739 nr_a__80740 
  have eq40_1 := (X_80750.2 40 1 (by decide)).trans eq40_1
  have eq41_1 := (X_80750.2 41 1 (by decide)).trans eq41_1
  have eq10_31 := (X_80750.2 10 31 (by decide)).trans eq10_31
  have eq20_5 := (X_80750.2 20 5 (by decide)).trans eq20_5
  have eq20_6 := (X_80750.2 20 6 (by decide)).trans eq20_6
  have eq20_7 := (X_80750.2 20 7 (by decide)).trans eq20_7
  have eq20_8 := (X_80750.2 20 8 (by decide)).trans eq20_8
  have eq20_9 := (X_80750.2 20 9 (by decide)).trans eq20_9
  have fam_sc := fam_x fam_sc X_80750 (by decide)
  have fam_pa := fam_x fam_pa X_80750 (by decide)
  have nr_h := Z_80752 _ nr_h (p_h.neK p_q_80735 (by decide)) (p_h.neA p_a__80739) (p_h.neA p_a__80740)
  have nr_q_79956 := Z_80752 _ nr_q_79956 (p_q_79956.neB p_q_80735) (p_q_79956.neN p_a__80739 (by decide)) (p_q_79956.neN p_a__80740 (by decide))
  have nr_q_79978 := Z_80752 _ nr_q_79978 (p_q_79978.neB p_q_80735) (p_q_79978.neN p_a__80739 (by decide)) (p_q_79978.neN p_a__80740 (by decide))
  have hout : ∀ x, x ∈ L → NRg gl_50 ad x → NRg gl_95 ad44 x := fun x hx hn => Z_80752 x (hout x hx hn) (fun e => whkq_80735 (by rw [← e]; exact hx)) (fun e => w_80746 (by rw [← e]; exact hx)) (fun e => w_80748 (by rw [← e]; exact hx))
  have hext := hext.tr X_80750
  have eq10_58 := Y_80751
  have hkI : kp L_80737 f_80738 L_80737 f_80738 [h, q_79956, q_79978] := kp.rf
  refine pg_aast S Y (k := 3) p_q_79978 rfl p_q_80735 ok_X4.1 (by unfold vp_in; decide) dX10_init_164 (fun f_80754 H locs ef_80754 Y => ?_)
  obtain ⟨g_80753, eg_80753⟩ : ∃ z, z = va_up (g_80733) (26 : Int32).toNatClampNeg (some q_80735) := ⟨_, rfl⟩
  rw [← eg_80753] at ef_80754
  have p_h := p_h.up ef_80754 ((p_h.neA p_q_79978))
  have p_q_79956 := p_q_79956.up ef_80754 ((p_q_79956.neN p_q_79978 (by decide)))
  have p_q_80735 := p_q_80735.up ef_80754 ((p_q_80735.neA p_q_79978))
  have p_q_79978 := p_q_79978.me ef_80754
  have hk := hk.upN ef_80754 whkq_79978
  have hkI := hkI.up ef_80754 (by simp)
  have fam_pa := fam_s (i := 26) fam_pa eq10_58 eg_80753
  refine lv_iinc (v := 27) (lv' := [(1, .int 27), (0, .ref h)]) hx hb dX10_init_165 hl (k := 0) rfl (by decide) (by decide) rfl (fun ls hl => ?_)
  refine lv_goto (tgt := 146) hx hb dX10_init_168 (by decide) ?_
  refine lv_iload_n hx hb dX10_init_146 rfl (lv_at hl 0 rfl) ?_
  refine lv_bipush (v := 30) hx hb dX10_init_147 (by decide) ?_
  refine lv_icmp_ge (tgt := 171) hx hb dX10_init_149 (by decide) (fun h => absurd h (by decide)) (fun _ => ?_)
  refine lv_aload_n hx hb dX10_init_152 rfl (lv_at hl 1 rfl) ?_
  refine pg_get S Y ok_X10 4 (by decide) kf10_31 (v := .ref q_79978) p_h rfl dX10_init_153 ?_
  refine lv_iload_n hx hb dX10_init_156 rfl (lv_at hl 0 rfl) ?_
  refine pg_new S Y ok_X4 kc10_24 kn4 ki4 (fs := [.null, .null, .int 0, .int 0, .int 0, .int 0, .int 0]) (by decide) (by decide) (by decide) dX10_init_157 (fun q_80755 f_80756 H nq_80755 ef_80756 Y => ?_)
  have whkq_80755 := hk.notin nq_80755
  have hk := hk.push ef_80756 nq_80755
  have whkIq_80755 := hkI.notin nq_80755
  have hkI := hkI.push ef_80756 nq_80755
  have p_h := p_h.push ef_80756 nq_80755
  have p_q_79956 := p_q_79956.push ef_80756 nq_80755
  have p_q_79978 := p_q_79978.push ef_80756 nq_80755
  have p_q_80755 := pt.new (L := L_80737) ef_80756
  refine lv_dup hx hb dX10_init_160 rfl ?_
  refine cINv (b := q_80755) (As := []) (rest := [.ref q_80755, .int 27, .ref q_79978]) S Y (c_X4_init (l := l) p_q_80755) cw_X4_init km10_26 rfl ⟨Nat.le_of_ble_eq_true rfl, Nat.le_of_ble_eq_true rfl⟩ hl.1 rfl (Nat.le_of_ble_eq_true rfl) ⟨Nat.le_of_ble_eq_true rfl, Nat.le_of_ble_eq_true rfl⟩ dX10_init_161 (fun L_80757 f_80758 H locs hf_80758 Y => ?_)
  obtain ⟨a__80759, a__80760, kf_80758, z_z_80761, z_z_80762, z_z_80763, v_80764, v_80765⟩ := hf_80758
  have w_80766 := hk.notin v_80764
  have w_80767 := hkI.notin v_80764
  have w_80768 := hk.notin v_80765
  have w_80769 := hkI.notin v_80765
  have p_h := kf_80758.1 h _ (nmc (p_h.neK p_q_80755 (by decide)) nm0) p_h
  have p_q_79956 := kf_80758.1 q_79956 _ (nmc (p_q_79956.neB p_q_80755) nm0) p_q_79956
  have p_q_79978 := kf_80758.1 q_79978 _ (nmc (p_q_79978.neB p_q_80755) nm0) p_q_79978
  have p_q_80755 := z_z_80761
  have p_a__80759 := z_z_80762
  have p_a__80760 := z_z_80763
  have hk := hk.call kf_80758 (fun b hb hp => (nmc (neL hp whkq_80755) nm0))
  have hkI := hkI.call kf_80758 (fun b hb hp => (nmc (neL hp whkIq_80755) nm0))
  have nr_q_80755 : NRg gl_95 ad44 q_80755 := (SHC.nr I whkIq_80755)
  have nr_a__80759 : NRg gl_95 ad44 a__80759 := (SHC.nr I w_80767)
  have nr_a__80760 : NRg gl_95 ad44 a__80760 := (SHC.nr I w_80769)
  have I := I.kp hkI (allc nr_h (allc nr_q_79956 (allc nr_q_79978 all0)))
  have hkI : kp L_80757 f_80758 L_80757 f_80758 [h, q_79956, q_79978] := kp.rf
  obtain ⟨ad45, I, X_80770, Y_80771, Z_80772⟩ := SHC.led (l2 := gl_96) (n := 59) I rfl rfl rfl (by decide) rfl p_q_80755 p_a__80759 p_a__80760 nr_q_80755 nr_a__80759 nr_a__80760 
  have eq40_1 := (X_80770.2 40 1 (by decide)).trans eq40_1
  have eq41_1 := (X_80770.2 41 1 (by decide)).trans eq41_1
  have eq10_31 := (X_80770.2 10 31 (by decide)).trans eq10_31
  have eq20_5 := (X_80770.2 20 5 (by decide)).trans eq20_5
  have eq20_6 := (X_80770.2 20 6 (by decide)).trans eq20_6
  have eq20_7 := (X_80770.2 20 7 (by decide)).trans eq20_7
  have eq20_8 := (X_80770.2 20 8 (by decide)).trans eq20_8
  have eq20_9 := (X_80770.2 20 9 (by decide)).trans eq20_9
  have fam_sc := fam_x fam_sc X_80770 (by decide)
  have fam_pa := fam_x fam_pa X_80770 (by decide)
  have nr_h := Z_80772 _ nr_h (p_h.neK p_q_80755 (by decide)) (p_h.neA p_a__80759) (p_h.neA p_a__80760)
  have nr_q_79956 := Z_80772 _ nr_q_79956 (p_q_79956.neB p_q_80755) (p_q_79956.neN p_a__80759 (by decide)) (p_q_79956.neN p_a__80760 (by decide))
  have nr_q_79978 := Z_80772 _ nr_q_79978 (p_q_79978.neB p_q_80755) (p_q_79978.neN p_a__80759 (by decide)) (p_q_79978.neN p_a__80760 (by decide))
  have hout : ∀ x, x ∈ L → NRg gl_50 ad x → NRg gl_96 ad45 x := fun x hx hn => Z_80772 x (hout x hx hn) (fun e => whkq_80755 (by rw [← e]; exact hx)) (fun e => w_80766 (by rw [← e]; exact hx)) (fun e => w_80768 (by rw [← e]; exact hx))
  have hext := hext.tr X_80770
  have eq10_59 := Y_80771
  have hkI : kp L_80757 f_80758 L_80757 f_80758 [h, q_79956, q_79978] := kp.rf
  refine pg_aast S Y (k := 3) p_q_79978 rfl p_q_80755 ok_X4.1 (by unfold vp_in; decide) dX10_init_164 (fun f_80774 H locs ef_80774 Y => ?_)
  obtain ⟨g_80773, eg_80773⟩ : ∃ z, z = va_up (g_80753) (27 : Int32).toNatClampNeg (some q_80755) := ⟨_, rfl⟩
  rw [← eg_80773] at ef_80774
  have p_h := p_h.up ef_80774 ((p_h.neA p_q_79978))
  have p_q_79956 := p_q_79956.up ef_80774 ((p_q_79956.neN p_q_79978 (by decide)))
  have p_q_80755 := p_q_80755.up ef_80774 ((p_q_80755.neA p_q_79978))
  have p_q_79978 := p_q_79978.me ef_80774
  have hk := hk.upN ef_80774 whkq_79978
  have hkI := hkI.up ef_80774 (by simp)
  have fam_pa := fam_s (i := 27) fam_pa eq10_59 eg_80773
  refine lv_iinc (v := 28) (lv' := [(1, .int 28), (0, .ref h)]) hx hb dX10_init_165 hl (k := 0) rfl (by decide) (by decide) rfl (fun ls hl => ?_)
  refine lv_goto (tgt := 146) hx hb dX10_init_168 (by decide) ?_
  refine lv_iload_n hx hb dX10_init_146 rfl (lv_at hl 0 rfl) ?_
  refine lv_bipush (v := 30) hx hb dX10_init_147 (by decide) ?_
  refine lv_icmp_ge (tgt := 171) hx hb dX10_init_149 (by decide) (fun h => absurd h (by decide)) (fun _ => ?_)
  refine lv_aload_n hx hb dX10_init_152 rfl (lv_at hl 1 rfl) ?_
  refine pg_get S Y ok_X10 4 (by decide) kf10_31 (v := .ref q_79978) p_h rfl dX10_init_153 ?_
  refine lv_iload_n hx hb dX10_init_156 rfl (lv_at hl 0 rfl) ?_
  refine pg_new S Y ok_X4 kc10_24 kn4 ki4 (fs := [.null, .null, .int 0, .int 0, .int 0, .int 0, .int 0]) (by decide) (by decide) (by decide) dX10_init_157 (fun q_80775 f_80776 H nq_80775 ef_80776 Y => ?_)
  have whkq_80775 := hk.notin nq_80775
  have hk := hk.push ef_80776 nq_80775
  have whkIq_80775 := hkI.notin nq_80775
  have hkI := hkI.push ef_80776 nq_80775
  have p_h := p_h.push ef_80776 nq_80775
  have p_q_79956 := p_q_79956.push ef_80776 nq_80775
  have p_q_79978 := p_q_79978.push ef_80776 nq_80775
  have p_q_80775 := pt.new (L := L_80757) ef_80776
  refine lv_dup hx hb dX10_init_160 rfl ?_
  refine cINv (b := q_80775) (As := []) (rest := [.ref q_80775, .int 28, .ref q_79978]) S Y (c_X4_init (l := l) p_q_80775) cw_X4_init km10_26 rfl ⟨Nat.le_of_ble_eq_true rfl, Nat.le_of_ble_eq_true rfl⟩ hl.1 rfl (Nat.le_of_ble_eq_true rfl) ⟨Nat.le_of_ble_eq_true rfl, Nat.le_of_ble_eq_true rfl⟩ dX10_init_161 (fun L_80777 f_80778 H locs hf_80778 Y => ?_)
  obtain ⟨a__80779, a__80780, kf_80778, z_z_80781, z_z_80782, z_z_80783, v_80784, v_80785⟩ := hf_80778
  have w_80786 := hk.notin v_80784
  have w_80787 := hkI.notin v_80784
  have w_80788 := hk.notin v_80785
  have w_80789 := hkI.notin v_80785
  have p_h := kf_80778.1 h _ (nmc (p_h.neK p_q_80775 (by decide)) nm0) p_h
  have p_q_79956 := kf_80778.1 q_79956 _ (nmc (p_q_79956.neB p_q_80775) nm0) p_q_79956
  have p_q_79978 := kf_80778.1 q_79978 _ (nmc (p_q_79978.neB p_q_80775) nm0) p_q_79978
  have p_q_80775 := z_z_80781
  have p_a__80779 := z_z_80782
  have p_a__80780 := z_z_80783
  have hk := hk.call kf_80778 (fun b hb hp => (nmc (neL hp whkq_80775) nm0))
  have hkI := hkI.call kf_80778 (fun b hb hp => (nmc (neL hp whkIq_80775) nm0))
  have nr_q_80775 : NRg gl_96 ad45 q_80775 := (SHC.nr I whkIq_80775)
  have nr_a__80779 : NRg gl_96 ad45 a__80779 := (SHC.nr I w_80787)
  have nr_a__80780 : NRg gl_96 ad45 a__80780 := (SHC.nr I w_80789)
  have I := I.kp hkI (allc nr_h (allc nr_q_79956 (allc nr_q_79978 all0)))
  have hkI : kp L_80777 f_80778 L_80777 f_80778 [h, q_79956, q_79978] := kp.rf
  obtain ⟨ad46, I, X_80790, Y_80791, Z_80792⟩ := SHC.led (l2 := gl_97) (n := 60) I rfl rfl rfl (by decide) rfl p_q_80775 p_a__80779 p_a__80780 nr_q_80775 nr_a__80779 nr_a__80780 
  have eq40_1 := (X_80790.2 40 1 (by decide)).trans eq40_1
  have eq41_1 := (X_80790.2 41 1 (by decide)).trans eq41_1
  have eq10_31 := (X_80790.2 10 31 (by decide)).trans eq10_31
  have eq20_5 := (X_80790.2 20 5 (by decide)).trans eq20_5
  have eq20_6 := (X_80790.2 20 6 (by decide)).trans eq20_6
  have eq20_7 := (X_80790.2 20 7 (by decide)).trans eq20_7
  have eq20_8 := (X_80790.2 20 8 (by decide)).trans eq20_8
  have eq20_9 := (X_80790.2 20 9 (by decide)).trans eq20_9
  have fam_sc := fam_x fam_sc X_80790 (by decide)
  have fam_pa := fam_x fam_pa X_80790 (by decide)
  have nr_h := Z_80792 _ nr_h (p_h.neK p_q_80775 (by decide)) (p_h.neA p_a__80779) (p_h.neA p_a__80780)
  have nr_q_79956 := Z_80792 _ nr_q_79956 (p_q_79956.neB p_q_80775) (p_q_79956.neN p_a__80779 (by decide)) (p_q_79956.neN p_a__80780 (by decide))
  have nr_q_79978 := Z_80792 _ nr_q_79978 (p_q_79978.neB p_q_80775) (p_q_79978.neN p_a__80779 (by decide)) (p_q_79978.neN p_a__80780 (by decide))
  have hout : ∀ x, x ∈ L → NRg gl_50 ad x → NRg gl_97 ad46 x := fun x hx hn => Z_80792 x (hout x hx hn) (fun e => whkq_80775 (by rw [← e]; exact hx)) (fun e => w_80786 (by rw [← e]; exact hx)) (fun e => w_80788 (by rw [← e]; exact hx))
  have hext := hext.tr X_80790
  have eq10_60 := Y_80791
  have hkI : kp L_80777 f_80778 L_80777 f_80778 [h, q_79956, q_79978] := kp.rf
  refine pg_aast S Y (k := 3) p_q_79978 rfl p_q_80775 ok_X4.1 (by unfold vp_in; decide) dX10_init_164 (fun f_80794 H locs ef_80794 Y => ?_)
  obtain ⟨g_80793, eg_80793⟩ : ∃ z, z = va_up (g_80773) (28 : Int32).toNatClampNeg (some q_80775) := ⟨_, rfl⟩
  rw [← eg_80793] at ef_80794
  have p_h := p_h.up ef_80794 ((p_h.neA p_q_79978))
  have p_q_79956 := p_q_79956.up ef_80794 ((p_q_79956.neN p_q_79978 (by decide)))
  have p_q_80775 := p_q_80775.up ef_80794 ((p_q_80775.neA p_q_79978))
  have p_q_79978 := p_q_79978.me ef_80794
  have hk := hk.upN ef_80794 whkq_79978
  have hkI := hkI.up ef_80794 (by simp)
  have fam_pa := fam_s (i := 28) fam_pa eq10_60 eg_80793
  refine lv_iinc (v := 29) (lv' := [(1, .int 29), (0, .ref h)]) hx hb dX10_init_165 hl (k := 0) rfl (by decide) (by decide) rfl (fun ls hl => ?_)
  refine lv_goto (tgt := 146) hx hb dX10_init_168 (by decide) ?_
  refine lv_iload_n hx hb dX10_init_146 rfl (lv_at hl 0 rfl) ?_
  refine lv_bipush (v := 30) hx hb dX10_init_147 (by decide) ?_
  refine lv_icmp_ge (tgt := 171) hx hb dX10_init_149 (by decide) (fun h => absurd h (by decide)) (fun _ => ?_)
  refine lv_aload_n hx hb dX10_init_152 rfl (lv_at hl 1 rfl) ?_
  refine pg_get S Y ok_X10 4 (by decide) kf10_31 (v := .ref q_79978) p_h rfl dX10_init_153 ?_
  refine lv_iload_n hx hb dX10_init_156 rfl (lv_at hl 0 rfl) ?_
  refine pg_new S Y ok_X4 kc10_24 kn4 ki4 (fs := [.null, .null, .int 0, .int 0, .int 0, .int 0, .int 0]) (by decide) (by decide) (by decide) dX10_init_157 (fun q_80795 f_80796 H nq_80795 ef_80796 Y => ?_)
  have whkq_80795 := hk.notin nq_80795
  have hk := hk.push ef_80796 nq_80795
  have whkIq_80795 := hkI.notin nq_80795
  have hkI := hkI.push ef_80796 nq_80795
  have p_h := p_h.push ef_80796 nq_80795
  have p_q_79956 := p_q_79956.push ef_80796 nq_80795
  have p_q_79978 := p_q_79978.push ef_80796 nq_80795
  have p_q_80795 := pt.new (L := L_80777) ef_80796
  refine lv_dup hx hb dX10_init_160 rfl ?_
  refine cINv (b := q_80795) (As := []) (rest := [.ref q_80795, .int 29, .ref q_79978]) S Y (c_X4_init (l := l) p_q_80795) cw_X4_init km10_26 rfl ⟨Nat.le_of_ble_eq_true rfl, Nat.le_of_ble_eq_true rfl⟩ hl.1 rfl (Nat.le_of_ble_eq_true rfl) ⟨Nat.le_of_ble_eq_true rfl, Nat.le_of_ble_eq_true rfl⟩ dX10_init_161 (fun L_80797 f_80798 H locs hf_80798 Y => ?_)
  obtain ⟨a__80799, a__80800, kf_80798, z_z_80801, z_z_80802, z_z_80803, v_80804, v_80805⟩ := hf_80798
  have w_80806 := hk.notin v_80804
  have w_80807 := hkI.notin v_80804
  have w_80808 := hk.notin v_80805
  have w_80809 := hkI.notin v_80805
  have p_h := kf_80798.1 h _ (nmc (p_h.neK p_q_80795 (by decide)) nm0) p_h
  have p_q_79956 := kf_80798.1 q_79956 _ (nmc (p_q_79956.neB p_q_80795) nm0) p_q_79956
  have p_q_79978 := kf_80798.1 q_79978 _ (nmc (p_q_79978.neB p_q_80795) nm0) p_q_79978
  have p_q_80795 := z_z_80801
  have p_a__80799 := z_z_80802
  have p_a__80800 := z_z_80803
  have hk := hk.call kf_80798 (fun b hb hp => (nmc (neL hp whkq_80795) nm0))
  have hkI := hkI.call kf_80798 (fun b hb hp => (nmc (neL hp whkIq_80795) nm0))
  have nr_q_80795 : NRg gl_97 ad46 q_80795 := (SHC.nr I whkIq_80795)
  have nr_a__80799 : NRg gl_97 ad46 a__80799 := (SHC.nr I w_80807)
  have nr_a__80800 : NRg gl_97 ad46 a__80800 := (SHC.nr I w_80809)
  have I := I.kp hkI (allc nr_h (allc nr_q_79956 (allc nr_q_79978 all0)))
  have hkI : kp L_80797 f_80798 L_80797 f_80798 [h, q_79956, q_79978] := kp.rf
  obtain ⟨ad47, I, X_80810, Y_80811, Z_80812⟩ := SHC.led (l2 := gl_98) (n := 61) I rfl rfl rfl (by decide) rfl p_q_80795 p_a__80799 p_a__80800 nr_q_80795 nr_a__80799 nr_a__80800 
  have eq40_1 := (X_80810.2 40 1 (by decide)).trans eq40_1
  have eq41_1 := (X_80810.2 41 1 (by decide)).trans eq41_1
  have eq10_31 := (X_80810.2 10 31 (by decide)).trans eq10_31
  have eq20_5 := (X_80810.2 20 5 (by decide)).trans eq20_5
  have eq20_6 := (X_80810.2 20 6 (by decide)).trans eq20_6
  have eq20_7 := (X_80810.2 20 7 (by decide)).trans eq20_7
  have eq20_8 := (X_80810.2 20 8 (by decide)).trans eq20_8
  have eq20_9 := (X_80810.2 20 9 (by decide)).trans eq20_9
  have fam_sc := fam_x fam_sc X_80810 (by decide)
  have fam_pa := fam_x fam_pa X_80810 (by decide)
  have nr_h := Z_80812 _ nr_h (p_h.neK p_q_80795 (by decide)) (p_h.neA p_a__80799) (p_h.neA p_a__80800)
  have nr_q_79956 := Z_80812 _ nr_q_79956 (p_q_79956.neB p_q_80795) (p_q_79956.neN p_a__80799 (by decide)) (p_q_79956.neN p_a__80800 (by decide))
  have nr_q_79978 := Z_80812 _ nr_q_79978 (p_q_79978.neB p_q_80795) (p_q_79978.neN p_a__80799 (by decide)) (p_q_79978.neN p_a__80800 (by decide))
  have hout : ∀ x, x ∈ L → NRg gl_50 ad x → NRg gl_98 ad47 x := fun x hx hn => Z_80812 x (hout x hx hn) (fun e => whkq_80795 (by rw [← e]; exact hx)) (fun e => w_80806 (by rw [← e]; exact hx)) (fun e => w_80808 (by rw [← e]; exact hx))
  have hext := hext.tr X_80810
  have eq10_61 := Y_80811
  have hkI : kp L_80797 f_80798 L_80797 f_80798 [h, q_79956, q_79978] := kp.rf
  refine pg_aast S Y (k := 3) p_q_79978 rfl p_q_80795 ok_X4.1 (by unfold vp_in; decide) dX10_init_164 (fun f_80814 H locs ef_80814 Y => ?_)
  obtain ⟨g_80813, eg_80813⟩ : ∃ z, z = va_up (g_80793) (29 : Int32).toNatClampNeg (some q_80795) := ⟨_, rfl⟩
  rw [← eg_80813] at ef_80814
  have p_h := p_h.up ef_80814 ((p_h.neA p_q_79978))
  have p_q_79956 := p_q_79956.up ef_80814 ((p_q_79956.neN p_q_79978 (by decide)))
  have p_q_80795 := p_q_80795.up ef_80814 ((p_q_80795.neA p_q_79978))
  have p_q_79978 := p_q_79978.me ef_80814
  have hk := hk.upN ef_80814 whkq_79978
  have hkI := hkI.up ef_80814 (by simp)
  have fam_pa := fam_s (i := 29) fam_pa eq10_61 eg_80813
  refine lv_iinc (v := 30) (lv' := [(1, .int 30), (0, .ref h)]) hx hb dX10_init_165 hl (k := 0) rfl (by decide) (by decide) rfl (fun ls hl => ?_)
  refine lv_goto (tgt := 146) hx hb dX10_init_168 (by decide) ?_
  refine lv_iload_n hx hb dX10_init_146 rfl (lv_at hl 0 rfl) ?_
  refine lv_bipush (v := 30) hx hb dX10_init_147 (by decide) ?_
  refine lv_icmp_ge (tgt := 171) hx hb dX10_init_149 (by decide) (fun _ => ?_) (fun h => absurd (by decide) h)
  have I := I.kp hkI (allc nr_h (allc nr_q_79956 (allc nr_q_79978 all0)))
  have hkI : kp L_80797 f_80814 L_80797 f_80814 [h, q_79956, q_79978] := kp.rf
  obtain ⟨ad48, I, X_80815, Y_80816, Z_80817⟩ := SHC.add (l2 := gl_99) I (k := 42) (n := 1) rfl (by decide) rfl p_q_79956 nr_q_79956 ⟨_, rfl, fam_sc⟩ (show ∀ t, t < 4 → 4 + t < 8 from fun t ht => by omega)
  have eq40_1 := (X_80815.2 40 1 (by decide)).trans eq40_1
  have eq41_1 := (X_80815.2 41 1 (by decide)).trans eq41_1
  have eq10_31 := (X_80815.2 10 31 (by decide)).trans eq10_31
  have eq20_5 := (X_80815.2 20 5 (by decide)).trans eq20_5
  have eq20_6 := (X_80815.2 20 6 (by decide)).trans eq20_6
  have eq20_7 := (X_80815.2 20 7 (by decide)).trans eq20_7
  have eq20_8 := (X_80815.2 20 8 (by decide)).trans eq20_8
  have eq20_9 := (X_80815.2 20 9 (by decide)).trans eq20_9
  have fam_sc := fam_x fam_sc X_80815 (by decide)
  have fam_pa := fam_x fam_pa X_80815 (by decide)
  have nr_h := Z_80817 _ nr_h (p_h.neA p_q_79956)
  have nr_q_79978 := Z_80817 _ nr_q_79978 (p_q_79978.neN p_q_79956 (by decide))
  have hout : ∀ x, x ∈ L → NRg gl_50 ad x → NRg gl_99 ad48 x := fun x hx hn => Z_80817 x (hout x hx hn) (fun e => whkq_79956 (by rw [← e]; exact hx))
  have hext := hext.tr X_80815
  have eq42_1 := Y_80816
  have hkI : kp L_80797 f_80814 L_80797 f_80814 [h, q_79978] := kp.rf
  have I := I.kp hkI (allc nr_h (allc nr_q_79978 all0))
  have hkI : kp L_80797 f_80814 L_80797 f_80814 [h, q_79978] := kp.rf
  obtain ⟨ad49, I, X_80818, Y_80819, Z_80820⟩ := SHC.add (l2 := gl_51) I (k := 43) (n := 1) rfl (by decide) rfl p_q_79978 nr_q_79978 ⟨_, rfl, fam_pa⟩ (show ∀ t, t < 30 → 32 + t < 62 from fun t ht => by omega)
  have eq40_1 := (X_80818.2 40 1 (by decide)).trans eq40_1
  have eq41_1 := (X_80818.2 41 1 (by decide)).trans eq41_1
  have eq10_31 := (X_80818.2 10 31 (by decide)).trans eq10_31
  have eq20_5 := (X_80818.2 20 5 (by decide)).trans eq20_5
  have eq20_6 := (X_80818.2 20 6 (by decide)).trans eq20_6
  have eq20_7 := (X_80818.2 20 7 (by decide)).trans eq20_7
  have eq20_8 := (X_80818.2 20 8 (by decide)).trans eq20_8
  have eq20_9 := (X_80818.2 20 9 (by decide)).trans eq20_9
  have eq42_1 := (X_80818.2 42 1 (by decide)).trans eq42_1
  have fam_sc := fam_x fam_sc X_80818 (by decide)
  have fam_pa := fam_x fam_pa X_80818 (by decide)
  have nr_h := Z_80820 _ nr_h (p_h.neA p_q_79978)
  have hout : ∀ x, x ∈ L → NRg gl_50 ad x → NRg gl_51 ad49 x := fun x hx hn => Z_80820 x (hout x hx hn) (fun e => whkq_79978 (by rw [← e]; exact hx))
  have hext := hext.tr X_80818
  have eq43_1 := Y_80819
  have hkI : kp L_80797 f_80814 L_80797 f_80814 [h] := kp.rf
  have p_h : pt L_80797 f_80814 h (.inr (10, [.ref (ad49 40 1), .ref (ad49 41 1), .ref (ad49 42 1), .ref (ad49 10 31), .ref (ad49 43 1), .ref (ad49 20 5), .ref (ad49 20 6), .ref (ad49 20 7), .ref (ad49 20 8), .ref (ad49 20 9), .int 0, .int 0, .int (-1), .int 0, .int 0])) := by rw [eq40_1, eq41_1, eq42_1, eq10_31, eq43_1, eq20_5, eq20_6, eq20_7, eq20_8, eq20_9]; exact p_h
  exact prV (post := fun L1 f1 => ∃ ad2 : Nat → Nat → Nat, kp L f L1 f1 [h] ∧ pt L1 f1 h (.inr (10, [.ref (ad2 40 1), .ref (ad2 41 1), .ref (ad2 42 1), .ref (ad2 10 31), .ref (ad2 43 1), .ref (ad2 20 5), .ref (ad2 20 6), .ref (ad2 20 7), .ref (ad2 20 8), .ref (ad2 20 9), .int 0, .int 0, .int (-1), .int 0, .int 0])) ∧ SHC gl_51 G ad2 L1 f1 ∧ EXT gl_50 ad gl_51 ad2 ∧ (∀ x, x ∈ L → NRg gl_50 ad x → NRg gl_51 ad2 x)) S Y (by decide) (by decide) hA1 ⟨ad49, hk, p_h, I, hext, hout⟩ dX10_init_171
