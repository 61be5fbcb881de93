def gl_0 : List Nat := [0, 0, 0, 0, 0, 0, 0, 0, 0, 0, 0, 0, 0, 0, 0, 0, 0, 0, 0, 0, 0, 0, 0, 0, 0, 0, 0, 0, 0, 0, 0, 0, 0, 0, 0, 0, 0, 0, 0, 0, 0, 0, 0, 0, 0, 0, 0, 0, 0, 0, 0, 0, 0, 0, 0, 0, 0, 0, 0, 0, 0, 0]
def gl_1 : List Nat := [0, 0, 0, 0, 0, 0, 0, 0, 0, 0, 31, 31, 31, 0, 0, 0, 0, 0, 0, 0, 5, 5, 0, 0, 0, 0, 0, 0, 0, 0, 4, 4, 4, 4, 4, 4, 0, 0, 0, 0, 1, 1, 1, 1, 0, 0, 0, 0, 0, 0, 0, 0, 0, 0, 0, 0, 0, 0, 0, 0, 0, 0]
theorem dX10_init_0 : decode cX10_init 0 = .ok (.aload_n 0, 1) := by decide +kernel
theorem dX10_init_1 : decode cX10_init 1 = .ok (.invokespecial 3, 3) := by decide +kernel
theorem km10_3 : inW (Cond.methodLink RX10 3 objectInit) := ⟨List.mem_of_getElem? (i := 203) (by decide +kernel), by decide +kernel⟩
theorem dX10_init_4 : decode cX10_init 4 = .ok (.aload_n 0, 1) := by decide +kernel
theorem dX10_init_5 : decode cX10_init 5 = .ok (.bipush 6, 2) := by decide +kernel
theorem dX10_init_7 : decode cX10_init 7 = .ok (.newarray .int, 2) := by decide +kernel
theorem dX10_init_9 : decode cX10_init 9 = .ok (.putfield 9, 3) := by decide +kernel
def gl_2 : List Nat := [0, 0, 0, 0, 0, 0, 0, 0, 0, 0, 0, 0, 0, 0, 0, 0, 0, 0, 0, 0, 0, 0, 0, 0, 0, 0, 0, 0, 0, 0, 0, 0, 0, 0, 0, 0, 0, 0, 0, 0, 1, 0, 0, 0, 0, 0, 0, 0, 0, 0, 0, 0, 0, 0, 0, 0, 0, 0, 0, 0, 0, 0]
theorem dX10_init_12 : decode cX10_init 12 = .ok (.aload_n 0, 1) := by decide +kernel
theorem dX10_init_13 : decode cX10_init 13 = .ok (.bipush 6, 2) := by decide +kernel
theorem dX10_init_15 : decode cX10_init 15 = .ok (.newarray .int, 2) := by decide +kernel
theorem dX10_init_17 : decode cX10_init 17 = .ok (.putfield 15, 3) := by decide +kernel
def gl_3 : List Nat := [0, 0, 0, 0, 0, 0, 0, 0, 0, 0, 0, 0, 0, 0, 0, 0, 0, 0, 0, 0, 0, 0, 0, 0, 0, 0, 0, 0, 0, 0, 0, 0, 0, 0, 0, 0, 0, 0, 0, 0, 1, 1, 0, 0, 0, 0, 0, 0, 0, 0, 0, 0, 0, 0, 0, 0, 0, 0, 0, 0, 0, 0]
theorem dX10_init_20 : decode cX10_init 20 = .ok (.aload_n 0, 1) := by decide +kernel
theorem dX10_init_21 : decode cX10_init 21 = .ok (.iconst 4, 1) := by decide +kernel
theorem dX10_init_22 : decode cX10_init 22 = .ok (.anewarray 18, 3) := by decide +kernel
theorem kc10_18 : inW (Cond.classLink RX10 18 RX7) := ⟨List.mem_of_getElem? (i := 204) (by decide +kernel), by decide +kernel⟩
theorem dX10_init_25 : decode cX10_init 25 = .ok (.putfield 20, 3) := by decide +kernel
theorem dX10_init_28 : decode cX10_init 28 = .ok (.aload_n 0, 1) := by decide +kernel
theorem dX10_init_29 : decode cX10_init 29 = .ok (.new 24, 3) := by decide +kernel
theorem kc10_24 : inW (Cond.classLink RX10 24 RX4) := ⟨List.mem_of_getElem? (i := 206) (by decide +kernel), by decide +kernel⟩
theorem kn4 : inW (Cond.instantiable RX4 7) := ⟨List.mem_of_getElem? (i := 154) (by decide +kernel), by decide +kernel⟩
theorem ki4 : inW (Cond.initialized RX4) := ⟨List.mem_of_getElem? (i := 125) (by decide +kernel), by decide +kernel⟩
theorem dX10_init_32 : decode cX10_init 32 = .ok (.dup, 1) := by decide +kernel
theorem dX10_init_33 : decode cX10_init 33 = .ok (.invokespecial 26, 3) := by decide +kernel
theorem cw_X4_init : CWi yX4_init cX4_init 1 0 := ⟨⟨⟨List.mem_of_getElem? (i := 125) (by decide +kernel), by decide +kernel⟩, ⟨List.mem_of_getElem? (i := 157) (by decide +kernel), by decide +kernel⟩, by decide +kernel⟩, ⟨List.mem_of_getElem? (i := 156) (by decide +kernel), by decide +kernel⟩, rfl⟩
theorem km10_26 : inW (Cond.methodLinkNest RX10 26 yX4_init "KneeOaths") := ⟨List.mem_of_getElem? (i := 207) (by decide +kernel), by decide +kernel⟩
def gl_4 : List Nat := [0, 0, 0, 0, 0, 0, 0, 0, 0, 0, 1, 1, 1, 0, 0, 0, 0, 0, 0, 0, 0, 0, 0, 0, 0, 0, 0, 0, 0, 0, 0, 0, 0, 0, 0, 0, 0, 0, 0, 0, 1, 1, 0, 0, 0, 0, 0, 0, 0, 0, 0, 0, 0, 0, 0, 0, 0, 0, 0, 0, 0, 0]
theorem dX10_init_36 : decode cX10_init 36 = .ok (.putfield 27, 3) := by decide +kernel
theorem dX10_init_39 : decode cX10_init 39 = .ok (.aload_n 0, 1) := by decide +kernel
theorem dX10_init_40 : decode cX10_init 40 = .ok (.bipush 30, 2) := by decide +kernel
theorem dX10_init_42 : decode cX10_init 42 = .ok (.anewarray 24, 3) := by decide +kernel
theorem dX10_init_45 : decode cX10_init 45 = .ok (.putfield 31, 3) := by decide +kernel
theorem dX10_init_48 : decode cX10_init 48 = .ok (.aload_n 0, 1) := by decide +kernel
theorem dX10_init_49 : decode cX10_init 49 = .ok (.new 35, 3) := by decide +kernel
theorem kc10_35 : inW (Cond.classLink RX10 35 RX9) := ⟨List.mem_of_getElem? (i := 209) (by decide +kernel), by decide +kernel⟩
theorem kn9 : inW (Cond.instantiable RX9 3) := ⟨List.mem_of_getElem? (i := 210) (by decide +kernel), by decide +kernel⟩
theorem ki9 : inW (Cond.initialized RX9) := ⟨List.mem_of_getElem? (i := 127) (by decide +kernel), by decide +kernel⟩
theorem dX10_init_52 : decode cX10_init 52 = .ok (.dup, 1) := by decide +kernel
theorem dX10_init_53 : decode cX10_init 53 = .ok (.bipush 6, 2) := by decide +kernel
theorem dX10_init_55 : decode cX10_init 55 = .ok (.invokespecial 37, 3) := by decide +kernel
theorem cw_X9_init : CWi yX9_init cX9_init 2 1 := ⟨⟨⟨List.mem_of_getElem? (i := 127) (by decide +kernel), by decide +kernel⟩, ⟨List.mem_of_getElem? (i := 213) (by decide +kernel), by decide +kernel⟩, by decide +kernel⟩, ⟨List.mem_of_getElem? (i := 212) (by decide +kernel), by decide +kernel⟩, rfl⟩
theorem km10_37 : inW (Cond.methodLink RX10 37 yX9_init) := ⟨List.mem_of_getElem? (i := 211) (by decide +kernel), by decide +kernel⟩
def gl_5 : List Nat := [0, 0, 0, 0, 0, 0, 0, 0, 0, 0, 1, 1, 1, 0, 0, 0, 0, 0, 0, 0, 0, 1, 0, 0, 0, 0, 0, 0, 0, 0, 0, 0, 0, 0, 0, 0, 0, 0, 0, 0, 1, 1, 0, 0, 0, 0, 0, 0, 0, 0, 0, 0, 0, 0, 0, 0, 0, 0, 0, 0, 0, 0]
def gl_6 : List Nat := [0, 0, 0, 0, 0, 0, 0, 0, 0, 0, 1, 1, 1, 0, 0, 0, 0, 0, 0, 0, 1, 1, 0, 0, 0, 0, 0, 0, 0, 0, 0, 0, 0, 0, 0, 0, 0, 0, 0, 0, 1, 1, 0, 0, 0, 0, 0, 0, 0, 0, 0, 0, 0, 0, 0, 0, 0, 0, 0, 0, 0, 0]
theorem dX10_init_58 : decode cX10_init 58 = .ok (.putfield 40, 3) := by decide +kernel
theorem dX10_init_61 : decode cX10_init 61 = .ok (.aload_n 0, 1) := by decide +kernel
theorem dX10_init_62 : decode cX10_init 62 = .ok (.new 35, 3) := by decide +kernel
theorem dX10_init_65 : decode cX10_init 65 = .ok (.dup, 1) := by decide +kernel
theorem dX10_init_66 : decode cX10_init 66 = .ok (.bipush 8, 2) := by decide +kernel
theorem dX10_init_68 : decode cX10_init 68 = .ok (.invokespecial 37, 3) := by decide +kernel
def gl_7 : List Nat := [0, 0, 0, 0, 0, 0, 0, 0, 0, 0, 1, 1, 1, 0, 0, 0, 0, 0, 0, 0, 1, 2, 0, 0, 0, 0, 0, 0, 0, 0, 0, 0, 0, 0, 0, 0, 0, 0, 0, 0, 1, 1, 0, 0, 0, 0, 0, 0, 0, 0, 0, 0, 0, 0, 0, 0, 0, 0, 0, 0, 0, 0]
def gl_8 : List Nat := [0, 0, 0, 0, 0, 0, 0, 0, 0, 0, 1, 1, 1, 0, 0, 0, 0, 0, 0, 0, 2, 2, 0, 0, 0, 0, 0, 0, 0, 0, 0, 0, 0, 0, 0, 0, 0, 0, 0, 0, 1, 1, 0, 0, 0, 0, 0, 0, 0, 0, 0, 0, 0, 0, 0, 0, 0, 0, 0, 0, 0, 0]
theorem dX10_init_71 : decode cX10_init 71 = .ok (.putfield 44, 3) := by decide +kernel
theorem dX10_init_74 : decode cX10_init 74 = .ok (.aload_n 0, 1) := by decide +kernel
theorem dX10_init_75 : decode cX10_init 75 = .ok (.new 35, 3) := by decide +kernel
theorem dX10_init_78 : decode cX10_init 78 = .ok (.dup, 1) := by decide +kernel
theorem dX10_init_79 : decode cX10_init 79 = .ok (.bipush 8, 2) := by decide +kernel
theorem dX10_init_81 : decode cX10_init 81 = .ok (.invokespecial 37, 3) := by decide +kernel
def gl_9 : List Nat := [0, 0, 0, 0, 0, 0, 0, 0, 0, 0, 1, 1, 1, 0, 0, 0, 0, 0, 0, 0, 2, 3, 0, 0, 0, 0, 0, 0, 0, 0, 0, 0, 0, 0, 0, 0, 0, 0, 0, 0, 1, 1, 0, 0, 0, 0, 0, 0, 0, 0, 0, 0, 0, 0, 0, 0, 0, 0, 0, 0, 0, 0]
def gl_10 : List Nat := [0, 0, 0, 0, 0, 0, 0, 0, 0, 0, 1, 1, 1, 0, 0, 0, 0, 0, 0, 0, 3, 3, 0, 0, 0, 0, 0, 0, 0, 0, 0, 0, 0, 0, 0, 0, 0, 0, 0, 0, 1, 1, 0, 0, 0, 0, 0, 0, 0, 0, 0, 0, 0, 0, 0, 0, 0, 0, 0, 0, 0, 0]
theorem dX10_init_84 : decode cX10_init 84 = .ok (.putfield 47, 3) := by decide +kernel
theorem dX10_init_87 : decode cX10_init 87 = .ok (.aload_n 0, 1) := by decide +kernel
theorem dX10_init_88 : decode cX10_init 88 = .ok (.new 35, 3) := by decide +kernel
theorem dX10_init_91 : decode cX10_init 91 = .ok (.dup, 1) := by decide +kernel
theorem dX10_init_92 : decode cX10_init 92 = .ok (.bipush 8, 2) := by decide +kernel
theorem dX10_init_94 : decode cX10_init 94 = .ok (.invokespecial 37, 3) := by decide +kernel
def gl_11 : List Nat := [0, 0, 0, 0, 0, 0, 0, 0, 0, 0, 1, 1, 1, 0, 0, 0, 0, 0, 0, 0, 3, 4, 0, 0, 0, 0, 0, 0, 0, 0, 0, 0, 0, 0, 0, 0, 0, 0, 0, 0, 1, 1, 0, 0, 0, 0, 0, 0, 0, 0, 0, 0, 0, 0, 0, 0, 0, 0, 0, 0, 0, 0]
def gl_12 : List Nat := [0, 0, 0, 0, 0, 0, 0, 0, 0, 0, 1, 1, 1, 0, 0, 0, 0, 0, 0, 0, 4, 4, 0, 0, 0, 0, 0, 0, 0, 0, 0, 0, 0, 0, 0, 0, 0, 0, 0, 0, 1, 1, 0, 0, 0, 0, 0, 0, 0, 0, 0, 0, 0, 0, 0, 0, 0, 0, 0, 0, 0, 0]
theorem dX10_init_97 : decode cX10_init 97 = .ok (.putfield 50, 3) := by decide +kernel
theorem dX10_init_100 : decode cX10_init 100 = .ok (.aload_n 0, 1) := by decide +kernel
theorem dX10_init_101 : decode cX10_init 101 = .ok (.new 35, 3) := by decide +kernel
theorem dX10_init_104 : decode cX10_init 104 = .ok (.dup, 1) := by decide +kernel
theorem dX10_init_105 : decode cX10_init 105 = .ok (.bipush 8, 2) := by decide +kernel
theorem dX10_init_107 : decode cX10_init 107 = .ok (.invokespecial 37, 3) := by decide +kernel
def gl_13 : List Nat := [0, 0, 0, 0, 0, 0, 0, 0, 0, 0, 1, 1, 1, 0, 0, 0, 0, 0, 0, 0, 4, 5, 0, 0, 0, 0, 0, 0, 0, 0, 0, 0, 0, 0, 0, 0, 0, 0, 0, 0, 1, 1, 0, 0, 0, 0, 0, 0, 0, 0, 0, 0, 0, 0, 0, 0, 0, 0, 0, 0, 0, 0]
def gl_14 : List Nat := [0, 0, 0, 0, 0, 0, 0, 0, 0, 0, 1, 1, 1, 0, 0, 0, 0, 0, 0, 0, 5, 5, 0, 0, 0, 0, 0, 0, 0, 0, 0, 0, 0, 0, 0, 0, 0, 0, 0, 0, 1, 1, 0, 0, 0, 0, 0, 0, 0, 0, 0, 0, 0, 0, 0, 0, 0, 0, 0, 0, 0, 0]
theorem dX10_init_110 : decode cX10_init 110 = .ok (.putfield 53, 3) := by decide +kernel
theorem dX10_init_113 : decode cX10_init 113 = .ok (.aload_n 0, 1) := by decide +kernel
theorem dX10_init_114 : decode cX10_init 114 = .ok (.iconst (-1), 1) := by decide +kernel
theorem dX10_init_115 : decode cX10_init 115 = .ok (.putfield 56, 3) := by decide +kernel
theorem dX10_init_118 : decode cX10_init 118 = .ok (.iconst 0, 1) := by decide +kernel
theorem dX10_init_119 : decode cX10_init 119 = .ok (.istore_n 1, 1) := by decide +kernel
theorem dX10_init_120 : decode cX10_init 120 = .ok (.iload_n 1, 1) := by decide +kernel
theorem dX10_init_121 : decode cX10_init 121 = .ok (.iconst 4, 1) := by decide +kernel
theorem dX10_init_122 : decode cX10_init 122 = .ok (.if_icmp .ge 22, 3) := by decide +kernel
theorem dX10_init_125 : decode cX10_init 125 = .ok (.aload_n 0, 1) := by decide +kernel
theorem dX10_init_126 : decode cX10_init 126 = .ok (.getfield 20, 3) := by decide +kernel
theorem dX10_init_129 : decode cX10_init 129 = .ok (.iload_n 1, 1) := by decide +kernel
theorem dX10_init_130 : decode cX10_init 130 = .ok (.new 18, 3) := by decide +kernel
theorem kn7 : inW (Cond.instantiable RX7 7) := ⟨List.mem_of_getElem? (i := 232) (by decide +kernel), by decide +kernel⟩
theorem ki7 : inW (Cond.initialized RX7) := ⟨List.mem_of_getElem? (i := 129) (by decide +kernel), by decide +kernel⟩
theorem dX10_init_133 : decode cX10_init 133 = .ok (.dup, 1) := by decide +kernel
theorem dX10_init_134 : decode cX10_init 134 = .ok (.invokespecial 60, 3) := by decide +kernel
theorem cw_X7_init : CWi yX7_init cX7_init 1 0 := ⟨⟨⟨List.mem_of_getElem? (i := 129) (by decide +kernel), by decide +kernel⟩, ⟨List.mem_of_getElem? (i := 235) (by decide +kernel), by decide +kernel⟩, by decide +kernel⟩, ⟨List.mem_of_getElem? (i := 234) (by decide +kernel), by decide +kernel⟩, rfl⟩
theorem km10_60 : inW (Cond.methodLinkNest RX10 60 yX7_init "KneeOaths") := ⟨List.mem_of_getElem? (i := 233) (by decide +kernel), by decide +kernel⟩
def gl_15 : List Nat := [0, 0, 0, 0, 0, 0, 0, 0, 0, 0, 1, 1, 1, 0, 0, 0, 0, 0, 0, 0, 5, 5, 0, 0, 0, 0, 0, 0, 0, 0, 1, 1, 1, 1, 1, 1, 0, 0, 0, 0, 1, 1, 0, 0, 0, 0, 0, 0, 0, 0, 0, 0, 0, 0, 0, 0, 0, 0, 0, 0, 0, 0]
theorem dX10_init_137 : decode cX10_init 137 = .ok (.aastore, 1) := by decide +kernel
theorem dX10_init_138 : decode cX10_init 138 = .ok (.iinc 1 1, 3) := by decide +kernel
theorem dX10_init_141 : decode cX10_init 141 = .ok (.goto (-21), 3) := by decide +kernel
def gl_16 : List Nat := [0, 0, 0, 0, 0, 0, 0, 0, 0, 0, 1, 1, 1, 0, 0, 0, 0, 0, 0, 0, 5, 5, 0, 0, 0, 0, 0, 0, 0, 0, 2, 2, 2, 2, 2, 2, 0, 0, 0, 0, 1, 1, 0, 0, 0, 0, 0, 0, 0, 0, 0, 0, 0, 0, 0, 0, 0, 0, 0, 0, 0, 0]
def gl_17 : List Nat := [0, 0, 0, 0, 0, 0, 0, 0, 0, 0, 1, 1, 1, 0, 0, 0, 0, 0, 0, 0, 5, 5, 0, 0, 0, 0, 0, 0, 0, 0, 3, 3, 3, 3, 3, 3, 0, 0, 0, 0, 1, 1, 0, 0, 0, 0, 0, 0, 0, 0, 0, 0, 0, 0, 0, 0, 0, 0, 0, 0, 0, 0]
def gl_18 : List Nat := [0, 0, 0, 0, 0, 0, 0, 0, 0, 0, 1, 1, 1, 0, 0, 0, 0, 0, 0, 0, 5, 5, 0, 0, 0, 0, 0, 0, 0, 0, 4, 4, 4, 4, 4, 4, 0, 0, 0, 0, 1, 1, 0, 0, 0, 0, 0, 0, 0, 0, 0, 0, 0, 0, 0, 0, 0, 0, 0, 0, 0, 0]
theorem dX10_init_144 : decode cX10_init 144 = .ok (.iconst 0, 1) := by decide +kernel
theorem dX10_init_145 : decode cX10_init 145 = .ok (.istore_n 1, 1) := by decide +kernel
theorem dX10_init_146 : decode cX10_init 146 = .ok (.iload_n 1, 1) := by decide +kernel
theorem dX10_init_147 : decode cX10_init 147 = .ok (.bipush 30, 2) := by decide +kernel
theorem dX10_init_149 : decode cX10_init 149 = .ok (.if_icmp .ge 22, 3) := by decide +kernel
theorem dX10_init_152 : decode cX10_init 152 = .ok (.aload_n 0, 1) := by decide +kernel
theorem dX10_init_153 : decode cX10_init 153 = .ok (.getfield 31, 3) := by decide +kernel
theorem dX10_init_156 : decode cX10_init 156 = .ok (.iload_n 1, 1) := by decide +kernel
theorem dX10_init_157 : decode cX10_init 157 = .ok (.new 24, 3) := by decide +kernel
theorem dX10_init_160 : decode cX10_init 160 = .ok (.dup, 1) := by decide +kernel
theorem dX10_init_161 : decode cX10_init 161 = .ok (.invokespecial 26, 3) := by decide +kernel
def gl_19 : List Nat := [0, 0, 0, 0, 0, 0, 0, 0, 0, 0, 2, 2, 2, 0, 0, 0, 0, 0, 0, 0, 5, 5, 0, 0, 0, 0, 0, 0, 0, 0, 4, 4, 4, 4, 4, 4, 0, 0, 0, 0, 1, 1, 0, 0, 0, 0, 0, 0, 0, 0, 0, 0, 0, 0, 0, 0, 0, 0, 0, 0, 0, 0]
theorem dX10_init_164 : decode cX10_init 164 = .ok (.aastore, 1) := by decide +kernel
theorem dX10_init_165 : decode cX10_init 165 = .ok (.iinc 1 1, 3) := by decide +kernel
theorem dX10_init_168 : decode cX10_init 168 = .ok (.goto (-22), 3) := by decide +kernel
def gl_20 : List Nat := [0, 0, 0, 0, 0, 0, 0, 0, 0, 0, 3, 3, 3, 0, 0, 0, 0, 0, 0, 0, 5, 5, 0, 0, 0, 0, 0, 0, 0, 0, 4, 4, 4, 4, 4, 4, 0, 0, 0, 0, 1, 1, 0, 0, 0, 0, 0, 0, 0, 0, 0, 0, 0, 0, 0, 0, 0, 0, 0, 0, 0, 0]
def gl_21 : List Nat := [0, 0, 0, 0, 0, 0, 0, 0, 0, 0, 4, 4, 4, 0, 0, 0, 0, 0, 0, 0, 5, 5, 0, 0, 0, 0, 0, 0, 0, 0, 4, 4, 4, 4, 4, 4, 0, 0, 0, 0, 1, 1, 0, 0, 0, 0, 0, 0, 0, 0, 0, 0, 0, 0, 0, 0, 0, 0, 0, 0, 0, 0]
def gl_22 : List Nat := [0, 0, 0, 0, 0, 0, 0, 0, 0, 0, 5, 5, 5, 0, 0, 0, 0, 0, 0, 0, 5, 5, 0, 0, 0, 0, 0, 0, 0, 0, 4, 4, 4, 4, 4, 4, 0, 0, 0, 0, 1, 1, 0, 0, 0, 0, 0, 0, 0, 0, 0, 0, 0, 0, 0, 0, 0, 0, 0, 0, 0, 0]
def gl_23 : List Nat := [0, 0, 0, 0, 0, 0, 0, 0, 0, 0, 6, 6, 6, 0, 0, 0, 0, 0, 0, 0, 5, 5, 0, 0, 0, 0, 0, 0, 0, 0, 4, 4, 4, 4, 4, 4, 0, 0, 0, 0, 1, 1, 0, 0, 0, 0, 0, 0, 0, 0, 0, 0, 0, 0, 0, 0, 0, 0, 0, 0, 0, 0]
def gl_24 : List Nat := [0, 0, 0, 0, 0, 0, 0, 0, 0, 0, 7, 7, 7, 0, 0, 0, 0, 0, 0, 0, 5, 5, 0, 0, 0, 0, 0, 0, 0, 0, 4, 4, 4, 4, 4, 4, 0, 0, 0, 0, 1, 1, 0, 0, 0, 0, 0, 0, 0, 0, 0, 0, 0, 0, 0, 0, 0, 0, 0, 0, 0, 0]
def gl_25 : List Nat := [0, 0, 0, 0, 0, 0, 0, 0, 0, 0, 8, 8, 8, 0, 0, 0, 0, 0, 0, 0, 5, 5, 0, 0, 0, 0, 0, 0, 0, 0, 4, 4, 4, 4, 4, 4, 0, 0, 0, 0, 1, 1, 0, 0, 0, 0, 0, 0, 0, 0, 0, 0, 0, 0, 0, 0, 0, 0, 0, 0, 0, 0]
def gl_26 : List Nat := [0, 0, 0, 0, 0, 0, 0, 0, 0, 0, 9, 9, 9, 0, 0, 0, 0, 0, 0, 0, 5, 5, 0, 0, 0, 0, 0, 0, 0, 0, 4, 4, 4, 4, 4, 4, 0, 0, 0, 0, 1, 1, 0, 0, 0, 0, 0, 0, 0, 0, 0, 0, 0, 0, 0, 0, 0, 0, 0, 0, 0, 0]
def gl_27 : List Nat := [0, 0, 0, 0, 0, 0, 0, 0, 0, 0, 10, 10, 10, 0, 0, 0, 0, 0, 0, 0, 5, 5, 0, 0, 0, 0, 0, 0, 0, 0, 4, 4, 4, 4, 4, 4, 0, 0, 0, 0, 1, 1, 0, 0, 0, 0, 0, 0, 0, 0, 0, 0, 0, 0, 0, 0, 0, 0, 0, 0, 0, 0]
def gl_28 : List Nat := [0, 0, 0, 0, 0, 0, 0, 0, 0, 0, 11, 11, 11, 0, 0, 0, 0, 0, 0, 0, 5, 5, 0, 0, 0, 0, 0, 0, 0, 0, 4, 4, 4, 4, 4, 4, 0, 0, 0, 0, 1, 1, 0, 0, 0, 0, 0, 0, 0, 0, 0, 0, 0, 0, 0, 0, 0, 0, 0, 0, 0, 0]
def gl_29 : List Nat := [0, 0, 0, 0, 0, 0, 0, 0, 0, 0, 12, 12, 12, 0, 0, 0, 0, 0, 0, 0, 5, 5, 0, 0, 0, 0, 0, 0, 0, 0, 4, 4, 4, 4, 4, 4, 0, 0, 0, 0, 1, 1, 0, 0, 0, 0, 0, 0, 0, 0, 0, 0, 0, 0, 0, 0, 0, 0, 0, 0, 0, 0]
def gl_30 : List Nat := [0, 0, 0, 0, 0, 0, 0, 0, 0, 0, 13, 13, 13, 0, 0, 0, 0, 0, 0, 0, 5, 5, 0, 0, 0, 0, 0, 0, 0, 0, 4, 4, 4, 4, 4, 4, 0, 0, 0, 0, 1, 1, 0, 0, 0, 0, 0, 0, 0, 0, 0, 0, 0, 0, 0, 0, 0, 0, 0, 0, 0, 0]
def gl_31 : List Nat := [0, 0, 0, 0, 0, 0, 0, 0, 0, 0, 14, 14, 14, 0, 0, 0, 0, 0, 0, 0, 5, 5, 0, 0, 0, 0, 0, 0, 0, 0, 4, 4, 4, 4, 4, 4, 0, 0, 0, 0, 1, 1, 0, 0, 0, 0, 0, 0, 0, 0, 0, 0, 0, 0, 0, 0, 0, 0, 0, 0, 0, 0]
def gl_32 : List Nat := [0, 0, 0, 0, 0, 0, 0, 0, 0, 0, 15, 15, 15, 0, 0, 0, 0, 0, 0, 0, 5, 5, 0, 0, 0, 0, 0, 0, 0, 0, 4, 4, 4, 4, 4, 4, 0, 0, 0, 0, 1, 1, 0, 0, 0, 0, 0, 0, 0, 0, 0, 0, 0, 0, 0, 0, 0, 0, 0, 0, 0, 0]
def gl_33 : List Nat := [0, 0, 0, 0, 0, 0, 0, 0, 0, 0, 16, 16, 16, 0, 0, 0, 0, 0, 0, 0, 5, 5, 0, 0, 0, 0, 0, 0, 0, 0, 4, 4, 4, 4, 4, 4, 0, 0, 0, 0, 1, 1, 0, 0, 0, 0, 0, 0, 0, 0, 0, 0, 0, 0, 0, 0, 0, 0, 0, 0, 0, 0]
def gl_34 : List Nat := [0, 0, 0, 0, 0, 0, 0, 0, 0, 0, 17, 17, 17, 0, 0, 0, 0, 0, 0, 0, 5, 5, 0, 0, 0, 0, 0, 0, 0, 0, 4, 4, 4, 4, 4, 4, 0, 0, 0, 0, 1, 1, 0, 0, 0, 0, 0, 0, 0, 0, 0, 0, 0, 0, 0, 0, 0, 0, 0, 0, 0, 0]
def gl_35 : List Nat := [0, 0, 0, 0, 0, 0, 0, 0, 0, 0, 18, 18, 18, 0, 0, 0, 0, 0, 0, 0, 5, 5, 0, 0, 0, 0, 0, 0, 0, 0, 4, 4, 4, 4, 4, 4, 0, 0, 0, 0, 1, 1, 0, 0, 0, 0, 0, 0, 0, 0, 0, 0, 0, 0, 0, 0, 0, 0, 0, 0, 0, 0]
def gl_36 : List Nat := [0, 0, 0, 0, 0, 0, 0, 0, 0, 0, 19, 19, 19, 0, 0, 0, 0, 0, 0, 0, 5, 5, 0, 0, 0, 0, 0, 0, 0, 0, 4, 4, 4, 4, 4, 4, 0, 0, 0, 0, 1, 1, 0, 0, 0, 0, 0, 0, 0, 0, 0, 0, 0, 0, 0, 0, 0, 0, 0, 0, 0, 0]
def gl_37 : List Nat := [0, 0, 0, 0, 0, 0, 0, 0, 0, 0, 20, 20, 20, 0, 0, 0, 0, 0, 0, 0, 5, 5, 0, 0, 0, 0, 0, 0, 0, 0, 4, 4, 4, 4, 4, 4, 0, 0, 0, 0, 1, 1, 0, 0, 0, 0, 0, 0, 0, 0, 0, 0, 0, 0, 0, 0, 0, 0, 0, 0, 0, 0]
def gl_38 : List Nat := [0, 0, 0, 0, 0, 0, 0, 0, 0, 0, 21, 21, 21, 0, 0, 0, 0, 0, 0, 0, 5, 5, 0, 0, 0, 0, 0, 0, 0, 0, 4, 4, 4, 4, 4, 4, 0, 0, 0, 0, 1, 1, 0, 0, 0, 0, 0, 0, 0, 0, 0, 0, 0, 0, 0, 0, 0, 0, 0, 0, 0, 0]
def gl_39 : List Nat := [0, 0, 0, 0, 0, 0, 0, 0, 0, 0, 22, 22, 22, 0, 0, 0, 0, 0, 0, 0, 5, 5, 0, 0, 0, 0, 0, 0, 0, 0, 4, 4, 4, 4, 4, 4, 0, 0, 0, 0, 1, 1, 0, 0, 0, 0, 0, 0, 0, 0, 0, 0, 0, 0, 0, 0, 0, 0, 0, 0, 0, 0]
def gl_40 : List Nat := [0, 0, 0, 0, 0, 0, 0, 0, 0, 0, 23, 23, 23, 0, 0, 0, 0, 0, 0, 0, 5, 5, 0, 0, 0, 0, 0, 0, 0, 0, 4, 4, 4, 4, 4, 4, 0, 0, 0, 0, 1, 1, 0, 0, 0, 0, 0, 0, 0, 0, 0, 0, 0, 0, 0, 0, 0, 0, 0, 0, 0, 0]
def gl_41 : List Nat := [0, 0, 0, 0, 0, 0, 0, 0, 0, 0, 24, 24, 24, 0, 0, 0, 0, 0, 0, 0, 5, 5, 0, 0, 0, 0, 0, 0, 0, 0, 4, 4, 4, 4, 4, 4, 0, 0, 0, 0, 1, 1, 0, 0, 0, 0, 0, 0, 0, 0, 0, 0, 0, 0, 0, 0, 0, 0, 0, 0, 0, 0]
def gl_42 : List Nat := [0, 0, 0, 0, 0, 0, 0, 0, 0, 0, 25, 25, 25, 0, 0, 0, 0, 0, 0, 0, 5, 5, 0, 0, 0, 0, 0, 0, 0, 0, 4, 4, 4, 4, 4, 4, 0, 0, 0, 0, 1, 1, 0, 0, 0, 0, 0, 0, 0, 0, 0, 0, 0, 0, 0, 0, 0, 0, 0, 0, 0, 0]
def gl_43 : List Nat := [0, 0, 0, 0, 0, 0, 0, 0, 0, 0, 26, 26, 26, 0, 0, 0, 0, 0, 0, 0, 5, 5, 0, 0, 0, 0, 0, 0, 0, 0, 4, 4, 4, 4, 4, 4, 0, 0, 0, 0, 1, 1, 0, 0, 0, 0, 0, 0, 0, 0, 0, 0, 0, 0, 0, 0, 0, 0, 0, 0, 0, 0]
def gl_44 : List Nat := [0, 0, 0, 0, 0, 0, 0, 0, 0, 0, 27, 27, 27, 0, 0, 0, 0, 0, 0, 0, 5, 5, 0, 0, 0, 0, 0, 0, 0, 0, 4, 4, 4, 4, 4, 4, 0, 0, 0, 0, 1, 1, 0, 0, 0, 0, 0, 0, 0, 0, 0, 0, 0, 0, 0, 0, 0, 0, 0, 0, 0, 0]
def gl_45 : List Nat := [0, 0, 0, 0, 0, 0, 0, 0, 0, 0, 28, 28, 28, 0, 0, 0, 0, 0, 0, 0, 5, 5, 0, 0, 0, 0, 0, 0, 0, 0, 4, 4, 4, 4, 4, 4, 0, 0, 0, 0, 1, 1, 0, 0, 0, 0, 0, 0, 0, 0, 0, 0, 0, 0, 0, 0, 0, 0, 0, 0, 0, 0]
def gl_46 : List Nat := [0, 0, 0, 0, 0, 0, 0, 0, 0, 0, 29, 29, 29, 0, 0, 0, 0, 0, 0, 0, 5, 5, 0, 0, 0, 0, 0, 0, 0, 0, 4, 4, 4, 4, 4, 4, 0, 0, 0, 0, 1, 1, 0, 0, 0, 0, 0, 0, 0, 0, 0, 0, 0, 0, 0, 0, 0, 0, 0, 0, 0, 0]
def gl_47 : List Nat := [0, 0, 0, 0, 0, 0, 0, 0, 0, 0, 30, 30, 30, 0, 0, 0, 0, 0, 0, 0, 5, 5, 0, 0, 0, 0, 0, 0, 0, 0, 4, 4, 4, 4, 4, 4, 0, 0, 0, 0, 1, 1, 0, 0, 0, 0, 0, 0, 0, 0, 0, 0, 0, 0, 0, 0, 0, 0, 0, 0, 0, 0]
def gl_48 : List Nat := [0, 0, 0, 0, 0, 0, 0, 0, 0, 0, 31, 31, 31, 0, 0, 0, 0, 0, 0, 0, 5, 5, 0, 0, 0, 0, 0, 0, 0, 0, 4, 4, 4, 4, 4, 4, 0, 0, 0, 0, 1, 1, 0, 0, 0, 0, 0, 0, 0, 0, 0, 0, 0, 0, 0, 0, 0, 0, 0, 0, 0, 0]
def gl_49 : List Nat := [0, 0, 0, 0, 0, 0, 0, 0, 0, 0, 31, 31, 31, 0, 0, 0, 0, 0, 0, 0, 5, 5, 0, 0, 0, 0, 0, 0, 0, 0, 4, 4, 4, 4, 4, 4, 0, 0, 0, 0, 1, 1, 1, 0, 0, 0, 0, 0, 0, 0, 0, 0, 0, 0, 0, 0, 0, 0, 0, 0, 0, 0]
theorem dX10_init_171 : decode cX10_init 171 = .ok (.return_, 1) := by decide +kernel
def gl_50 : List Nat := [0, 1, 0, 0, 0, 0, 0, 0, 0, 0, 31, 31, 31, 0, 0, 0, 0, 0, 0, 0, 5, 5, 0, 0, 0, 0, 0, 0, 0, 0, 4, 4, 4, 4, 4, 4, 0, 0, 0, 0, 1, 1, 1, 1, 0, 0, 0, 0, 0, 0, 0, 0, 0, 0, 0, 0, 0, 0, 0, 0, 0, 0]
def gl_51 : List Nat := [0, 1, 0, 0, 0, 0, 0, 0, 0, 0, 62, 62, 62, 0, 0, 0, 0, 0, 0, 0, 10, 10, 0, 0, 0, 0, 0, 0, 0, 0, 8, 8, 8, 8, 8, 8, 0, 0, 0, 0, 2, 2, 2, 2, 0, 0, 0, 0, 0, 0, 0, 0, 0, 0, 0, 0, 0, 0, 0, 0, 0, 0]
def gl_52 : List Nat := [0, 1, 0, 0, 0, 0, 0, 0, 0, 0, 31, 31, 31, 0, 0, 0, 0, 0, 0, 0, 5, 5, 0, 0, 0, 0, 0, 0, 0, 0, 4, 4, 4, 4, 4, 4, 0, 0, 0, 0, 2, 1, 1, 1, 0, 0, 0, 0, 0, 0, 0, 0, 0, 0, 0, 0, 0, 0, 0, 0, 0, 0]
def gl_53 : List Nat := [0, 1, 0, 0, 0, 0, 0, 0, 0, 0, 31, 31, 31, 0, 0, 0, 0, 0, 0, 0, 5, 5, 0, 0, 0, 0, 0, 0, 0, 0, 4, 4, 4, 4, 4, 4, 0, 0, 0, 0, 2, 2, 1, 1, 0, 0, 0, 0, 0, 0, 0, 0, 0, 0, 0, 0, 0, 0, 0, 0, 0, 0]
def gl_54 : List Nat := [0, 1, 0, 0, 0, 0, 0, 0, 0, 0, 32, 32, 32, 0, 0, 0, 0, 0, 0, 0, 5, 5, 0, 0, 0, 0, 0, 0, 0, 0, 4, 4, 4, 4, 4, 4, 0, 0, 0, 0, 2, 2, 1, 1, 0, 0, 0, 0, 0, 0, 0, 0, 0, 0, 0, 0, 0, 0, 0, 0, 0, 0]
def gl_55 : List Nat := [0, 1, 0, 0, 0, 0, 0, 0, 0, 0, 32, 32, 32, 0, 0, 0, 0, 0, 0, 0, 5, 6, 0, 0, 0, 0, 0, 0, 0, 0, 4, 4, 4, 4, 4, 4, 0, 0, 0, 0, 2, 2, 1, 1, 0, 0, 0, 0, 0, 0, 0, 0, 0, 0, 0, 0, 0, 0, 0, 0, 0, 0]
def gl_56 : List Nat := [0, 1, 0, 0, 0, 0, 0, 0, 0, 0, 32, 32, 32, 0, 0, 0, 0, 0, 0, 0, 6, 6, 0, 0, 0, 0, 0, 0, 0, 0, 4, 4, 4, 4, 4, 4, 0, 0, 0, 0, 2, 2, 1, 1, 0, 0, 0, 0, 0, 0, 0, 0, 0, 0, 0, 0, 0, 0, 0, 0, 0, 0]
def gl_57 : List Nat := [0, 1, 0, 0, 0, 0, 0, 0, 0, 0, 32, 32, 32, 0, 0, 0, 0, 0, 0, 0, 6, 7, 0, 0, 0, 0, 0, 0, 0, 0, 4, 4, 4, 4, 4, 4, 0, 0, 0, 0, 2, 2, 1, 1, 0, 0, 0, 0, 0, 0, 0, 0, 0, 0, 0, 0, 0, 0, 0, 0, 0, 0]
def gl_58 : List Nat := [0, 1, 0, 0, 0, 0, 0, 0, 0, 0, 32, 32, 32, 0, 0, 0, 0, 0, 0, 0, 7, 7, 0, 0, 0, 0, 0, 0, 0, 0, 4, 4, 4, 4, 4, 4, 0, 0, 0, 0, 2, 2, 1, 1, 0, 0, 0, 0, 0, 0, 0, 0, 0, 0, 0, 0, 0, 0, 0, 0, 0, 0]
def gl_59 : List Nat := [0, 1, 0, 0, 0, 0, 0, 0, 0, 0, 32, 32, 32, 0, 0, 0, 0, 0, 0, 0, 7, 8, 0, 0, 0, 0, 0, 0, 0, 0, 4, 4, 4, 4, 4, 4, 0, 0, 0, 0, 2, 2, 1, 1, 0, 0, 0, 0, 0, 0, 0, 0, 0, 0, 0, 0, 0, 0, 0, 0, 0, 0]
def gl_60 : List Nat := [0, 1, 0, 0, 0, 0, 0, 0, 0, 0, 32, 32, 32, 0, 0, 0, 0, 0, 0, 0, 8, 8, 0, 0, 0, 0, 0, 0, 0, 0, 4, 4, 4, 4, 4, 4, 0, 0, 0, 0, 2, 2, 1, 1, 0, 0, 0, 0, 0, 0, 0, 0, 0, 0, 0, 0, 0, 0, 0, 0, 0, 0]
def gl_61 : List Nat := [0, 1, 0, 0, 0, 0, 0, 0, 0, 0, 32, 32, 32, 0, 0, 0, 0, 0, 0, 0, 8, 9, 0, 0, 0, 0, 0, 0, 0, 0, 4, 4, 4, 4, 4, 4, 0, 0, 0, 0, 2, 2, 1, 1, 0, 0, 0, 0, 0, 0, 0, 0, 0, 0, 0, 0, 0, 0, 0, 0, 0, 0]
def gl_62 : List Nat := [0, 1, 0, 0, 0, 0, 0, 0, 0, 0, 32, 32, 32, 0, 0, 0, 0, 0, 0, 0, 9, 9, 0, 0, 0, 0, 0, 0, 0, 0, 4, 4, 4, 4, 4, 4, 0, 0, 0, 0, 2, 2, 1, 1, 0, 0, 0, 0, 0, 0, 0, 0, 0, 0, 0, 0, 0, 0, 0, 0, 0, 0]
def gl_63 : List Nat := [0, 1, 0, 0, 0, 0, 0, 0, 0, 0, 32, 32, 32, 0, 0, 0, 0, 0, 0, 0, 9, 10, 0, 0, 0, 0, 0, 0, 0, 0, 4, 4, 4, 4, 4, 4, 0, 0, 0, 0, 2, 2, 1, 1, 0, 0, 0, 0, 0, 0, 0, 0, 0, 0, 0, 0, 0, 0, 0, 0, 0, 0]
def gl_64 : List Nat := [0, 1, 0, 0, 0, 0, 0, 0, 0, 0, 32, 32, 32, 0, 0, 0, 0, 0, 0, 0, 10, 10, 0, 0, 0, 0, 0, 0, 0, 0, 4, 4, 4, 4, 4, 4, 0, 0, 0, 0, 2, 2, 1, 1, 0, 0, 0, 0, 0, 0, 0, 0, 0, 0, 0, 0, 0, 0, 0, 0, 0, 0]
def gl_65 : List Nat := [0, 1, 0, 0, 0, 0, 0, 0, 0, 0, 32, 32, 32, 0, 0, 0, 0, 0, 0, 0, 10, 10, 0, 0, 0, 0, 0, 0, 0, 0, 5, 5, 5, 5, 5, 5, 0, 0, 0, 0, 2, 2, 1, 1, 0, 0, 0, 0, 0, 0, 0, 0, 0, 0, 0, 0, 0, 0, 0, 0, 0, 0]
def gl_66 : List Nat := [0, 1, 0, 0, 0, 0, 0, 0, 0, 0, 32, 32, 32, 0, 0, 0, 0, 0, 0, 0, 10, 10, 0, 0, 0, 0, 0, 0, 0, 0, 6, 6, 6, 6, 6, 6, 0, 0, 0, 0, 2, 2, 1, 1, 0, 0, 0, 0, 0, 0, 0, 0, 0, 0, 0, 0, 0, 0, 0, 0, 0, 0]
def gl_67 : List Nat := [0, 1, 0, 0, 0, 0, 0, 0, 0, 0, 32, 32, 32, 0, 0, 0, 0, 0, 0, 0, 10, 10, 0, 0, 0, 0, 0, 0, 0, 0, 7, 7, 7, 7, 7, 7, 0, 0, 0, 0, 2, 2, 1, 1, 0, 0, 0, 0, 0, 0, 0, 0, 0, 0, 0, 0, 0, 0, 0, 0, 0, 0]
def gl_68 : List Nat := [0, 1, 0, 0, 0, 0, 0, 0, 0, 0, 32, 32, 32, 0, 0, 0, 0, 0, 0, 0, 10, 10, 0, 0, 0, 0, 0, 0, 0, 0, 8, 8, 8, 8, 8, 8, 0, 0, 0, 0, 2, 2, 1, 1, 0, 0, 0, 0, 0, 0, 0, 0, 0, 0, 0, 0, 0, 0, 0, 0, 0, 0]
def gl_69 : List Nat := [0, 1, 0, 0, 0, 0, 0, 0, 0, 0, 33, 33, 33, 0, 0, 0, 0, 0, 0, 0, 10, 10, 0, 0, 0, 0, 0, 0, 0, 0, 8, 8, 8, 8, 8, 8, 0, 0, 0, 0, 2, 2, 1, 1, 0, 0, 0, 0, 0, 0, 0, 0, 0, 0, 0, 0, 0, 0, 0, 0, 0, 0]
def gl_70 : List Nat := [0, 1, 0, 0, 0, 0, 0, 0, 0, 0, 34, 34, 34, 0, 0, 0, 0, 0, 0, 0, 10, 10, 0, 0, 0, 0, 0, 0, 0, 0, 8, 8, 8, 8, 8, 8, 0, 0, 0, 0, 2, 2, 1, 1, 0, 0, 0, 0, 0, 0, 0, 0, 0, 0, 0, 0, 0, 0, 0, 0, 0, 0]
def gl_71 : List Nat := [0, 1, 0, 0, 0, 0, 0, 0, 0, 0, 35, 35, 35, 0, 0, 0, 0, 0, 0, 0, 10, 10, 0, 0, 0, 0, 0, 0, 0, 0, 8, 8, 8, 8, 8, 8, 0, 0, 0, 0, 2, 2, 1, 1, 0, 0, 0, 0, 0, 0, 0, 0, 0, 0, 0, 0, 0, 0, 0, 0, 0, 0]
def gl_72 : List Nat := [0, 1, 0, 0, 0, 0, 0, 0, 0, 0, 36, 36, 36, 0, 0, 0, 0, 0, 0, 0, 10, 10, 0, 0, 0, 0, 0, 0, 0, 0, 8, 8, 8, 8, 8, 8, 0, 0, 0, 0, 2, 2, 1, 1, 0, 0, 0, 0, 0, 0, 0, 0, 0, 0, 0, 0, 0, 0, 0, 0, 0, 0]
def gl_73 : List Nat := [0, 1, 0, 0, 0, 0, 0, 0, 0, 0, 37, 37, 37, 0, 0, 0, 0, 0, 0, 0, 10, 10, 0, 0, 0, 0, 0, 0, 0, 0, 8, 8, 8, 8, 8, 8, 0, 0, 0, 0, 2, 2, 1, 1, 0, 0, 0, 0, 0, 0, 0, 0, 0, 0, 0, 0, 0, 0, 0, 0, 0, 0]
def gl_74 : List Nat := [0, 1, 0, 0, 0, 0, 0, 0, 0, 0, 38, 38, 38, 0, 0, 0, 0, 0, 0, 0, 10, 10, 0, 0, 0, 0, 0, 0, 0, 0, 8, 8, 8, 8, 8, 8, 0, 0, 0, 0, 2, 2, 1, 1, 0, 0, 0, 0, 0, 0, 0, 0, 0, 0, 0, 0, 0, 0, 0, 0, 0, 0]
def gl_75 : List Nat := [0, 1, 0, 0, 0, 0, 0, 0, 0, 0, 39, 39, 39, 0, 0, 0, 0, 0, 0, 0, 10, 10, 0, 0, 0, 0, 0, 0, 0, 0, 8, 8, 8, 8, 8, 8, 0, 0, 0, 0, 2, 2, 1, 1, 0, 0, 0, 0, 0, 0, 0, 0, 0, 0, 0, 0, 0, 0, 0, 0, 0, 0]
def gl_76 : List Nat := [0, 1, 0, 0, 0, 0, 0, 0, 0, 0, 40, 40, 40, 0, 0, 0, 0, 0, 0, 0, 10, 10, 0, 0, 0, 0, 0, 0, 0, 0, 8, 8, 8, 8, 8, 8, 0, 0, 0, 0, 2, 2, 1, 1, 0, 0, 0, 0, 0, 0, 0, 0, 0, 0, 0, 0, 0, 0, 0, 0, 0, 0]
def gl_77 : List Nat := [0, 1, 0, 0, 0, 0, 0, 0, 0, 0, 41, 41, 41, 0, 0, 0, 0, 0, 0, 0, 10, 10, 0, 0, 0, 0, 0, 0, 0, 0, 8, 8, 8, 8, 8, 8, 0, 0, 0, 0, 2, 2, 1, 1, 0, 0, 0, 0, 0, 0, 0, 0, 0, 0, 0, 0, 0, 0, 0, 0, 0, 0]
def gl_78 : List Nat := [0, 1, 0, 0, 0, 0, 0, 0, 0, 0, 42, 42, 42, 0, 0, 0, 0, 0, 0, 0, 10, 10, 0, 0, 0, 0, 0, 0, 0, 0, 8, 8, 8, 8, 8, 8, 0, 0, 0, 0, 2, 2, 1, 1, 0, 0, 0, 0, 0, 0, 0, 0, 0, 0, 0, 0, 0, 0, 0, 0, 0, 0]
def gl_79 : List Nat := [0, 1, 0, 0, 0, 0, 0, 0, 0, 0, 43, 43, 43, 0, 0, 0, 0, 0, 0, 0, 10, 10, 0, 0, 0, 0, 0, 0, 0, 0, 8, 8, 8, 8, 8, 8, 0, 0, 0, 0, 2, 2, 1, 1, 0, 0, 0, 0, 0, 0, 0, 0, 0, 0, 0, 0, 0, 0, 0, 0, 0, 0]
def gl_80 : List Nat := [0, 1, 0, 0, 0, 0, 0, 0, 0, 0, 44, 44, 44, 0, 0, 0, 0, 0, 0, 0, 10, 10, 0, 0, 0, 0, 0, 0, 0, 0, 8, 8, 8, 8, 8, 8, 0, 0, 0, 0, 2, 2, 1, 1, 0, 0, 0, 0, 0, 0, 0, 0, 0, 0, 0, 0, 0, 0, 0, 0, 0, 0]
def gl_81 : List Nat := [0, 1, 0, 0, 0, 0, 0, 0, 0, 0, 45, 45, 45, 0, 0, 0, 0, 0, 0, 0, 10, 10, 0, 0, 0, 0, 0, 0, 0, 0, 8, 8, 8, 8, 8, 8, 0, 0, 0, 0, 2, 2, 1, 1, 0, 0, 0, 0, 0, 0, 0, 0, 0, 0, 0, 0, 0, 0, 0, 0, 0, 0]
def gl_82 : List Nat := [0, 1, 0, 0, 0, 0, 0, 0, 0, 0, 46, 46, 46, 0, 0, 0, 0, 0, 0, 0, 10, 10, 0, 0, 0, 0, 0, 0, 0, 0, 8, 8, 8, 8, 8, 8, 0, 0, 0, 0, 2, 2, 1, 1, 0, 0, 0, 0, 0, 0, 0, 0, 0, 0, 0, 0, 0, 0, 0, 0, 0, 0]
def gl_83 : List Nat := [0, 1, 0, 0, 0, 0, 0, 0, 0, 0, 47, 47, 47, 0, 0, 0, 0, 0, 0, 0, 10, 10, 0, 0, 0, 0, 0, 0, 0, 0, 8, 8, 8, 8, 8, 8, 0, 0, 0, 0, 2, 2, 1, 1, 0, 0, 0, 0, 0, 0, 0, 0, 0, 0, 0, 0, 0, 0, 0, 0, 0, 0]
def gl_84 : List Nat := [0, 1, 0, 0, 0, 0, 0, 0, 0, 0, 48, 48, 48, 0, 0, 0, 0, 0, 0, 0, 10, 10, 0, 0, 0, 0, 0, 0, 0, 0, 8, 8, 8, 8, 8, 8, 0, 0, 0, 0, 2, 2, 1, 1, 0, 0, 0, 0, 0, 0, 0, 0, 0, 0, 0, 0, 0, 0, 0, 0, 0, 0]
def gl_85 : List Nat := [0, 1, 0, 0, 0, 0, 0, 0, 0, 0, 49, 49, 49, 0, 0, 0, 0, 0, 0, 0, 10, 10, 0, 0, 0, 0, 0, 0, 0, 0, 8, 8, 8, 8, 8, 8, 0, 0, 0, 0, 2, 2, 1, 1, 0, 0, 0, 0, 0, 0, 0, 0, 0, 0, 0, 0, 0, 0, 0, 0, 0, 0]
def gl_86 : List Nat := [0, 1, 0, 0, 0, 0, 0, 0, 0, 0, 50, 50, 50, 0, 0, 0, 0, 0, 0, 0, 10, 10, 0, 0, 0, 0, 0, 0, 0, 0, 8, 8, 8, 8, 8, 8, 0, 0, 0, 0, 2, 2, 1, 1, 0, 0, 0, 0, 0, 0, 0, 0, 0, 0, 0, 0, 0, 0, 0, 0, 0, 0]
def gl_87 : List Nat := [0, 1, 0, 0, 0, 0, 0, 0, 0, 0, 51, 51, 51, 0, 0, 0, 0, 0, 0, 0, 10, 10, 0, 0, 0, 0, 0, 0, 0, 0, 8, 8, 8, 8, 8, 8, 0, 0, 0, 0, 2, 2, 1, 1, 0, 0, 0, 0, 0, 0, 0, 0, 0, 0, 0, 0, 0, 0, 0, 0, 0, 0]
def gl_88 : List Nat := [0, 1, 0, 0, 0, 0, 0, 0, 0, 0, 52, 52, 52, 0, 0, 0, 0, 0, 0, 0, 10, 10, 0, 0, 0, 0, 0, 0, 0, 0, 8, 8, 8, 8, 8, 8, 0, 0, 0, 0, 2, 2, 1, 1, 0, 0, 0, 0, 0, 0, 0, 0, 0, 0, 0, 0, 0, 0, 0, 0, 0, 0]
def gl_89 : List Nat := [0, 1, 0, 0, 0, 0, 0, 0, 0, 0, 53, 53, 53, 0, 0, 0, 0, 0, 0, 0, 10, 10, 0, 0, 0, 0, 0, 0, 0, 0, 8, 8, 8, 8, 8, 8, 0, 0, 0, 0, 2, 2, 1, 1, 0, 0, 0, 0, 0, 0, 0, 0, 0, 0, 0, 0, 0, 0, 0, 0, 0, 0]
def gl_90 : List Nat := [0, 1, 0, 0, 0, 0, 0, 0, 0, 0, 54, 54, 54, 0, 0, 0, 0, 0, 0, 0, 10, 10, 0, 0, 0, 0, 0, 0, 0, 0, 8, 8, 8, 8, 8, 8, 0, 0, 0, 0, 2, 2, 1, 1, 0, 0, 0, 0, 0, 0, 0, 0, 0, 0, 0, 0, 0, 0, 0, 0, 0, 0]
def gl_91 : List Nat := [0, 1, 0, 0, 0, 0, 0, 0, 0, 0, 55, 55, 55, 0, 0, 0, 0, 0, 0, 0, 10, 10, 0, 0, 0, 0, 0, 0, 0, 0, 8, 8, 8, 8, 8, 8, 0, 0, 0, 0, 2, 2, 1, 1, 0, 0, 0, 0, 0, 0, 0, 0, 0, 0, 0, 0, 0, 0, 0, 0, 0, 0]
def gl_92 : List Nat := [0, 1, 0, 0, 0, 0, 0, 0, 0, 0, 56, 56, 56, 0, 0, 0, 0, 0, 0, 0, 10, 10, 0, 0, 0, 0, 0, 0, 0, 0, 8, 8, 8, 8, 8, 8, 0, 0, 0, 0, 2, 2, 1, 1, 0, 0, 0, 0, 0, 0, 0, 0, 0, 0, 0, 0, 0, 0, 0, 0, 0, 0]
def gl_93 : List Nat := [0, 1, 0, 0, 0, 0, 0, 0, 0, 0, 57, 57, 57, 0, 0, 0, 0, 0, 0, 0, 10, 10, 0, 0, 0, 0, 0, 0, 0, 0, 8, 8, 8, 8, 8, 8, 0, 0, 0, 0, 2, 2, 1, 1, 0, 0, 0, 0, 0, 0, 0, 0, 0, 0, 0, 0, 0, 0, 0, 0, 0, 0]
def gl_94 : List Nat := [0, 1, 0, 0, 0, 0, 0, 0, 0, 0, 58, 58, 58, 0, 0, 0, 0, 0, 0, 0, 10, 10, 0, 0, 0, 0, 0, 0, 0, 0, 8, 8, 8, 8, 8, 8, 0, 0, 0, 0, 2, 2, 1, 1, 0, 0, 0, 0, 0, 0, 0, 0, 0, 0, 0, 0, 0, 0, 0, 0, 0, 0]
def gl_95 : List Nat := [0, 1, 0, 0, 0, 0, 0, 0, 0, 0, 59, 59, 59, 0, 0, 0, 0, 0, 0, 0, 10, 10, 0, 0, 0, 0, 0, 0, 0, 0, 8, 8, 8, 8, 8, 8, 0, 0, 0, 0, 2, 2, 1, 1, 0, 0, 0, 0, 0, 0, 0, 0, 0, 0, 0, 0, 0, 0, 0, 0, 0, 0]
def gl_96 : List Nat := [0, 1, 0, 0, 0, 0, 0, 0, 0, 0, 60, 60, 60, 0, 0, 0, 0, 0, 0, 0, 10, 10, 0, 0, 0, 0, 0, 0, 0, 0, 8, 8, 8, 8, 8, 8, 0, 0, 0, 0, 2, 2, 1, 1, 0, 0, 0, 0, 0, 0, 0, 0, 0, 0, 0, 0, 0, 0, 0, 0, 0, 0]
def gl_97 : List Nat := [0, 1, 0, 0, 0, 0, 0, 0, 0, 0, 61, 61, 61, 0, 0, 0, 0, 0, 0, 0, 10, 10, 0, 0, 0, 0, 0, 0, 0, 0, 8, 8, 8, 8, 8, 8, 0, 0, 0, 0, 2, 2, 1, 1, 0, 0, 0, 0, 0, 0, 0, 0, 0, 0, 0, 0, 0, 0, 0, 0, 0, 0]
def gl_98 : List Nat := [0, 1, 0, 0, 0, 0, 0, 0, 0, 0, 62, 62, 62, 0, 0, 0, 0, 0, 0, 0, 10, 10, 0, 0, 0, 0, 0, 0, 0, 0, 8, 8, 8, 8, 8, 8, 0, 0, 0, 0, 2, 2, 1, 1, 0, 0, 0, 0, 0, 0, 0, 0, 0, 0, 0, 0, 0, 0, 0, 0, 0, 0]
def gl_99 : List Nat := [0, 1, 0, 0, 0, 0, 0, 0, 0, 0, 62, 62, 62, 0, 0, 0, 0, 0, 0, 0, 10, 10, 0, 0, 0, 0, 0, 0, 0, 0, 8, 8, 8, 8, 8, 8, 0, 0, 0, 0, 2, 2, 2, 1, 0, 0, 0, 0, 0, 0, 0, 0, 0, 0, 0, 0, 0, 0, 0, 0, 0, 0]
set_option maxHeartbeats 4000000 in
set_option maxRecDepth 100000 in
theorem c_world0 {l : Launch} {G : GG} {L : List Nat} {f : HF} {h : Nat} {ad : Nat → Nat → Nat} (p_h : pt L f h (.inr (10, [.null, .null, .null, .null, .null, .null, .null, .null, .null, .null, .int 0, .int 0, .int 0, .int 0, .int 0]))) (I : SHC gl_0 G ad L f) (nr_h : NRg gl_0 ad h) : PMv l yX10_init cX10_init 2 2 131 9158 G [.ref h] L f (fun L1 f1 => ∃ ad2 : Nat → Nat → Nat, kp L f L1 f1 [h] ∧ pt L1 f1 h (.inr (10, [.ref (ad2 40 0), .ref (ad2 41 0), .ref (ad2 42 0), .ref (ad2 10 0), .ref (ad2 43 0), .ref (ad2 20 0), .ref (ad2 20 1), .ref (ad2 20 2), .ref (ad2 20 3), .ref (ad2 20 4), .int 0, .int 0, .int (-1), .int 0, .int 0])) ∧ SHC gl_1 G ad2 L1 f1 ∧ EXT gl_0 ad gl_1 ad2 ∧ (∀ x, x ∈ L → NRg gl_0 ad x → NRg gl_1 ad2 x)) := by
  refine PMv.of (post := fun L1 f1 => ∃ ad2 : Nat → Nat → Nat, kp L f L1 f1 [h] ∧ pt L1 f1 h (.inr (10, [.ref (ad2 40 0), .ref (ad2 41 0), .ref (ad2 42 0), .ref (ad2 10 0), .ref (ad2 43 0), .ref (ad2 20 0), .ref (ad2 20 1), .ref (ad2 20 2), .ref (ad2 20 3), .ref (ad2 20 4), .int 0, .int 0, .int (-1), .int 0, .int 0])) ∧ SHC gl_1 G ad2 L1 f1 ∧ EXT gl_0 ad gl_1 ad2 ∧ (∀ x, x ∈ L → NRg gl_0 ad x → NRg gl_1 ad2 x)) (own := RX10) (by decide) rfl (Nat.le_of_ble_eq_true rfl) (fun sz p e s m args below meth c A ls hA1 hname S Y hl => ?_)
  have hx := S.hx
  have hb := S.hb
  have hl : lv_has ls 2 [(0, .ref h)] := hl
  have hk : kp L f L f [h] := kp.rf
  refine lv_aload_n hx hb dX10_init_0 rfl (lv_at hl 0 rfl) ?_
  refine pObj S km10_3 kObj1 kObj2 hl.1 (Nat.le_of_ble_eq_true rfl) (Nat.le_of_ble_eq_true rfl) dX10_init_1 ?_
  have hkI : kp L f L f [h] := kp.rf
  have hout : ∀ x, x ∈ L → NRg gl_0 ad x → NRg gl_0 ad x := fun _ _ h => h
  have hext : EXT gl_0 ad gl_0 ad := EXT.rf
  refine lv_aload_n hx hb dX10_init_4 rfl (lv_at hl 0 rfl) ?_
  refine lv_bipush (v := 6) hx hb dX10_init_5 (by decide) ?_
  refine pg_newa S Y (ty := .int) rfl 0 rfl ka_int (N' := 6) (6, .inl (fun _ => 0)) (fun _ => rfl) (by decide) (by decide) (by decide) (by decide) (by decide) dX10_init_7 (fun q_92569 f_92570 H nq_92569 ef_92570 Y => ?_)
  have whkq_92569 := hk.notin nq_92569
  have hk := hk.push ef_92570 nq_92569
  have whkIq_92569 := hkI.notin nq_92569
  have hkI := hkI.push ef_92570 nq_92569
  have p_h := p_h.push ef_92570 nq_92569
  have p_q_92569 := pt.new (L := L) ef_92570
  refine pg_putF S Y hname ok_X10 0 (by decide) kf10_9 rfl rfl (fs' := [.ref q_92569, .null, .null, .null, .null, .null, .null, .null, .null, .null, .int 0, .int 0, .int 0, .int 0, .int 0]) (v := .ref q_92569) p_h rfl rfl rfl (Nat.le_of_ble_eq_true rfl) dX10_init_9 (fun f_92571 H locs ef_92571 Y => ?_)
  have p_q_92569 := p_q_92569.up ef_92571 ((p_q_92569.neB p_h))
  have p_h := p_h.me ef_92571
  have hk := hk.up ef_92571 (by simp)
  have hkI := hkI.up ef_92571 (by simp)
  have nr_q_92569 : NRg gl_0 ad q_92569 := (SHC.nr I whkIq_92569)
  have I := I.kp hkI (allc nr_h all0)
  have hkI : kp (L ++ [q_92569]) f_92571 (L ++ [q_92569]) f_92571 [h] := kp.rf
  obtain ⟨ad1, I, X_92572, Y_92573, Z_92574⟩ := SHC.add (l2 := gl_2) I (k := 40) (n := 0) rfl (by decide) rfl p_q_92569 nr_q_92569 (okE_a (g := (fun _ => 0)) trivial) trivial
  have nr_h := Z_92574 _ nr_h (p_h.neA p_q_92569)
  have hout : ∀ x, x ∈ L → NRg gl_0 ad x → NRg gl_2 ad1 x := fun x hx hn => Z_92574 x (hout x hx hn) (fun e => whkq_92569 (by rw [← e]; exact hx))
  have hext := hext.tr X_92572
  have eq40_0 := Y_92573
  have hkI : kp (L ++ [q_92569]) f_92571 (L ++ [q_92569]) f_92571 [h] := kp.rf
  refine lv_aload_n hx hb dX10_init_12 rfl (lv_at hl 0 rfl) ?_
  refine lv_bipush (v := 6) hx hb dX10_init_13 (by decide) ?_
  refine pg_newa S Y (ty := .int) rfl 0 rfl ka_int (N' := 6) (6, .inl (fun _ => 0)) (fun _ => rfl) (by decide) (by decide) (by decide) (by decide) (by decide) dX10_init_15 (fun q_92575 f_92576 H nq_92575 ef_92576 Y => ?_)
  have whkq_92575 := hk.notin nq_92575
  have hk := hk.push ef_92576 nq_92575
  have whkIq_92575 := hkI.notin nq_92575
  have hkI := hkI.push ef_92576 nq_92575
  have p_h := p_h.push ef_92576 nq_92575
  have p_q_92575 := pt.new (L := (L ++ [q_92569])) ef_92576
  refine pg_putF S Y hname ok_X10 1 (by decide) kf10_15 rfl rfl (fs' := [.ref q_92569, .ref q_92575, .null, .null, .null, .null, .null, .null, .null, .null, .int 0, .int 0, .int 0, .int 0, .int 0]) (v := .ref q_92575) p_h rfl rfl rfl (Nat.le_of_ble_eq_true rfl) dX10_init_17 (fun f_92577 H locs ef_92577 Y => ?_)
  have p_q_92575 := p_q_92575.up ef_92577 ((p_q_92575.neB p_h))
  have p_h := p_h.me ef_92577
  have hk := hk.up ef_92577 (by simp)
  have hkI := hkI.up ef_92577 (by simp)
  have nr_q_92575 : NRg gl_2 ad1 q_92575 := (SHC.nr I whkIq_92575)
  have I := I.kp hkI (allc nr_h all0)
  have hkI : kp ((L ++ [q_92569]) ++ [q_92575]) f_92577 ((L ++ [q_92569]) ++ [q_92575]) f_92577 [h] := kp.rf
  obtain ⟨ad2, I, X_92578, Y_92579, Z_92580⟩ := SHC.add (l2 := gl_3) I (k := 41) (n := 0) rfl (by decide) rfl p_q_92575 nr_q_92575 (okE_a (g := (fun _ => 0)) trivial) trivial
  have eq40_0 := (X_92578.2 40 0 (by decide)).trans eq40_0
  have nr_h := Z_92580 _ nr_h (p_h.neA p_q_92575)
  have hout : ∀ x, x ∈ L → NRg gl_0 ad x → NRg gl_3 ad2 x := fun x hx hn => Z_92580 x (hout x hx hn) (fun e => whkq_92575 (by rw [← e]; exact hx))
  have hext := hext.tr X_92578
  have eq41_0 := Y_92579
  have hkI : kp ((L ++ [q_92569]) ++ [q_92575]) f_92577 ((L ++ [q_92569]) ++ [q_92575]) f_92577 [h] := kp.rf
  refine lv_aload_n hx hb dX10_init_20 rfl (lv_at hl 0 rfl) ?_
  refine lv_iconst (v := 4) hx hb dX10_init_21 (by decide) ?_
  refine pg_newq S Y kc10_18 (fun w => w.2.2) 4 rfl (N' := 4) (by decide) (by decide) (by decide) (by decide) (by decide) dX10_init_22 (fun q_92581 f_92582 H nq_92581 ef_92582 Y => ?_)
  have whkq_92581 := hk.notin nq_92581
  have hk := hk.push ef_92582 nq_92581
  have whkIq_92581 := hkI.notin nq_92581
  have hkI := hkI.push ef_92582 nq_92581
  have p_h := p_h.push ef_92582 nq_92581
  have p_q_92581 := pt.new (L := ((L ++ [q_92569]) ++ [q_92575])) ef_92582
  have nr_q_92581 : NRg gl_3 ad2 q_92581 := (SHC.nr I whkIq_92581)
  have I := I.kp hkI (allc nr_h all0)
  have hkI : kp (((L ++ [q_92569]) ++ [q_92575]) ++ [q_92581]) f_92582 (((L ++ [q_92569]) ++ [q_92575]) ++ [q_92581]) f_92582 [h, q_92581] := kp.rf
  refine pg_putF S Y hname ok_X10 2 (by decide) kf10_20 rfl rfl (fs' := [.ref q_92569, .ref q_92575, .ref q_92581, .null, .null, .null, .null, .null, .null, .null, .int 0, .int 0, .int 0, .int 0, .int 0]) (v := .ref q_92581) p_h rfl rfl rfl (Nat.le_of_ble_eq_true rfl) dX10_init_25 (fun f_92583 H locs ef_92583 Y => ?_)
  have p_q_92581 := p_q_92581.up ef_92583 ((p_q_92581.neB p_h))
  have p_h := p_h.me ef_92583
  have hk := hk.up ef_92583 (by simp)
  have hkI := hkI.up ef_92583 (by simp)
  refine lv_aload_n hx hb dX10_init_28 rfl (lv_at hl 0 rfl) ?_
  refine pg_new S Y ok_X4 kc10_24 kn4 ki4 (fs := [.null, .null, .int 0, .int 0, .int 0, .int 0, .int 0]) (by decide) (by decide) (by decide) dX10_init_29 (fun q_92584 f_92585 H nq_92584 ef_92585 Y => ?_)
  have whkq_92584 := hk.notin nq_92584
  have hk := hk.push ef_92585 nq_92584
  have whkIq_92584 := hkI.notin nq_92584
  have hkI := hkI.push ef_92585 nq_92584
  have p_h := p_h.push ef_92585 nq_92584
  have p_q_92581 := p_q_92581.push ef_92585 nq_92584
  have p_q_92584 := pt.new (L := (((L ++ [q_92569]) ++ [q_92575]) ++ [q_92581])) ef_92585
  refine lv_dup hx hb dX10_init_32 rfl ?_
  refine cINv (b := q_92584) (As := []) (rest := [.ref q_92584, .ref h]) S Y (c_X4_init (l := l) p_q_92584) cw_X4_init km10_26 rfl ⟨Nat.le_of_ble_eq_true rfl, Nat.le_of_ble_eq_true rfl⟩ hl.1 rfl (Nat.le_of_ble_eq_true rfl) ⟨Nat.le_of_ble_eq_true rfl, Nat.le_of_ble_eq_true rfl⟩ dX10_init_33 (fun L_92586 f_92587 H locs hf_92587 Y => ?_)
  obtain ⟨a__92588, a__92589, kf_92587, z_z_92590, z_z_92591, z_z_92592, v_92593, v_92594⟩ := hf_92587
  have w_92595 := hk.notin v_92593
  have w_92596 := hkI.notin v_92593
  have w_92597 := hk.notin v_92594
  have w_92598 := hkI.notin v_92594
  have p_h := kf_92587.1 h _ (nmc (p_h.neK p_q_92584 (by decide)) nm0) p_h
  have p_q_92581 := kf_92587.1 q_92581 _ (nmc (p_q_92581.neB p_q_92584) nm0) p_q_92581
  have p_q_92584 := z_z_92590
  have p_a__92588 := z_z_92591
  have p_a__92589 := z_z_92592
  have hk := hk.call kf_92587 (fun b hb hp => (nmc (neL hp whkq_92584) nm0))
  have hkI := hkI.call kf_92587 (fun b hb hp => (nmc (neL hp whkIq_92584) nm0))
  have nr_q_92584 : NRg gl_3 ad2 q_92584 := (SHC.nr I whkIq_92584)
  have nr_a__92588 : NRg gl_3 ad2 a__92588 := (SHC.nr I w_92596)
  have nr_a__92589 : NRg gl_3 ad2 a__92589 := (SHC.nr I w_92598)
  have I := I.kp hkI (allc nr_h (allc nr_q_92581 all0))
  have hkI : kp L_92586 f_92587 L_92586 f_92587 [h, q_92581] := kp.rf
  obtain ⟨ad3, I, X_92599, Y_92600, Z_92601⟩ := SHC.led (l2 := gl_4) (n := 0) I rfl rfl rfl (by decide) rfl p_q_92584 p_a__92588 p_a__92589 nr_q_92584 nr_a__92588 nr_a__92589 
  have eq40_0 := (X_92599.2 40 0 (by decide)).trans eq40_0
  have eq41_0 := (X_92599.2 41 0 (by decide)).trans eq41_0
  have nr_h := Z_92601 _ nr_h (p_h.neK p_q_92584 (by decide)) (p_h.neA p_a__92588) (p_h.neA p_a__92589)
  have nr_q_92581 := Z_92601 _ nr_q_92581 (p_q_92581.neB p_q_92584) (p_q_92581.neN p_a__92588 (by decide)) (p_q_92581.neN p_a__92589 (by decide))
  have hout : ∀ x, x ∈ L → NRg gl_0 ad x → NRg gl_4 ad3 x := fun x hx hn => Z_92601 x (hout x hx hn) (fun e => whkq_92584 (by rw [← e]; exact hx)) (fun e => w_92595 (by rw [← e]; exact hx)) (fun e => w_92597 (by rw [← e]; exact hx))
  have hext := hext.tr X_92599
  have eq10_0 := Y_92600
  have hkI : kp L_92586 f_92587 L_92586 f_92587 [h, q_92581] := kp.rf
  refine pg_putF S Y hname ok_X10 3 (by decide) kf10_27 rfl rfl (fs' := [.ref q_92569, .ref q_92575, .ref q_92581, .ref q_92584, .null, .null, .null, .null, .null, .null, .int 0, .int 0, .int 0, .int 0, .int 0]) (v := .ref q_92584) p_h rfl rfl rfl (Nat.le_of_ble_eq_true rfl) dX10_init_36 (fun f_92602 H locs ef_92602 Y => ?_)
  have p_q_92581 := p_q_92581.up ef_92602 ((p_q_92581.neB p_h))
  have p_q_92584 := p_q_92584.up ef_92602 ((p_q_92584.neK p_h (by decide)))
  have p_h := p_h.me ef_92602
  have hk := hk.up ef_92602 (by simp)
  have hkI := hkI.up ef_92602 (by simp)
  refine lv_aload_n hx hb dX10_init_39 rfl (lv_at hl 0 rfl) ?_
  refine lv_bipush (v := 30) hx hb dX10_init_40 (by decide) ?_
  refine pg_newq S Y kc10_24 (fun w => w.2.1) 3 rfl (N' := 30) (by decide) (by decide) (by decide) (by decide) (by decide) dX10_init_42 (fun q_92603 f_92604 H nq_92603 ef_92604 Y => ?_)
  have whkq_92603 := hk.notin nq_92603
  have hk := hk.push ef_92604 nq_92603
  have whkIq_92603 := hkI.notin nq_92603
  have hkI := hkI.push ef_92604 nq_92603
  have p_h := p_h.push ef_92604 nq_92603
  have p_q_92581 := p_q_92581.push ef_92604 nq_92603
  have p_q_92584 := p_q_92584.push ef_92604 nq_92603
  have p_q_92603 := pt.new (L := L_92586) ef_92604
  have nr_q_92603 : NRg gl_4 ad3 q_92603 := (SHC.nr I whkIq_92603)
  have I := I.kp hkI (allc nr_h (allc nr_q_92581 all0))
  have hkI : kp (L_92586 ++ [q_92603]) f_92604 (L_92586 ++ [q_92603]) f_92604 [h, q_92581, q_92603] := kp.rf
  refine pg_putF S Y hname ok_X10 4 (by decide) kf10_31 rfl rfl (fs' := [.ref q_92569, .ref q_92575, .ref q_92581, .ref q_92584, .ref q_92603, .null, .null, .null, .null, .null, .int 0, .int 0, .int 0, .int 0, .int 0]) (v := .ref q_92603) p_h rfl rfl rfl (Nat.le_of_ble_eq_true rfl) dX10_init_45 (fun f_92605 H locs ef_92605 Y => ?_)
  have p_q_92581 := p_q_92581.up ef_92605 ((p_q_92581.neB p_h))
  have p_q_92584 := p_q_92584.up ef_92605 ((p_q_92584.neK p_h (by decide)))
  have p_q_92603 := p_q_92603.up ef_92605 ((p_q_92603.neB p_h))
  have p_h := p_h.me ef_92605
  have hk := hk.up ef_92605 (by simp)
  have hkI := hkI.up ef_92605 (by simp)
  refine lv_aload_n hx hb dX10_init_48 rfl (lv_at hl 0 rfl) ?_
  refine pg_new S Y ok_X9 kc10_35 kn9 ki9 (fs := [.null, .int 0, .int 0]) (by decide) (by decide) (by decide) dX10_init_49 (fun q_92606 f_92607 H nq_92606 ef_92607 Y => ?_)
  have whkq_92606 := hk.notin nq_92606
  have hk := hk.push ef_92607 nq_92606
  have whkIq_92606 := hkI.notin nq_92606
  have hkI := hkI.push ef_92607 nq_92606
  have p_h := p_h.push ef_92607 nq_92606
  have p_q_92581 := p_q_92581.push ef_92607 nq_92606
  have p_q_92584 := p_q_92584.push ef_92607 nq_92606
  have p_q_92603 := p_q_92603.push ef_92607 nq_92606
  have p_q_92606 := pt.new (L := (L_92586 ++ [q_92603])) ef_92607
  refine lv_dup hx hb dX10_init_52 rfl ?_
  refine lv_bipush (v := 6) hx hb dX10_init_53 (by decide) ?_
  refine cIv (b := q_92606) (As := [.int 6]) (rest := [.ref q_92606, .ref h]) S Y (c_told6 (l := l) p_q_92606) cw_X9_init km10_37 rfl ⟨Nat.le_of_ble_eq_true rfl, Nat.le_of_ble_eq_true rfl⟩ hl.1 rfl (Nat.le_of_ble_eq_true rfl) ⟨Nat.le_of_ble_eq_true rfl, Nat.le_of_ble_eq_true rfl⟩ dX10_init_55 (fun L_92608 f_92609 H locs hf_92609 Y => ?_)
  obtain ⟨a__92610, kf_92609, z_z_92611, z_z_92612, v_92613⟩ := hf_92609
  have w_92614 := hk.notin v_92613
  have w_92615 := hkI.notin v_92613
  have p_h := kf_92609.1 h _ (nmc (p_h.neK p_q_92606 (by decide)) nm0) p_h
  have p_q_92581 := kf_92609.1 q_92581 _ (nmc (p_q_92581.neB p_q_92606) nm0) p_q_92581
  have p_q_92584 := kf_92609.1 q_92584 _ (nmc (p_q_92584.neK p_q_92606 (by decide)) nm0) p_q_92584
  have p_q_92603 := kf_92609.1 q_92603 _ (nmc (p_q_92603.neB p_q_92606) nm0) p_q_92603
  have p_q_92606 := z_z_92611
  have p_a__92610 := z_z_92612
  have hk := hk.call kf_92609 (fun b hb hp => (nmc (neL hp whkq_92606) nm0))
  have hkI := hkI.call kf_92609 (fun b hb hp => (nmc (neL hp whkIq_92606) nm0))
  have nr_q_92606 : NRg gl_4 ad3 q_92606 := (SHC.nr I whkIq_92606)
  have nr_a__92610 : NRg gl_4 ad3 a__92610 := (SHC.nr I w_92615)
  have I := I.kp hkI (allc nr_h (allc nr_q_92581 (allc nr_q_92603 all0)))
  have hkI : kp L_92608 f_92609 L_92608 f_92609 [h, q_92581, q_92603, q_92606, a__92610] := kp.rf
  obtain ⟨ad4, I, X_92616, Y_92617, Z_92618⟩ := SHC.add (l2 := gl_5) I (k := 21) (n := 0) rfl (by decide) rfl p_a__92610 nr_a__92610 (okE_a (g := (fun _ => 0)) trivial) trivial
  have eq40_0 := (X_92616.2 40 0 (by decide)).trans eq40_0
  have eq41_0 := (X_92616.2 41 0 (by decide)).trans eq41_0
  have eq10_0 := (X_92616.2 10 0 (by decide)).trans eq10_0
  have nr_h := Z_92618 _ nr_h (p_h.neA p_a__92610)
  have nr_q_92581 := Z_92618 _ nr_q_92581 (p_q_92581.neN p_a__92610 (by decide))
  have nr_q_92603 := Z_92618 _ nr_q_92603 (p_q_92603.neN p_a__92610 (by decide))
  have nr_q_92606 := Z_92618 _ nr_q_92606 (p_q_92606.neA p_a__92610)
  have hout : ∀ x, x ∈ L → NRg gl_0 ad x → NRg gl_5 ad4 x := fun x hx hn => Z_92618 x (hout x hx hn) (fun e => w_92614 (by rw [← e]; exact hx))
  have hext := hext.tr X_92616
  have eq21_0 := Y_92617
  have hkI : kp L_92608 f_92609 L_92608 f_92609 [h, q_92581, q_92603, q_92606] := kp.rf
  have I := I.kp hkI (allc nr_h (allc nr_q_92581 (allc nr_q_92603 (allc nr_q_92606 all0))))
  have hkI : kp L_92608 f_92609 L_92608 f_92609 [h, q_92581, q_92603, q_92606] := kp.rf
  obtain ⟨ad5, I, X_92619, Y_92620, Z_92621⟩ := SHC.add (l2 := gl_6) I (k := 20) (n := 0) rfl (by decide) rfl p_q_92606 nr_q_92606 (okE_o (okFs_c (okV_re eq21_0) (okFs_c (okV_p (by constructor <;> decide)) (okFs_c (okV_p (by constructor <;> decide)) okFs_n)))) ⟨(show 0 < nL gl_5 21 from by decide), ⟨trivial, ⟨trivial, trivial⟩⟩⟩
  have eq40_0 := (X_92619.2 40 0 (by decide)).trans eq40_0
  have eq41_0 := (X_92619.2 41 0 (by decide)).trans eq41_0
  have eq10_0 := (X_92619.2 10 0 (by decide)).trans eq10_0
  have eq21_0 := (X_92619.2 21 0 (by decide)).trans eq21_0
  have nr_h := Z_92621 _ nr_h (p_h.neK p_q_92606 (by decide))
  have nr_q_92581 := Z_92621 _ nr_q_92581 (p_q_92581.neB p_q_92606)
  have nr_q_92603 := Z_92621 _ nr_q_92603 (p_q_92603.neB p_q_92606)
  have hout : ∀ x, x ∈ L → NRg gl_0 ad x → NRg gl_6 ad5 x := fun x hx hn => Z_92621 x (hout x hx hn) (fun e => whkq_92606 (by rw [← e]; exact hx))
  have hext := hext.tr X_92619
  have eq20_0 := Y_92620
  have hkI : kp L_92608 f_92609 L_92608 f_92609 [h, q_92581, q_92603] := kp.rf
  refine pg_putF S Y hname ok_X10 5 (by decide) kf10_40 rfl rfl (fs' := [.ref q_92569, .ref q_92575, .ref q_92581, .ref q_92584, .ref q_92603, .ref q_92606, .null, .null, .null, .null, .int 0, .int 0, .int 0, .int 0, .int 0]) (v := .ref q_92606) p_h rfl rfl rfl (Nat.le_of_ble_eq_true rfl) dX10_init_58 (fun f_92622 H locs ef_92622 Y => ?_)
  have p_q_92581 := p_q_92581.up ef_92622 ((p_q_92581.neB p_h))
  have p_q_92603 := p_q_92603.up ef_92622 ((p_q_92603.neB p_h))
  have p_h := p_h.me ef_92622
  have hk := hk.up ef_92622 (by simp)
  have hkI := hkI.up ef_92622 (by simp)
  refine lv_aload_n hx hb dX10_init_61 rfl (lv_at hl 0 rfl) ?_
  refine pg_new S Y ok_X9 kc10_35 kn9 ki9 (fs := [.null, .int 0, .int 0]) (by decide) (by decide) (by decide) dX10_init_62 (fun q_92623 f_92624 H nq_92623 ef_92624 Y => ?_)
  have whkq_92623 := hk.notin nq_92623
  have hk := hk.push ef_92624 nq_92623
  have whkIq_92623 := hkI.notin nq_92623
  have hkI := hkI.push ef_92624 nq_92623
  have p_h := p_h.push ef_92624 nq_92623
  have p_q_92581 := p_q_92581.push ef_92624 nq_92623
  have p_q_92603 := p_q_92603.push ef_92624 nq_92623
  have p_q_92623 := pt.new (L := L_92608) ef_92624
  refine lv_dup hx hb dX10_init_65 rfl ?_
  refine lv_bipush (v := 8) hx hb dX10_init_66 (by decide) ?_
  refine cIv (b := q_92623) (As := [.int 8]) (rest := [.ref q_92623, .ref h]) S Y (c_told8 (l := l) p_q_92623) cw_X9_init km10_37 rfl ⟨Nat.le_of_ble_eq_true rfl, Nat.le_of_ble_eq_true rfl⟩ hl.1 rfl (Nat.le_of_ble_eq_true rfl) ⟨Nat.le_of_ble_eq_true rfl, Nat.le_of_ble_eq_true rfl⟩ dX10_init_68 (fun L_92625 f_92626 H locs hf_92626 Y => ?_)
  obtain ⟨a__92627, kf_92626, z_z_92628, z_z_92629, v_92630⟩ := hf_92626
  have w_92631 := hk.notin v_92630
  have w_92632 := hkI.notin v_92630
  have p_h := kf_92626.1 h _ (nmc (p_h.neK p_q_92623 (by decide)) nm0) p_h
  have p_q_92581 := kf_92626.1 q_92581 _ (nmc (p_q_92581.neB p_q_92623) nm0) p_q_92581
  have p_q_92603 := kf_92626.1 q_92603 _ (nmc (p_q_92603.neB p_q_92623) nm0) p_q_92603
  have p_q_92623 := z_z_92628
  have p_a__92627 := z_z_92629
  have hk := hk.call kf_92626 (fun b hb hp => (nmc (neL hp whkq_92623) nm0))
  have hkI := hkI.call kf_92626 (fun b hb hp => (nmc (neL hp whkIq_92623) nm0))
  have nr_q_92623 : NRg gl_6 ad5 q_92623 := (SHC.nr I whkIq_92623)
  have nr_a__92627 : NRg gl_6 ad5 a__92627 := (SHC.nr I w_92632)
  have I := I.kp hkI (allc nr_h (allc nr_q_92581 (allc nr_q_92603 all0)))
  have hkI : kp L_92625 f_92626 L_92625 f_92626 [h, q_92581, q_92603, q_92623, a__92627] := kp.rf
  obtain ⟨ad6, I, X_92633, Y_92634, Z_92635⟩ := SHC.add (l2 := gl_7) I (k := 21) (n := 1) rfl (by decide) rfl p_a__92627 nr_a__92627 (okE_a (g := (fun _ => 0)) trivial) trivial
  have eq40_0 := (X_92633.2 40 0 (by decide)).trans eq40_0
  have eq41_0 := (X_92633.2 41 0 (by decide)).trans eq41_0
  have eq10_0 := (X_92633.2 10 0 (by decide)).trans eq10_0
  have eq20_0 := (X_92633.2 20 0 (by decide)).trans eq20_0
  have nr_h := Z_92635 _ nr_h (p_h.neA p_a__92627)
  have nr_q_92581 := Z_92635 _ nr_q_92581 (p_q_92581.neN p_a__92627 (by decide))
  have nr_q_92603 := Z_92635 _ nr_q_92603 (p_q_92603.neN p_a__92627 (by decide))
  have nr_q_92623 := Z_92635 _ nr_q_92623 (p_q_92623.neA p_a__92627)
  have hout : ∀ x, x ∈ L → NRg gl_0 ad x → NRg gl_7 ad6 x := fun x hx hn => Z_92635 x (hout x hx hn) (fun e => w_92631 (by rw [← e]; exact hx))
  have hext := hext.tr X_92633
  have eq21_1 := Y_92634
  have hkI : kp L_92625 f_92626 L_92625 f_92626 [h, q_92581, q_92603, q_92623] := kp.rf
  have I := I.kp hkI (allc nr_h (allc nr_q_92581 (allc nr_q_92603 (allc nr_q_92623 all0))))
  have hkI : kp L_92625 f_92626 L_92625 f_92626 [h, q_92581, q_92603, q_92623] := kp.rf
  obtain ⟨ad7, I, X_92636, Y_92637, Z_92638⟩ := SHC.add (l2 := gl_8) I (k := 20) (n := 1) rfl (by decide) rfl p_q_92623 nr_q_92623 (okE_o (okFs_c (okV_re eq21_1) (okFs_c (okV_p (by constructor <;> decide)) (okFs_c (okV_p (by constructor <;> decide)) okFs_n)))) ⟨(show 1 < nL gl_7 21 from by decide), ⟨trivial, ⟨trivial, trivial⟩⟩⟩
  have eq40_0 := (X_92636.2 40 0 (by decide)).trans eq40_0
  have eq41_0 := (X_92636.2 41 0 (by decide)).trans eq41_0
  have eq10_0 := (X_92636.2 10 0 (by decide)).trans eq10_0
  have eq20_0 := (X_92636.2 20 0 (by decide)).trans eq20_0
  have eq21_1 := (X_92636.2 21 1 (by decide)).trans eq21_1
  have nr_h := Z_92638 _ nr_h (p_h.neK p_q_92623 (by decide))
  have nr_q_92581 := Z_92638 _ nr_q_92581 (p_q_92581.neB p_q_92623)
  have nr_q_92603 := Z_92638 _ nr_q_92603 (p_q_92603.neB p_q_92623)
  have hout : ∀ x, x ∈ L → NRg gl_0 ad x → NRg gl_8 ad7 x := fun x hx hn => Z_92638 x (hout x hx hn) (fun e => whkq_92623 (by rw [← e]; exact hx))
  have hext := hext.tr X_92636
  have eq20_1 := Y_92637
  have hkI : kp L_92625 f_92626 L_92625 f_92626 [h, q_92581, q_92603] := kp.rf
  refine pg_putF S Y hname ok_X10 6 (by decide) kf10_44 rfl rfl (fs' := [.ref q_92569, .ref q_92575, .ref q_92581, .ref q_92584, .ref q_92603, .ref q_92606, .ref q_92623, .null, .null, .null, .int 0, .int 0, .int 0, .int 0, .int 0]) (v := .ref q_92623) p_h rfl rfl rfl (Nat.le_of_ble_eq_true rfl) dX10_init_71 (fun f_92639 H locs ef_92639 Y => ?_)
  have p_q_92581 := p_q_92581.up ef_92639 ((p_q_92581.neB p_h))
  have p_q_92603 := p_q_92603.up ef_92639 ((p_q_92603.neB p_h))
  have p_h := p_h.me ef_92639
  have hk := hk.up ef_92639 (by simp)
  have hkI := hkI.up ef_92639 (by simp)
  refine lv_aload_n hx hb dX10_init_74 rfl (lv_at hl 0 rfl) ?_
  refine pg_new S Y ok_X9 kc10_35 kn9 ki9 (fs := [.null, .int 0, .int 0]) (by decide) (by decide) (by decide) dX10_init_75 (fun q_92640 f_92641 H nq_92640 ef_92641 Y => ?_)
  have whkq_92640 := hk.notin nq_92640
  have hk := hk.push ef_92641 nq_92640
  have whkIq_92640 := hkI.notin nq_92640
  have hkI := hkI.push ef_92641 nq_92640
  have p_h := p_h.push ef_92641 nq_92640
  have p_q_92581 := p_q_92581.push ef_92641 nq_92640
  have p_q_92603 := p_q_92603.push ef_92641 nq_92640
  have p_q_92640 := pt.new (L := L_92625) ef_92641
  refine lv_dup hx hb dX10_init_78 rfl ?_
  refine lv_bipush (v := 8) hx hb dX10_init_79 (by decide) ?_
  refine cIv (b := q_92640) (As := [.int 8]) (rest := [.ref q_92640, .ref h]) S Y (c_told8 (l := l) p_q_92640) cw_X9_init km10_37 rfl ⟨Nat.le_of_ble_eq_true rfl, Nat.le_of_ble_eq_true rfl⟩ hl.1 rfl (Nat.le_of_ble_eq_true rfl) ⟨Nat.le_of_ble_eq_true rfl, Nat.le_of_ble_eq_true rfl⟩ dX10_init_81 (fun L_92642 f_92643 H locs hf_92643 Y => ?_)
  obtain ⟨a__92644, kf_92643, z_z_92645, z_z_92646, v_92647⟩ := hf_92643
  have w_92648 := hk.notin v_92647
  have w_92649 := hkI.notin v_92647
  have p_h := kf_92643.1 h _ (nmc (p_h.neK p_q_92640 (by decide)) nm0) p_h
  have p_q_92581 := kf_92643.1 q_92581 _ (nmc (p_q_92581.neB p_q_92640) nm0) p_q_92581
  have p_q_92603 := kf_92643.1 q_92603 _ (nmc (p_q_92603.neB p_q_92640) nm0) p_q_92603
  have p_q_92640 := z_z_92645
  have p_a__92644 := z_z_92646
  have hk := hk.call kf_92643 (fun b hb hp => (nmc (neL hp whkq_92640) nm0))
  have hkI := hkI.call kf_92643 (fun b hb hp => (nmc (neL hp whkIq_92640) nm0))
  have nr_q_92640 : NRg gl_8 ad7 q_92640 := (SHC.nr I whkIq_92640)
  have nr_a__92644 : NRg gl_8 ad7 a__92644 := (SHC.nr I w_92649)
  have I := I.kp hkI (allc nr_h (allc nr_q_92581 (allc nr_q_92603 all0)))
  have hkI : kp L_92642 f_92643 L_92642 f_92643 [h, q_92581, q_92603, q_92640, a__92644] := kp.rf
  obtain ⟨ad8, I, X_92650, Y_92651, Z_92652⟩ := SHC.add (l2 := gl_9) I (k := 21) (n := 2) rfl (by decide) rfl p_a__92644 nr_a__92644 (okE_a (g := (fun _ => 0)) trivial) trivial
  have eq40_0 := (X_92650.2 40 0 (by decide)).trans eq40_0
  have eq41_0 := (X_92650.2 41 0 (by decide)).trans eq41_0
  have eq10_0 := (X_92650.2 10 0 (by decide)).trans eq10_0
  have eq20_0 := (X_92650.2 20 0 (by decide)).trans eq20_0
  have eq20_1 := (X_92650.2 20 1 (by decide)).trans eq20_1
  have nr_h := Z_92652 _ nr_h (p_h.neA p_a__92644)
  have nr_q_92581 := Z_92652 _ nr_q_92581 (p_q_92581.neN p_a__92644 (by decide))
  have nr_q_92603 := Z_92652 _ nr_q_92603 (p_q_92603.neN p_a__92644 (by decide))
  have nr_q_92640 := Z_92652 _ nr_q_92640 (p_q_92640.neA p_a__92644)
  have hout : ∀ x, x ∈ L → NRg gl_0 ad x → NRg gl_9 ad8 x := fun x hx hn => Z_92652 x (hout x hx hn) (fun e => w_92648 (by rw [← e]; exact hx))
  have hext := hext.tr X_92650
  have eq21_2 := Y_92651
  have hkI : kp L_92642 f_92643 L_92642 f_92643 [h, q_92581, q_92603, q_92640] := kp.rf
  have I := I.kp hkI (allc nr_h (allc nr_q_92581 (allc nr_q_92603 (allc nr_q_92640 all0))))
  have hkI : kp L_92642 f_92643 L_92642 f_92643 [h, q_92581, q_92603, q_92640] := kp.rf
  obtain ⟨ad9, I, X_92653, Y_92654, Z_92655⟩ := SHC.add (l2 := gl_10) I (k := 20) (n := 2) rfl (by decide) rfl p_q_92640 nr_q_92640 (okE_o (okFs_c (okV_re eq21_2) (okFs_c (okV_p (by constructor <;> decide)) (okFs_c (okV_p (by constructor <;> decide)) okFs_n)))) ⟨(show 2 < nL gl_9 21 from by decide), ⟨trivial, ⟨trivial, trivial⟩⟩⟩
  have eq40_0 := (X_92653.2 40 0 (by decide)).trans eq40_0
  have eq41_0 := (X_92653.2 41 0 (by decide)).trans eq41_0
  have eq10_0 := (X_92653.2 10 0 (by decide)).trans eq10_0
  have eq20_0 := (X_92653.2 20 0 (by decide)).trans eq20_0
  have eq20_1 := (X_92653.2 20 1 (by decide)).trans eq20_1
  have eq21_2 := (X_92653.2 21 2 (by decide)).trans eq21_2
  have nr_h := Z_92655 _ nr_h (p_h.neK p_q_92640 (by decide))
  have nr_q_92581 := Z_92655 _ nr_q_92581 (p_q_92581.neB p_q_92640)
  have nr_q_92603 := Z_92655 _ nr_q_92603 (p_q_92603.neB p_q_92640)
  have hout : ∀ x, x ∈ L → NRg gl_0 ad x → NRg gl_10 ad9 x := fun x hx hn => Z_92655 x (hout x hx hn) (fun e => whkq_92640 (by rw [← e]; exact hx))
  have hext := hext.tr X_92653
  have eq20_2 := Y_92654
  have hkI : kp L_92642 f_92643 L_92642 f_92643 [h, q_92581, q_92603] := kp.rf
  refine pg_putF S Y hname ok_X10 7 (by decide) kf10_47 rfl rfl (fs' := [.ref q_92569, .ref q_92575, .ref q_92581, .ref q_92584, .ref q_92603, .ref q_92606, .ref q_92623, .ref q_92640, .null, .null, .int 0, .int 0, .int 0, .int 0, .int 0]) (v := .ref q_92640) p_h rfl rfl rfl (Nat.le_of_ble_eq_true rfl) dX10_init_84 (fun f_92656 H locs ef_92656 Y => ?_)
  have p_q_92581 := p_q_92581.up ef_92656 ((p_q_92581.neB p_h))
  have p_q_92603 := p_q_92603.up ef_92656 ((p_q_92603.neB p_h))
  have p_h := p_h.me ef_92656
  have hk := hk.up ef_92656 (by simp)
  have hkI := hkI.up ef_92656 (by simp)
  refine lv_aload_n hx hb dX10_init_87 rfl (lv_at hl 0 rfl) ?_
  refine pg_new S Y ok_X9 kc10_35 kn9 ki9 (fs := [.null, .int 0, .int 0]) (by decide) (by decide) (by decide) dX10_init_88 (fun q_92657 f_92658 H nq_92657 ef_92658 Y => ?_)
  have whkq_92657 := hk.notin nq_92657
  have hk := hk.push ef_92658 nq_92657
  have whkIq_92657 := hkI.notin nq_92657
  have hkI := hkI.push ef_92658 nq_92657
  have p_h := p_h.push ef_92658 nq_92657
  have p_q_92581 := p_q_92581.push ef_92658 nq_92657
  have p_q_92603 := p_q_92603.push ef_92658 nq_92657
  have p_q_92657 := pt.new (L := L_92642) ef_92658
  refine lv_dup hx hb dX10_init_91 rfl ?_
  refine lv_bipush (v := 8) hx hb dX10_init_92 (by decide) ?_
  refine cIv (b := q_92657) (As := [.int 8]) (rest := [.ref q_92657, .ref h]) S Y (c_told8 (l := l) p_q_92657) cw_X9_init km10_37 rfl ⟨Nat.le_of_ble_eq_true rfl, Nat.le_of_ble_eq_true rfl⟩ hl.1 rfl (Nat.le_of_ble_eq_true rfl) ⟨Nat.le_of_ble_eq_true rfl, Nat.le_of_ble_eq_true rfl⟩ dX10_init_94 (fun L_92659 f_92660 H locs hf_92660 Y => ?_)
  obtain ⟨a__92661, kf_92660, z_z_92662, z_z_92663, v_92664⟩ := hf_92660
  have w_92665 := hk.notin v_92664
  have w_92666 := hkI.notin v_92664
  have p_h := kf_92660.1 h _ (nmc (p_h.neK p_q_92657 (by decide)) nm0) p_h
  have p_q_92581 := kf_92660.1 q_92581 _ (nmc (p_q_92581.neB p_q_92657) nm0) p_q_92581
  have p_q_92603 := kf_92660.1 q_92603 _ (nmc (p_q_92603.neB p_q_92657) nm0) p_q_92603
  have p_q_92657 := z_z_92662
  have p_a__92661 := z_z_92663
  have hk := hk.call kf_92660 (fun b hb hp => (nmc (neL hp whkq_92657) nm0))
  have hkI := hkI.call kf_92660 (fun b hb hp => (nmc (neL hp whkIq_92657) nm0))
  have nr_q_92657 : NRg gl_10 ad9 q_92657 := (SHC.nr I whkIq_92657)
  have nr_a__92661 : NRg gl_10 ad9 a__92661 := (SHC.nr I w_92666)
  have I := I.kp hkI (allc nr_h (allc nr_q_92581 (allc nr_q_92603 all0)))
  have hkI : kp L_92659 f_92660 L_92659 f_92660 [h, q_92581, q_92603, q_92657, a__92661] := kp.rf
  obtain ⟨ad10, I, X_92667, Y_92668, Z_92669⟩ := SHC.add (l2 := gl_11) I (k := 21) (n := 3) rfl (by decide) rfl p_a__92661 nr_a__92661 (okE_a (g := (fun _ => 0)) trivial) trivial
  have eq40_0 := (X_92667.2 40 0 (by decide)).trans eq40_0
  have eq41_0 := (X_92667.2 41 0 (by decide)).trans eq41_0
  have eq10_0 := (X_92667.2 10 0 (by decide)).trans eq10_0
  have eq20_0 := (X_92667.2 20 0 (by decide)).trans eq20_0
  have eq20_1 := (X_92667.2 20 1 (by decide)).trans eq20_1
  have eq20_2 := (X_92667.2 20 2 (by decide)).trans eq20_2
  have nr_h := Z_92669 _ nr_h (p_h.neA p_a__92661)
  have nr_q_92581 := Z_92669 _ nr_q_92581 (p_q_92581.neN p_a__92661 (by decide))
  have nr_q_92603 := Z_92669 _ nr_q_92603 (p_q_92603.neN p_a__92661 (by decide))
  have nr_q_92657 := Z_92669 _ nr_q_92657 (p_q_92657.neA p_a__92661)
  have hout : ∀ x, x ∈ L → NRg gl_0 ad x → NRg gl_11 ad10 x := fun x hx hn => Z_92669 x (hout x hx hn) (fun e => w_92665 (by rw [← e]; exact hx))
  have hext := hext.tr X_92667
  have eq21_3 := Y_92668
  have hkI : kp L_92659 f_92660 L_92659 f_92660 [h, q_92581, q_92603, q_92657] := kp.rf
  have I := I.kp hkI (allc nr_h (allc nr_q_92581 (allc nr_q_92603 (allc nr_q_92657 all0))))
  have hkI : kp L_92659 f_92660 L_92659 f_92660 [h, q_92581, q_92603, q_92657] := kp.rf
  obtain ⟨ad11, I, X_92670, Y_92671, Z_92672⟩ := SHC.add (l2 := gl_12) I (k := 20) (n := 3) rfl (by decide) rfl p_q_92657 nr_q_92657 (okE_o (okFs_c (okV_re eq21_3) (okFs_c (okV_p (by constructor <;> decide)) (okFs_c (okV_p (by constructor <;> decide)) okFs_n)))) ⟨(show 3 < nL gl_11 21 from by decide), ⟨trivial, ⟨trivial, trivial⟩⟩⟩
  have eq40_0 := (X_92670.2 40 0 (by decide)).trans eq40_0
  have eq41_0 := (X_92670.2 41 0 (by decide)).trans eq41_0
  have eq10_0 := (X_92670.2 10 0 (by decide)).trans eq10_0
  have eq20_0 := (X_92670.2 20 0 (by decide)).trans eq20_0
  have eq20_1 := (X_92670.2 20 1 (by decide)).trans eq20_1
  have eq20_2 := (X_92670.2 20 2 (by decide)).trans eq20_2
  have eq21_3 := (X_92670.2 21 3 (by decide)).trans eq21_3
  have nr_h := Z_92672 _ nr_h (p_h.neK p_q_92657 (by decide))
  have nr_q_92581 := Z_92672 _ nr_q_92581 (p_q_92581.neB p_q_92657)
  have nr_q_92603 := Z_92672 _ nr_q_92603 (p_q_92603.neB p_q_92657)
  have hout : ∀ x, x ∈ L → NRg gl_0 ad x → NRg gl_12 ad11 x := fun x hx hn => Z_92672 x (hout x hx hn) (fun e => whkq_92657 (by rw [← e]; exact hx))
  have hext := hext.tr X_92670
  have eq20_3 := Y_92671
  have hkI : kp L_92659 f_92660 L_92659 f_92660 [h, q_92581, q_92603] := kp.rf
  refine pg_putF S Y hname ok_X10 8 (by decide) kf10_50 rfl rfl (fs' := [.ref q_92569, .ref q_92575, .ref q_92581, .ref q_92584, .ref q_92603, .ref q_92606, .ref q_92623, .ref q_92640, .ref q_92657, .null, .int 0, .int 0, .int 0, .int 0, .int 0]) (v := .ref q_92657) p_h rfl rfl rfl (Nat.le_of_ble_eq_true rfl) dX10_init_97 (fun f_92673 H locs ef_92673 Y => ?_)
  have p_q_92581 := p_q_92581.up ef_92673 ((p_q_92581.neB p_h))
  have p_q_92603 := p_q_92603.up ef_92673 ((p_q_92603.neB p_h))
  have p_h := p_h.me ef_92673
  have hk := hk.up ef_92673 (by simp)
  have hkI := hkI.up ef_92673 (by simp)
  refine lv_aload_n hx hb dX10_init_100 rfl (lv_at hl 0 rfl) ?_
  refine pg_new S Y ok_X9 kc10_35 kn9 ki9 (fs := [.null, .int 0, .int 0]) (by decide) (by decide) (by decide) dX10_init_101 (fun q_92674 f_92675 H nq_92674 ef_92675 Y => ?_)
  have whkq_92674 := hk.notin nq_92674
  have hk := hk.push ef_92675 nq_92674
  have whkIq_92674 := hkI.notin nq_92674
  have hkI := hkI.push ef_92675 nq_92674
  have p_h := p_h.push ef_92675 nq_92674
  have p_q_92581 := p_q_92581.push ef_92675 nq_92674
  have p_q_92603 := p_q_92603.push ef_92675 nq_92674
  have p_q_92674 := pt.new (L := L_92659) ef_92675
  refine lv_dup hx hb dX10_init_104 rfl ?_
  refine lv_bipush (v := 8) hx hb dX10_init_105 (by decide) ?_
  refine cIv (b := q_92674) (As := [.int 8]) (rest := [.ref q_92674, .ref h]) S Y (c_told8 (l := l) p_q_92674) cw_X9_init km10_37 rfl ⟨Nat.le_of_ble_eq_true rfl, Nat.le_of_ble_eq_true rfl⟩ hl.1 rfl (Nat.le_of_ble_eq_true rfl) ⟨Nat.le_of_ble_eq_true rfl, Nat.le_of_ble_eq_true rfl⟩ dX10_init_107 (fun L_92676 f_92677 H locs hf_92677 Y => ?_)
  obtain ⟨a__92678, kf_92677, z_z_92679, z_z_92680, v_92681⟩ := hf_92677
  have w_92682 := hk.notin v_92681
  have w_92683 := hkI.notin v_92681
  have p_h := kf_92677.1 h _ (nmc (p_h.neK p_q_92674 (by decide)) nm0) p_h
  have p_q_92581 := kf_92677.1 q_92581 _ (nmc (p_q_92581.neB p_q_92674) nm0) p_q_92581
  have p_q_92603 := kf_92677.1 q_92603 _ (nmc (p_q_92603.neB p_q_92674) nm0) p_q_92603
  have p_q_92674 := z_z_92679
  have p_a__92678 := z_z_92680
  have hk := hk.call kf_92677 (fun b hb hp => (nmc (neL hp whkq_92674) nm0))
  have hkI := hkI.call kf_92677 (fun b hb hp => (nmc (neL hp whkIq_92674) nm0))
  have nr_q_92674 : NRg gl_12 ad11 q_92674 := (SHC.nr I whkIq_92674)
  have nr_a__92678 : NRg gl_12 ad11 a__92678 := (SHC.nr I w_92683)
  have I := I.kp hkI (allc nr_h (allc nr_q_92581 (allc nr_q_92603 all0)))
  have hkI : kp L_92676 f_92677 L_92676 f_92677 [h, q_92581, q_92603, q_92674, a__92678] := kp.rf
  obtain ⟨ad12, I, X_92684, Y_92685, Z_92686⟩ := SHC.add (l2 := gl_13) I (k := 21) (n := 4) rfl (by decide) rfl p_a__92678 nr_a__92678 (okE_a (g := (fun _ => 0)) trivial) trivial
  have eq40_0 := (X_92684.2 40 0 (by decide)).trans eq40_0
  have eq41_0 := (X_92684.2 41 0 (by decide)).trans eq41_0
  have eq10_0 := (X_92684.2 10 0 (by decide)).trans eq10_0
  have eq20_0 := (X_92684.2 20 0 (by decide)).trans eq20_0
  have eq20_1 := (X_92684.2 20 1 (by decide)).trans eq20_1
  have eq20_2 := (X_92684.2 20 2 (by decide)).trans eq20_2
  have eq20_3 := (X_92684.2 20 3 (by decide)).trans eq20_3
  have nr_h := Z_92686 _ nr_h (p_h.neA p_a__92678)
  have nr_q_92581 := Z_92686 _ nr_q_92581 (p_q_92581.neN p_a__92678 (by decide))
  have nr_q_92603 := Z_92686 _ nr_q_92603 (p_q_92603.neN p_a__92678 (by decide))
  have nr_q_92674 := Z_92686 _ nr_q_92674 (p_q_92674.neA p_a__92678)
  have hout : ∀ x, x ∈ L → NRg gl_0 ad x → NRg gl_13 ad12 x := fun x hx hn => Z_92686 x (hout x hx hn) (fun e => w_92682 (by rw [← e]; exact hx))
  have hext := hext.tr X_92684
  have eq21_4 := Y_92685
  have hkI : kp L_92676 f_92677 L_92676 f_92677 [h, q_92581, q_92603, q_92674] := kp.rf
  have I := I.kp hkI (allc nr_h (allc nr_q_92581 (allc nr_q_92603 (allc nr_q_92674 all0))))
  have hkI : kp L_92676 f_92677 L_92676 f_92677 [h, q_92581, q_92603, q_92674] := kp.rf
  obtain ⟨ad13, I, X_92687, Y_92688, Z_92689⟩ := SHC.add (l2 := gl_14) I (k := 20) (n := 4) rfl (by decide) rfl p_q_92674 nr_q_92674 (okE_o (okFs_c (okV_re eq21_4) (okFs_c (okV_p (by constructor <;> decide)) (okFs_c (okV_p (by constructor <;> decide)) okFs_n)))) ⟨(show 4 < nL gl_13 21 from by decide), ⟨trivial, ⟨trivial, trivial⟩⟩⟩
  have eq40_0 := (X_92687.2 40 0 (by decide)).trans eq40_0
  have eq41_0 := (X_92687.2 41 0 (by decide)).trans eq41_0
  have eq10_0 := (X_92687.2 10 0 (by decide)).trans eq10_0
  have eq20_0 := (X_92687.2 20 0 (by decide)).trans eq20_0
  have eq20_1 := (X_92687.2 20 1 (by decide)).trans eq20_1
  have eq20_2 := (X_92687.2 20 2 (by decide)).trans eq20_2
  have eq20_3 := (X_92687.2 20 3 (by decide)).trans eq20_3
  have eq21_4 := (X_92687.2 21 4 (by decide)).trans eq21_4
  have nr_h := Z_92689 _ nr_h (p_h.neK p_q_92674 (by decide))
  have nr_q_92581 := Z_92689 _ nr_q_92581 (p_q_92581.neB p_q_92674)
  have nr_q_92603 := Z_92689 _ nr_q_92603 (p_q_92603.neB p_q_92674)
  have hout : ∀ x, x ∈ L → NRg gl_0 ad x → NRg gl_14 ad13 x := fun x hx hn => Z_92689 x (hout x hx hn) (fun e => whkq_92674 (by rw [← e]; exact hx))
  have hext := hext.tr X_92687
  have eq20_4 := Y_92688
  have hkI : kp L_92676 f_92677 L_92676 f_92677 [h, q_92581, q_92603] := kp.rf
  refine pg_putF S Y hname ok_X10 9 (by decide) kf10_53 rfl rfl (fs' := [.ref q_92569, .ref q_92575, .ref q_92581, .ref q_92584, .ref q_92603, .ref q_92606, .ref q_92623, .ref q_92640, .ref q_92657, .ref q_92674, .int 0, .int 0, .int 0, .int 0, .int 0]) (v := .ref q_92674) p_h rfl rfl rfl (Nat.le_of_ble_eq_true rfl) dX10_init_110 (fun f_92690 H locs ef_92690 Y => ?_)
  have p_q_92581 := p_q_92581.up ef_92690 ((p_q_92581.neB p_h))
  have p_q_92603 := p_q_92603.up ef_92690 ((p_q_92603.neB p_h))
  have p_h := p_h.me ef_92690
  have hk := hk.up ef_92690 (by simp)
  have hkI := hkI.up ef_92690 (by simp)
  refine lv_aload_n hx hb dX10_init_113 rfl (lv_at hl 0 rfl) ?_
  refine lv_iconst (v := (-1)) hx hb dX10_init_114 (by decide) ?_
  refine pg_put S Y ok_X10 12 (by decide) kf10_56 rfl (fs' := [.ref q_92569, .ref q_92575, .ref q_92581, .ref q_92584, .ref q_92603, .ref q_92606, .ref q_92623, .ref q_92640, .ref q_92657, .ref q_92674, .int 0, .int 0, .int (-1), .int 0, .int 0]) (v := .int (-1)) p_h rfl rfl rfl (Nat.le_of_ble_eq_true rfl) dX10_init_115 (fun f_92691 H locs ef_92691 Y => ?_)
  have p_q_92581 := p_q_92581.up ef_92691 ((p_q_92581.neB p_h))
  have p_q_92603 := p_q_92603.up ef_92691 ((p_q_92603.neB p_h))
  have p_h := p_h.me ef_92691
  have hk := hk.up ef_92691 (by simp)
  have hkI := hkI.up ef_92691 (by simp)
  have fam_sc : ∀ t, t < 0 → (fun _ => none) t = some (ad13 30 (0 + t)) := fam_0
  have fam_pa : ∀ t, t < 0 → (fun _ => none) t = some (ad13 10 (1 + t)) := fam_0
  refine lv_iconst (v := 0) hx hb dX10_init_118 (by decide) ?_
  refine lv_istore_n (lv' := [(1, .int 0), (0, .ref h)]) hx hb dX10_init_119 rfl hl (by decide) rfl (fun ls hl => ?_)
  refine lv_iload_n hx hb dX10_init_120 rfl (lv_at hl 0 rfl) ?_
  refine lv_iconst (v := 4) hx hb dX10_init_121 (by decide) ?_
  refine lv_icmp_ge (tgt := 144) hx hb dX10_init_122 (by decide) (fun h => absurd h (by decide)) (fun _ => ?_)
  refine lv_aload_n hx hb dX10_init_125 rfl (lv_at hl 1 rfl) ?_
  refine pg_get S Y ok_X10 2 (by decide) kf10_20 (v := .ref q_92581) p_h rfl dX10_init_126 ?_
  refine lv_iload_n hx hb dX10_init_129 rfl (lv_at hl 0 rfl) ?_
  refine pg_new S Y ok_X7 kc10_18 kn7 ki7 (fs := [.null, .null, .null, .null, .null, .int 0, .int 0]) (by decide) (by decide) (by decide) dX10_init_130 (fun q_92692 f_92693 H nq_92692 ef_92693 Y => ?_)
  have whkq_92692 := hk.notin nq_92692
  have hk := hk.push ef_92693 nq_92692
  have whkIq_92692 := hkI.notin nq_92692
  have hkI := hkI.push ef_92693 nq_92692
  have p_h := p_h.push ef_92693 nq_92692
  have p_q_92581 := p_q_92581.push ef_92693 nq_92692
  have p_q_92603 := p_q_92603.push ef_92693 nq_92692
  have p_q_92692 := pt.new (L := L_92676) ef_92693
  refine lv_dup hx hb dX10_init_133 rfl ?_
  refine cINv (b := q_92692) (As := []) (rest := [.ref q_92692, .int 0, .ref q_92581]) S Y (c_X7_init (l := l) p_q_92692) cw_X7_init km10_60 rfl ⟨Nat.le_of_ble_eq_true rfl, Nat.le_of_ble_eq_true rfl⟩ hl.1 rfl (Nat.le_of_ble_eq_true rfl) ⟨Nat.le_of_ble_eq_true rfl, Nat.le_of_ble_eq_true rfl⟩ dX10_init_134 (fun L_92694 f_92695 H locs hf_92695 Y => ?_)
  obtain ⟨a__92696, a__92697, a__92698, a__92699, a__92700, kf_92695, z_z_92701, z_z_92702, z_z_92703, z_z_92704, z_z_92705, z_z_92706, na1a2_92707, na3a4_92708, v_92709, v_92710, v_92711, v_92712, v_92713⟩ := hf_92695
  have w_92714 := hk.notin v_92709
  have w_92715 := hkI.notin v_92709
  have w_92716 := hk.notin v_92710
  have w_92717 := hkI.notin v_92710
  have w_92718 := hk.notin v_92711
  have w_92719 := hkI.notin v_92711
  have w_92720 := hk.notin v_92712
  have w_92721 := hkI.notin v_92712
  have w_92722 := hk.notin v_92713
  have w_92723 := hkI.notin v_92713
  have p_h := kf_92695.1 h _ (nmc (p_h.neK p_q_92692 (by decide)) nm0) p_h
  have p_q_92581 := kf_92695.1 q_92581 _ (nmc (p_q_92581.neB p_q_92692) nm0) p_q_92581
  have p_q_92603 := kf_92695.1 q_92603 _ (nmc (p_q_92603.neB p_q_92692) nm0) p_q_92603
  have p_q_92692 := z_z_92701
  have p_a__92696 := z_z_92702
  have p_a__92697 := z_z_92703
  have p_a__92698 := z_z_92704
  have p_a__92699 := z_z_92705
  have p_a__92700 := z_z_92706
  have hk := hk.call kf_92695 (fun b hb hp => (nmc (neL hp whkq_92692) nm0))
  have hkI := hkI.call kf_92695 (fun b hb hp => (nmc (neL hp whkIq_92692) nm0))
  have nr_q_92692 : NRg gl_14 ad13 q_92692 := (SHC.nr I whkIq_92692)
  have nr_a__92696 : NRg gl_14 ad13 a__92696 := (SHC.nr I w_92715)
  have nr_a__92697 : NRg gl_14 ad13 a__92697 := (SHC.nr I w_92717)
  have nr_a__92698 : NRg gl_14 ad13 a__92698 := (SHC.nr I w_92719)
  have nr_a__92699 : NRg gl_14 ad13 a__92699 := (SHC.nr I w_92721)
  have nr_a__92700 : NRg gl_14 ad13 a__92700 := (SHC.nr I w_92723)
  have I := I.kp hkI (allc nr_h (allc nr_q_92581 (allc nr_q_92603 all0)))
  have hkI : kp L_92694 f_92695 L_92694 f_92695 [h, q_92581, q_92603] := kp.rf
  obtain ⟨ad14, I, X_92724, Y_92725, Z_92726⟩ := SHC.scr (l2 := gl_15) (n := 0) I rfl rfl rfl rfl rfl rfl (by decide) rfl p_q_92692 p_a__92696 p_a__92697 p_a__92698 p_a__92699 p_a__92700 nr_q_92692 nr_a__92696 nr_a__92697 nr_a__92698 nr_a__92699 nr_a__92700 (na1a2_92707) (na3a4_92708)
  have eq40_0 := (X_92724.2 40 0 (by decide)).trans eq40_0
  have eq41_0 := (X_92724.2 41 0 (by decide)).trans eq41_0
  have eq10_0 := (X_92724.2 10 0 (by decide)).trans eq10_0
  have eq20_0 := (X_92724.2 20 0 (by decide)).trans eq20_0
  have eq20_1 := (X_92724.2 20 1 (by decide)).trans eq20_1
  have eq20_2 := (X_92724.2 20 2 (by decide)).trans eq20_2
  have eq20_3 := (X_92724.2 20 3 (by decide)).trans eq20_3
  have eq20_4 := (X_92724.2 20 4 (by decide)).trans eq20_4
  have fam_sc := fam_x fam_sc X_92724 (by decide)
  have fam_pa := fam_x fam_pa X_92724 (by decide)
  have nr_h := Z_92726 _ nr_h (p_h.neK p_q_92692 (by decide)) (p_h.neA p_a__92696) (p_h.neA p_a__92697) (p_h.neA p_a__92698) (p_h.neA p_a__92699) (p_h.neA p_a__92700)
  have nr_q_92581 := Z_92726 _ nr_q_92581 (p_q_92581.neB p_q_92692) (p_q_92581.neN p_a__92696 (by decide)) (p_q_92581.neN p_a__92697 (by decide)) (p_q_92581.neN p_a__92698 (by decide)) (p_q_92581.neN p_a__92699 (by decide)) (p_q_92581.neN p_a__92700 (by decide))
  have nr_q_92603 := Z_92726 _ nr_q_92603 (p_q_92603.neB p_q_92692) (p_q_92603.neN p_a__92696 (by decide)) (p_q_92603.neN p_a__92697 (by decide)) (p_q_92603.neN p_a__92698 (by decide)) (p_q_92603.neN p_a__92699 (by decide)) (p_q_92603.neN p_a__92700 (by decide))
  have hout : ∀ x, x ∈ L → NRg gl_0 ad x → NRg gl_15 ad14 x := fun x hx hn => Z_92726 x (hout x hx hn) (fun e => whkq_92692 (by rw [← e]; exact hx)) (fun e => w_92714 (by rw [← e]; exact hx)) (fun e => w_92716 (by rw [← e]; exact hx)) (fun e => w_92718 (by rw [← e]; exact hx)) (fun e => w_92720 (by rw [← e]; exact hx)) (fun e => w_92722 (by rw [← e]; exact hx))
  have hext := hext.tr X_92724
  have eq30_0 := Y_92725
  have hkI : kp L_92694 f_92695 L_92694 f_92695 [h, q_92581, q_92603] := kp.rf
  refine pg_aast S Y (k := 4) p_q_92581 rfl p_q_92692 ok_X7.1 (by unfold vp_in; decide) dX10_init_137 (fun f_92728 H locs ef_92728 Y => ?_)
  obtain ⟨g_92727, eg_92727⟩ : ∃ z, z = va_up ((fun _ => none)) (0 : Int32).toNatClampNeg (some q_92692) := ⟨_, rfl⟩
  rw [← eg_92727] at ef_92728
  have p_h := p_h.up ef_92728 ((p_h.neA p_q_92581))
  have p_q_92603 := p_q_92603.up ef_92728 ((p_q_92603.neN p_q_92581 (by decide)))
  have p_q_92692 := p_q_92692.up ef_92728 ((p_q_92692.neA p_q_92581))
  have p_q_92581 := p_q_92581.me ef_92728
  have hk := hk.upN ef_92728 whkq_92581
  have hkI := hkI.up ef_92728 (by simp)
  have fam_sc := fam_s (i := 0) fam_sc eq30_0 eg_92727
  refine lv_iinc (v := 1) (lv' := [(1, .int 1), (0, .ref h)]) hx hb dX10_init_138 hl (k := 0) rfl (by decide) (by decide) rfl (fun ls hl => ?_)
  refine lv_goto (tgt := 120) hx hb dX10_init_141 (by decide) ?_
  refine lv_iload_n hx hb dX10_init_120 rfl (lv_at hl 0 rfl) ?_
  refine lv_iconst (v := 4) hx hb dX10_init_121 (by decide) ?_
  refine lv_icmp_ge (tgt := 144) hx hb dX10_init_122 (by decide) (fun h => absurd h (by decide)) (fun _ => ?_)
  refine lv_aload_n hx hb dX10_init_125 rfl (lv_at hl 1 rfl) ?_
  refine pg_get S Y ok_X10 2 (by decide) kf10_20 (v := .ref q_92581) p_h rfl dX10_init_126 ?_
  refine lv_iload_n hx hb dX10_init_129 rfl (lv_at hl 0 rfl) ?_
  refine pg_new S Y ok_X7 kc10_18 kn7 ki7 (fs := [.null, .null, .null, .null, .null, .int 0, .int 0]) (by decide) (by decide) (by decide) dX10_init_130 (fun q_92729 f_92730 H nq_92729 ef_92730 Y => ?_)
  have whkq_92729 := hk.notin nq_92729
  have hk := hk.push ef_92730 nq_92729
  have whkIq_92729 := hkI.notin nq_92729
  have hkI := hkI.push ef_92730 nq_92729
  have p_h := p_h.push ef_92730 nq_92729
  have p_q_92581 := p_q_92581.push ef_92730 nq_92729
  have p_q_92603 := p_q_92603.push ef_92730 nq_92729
  have p_q_92729 := pt.new (L := L_92694) ef_92730
  refine lv_dup hx hb dX10_init_133 rfl ?_
  refine cINv (b := q_92729) (As := []) (rest := [.ref q_92729, .int 1, .ref q_92581]) S Y (c_X7_init (l := l) p_q_92729) cw_X7_init km10_60 rfl ⟨Nat.le_of_ble_eq_true rfl, Nat.le_of_ble_eq_true rfl⟩ hl.1 rfl (Nat.le_of_ble_eq_true rfl) ⟨Nat.le_of_ble_eq_true rfl, Nat.le_of_ble_eq_true rfl⟩ dX10_init_134 (fun L_92731 f_92732 H locs hf_92732 Y => ?_)
  obtain ⟨a__92733, a__92734, a__92735, a__92736, a__92737, kf_92732, z_z_92738, z_z_92739, z_z_92740, z_z_92741, z_z_92742, z_z_92743, na1a2_92744, na3a4_92745, v_92746, v_92747, v_92748, v_92749, v_92750⟩ := hf_92732
  have w_92751 := hk.notin v_92746
  have w_92752 := hkI.notin v_92746
  have w_92753 := hk.notin v_92747
  have w_92754 := hkI.notin v_92747
  have w_92755 := hk.notin v_92748
  have w_92756 := hkI.notin v_92748
  have w_92757 := hk.notin v_92749
  have w_92758 := hkI.notin v_92749
  have w_92759 := hk.notin v_92750
  have w_92760 := hkI.notin v_92750
  have p_h := kf_92732.1 h _ (nmc (p_h.neK p_q_92729 (by decide)) nm0) p_h
  have p_q_92581 := kf_92732.1 q_92581 _ (nmc (p_q_92581.neB p_q_92729) nm0) p_q_92581
  have p_q_92603 := kf_92732.1 q_92603 _ (nmc (p_q_92603.neB p_q_92729) nm0) p_q_92603
  have p_q_92729 := z_z_92738
  have p_a__92733 := z_z_92739
  have p_a__92734 := z_z_92740
  have p_a__92735 := z_z_92741
  have p_a__92736 := z_z_92742
  have p_a__92737 := z_z_92743
  have hk := hk.call kf_92732 (fun b hb hp => (nmc (neL hp whkq_92729) nm0))
  have hkI := hkI.call kf_92732 (fun b hb hp => (nmc (neL hp whkIq_92729) nm0))
  have nr_q_92729 : NRg gl_15 ad14 q_92729 := (SHC.nr I whkIq_92729)
  have nr_a__92733 : NRg gl_15 ad14 a__92733 := (SHC.nr I w_92752)
  have nr_a__92734 : NRg gl_15 ad14 a__92734 := (SHC.nr I w_92754)
  have nr_a__92735 : NRg gl_15 ad14 a__92735 := (SHC.nr I w_92756)
  have nr_a__92736 : NRg gl_15 ad14 a__92736 := (SHC.nr I w_92758)
  have nr_a__92737 : NRg gl_15 ad14 a__92737 := (SHC.nr I w_92760)
  have I := I.kp hkI (allc nr_h (allc nr_q_92581 (allc nr_q_92603 all0)))
  have hkI : kp L_92731 f_92732 L_92731 f_92732 [h, q_92581, q_92603] := kp.rf
  obtain ⟨ad15, I, X_92761, Y_92762, Z_92763⟩ := SHC.scr (l2 := gl_16) (n := 1) I rfl rfl rfl rfl rfl rfl (by decide) rfl p_q_92729 p_a__92733 p_a__92734 p_a__92735 p_a__92736 p_a__92737 nr_q_92729 nr_a__92733 nr_a__92734 nr_a__92735 nr_a__92736 nr_a__92737 (na1a2_92744) (na3a4_92745)
  have eq40_0 := (X_92761.2 40 0 (by decide)).trans eq40_0
  have eq41_0 := (X_92761.2 41 0 (by decide)).trans eq41_0
  have eq10_0 := (X_92761.2 10 0 (by decide)).trans eq10_0
  have eq20_0 := (X_92761.2 20 0 (by decide)).trans eq20_0
  have eq20_1 := (X_92761.2 20 1 (by decide)).trans eq20_1
  have eq20_2 := (X_92761.2 20 2 (by decide)).trans eq20_2
  have eq20_3 := (X_92761.2 20 3 (by decide)).trans eq20_3
  have eq20_4 := (X_92761.2 20 4 (by decide)).trans eq20_4
  have fam_sc := fam_x fam_sc X_92761 (by decide)
  have fam_pa := fam_x fam_pa X_92761 (by decide)
  have nr_h := Z_92763 _ nr_h (p_h.neK p_q_92729 (by decide)) (p_h.neA p_a__92733) (p_h.neA p_a__92734) (p_h.neA p_a__92735) (p_h.neA p_a__92736) (p_h.neA p_a__92737)
  have nr_q_92581 := Z_92763 _ nr_q_92581 (p_q_92581.neB p_q_92729) (p_q_92581.neN p_a__92733 (by decide)) (p_q_92581.neN p_a__92734 (by decide)) (p_q_92581.neN p_a__92735 (by decide)) (p_q_92581.neN p_a__92736 (by decide)) (p_q_92581.neN p_a__92737 (by decide))
  have nr_q_92603 := Z_92763 _ nr_q_92603 (p_q_92603.neB p_q_92729) (p_q_92603.neN p_a__92733 (by decide)) (p_q_92603.neN p_a__92734 (by decide)) (p_q_92603.neN p_a__92735 (by decide)) (p_q_92603.neN p_a__92736 (by decide)) (p_q_92603.neN p_a__92737 (by decide))
  have hout : ∀ x, x ∈ L → NRg gl_0 ad x → NRg gl_16 ad15 x := fun x hx hn => Z_92763 x (hout x hx hn) (fun e => whkq_92729 (by rw [← e]; exact hx)) (fun e => w_92751 (by rw [← e]; exact hx)) (fun e => w_92753 (by rw [← e]; exact hx)) (fun e => w_92755 (by rw [← e]; exact hx)) (fun e => w_92757 (by rw [← e]; exact hx)) (fun e => w_92759 (by rw [← e]; exact hx))
  have hext := hext.tr X_92761
  have eq30_1 := Y_92762
  have hkI : kp L_92731 f_92732 L_92731 f_92732 [h, q_92581, q_92603] := kp.rf
  refine pg_aast S Y (k := 4) p_q_92581 rfl p_q_92729 ok_X7.1 (by unfold vp_in; decide) dX10_init_137 (fun f_92765 H locs ef_92765 Y => ?_)
  obtain ⟨g_92764, eg_92764⟩ : ∃ z, z = va_up (g_92727) (1 : Int32).toNatClampNeg (some q_92729) := ⟨_, rfl⟩
  rw [← eg_92764] at ef_92765
  have p_h := p_h.up ef_92765 ((p_h.neA p_q_92581))
  have p_q_92603 := p_q_92603.up ef_92765 ((p_q_92603.neN p_q_92581 (by decide)))
  have p_q_92729 := p_q_92729.up ef_92765 ((p_q_92729.neA p_q_92581))
  have p_q_92581 := p_q_92581.me ef_92765
  have hk := hk.upN ef_92765 whkq_92581
  have hkI := hkI.up ef_92765 (by simp)
  have fam_sc := fam_s (i := 1) fam_sc eq30_1 eg_92764
  refine lv_iinc (v := 2) (lv' := [(1, .int 2), (0, .ref h)]) hx hb dX10_init_138 hl (k := 0) rfl (by decide) (by decide) rfl (fun ls hl => ?_)
  refine lv_goto (tgt := 120) hx hb dX10_init_141 (by decide) ?_
  refine lv_iload_n hx hb dX10_init_120 rfl (lv_at hl 0 rfl) ?_
  refine lv_iconst (v := 4) hx hb dX10_init_121 (by decide) ?_
  refine lv_icmp_ge (tgt := 144) hx hb dX10_init_122 (by decide) (fun h => absurd h (by decide)) (fun _ => ?_)
  refine lv_aload_n hx hb dX10_init_125 rfl (lv_at hl 1 rfl) ?_
  refine pg_get S Y ok_X10 2 (by decide) kf10_20 (v := .ref q_92581) p_h rfl dX10_init_126 ?_
  refine lv_iload_n hx hb dX10_init_129 rfl (lv_at hl 0 rfl) ?_
  refine pg_new S Y ok_X7 kc10_18 kn7 ki7 (fs := [.null, .null, .null, .null, .null, .int 0, .int 0]) (by decide) (by decide) (by decide) dX10_init_130 (fun q_92766 f_92767 H nq_92766 ef_92767 Y => ?_)
  have whkq_92766 := hk.notin nq_92766
  have hk := hk.push ef_92767 nq_92766
  have whkIq_92766 := hkI.notin nq_92766
  have hkI := hkI.push ef_92767 nq_92766
  have p_h := p_h.push ef_92767 nq_92766
  have p_q_92581 := p_q_92581.push ef_92767 nq_92766
  have p_q_92603 := p_q_92603.push ef_92767 nq_92766
  have p_q_92766 := pt.new (L := L_92731) ef_92767
  refine lv_dup hx hb dX10_init_133 rfl ?_
  refine cINv (b := q_92766) (As := []) (rest := [.ref q_92766, .int 2, .ref q_92581]) S Y (c_X7_init (l := l) p_q_92766) cw_X7_init km10_60 rfl ⟨Nat.le_of_ble_eq_true rfl, Nat.le_of_ble_eq_true rfl⟩ hl.1 rfl (Nat.le_of_ble_eq_true rfl) ⟨Nat.le_of_ble_eq_true rfl, Nat.le_of_ble_eq_true rfl⟩ dX10_init_134 (fun L_92768 f_92769 H locs hf_92769 Y => ?_)
  obtain ⟨a__92770, a__92771, a__92772, a__92773, a__92774, kf_92769, z_z_92775, z_z_92776, z_z_92777, z_z_92778, z_z_92779, z_z_92780, na1a2_92781, na3a4_92782, v_92783, v_92784, v_92785, v_92786, v_92787⟩ := hf_92769
  have w_92788 := hk.notin v_92783
  have w_92789 := hkI.notin v_92783
  have w_92790 := hk.notin v_92784
  have w_92791 := hkI.notin v_92784
  have w_92792 := hk.notin v_92785
  have w_92793 := hkI.notin v_92785
  have w_92794 := hk.notin v_92786
  have w_92795 := hkI.notin v_92786
  have w_92796 := hk.notin v_92787
  have w_92797 := hkI.notin v_92787
  have p_h := kf_92769.1 h _ (nmc (p_h.neK p_q_92766 (by decide)) nm0) p_h
  have p_q_92581 := kf_92769.1 q_92581 _ (nmc (p_q_92581.neB p_q_92766) nm0) p_q_92581
  have p_q_92603 := kf_92769.1 q_92603 _ (nmc (p_q_92603.neB p_q_92766) nm0) p_q_92603
  have p_q_92766 := z_z_92775
  have p_a__92770 := z_z_92776
  have p_a__92771 := z_z_92777
  have p_a__92772 := z_z_92778
  have p_a__92773 := z_z_92779
  have p_a__92774 := z_z_92780
  have hk := hk.call kf_92769 (fun b hb hp => (nmc (neL hp whkq_92766) nm0))
  have hkI := hkI.call kf_92769 (fun b hb hp => (nmc (neL hp whkIq_92766) nm0))
  have nr_q_92766 : NRg gl_16 ad15 q_92766 := (SHC.nr I whkIq_92766)
  have nr_a__92770 : NRg gl_16 ad15 a__92770 := (SHC.nr I w_92789)
  have nr_a__92771 : NRg gl_16 ad15 a__92771 := (SHC.nr I w_92791)
  have nr_a__92772 : NRg gl_16 ad15 a__92772 := (SHC.nr I w_92793)
  have nr_a__92773 : NRg gl_16 ad15 a__92773 := (SHC.nr I w_92795)
  have nr_a__92774 : NRg gl_16 ad15 a__92774 := (SHC.nr I w_92797)
  have I := I.kp hkI (allc nr_h (allc nr_q_92581 (allc nr_q_92603 all0)))
  have hkI : kp L_92768 f_92769 L_92768 f_92769 [h, q_92581, q_92603] := kp.rf
  obtain ⟨ad16, I, X_92798, Y_92799, Z_92800⟩ := SHC.scr (l2 := gl_17) (n := 2) I rfl rfl rfl rfl rfl rfl (by decide) rfl p_q_92766 p_a__92770 p_a__92771 p_a__92772 p_a__92773 p_a__92774 nr_q_92766 nr_a__92770 nr_a__92771 nr_a__92772 nr_a__92773 nr_a__92774 (na1a2_92781) (na3a4_92782)
  have eq40_0 := (X_92798.2 40 0 (by decide)).trans eq40_0
  have eq41_0 := (X_92798.2 41 0 (by decide)).trans eq41_0
  have eq10_0 := (X_92798.2 10 0 (by decide)).trans eq10_0
  have eq20_0 := (X_92798.2 20 0 (by decide)).trans eq20_0
  have eq20_1 := (X_92798.2 20 1 (by decide)).trans eq20_1
  have eq20_2 := (X_92798.2 20 2 (by decide)).trans eq20_2
  have eq20_3 := (X_92798.2 20 3 (by decide)).trans eq20_3
  have eq20_4 := (X_92798.2 20 4 (by decide)).trans eq20_4
  have fam_sc := fam_x fam_sc X_92798 (by decide)
  have fam_pa := fam_x fam_pa X_92798 (by decide)
  have nr_h := Z_92800 _ nr_h (p_h.neK p_q_92766 (by decide)) (p_h.neA p_a__92770) (p_h.neA p_a__92771) (p_h.neA p_a__92772) (p_h.neA p_a__92773) (p_h.neA p_a__92774)
  have nr_q_92581 := Z_92800 _ nr_q_92581 (p_q_92581.neB p_q_92766) (p_q_92581.neN p_a__92770 (by decide)) (p_q_92581.neN p_a__92771 (by decide)) (p_q_92581.neN p_a__92772 (by decide)) (p_q_92581.neN p_a__92773 (by decide)) (p_q_92581.neN p_a__92774 (by decide))
  have nr_q_92603 := Z_92800 _ nr_q_92603 (p_q_92603.neB p_q_92766) (p_q_92603.neN p_a__92770 (by decide)) (p_q_92603.neN p_a__92771 (by decide)) (p_q_92603.neN p_a__92772 (by decide)) (p_q_92603.neN p_a__92773 (by decide)) (p_q_92603.neN p_a__92774 (by decide))
  have hout : ∀ x, x ∈ L → NRg gl_0 ad x → NRg gl_17 ad16 x := fun x hx hn => Z_92800 x (hout x hx hn) (fun e => whkq_92766 (by rw [← e]; exact hx)) (fun e => w_92788 (by rw [← e]; exact hx)) (fun e => w_92790 (by rw [← e]; exact hx)) (fun e => w_92792 (by rw [← e]; exact hx)) (fun e => w_92794 (by rw [← e]; exact hx)) (fun e => w_92796 (by rw [← e]; exact hx))
  have hext := hext.tr X_92798
  have eq30_2 := Y_92799
  have hkI : kp L_92768 f_92769 L_92768 f_92769 [h, q_92581, q_92603] := kp.rf
  refine pg_aast S Y (k := 4) p_q_92581 rfl p_q_92766 ok_X7.1 (by unfold vp_in; decide) dX10_init_137 (fun f_92802 H locs ef_92802 Y => ?_)
  obtain ⟨g_92801, eg_92801⟩ : ∃ z, z = va_up (g_92764) (2 : Int32).toNatClampNeg (some q_92766) := ⟨_, rfl⟩
  rw [← eg_92801] at ef_92802
  have p_h := p_h.up ef_92802 ((p_h.neA p_q_92581))
  have p_q_92603 := p_q_92603.up ef_92802 ((p_q_92603.neN p_q_92581 (by decide)))
  have p_q_92766 := p_q_92766.up ef_92802 ((p_q_92766.neA p_q_92581))
  have p_q_92581 := p_q_92581.me ef_92802
  have hk := hk.upN ef_92802 whkq_92581
  have hkI := hkI.up ef_92802 (by simp)
  have fam_sc := fam_s (i := 2) fam_sc eq30_2 eg_92801
  refine lv_iinc (v := 3) (lv' := [(1, .int 3), (0, .ref h)]) hx hb dX10_init_138 hl (k := 0) rfl (by decide) (by decide) rfl (fun ls hl => ?_)
  refine lv_goto (tgt := 120) hx hb dX10_init_141 (by decide) ?_
  refine lv_iload_n hx hb dX10_init_120 rfl (lv_at hl 0 rfl) ?_
  refine lv_iconst (v := 4) hx hb dX10_init_121 (by decide) ?_
  refine lv_icmp_ge (tgt := 144) hx hb dX10_init_122 (by decide) (fun h => absurd h (by decide)) (fun _ => ?_)
  refine lv_aload_n hx hb dX10_init_125 rfl (lv_at hl 1 rfl) ?_
  refine pg_get S Y ok_X10 2 (by decide) kf10_20 (v := .ref q_92581) p_h rfl dX10_init_126 ?_
  refine lv_iload_n hx hb dX10_init_129 rfl (lv_at hl 0 rfl) ?_
  refine pg_new S Y ok_X7 kc10_18 kn7 ki7 (fs := [.null, .null, .null, .null, .null, .int 0, .int 0]) (by decide) (by decide) (by decide) dX10_init_130 (fun q_92803 f_92804 H nq_92803 ef_92804 Y => ?_)
  have whkq_92803 := hk.notin nq_92803
  have hk := hk.push ef_92804 nq_92803
  have whkIq_92803 := hkI.notin nq_92803
  have hkI := hkI.push ef_92804 nq_92803
  have p_h := p_h.push ef_92804 nq_92803
  have p_q_92581 := p_q_92581.push ef_92804 nq_92803
  have p_q_92603 := p_q_92603.push ef_92804 nq_92803
  have p_q_92803 := pt.new (L := L_92768) ef_92804
  refine lv_dup hx hb dX10_init_133 rfl ?_
  refine cINv (b := q_92803) (As := []) (rest := [.ref q_92803, .int 3, .ref q_92581]) S Y (c_X7_init (l := l) p_q_92803) cw_X7_init km10_60 rfl ⟨Nat.le_of_ble_eq_true rfl, Nat.le_of_ble_eq_true rfl⟩ hl.1 rfl (Nat.le_of_ble_eq_true rfl) ⟨Nat.le_of_ble_eq_true rfl, Nat.le_of_ble_eq_true rfl⟩ dX10_init_134 (fun L_92805 f_92806 H locs hf_92806 Y => ?_)
  obtain ⟨a__92807, a__92808, a__92809, a__92810, a__92811, kf_92806, z_z_92812, z_z_92813, z_z_92814, z_z_92815, z_z_92816, z_z_92817, na1a2_92818, na3a4_92819, v_92820, v_92821, v_92822, v_92823, v_92824⟩ := hf_92806
  have w_92825 := hk.notin v_92820
  have w_92826 := hkI.notin v_92820
  have w_92827 := hk.notin v_92821
  have w_92828 := hkI.notin v_92821
  have w_92829 := hk.notin v_92822
  have w_92830 := hkI.notin v_92822
  have w_92831 := hk.notin v_92823
  have w_92832 := hkI.notin v_92823
  have w_92833 := hk.notin v_92824
  have w_92834 := hkI.notin v_92824
  have p_h := kf_92806.1 h _ (nmc (p_h.neK p_q_92803 (by decide)) nm0) p_h
  have p_q_92581 := kf_92806.1 q_92581 _ (nmc (p_q_92581.neB p_q_92803) nm0) p_q_92581
  have p_q_92603 := kf_92806.1 q_92603 _ (nmc (p_q_92603.neB p_q_92803) nm0) p_q_92603
  have p_q_92803 := z_z_92812
  have p_a__92807 := z_z_92813
  have p_a__92808 := z_z_92814
  have p_a__92809 := z_z_92815
  have p_a__92810 := z_z_92816
  have p_a__92811 := z_z_92817
  have hk := hk.call kf_92806 (fun b hb hp => (nmc (neL hp whkq_92803) nm0))
  have hkI := hkI.call kf_92806 (fun b hb hp => (nmc (neL hp whkIq_92803) nm0))
  have nr_q_92803 : NRg gl_17 ad16 q_92803 := (SHC.nr I whkIq_92803)
  have nr_a__92807 : NRg gl_17 ad16 a__92807 := (SHC.nr I w_92826)
  have nr_a__92808 : NRg gl_17 ad16 a__92808 := (SHC.nr I w_92828)
  have nr_a__92809 : NRg gl_17 ad16 a__92809 := (SHC.nr I w_92830)
  have nr_a__92810 : NRg gl_17 ad16 a__92810 := (SHC.nr I w_92832)
  have nr_a__92811 : NRg gl_17 ad16 a__92811 := (SHC.nr I w_92834)
  have I := I.kp hkI (allc nr_h (allc nr_q_92581 (allc nr_q_92603 all0)))
  have hkI : kp L_92805 f_92806 L_92805 f_92806 [h, q_92581, q_92603] := kp.rf
  obtain ⟨ad17, I, X_92835, Y_92836, Z_92837⟩ := SHC.scr (l2 := gl_18) (n := 3) I rfl rfl rfl rfl rfl rfl (by decide) rfl p_q_92803 p_a__92807 p_a__92808 p_a__92809 p_a__92810 p_a__92811 nr_q_92803 nr_a__92807 nr_a__92808 nr_a__92809 nr_a__92810 nr_a__92811 (na1a2_92818) (na3a4_92819)
  have eq40_0 := (X_92835.2 40 0 (by decide)).trans eq40_0
  have eq41_0 := (X_92835.2 41 0 (by decide)).trans eq41_0
  have eq10_0 := (X_92835.2 10 0 (by decide)).trans eq10_0
  have eq20_0 := (X_92835.2 20 0 (by decide)).trans eq20_0
  have eq20_1 := (X_92835.2 20 1 (by decide)).trans eq20_1
  have eq20_2 := (X_92835.2 20 2 (by decide)).trans eq20_2
  have eq20_3 := (X_92835.2 20 3 (by decide)).trans eq20_3
  have eq20_4 := (X_92835.2 20 4 (by decide)).trans eq20_4
  have fam_sc := fam_x fam_sc X_92835 (by decide)
  have fam_pa := fam_x fam_pa X_92835 (by decide)
  have nr_h := Z_92837 _ nr_h (p_h.neK p_q_92803 (by decide)) (p_h.neA p_a__92807) (p_h.neA p_a__92808) (p_h.neA p_a__92809) (p_h.neA p_a__92810) (p_h.neA p_a__92811)
  have nr_q_92581 := Z_92837 _ nr_q_92581 (p_q_92581.neB p_q_92803) (p_q_92581.neN p_a__92807 (by decide)) (p_q_92581.neN p_a__92808 (by decide)) (p_q_92581.neN p_a__92809 (by decide)) (p_q_92581.neN p_a__92810 (by decide)) (p_q_92581.neN p_a__92811 (by decide))
  have nr_q_92603 := Z_92837 _ nr_q_92603 (p_q_92603.neB p_q_92803) (p_q_92603.neN p_a__92807 (by decide)) (p_q_92603.neN p_a__92808 (by decide)) (p_q_92603.neN p_a__92809 (by decide)) (p_q_92603.neN p_a__92810 (by decide)) (p_q_92603.neN p_a__92811 (by decide))
  have hout : ∀ x, x ∈ L → NRg gl_0 ad x → NRg gl_18 ad17 x := fun x hx hn => Z_92837 x (hout x hx hn) (fun e => whkq_92803 (by rw [← e]; exact hx)) (fun e => w_92825 (by rw [← e]; exact hx)) (fun e => w_92827 (by rw [← e]; exact hx)) (fun e => w_92829 (by rw [← e]; exact hx)) (fun e => w_92831 (by rw [← e]; exact hx)) (fun e => w_92833 (by rw [← e]; exact hx))
  have hext := hext.tr X_92835
  have eq30_3 := Y_92836
  have hkI : kp L_92805 f_92806 L_92805 f_92806 [h, q_92581, q_92603] := kp.rf
  refine pg_aast S Y (k := 4) p_q_92581 rfl p_q_92803 ok_X7.1 (by unfold vp_in; decide) dX10_init_137 (fun f_92839 H locs ef_92839 Y => ?_)
  obtain ⟨g_92838, eg_92838⟩ : ∃ z, z = va_up (g_92801) (3 : Int32).toNatClampNeg (some q_92803) := ⟨_, rfl⟩
  rw [← eg_92838] at ef_92839
  have p_h := p_h.up ef_92839 ((p_h.neA p_q_92581))
  have p_q_92603 := p_q_92603.up ef_92839 ((p_q_92603.neN p_q_92581 (by decide)))
  have p_q_92803 := p_q_92803.up ef_92839 ((p_q_92803.neA p_q_92581))
  have p_q_92581 := p_q_92581.me ef_92839
  have hk := hk.upN ef_92839 whkq_92581
  have hkI := hkI.up ef_92839 (by simp)
  have fam_sc := fam_s (i := 3) fam_sc eq30_3 eg_92838
  refine lv_iinc (v := 4) (lv' := [(1, .int 4), (0, .ref h)]) hx hb dX10_init_138 hl (k := 0) rfl (by decide) (by decide) rfl (fun ls hl => ?_)
  refine lv_goto (tgt := 120) hx hb dX10_init_141 (by decide) ?_
  refine lv_iload_n hx hb dX10_init_120 rfl (lv_at hl 0 rfl) ?_
  refine lv_iconst (v := 4) hx hb dX10_init_121 (by decide) ?_
  refine lv_icmp_ge (tgt := 144) hx hb dX10_init_122 (by decide) (fun _ => ?_) (fun h => absurd (by decide) h)
  refine lv_iconst (v := 0) hx hb dX10_init_144 (by decide) ?_
  refine lv_istore_n (lv' := [(1, .int 0), (0, .ref h)]) hx hb dX10_init_145 rfl hl (by decide) rfl (fun ls hl => ?_)
  refine lv_iload_n hx hb dX10_init_146 rfl (lv_at hl 0 rfl) ?_
  refine lv_bipush (v := 30) hx hb dX10_init_147 (by decide) ?_
  refine lv_icmp_ge (tgt := 171) hx hb dX10_init_149 (by decide) (fun h => absurd h (by decide)) (fun _ => ?_)
  refine lv_aload_n hx hb dX10_init_152 rfl (lv_at hl 1 rfl) ?_
  refine pg_get S Y ok_X10 4 (by decide) kf10_31 (v := .ref q_92603) p_h rfl dX10_init_153 ?_
  refine lv_iload_n hx hb dX10_init_156 rfl (lv_at hl 0 rfl) ?_
  refine pg_new S Y ok_X4 kc10_24 kn4 ki4 (fs := [.null, .null, .int 0, .int 0, .int 0, .int 0, .int 0]) (by decide) (by decide) (by decide) dX10_init_157 (fun q_92840 f_92841 H nq_92840 ef_92841 Y => ?_)
  have whkq_92840 := hk.notin nq_92840
  have hk := hk.push ef_92841 nq_92840
  have whkIq_92840 := hkI.notin nq_92840
  have hkI := hkI.push ef_92841 nq_92840
  have p_h := p_h.push ef_92841 nq_92840
  have p_q_92581 := p_q_92581.push ef_92841 nq_92840
  have p_q_92603 := p_q_92603.push ef_92841 nq_92840
  have p_q_92840 := pt.new (L := L_92805) ef_92841
  refine lv_dup hx hb dX10_init_160 rfl ?_
  refine cINv (b := q_92840) (As := []) (rest := [.ref q_92840, .int 0, .ref q_92603]) S Y (c_X4_init (l := l) p_q_92840) cw_X4_init km10_26 rfl ⟨Nat.le_of_ble_eq_true rfl, Nat.le_of_ble_eq_true rfl⟩ hl.1 rfl (Nat.le_of_ble_eq_true rfl) ⟨Nat.le_of_ble_eq_true rfl, Nat.le_of_ble_eq_true rfl⟩ dX10_init_161 (fun L_92842 f_92843 H locs hf_92843 Y => ?_)
  obtain ⟨a__92844, a__92845, kf_92843, z_z_92846, z_z_92847, z_z_92848, v_92849, v_92850⟩ := hf_92843
  have w_92851 := hk.notin v_92849
  have w_92852 := hkI.notin v_92849
  have w_92853 := hk.notin v_92850
  have w_92854 := hkI.notin v_92850
  have p_h := kf_92843.1 h _ (nmc (p_h.neK p_q_92840 (by decide)) nm0) p_h
  have p_q_92581 := kf_92843.1 q_92581 _ (nmc (p_q_92581.neB p_q_92840) nm0) p_q_92581
  have p_q_92603 := kf_92843.1 q_92603 _ (nmc (p_q_92603.neB p_q_92840) nm0) p_q_92603
  have p_q_92840 := z_z_92846
  have p_a__92844 := z_z_92847
  have p_a__92845 := z_z_92848
  have hk := hk.call kf_92843 (fun b hb hp => (nmc (neL hp whkq_92840) nm0))
  have hkI := hkI.call kf_92843 (fun b hb hp => (nmc (neL hp whkIq_92840) nm0))
  have nr_q_92840 : NRg gl_18 ad17 q_92840 := (SHC.nr I whkIq_92840)
  have nr_a__92844 : NRg gl_18 ad17 a__92844 := (SHC.nr I w_92852)
  have nr_a__92845 : NRg gl_18 ad17 a__92845 := (SHC.nr I w_92854)
  have I := I.kp hkI (allc nr_h (allc nr_q_92581 (allc nr_q_92603 all0)))
  have hkI : kp L_92842 f_92843 L_92842 f_92843 [h, q_92581, q_92603] := kp.rf
  obtain ⟨ad18, I, X_92855, Y_92856, Z_92857⟩ := SHC.led (l2 := gl_19) (n := 1) I rfl rfl rfl (by decide) rfl p_q_92840 p_a__92844 p_a__92845 nr_q_92840 nr_a__92844 nr_a__92845 
  have eq40_0 := (X_92855.2 40 0 (by decide)).trans eq40_0
  have eq41_0 := (X_92855.2 41 0 (by decide)).trans eq41_0
  have eq10_0 := (X_92855.2 10 0 (by decide)).trans eq10_0
  have eq20_0 := (X_92855.2 20 0 (by decide)).trans eq20_0
  have eq20_1 := (X_92855.2 20 1 (by decide)).trans eq20_1
  have eq20_2 := (X_92855.2 20 2 (by decide)).trans eq20_2
  have eq20_3 := (X_92855.2 20 3 (by decide)).trans eq20_3
  have eq20_4 := (X_92855.2 20 4 (by decide)).trans eq20_4
  have fam_sc := fam_x fam_sc X_92855 (by decide)
  have fam_pa := fam_x fam_pa X_92855 (by decide)
  have nr_h := Z_92857 _ nr_h (p_h.neK p_q_92840 (by decide)) (p_h.neA p_a__92844) (p_h.neA p_a__92845)
  have nr_q_92581 := Z_92857 _ nr_q_92581 (p_q_92581.neB p_q_92840) (p_q_92581.neN p_a__92844 (by decide)) (p_q_92581.neN p_a__92845 (by decide))
  have nr_q_92603 := Z_92857 _ nr_q_92603 (p_q_92603.neB p_q_92840) (p_q_92603.neN p_a__92844 (by decide)) (p_q_92603.neN p_a__92845 (by decide))
  have hout : ∀ x, x ∈ L → NRg gl_0 ad x → NRg gl_19 ad18 x := fun x hx hn => Z_92857 x (hout x hx hn) (fun e => whkq_92840 (by rw [← e]; exact hx)) (fun e => w_92851 (by rw [← e]; exact hx)) (fun e => w_92853 (by rw [← e]; exact hx))
  have hext := hext.tr X_92855
  have eq10_1 := Y_92856
  have hkI : kp L_92842 f_92843 L_92842 f_92843 [h, q_92581, q_92603] := kp.rf
  refine pg_aast S Y (k := 3) p_q_92603 rfl p_q_92840 ok_X4.1 (by unfold vp_in; decide) dX10_init_164 (fun f_92859 H locs ef_92859 Y => ?_)
  obtain ⟨g_92858, eg_92858⟩ : ∃ z, z = va_up ((fun _ => none)) (0 : Int32).toNatClampNeg (some q_92840) := ⟨_, rfl⟩
  rw [← eg_92858] at ef_92859
  have p_h := p_h.up ef_92859 ((p_h.neA p_q_92603))
  have p_q_92581 := p_q_92581.up ef_92859 ((p_q_92581.neN p_q_92603 (by decide)))
  have p_q_92840 := p_q_92840.up ef_92859 ((p_q_92840.neA p_q_92603))
  have p_q_92603 := p_q_92603.me ef_92859
  have hk := hk.upN ef_92859 whkq_92603
  have hkI := hkI.up ef_92859 (by simp)
  have fam_pa := fam_s (i := 0) fam_pa eq10_1 eg_92858
  refine lv_iinc (v := 1) (lv' := [(1, .int 1), (0, .ref h)]) hx hb dX10_init_165 hl (k := 0) rfl (by decide) (by decide) rfl (fun ls hl => ?_)
  refine lv_goto (tgt := 146) hx hb dX10_init_168 (by decide) ?_
  refine lv_iload_n hx hb dX10_init_146 rfl (lv_at hl 0 rfl) ?_
  refine lv_bipush (v := 30) hx hb dX10_init_147 (by decide) ?_
  refine lv_icmp_ge (tgt := 171) hx hb dX10_init_149 (by decide) (fun h => absurd h (by decide)) (fun _ => ?_)
  refine lv_aload_n hx hb dX10_init_152 rfl (lv_at hl 1 rfl) ?_
  refine pg_get S Y ok_X10 4 (by decide) kf10_31 (v := .ref q_92603) p_h rfl dX10_init_153 ?_
  refine lv_iload_n hx hb dX10_init_156 rfl (lv_at hl 0 rfl) ?_
  refine pg_new S Y ok_X4 kc10_24 kn4 ki4 (fs := [.null, .null, .int 0, .int 0, .int 0, .int 0, .int 0]) (by decide) (by decide) (by decide) dX10_init_157 (fun q_92860 f_92861 H nq_92860 ef_92861 Y => ?_)
  have whkq_92860 := hk.notin nq_92860
  have hk := hk.push ef_92861 nq_92860
  have whkIq_92860 := hkI.notin nq_92860
  have hkI := hkI.push ef_92861 nq_92860
  have p_h := p_h.push ef_92861 nq_92860
  have p_q_92581 := p_q_92581.push ef_92861 nq_92860
  have p_q_92603 := p_q_92603.push ef_92861 nq_92860
  have p_q_92860 := pt.new (L := L_92842) ef_92861
  refine lv_dup hx hb dX10_init_160 rfl ?_
  refine cINv (b := q_92860) (As := []) (rest := [.ref q_92860, .int 1, .ref q_92603]) S Y (c_X4_init (l := l) p_q_92860) cw_X4_init km10_26 rfl ⟨Nat.le_of_ble_eq_true rfl, Nat.le_of_ble_eq_true rfl⟩ hl.1 rfl (Nat.le_of_ble_eq_true rfl) ⟨Nat.le_of_ble_eq_true rfl, Nat.le_of_ble_eq_true rfl⟩ dX10_init_161 (fun L_92862 f_92863 H locs hf_92863 Y => ?_)
  obtain ⟨a__92864, a__92865, kf_92863, z_z_92866, z_z_92867, z_z_92868, v_92869, v_92870⟩ := hf_92863
  have w_92871 := hk.notin v_92869
  have w_92872 := hkI.notin v_92869
  have w_92873 := hk.notin v_92870
  have w_92874 := hkI.notin v_92870
  have p_h := kf_92863.1 h _ (nmc (p_h.neK p_q_92860 (by decide)) nm0) p_h
  have p_q_92581 := kf_92863.1 q_92581 _ (nmc (p_q_92581.neB p_q_92860) nm0) p_q_92581
  have p_q_92603 := kf_92863.1 q_92603 _ (nmc (p_q_92603.neB p_q_92860) nm0) p_q_92603
  have p_q_92860 := z_z_92866
  have p_a__92864 := z_z_92867
  have p_a__92865 := z_z_92868
  have hk := hk.call kf_92863 (fun b hb hp => (nmc (neL hp whkq_92860) nm0))
  have hkI := hkI.call kf_92863 (fun b hb hp => (nmc (neL hp whkIq_92860) nm0))
  have nr_q_92860 : NRg gl_19 ad18 q_92860 := (SHC.nr I whkIq_92860)
  have nr_a__92864 : NRg gl_19 ad18 a__92864 := (SHC.nr I w_92872)
  have nr_a__92865 : NRg gl_19 ad18 a__92865 := (SHC.nr I w_92874)
  have I := I.kp hkI (allc nr_h (allc nr_q_92581 (allc nr_q_92603 all0)))
  have hkI : kp L_92862 f_92863 L_92862 f_92863 [h, q_92581, q_92603] := kp.rf
  obtain ⟨ad19, I, X_92875, Y_92876, Z_92877⟩ := SHC.led (l2 := gl_20) (n := 2) I rfl rfl rfl (by decide) rfl p_q_92860 p_a__92864 p_a__92865 nr_q_92860 nr_a__92864 nr_a__92865 
  have eq40_0 := (X_92875.2 40 0 (by decide)).trans eq40_0
  have eq41_0 := (X_92875.2 41 0 (by decide)).trans eq41_0
  have eq10_0 := (X_92875.2 10 0 (by decide)).trans eq10_0
  have eq20_0 := (X_92875.2 20 0 (by decide)).trans eq20_0
  have eq20_1 := (X_92875.2 20 1 (by decide)).trans eq20_1
  have eq20_2 := (X_92875.2 20 2 (by decide)).trans eq20_2
  have eq20_3 := (X_92875.2 20 3 (by decide)).trans eq20_3
  have eq20_4 := (X_92875.2 20 4 (by decide)).trans eq20_4
  have fam_sc := fam_x fam_sc X_92875 (by decide)
  have fam_pa := fam_x fam_pa X_92875 (by decide)
  have nr_h := Z_92877 _ nr_h (p_h.neK p_q_92860 (by decide)) (p_h.neA p_a__92864) (p_h.neA p_a__92865)
  have nr_q_92581 := Z_92877 _ nr_q_92581 (p_q_92581.neB p_q_92860) (p_q_92581.neN p_a__92864 (by decide)) (p_q_92581.neN p_a__92865 (by decide))
  have nr_q_92603 := Z_92877 _ nr_q_92603 (p_q_92603.neB p_q_92860) (p_q_92603.neN p_a__92864 (by decide)) (p_q_92603.neN p_a__92865 (by decide))
  have hout : ∀ x, x ∈ L → NRg gl_0 ad x → NRg gl_20 ad19 x := fun x hx hn => Z_92877 x (hout x hx hn) (fun e => whkq_92860 (by rw [← e]; exact hx)) (fun e => w_92871 (by rw [← e]; exact hx)) (fun e => w_92873 (by rw [← e]; exact hx))
  have hext := hext.tr X_92875
  have eq10_2 := Y_92876
  have hkI : kp L_92862 f_92863 L_92862 f_92863 [h, q_92581, q_92603] := kp.rf
  refine pg_aast S Y (k := 3) p_q_92603 rfl p_q_92860 ok_X4.1 (by unfold vp_in; decide) dX10_init_164 (fun f_92879 H locs ef_92879 Y => ?_)
  obtain ⟨g_92878, eg_92878⟩ : ∃ z, z = va_up (g_92858) (1 : Int32).toNatClampNeg (some q_92860) := ⟨_, rfl⟩
  rw [← eg_92878] at ef_92879
  have p_h := p_h.up ef_92879 ((p_h.neA p_q_92603))
  have p_q_92581 := p_q_92581.up ef_92879 ((p_q_92581.neN p_q_92603 (by decide)))
  have p_q_92860 := p_q_92860.up ef_92879 ((p_q_92860.neA p_q_92603))
  have p_q_92603 := p_q_92603.me ef_92879
  have hk := hk.upN ef_92879 whkq_92603
  have hkI := hkI.up ef_92879 (by simp)
  have fam_pa := fam_s (i := 1) fam_pa eq10_2 eg_92878
  refine lv_iinc (v := 2) (lv' := [(1, .int 2), (0, .ref h)]) hx hb dX10_init_165 hl (k := 0) rfl (by decide) (by decide) rfl (fun ls hl => ?_)
  refine lv_goto (tgt := 146) hx hb dX10_init_168 (by decide) ?_
  refine lv_iload_n hx hb dX10_init_146 rfl (lv_at hl 0 rfl) ?_
  refine lv_bipush (v := 30) hx hb dX10_init_147 (by decide) ?_
  refine lv_icmp_ge (tgt := 171) hx hb dX10_init_149 (by decide) (fun h => absurd h (by decide)) (fun _ => ?_)
  refine lv_aload_n hx hb dX10_init_152 rfl (lv_at hl 1 rfl) ?_
  refine pg_get S Y ok_X10 4 (by decide) kf10_31 (v := .ref q_92603) p_h rfl dX10_init_153 ?_
  refine lv_iload_n hx hb dX10_init_156 rfl (lv_at hl 0 rfl) ?_
  refine pg_new S Y ok_X4 kc10_24 kn4 ki4 (fs := [.null, .null, .int 0, .int 0, .int 0, .int 0, .int 0]) (by decide) (by decide) (by decide) dX10_init_157 (fun q_92880 f_92881 H nq_92880 ef_92881 Y => ?_)
  have whkq_92880 := hk.notin nq_92880
  have hk := hk.push ef_92881 nq_92880
  have whkIq_92880 := hkI.notin nq_92880
  have hkI := hkI.push ef_92881 nq_92880
  have p_h := p_h.push ef_92881 nq_92880
  have p_q_92581 := p_q_92581.push ef_92881 nq_92880
  have p_q_92603 := p_q_92603.push ef_92881 nq_92880
  have p_q_92880 := pt.new (L := L_92862) ef_92881
  refine lv_dup hx hb dX10_init_160 rfl ?_
  refine cINv (b := q_92880) (As := []) (rest := [.ref q_92880, .int 2, .ref q_92603]) S Y (c_X4_init (l := l) p_q_92880) cw_X4_init km10_26 rfl ⟨Nat.le_of_ble_eq_true rfl, Nat.le_of_ble_eq_true rfl⟩ hl.1 rfl (Nat.le_of_ble_eq_true rfl) ⟨Nat.le_of_ble_eq_true rfl, Nat.le_of_ble_eq_true rfl⟩ dX10_init_161 (fun L_92882 f_92883 H locs hf_92883 Y => ?_)
  obtain ⟨a__92884, a__92885, kf_92883, z_z_92886, z_z_92887, z_z_92888, v_92889, v_92890⟩ := hf_92883
  have w_92891 := hk.notin v_92889
  have w_92892 := hkI.notin v_92889
  have w_92893 := hk.notin v_92890
  have w_92894 := hkI.notin v_92890
  have p_h := kf_92883.1 h _ (nmc (p_h.neK p_q_92880 (by decide)) nm0) p_h
  have p_q_92581 := kf_92883.1 q_92581 _ (nmc (p_q_92581.neB p_q_92880) nm0) p_q_92581
  have p_q_92603 := kf_92883.1 q_92603 _ (nmc (p_q_92603.neB p_q_92880) nm0) p_q_92603
  have p_q_92880 := z_z_92886
  have p_a__92884 := z_z_92887
  have p_a__92885 := z_z_92888
  have hk := hk.call kf_92883 (fun b hb hp => (nmc (neL hp whkq_92880) nm0))
  have hkI := hkI.call kf_92883 (fun b hb hp => (nmc (neL hp whkIq_92880) nm0))
  have nr_q_92880 : NRg gl_20 ad19 q_92880 := (SHC.nr I whkIq_92880)
  have nr_a__92884 : NRg gl_20 ad19 a__92884 := (SHC.nr I w_92892)
  have nr_a__92885 : NRg gl_20 ad19 a__92885 := (SHC.nr I w_92894)
  have I := I.kp hkI (allc nr_h (allc nr_q_92581 (allc nr_q_92603 all0)))
  have hkI : kp L_92882 f_92883 L_92882 f_92883 [h, q_92581, q_92603] := kp.rf
  obtain ⟨ad20, I, X_92895, Y_92896, Z_92897⟩ := SHC.led (l2 := gl_21) (n := 3) I rfl rfl rfl (by decide) rfl p_q_92880 p_a__92884 p_a__92885 nr_q_92880 nr_a__92884 nr_a__92885 
  have eq40_0 := (X_92895.2 40 0 (by decide)).trans eq40_0
  have eq41_0 := (X_92895.2 41 0 (by decide)).trans eq41_0
  have eq10_0 := (X_92895.2 10 0 (by decide)).trans eq10_0
  have eq20_0 := (X_92895.2 20 0 (by decide)).trans eq20_0
  have eq20_1 := (X_92895.2 20 1 (by decide)).trans eq20_1
  have eq20_2 := (X_92895.2 20 2 (by decide)).trans eq20_2
  have eq20_3 := (X_92895.2 20 3 (by decide)).trans eq20_3
  have eq20_4 := (X_92895.2 20 4 (by decide)).trans eq20_4
  have fam_sc := fam_x fam_sc X_92895 (by decide)
  have fam_pa := fam_x fam_pa X_92895 (by decide)
  have nr_h := Z_92897 _ nr_h (p_h.neK p_q_92880 (by decide)) (p_h.neA p_a__92884) (p_h.neA p_a__92885)
  have nr_q_92581 := Z_92897 _ nr_q_92581 (p_q_92581.neB p_q_92880) (p_q_92581.neN p_a__92884 (by decide)) (p_q_92581.neN p_a__92885 (by decide))
  have nr_q_92603 := Z_92897 _ nr_q_92603 (p_q_92603.neB p_q_92880) (p_q_92603.neN p_a__92884 (by decide)) (p_q_92603.neN p_a__92885 (by decide))
  have hout : ∀ x, x ∈ L → NRg gl_0 ad x → NRg gl_21 ad20 x := fun x hx hn => Z_92897 x (hout x hx hn) (fun e => whkq_92880 (by rw [← e]; exact hx)) (fun e => w_92891 (by rw [← e]; exact hx)) (fun e => w_92893 (by rw [← e]; exact hx))
  have hext := hext.tr X_92895
  have eq10_3 := Y_92896
  have hkI : kp L_92882 f_92883 L_92882 f_92883 [h, q_92581, q_92603] := kp.rf
  refine pg_aast S Y (k := 3) p_q_92603 rfl p_q_92880 ok_X4.1 (by unfold vp_in; decide) dX10_init_164 (fun f_92899 H locs ef_92899 Y => ?_)
  obtain ⟨g_92898, eg_92898⟩ : ∃ z, z = va_up (g_92878) (2 : Int32).toNatClampNeg (some q_92880) := ⟨_, rfl⟩
  rw [← eg_92898] at ef_92899
  have p_h := p_h.up ef_92899 ((p_h.neA p_q_92603))
  have p_q_92581 := p_q_92581.up ef_92899 ((p_q_92581.neN p_q_92603 (by decide)))
  have p_q_92880 := p_q_92880.up ef_92899 ((p_q_92880.neA p_q_92603))
  have p_q_92603 := p_q_92603.me ef_92899
  have hk := hk.upN ef_92899 whkq_92603
  have hkI := hkI.up ef_92899 (by simp)
  have fam_pa := fam_s (i := 2) fam_pa eq10_3 eg_92898
  refine lv_iinc (v := 3) (lv' := [(1, .int 3), (0, .ref h)]) hx hb dX10_init_165 hl (k := 0) rfl (by decide) (by decide) rfl (fun ls hl => ?_)
  refine lv_goto (tgt := 146) hx hb dX10_init_168 (by decide) ?_
  refine lv_iload_n hx hb dX10_init_146 rfl (lv_at hl 0 rfl) ?_
  refine lv_bipush (v := 30) hx hb dX10_init_147 (by decide) ?_
  refine lv_icmp_ge (tgt := 171) hx hb dX10_init_149 (by decide) (fun h => absurd h (by decide)) (fun _ => ?_)
  refine lv_aload_n hx hb dX10_init_152 rfl (lv_at hl 1 rfl) ?_
  refine pg_get S Y ok_X10 4 (by decide) kf10_31 (v := .ref q_92603) p_h rfl dX10_init_153 ?_
  refine lv_iload_n hx hb dX10_init_156 rfl (lv_at hl 0 rfl) ?_
  refine pg_new S Y ok_X4 kc10_24 kn4 ki4 (fs := [.null, .null, .int 0, .int 0, .int 0, .int 0, .int 0]) (by decide) (by decide) (by decide) dX10_init_157 (fun q_92900 f_92901 H nq_92900 ef_92901 Y => ?_)
  have whkq_92900 := hk.notin nq_92900
  have hk := hk.push ef_92901 nq_92900
  have whkIq_92900 := hkI.notin nq_92900
  have hkI := hkI.push ef_92901 nq_92900
  have p_h := p_h.push ef_92901 nq_92900
  have p_q_92581 := p_q_92581.push ef_92901 nq_92900
  have p_q_92603 := p_q_92603.push ef_92901 nq_92900
  have p_q_92900 := pt.new (L := L_92882) ef_92901
  refine lv_dup hx hb dX10_init_160 rfl ?_
  refine cINv (b := q_92900) (As := []) (rest := [.ref q_92900, .int 3, .ref q_92603]) S Y (c_X4_init (l := l) p_q_92900) cw_X4_init km10_26 rfl ⟨Nat.le_of_ble_eq_true rfl, Nat.le_of_ble_eq_true rfl⟩ hl.1 rfl (Nat.le_of_ble_eq_true rfl) ⟨Nat.le_of_ble_eq_true rfl, Nat.le_of_ble_eq_true rfl⟩ dX10_init_161 (fun L_92902 f_92903 H locs hf_92903 Y => ?_)
  obtain ⟨a__92904, a__92905, kf_92903, z_z_92906, z_z_92907, z_z_92908, v_92909, v_92910⟩ := hf_92903
  have w_92911 := hk.notin v_92909
  have w_92912 := hkI.notin v_92909
  have w_92913 := hk.notin v_92910
  have w_92914 := hkI.notin v_92910
  have p_h := kf_92903.1 h _ (nmc (p_h.neK p_q_92900 (by decide)) nm0) p_h
  have p_q_92581 := kf_92903.1 q_92581 _ (nmc (p_q_92581.neB p_q_92900) nm0) p_q_92581
  have p_q_92603 := kf_92903.1 q_92603 _ (nmc (p_q_92603.neB p_q_92900) nm0) p_q_92603
  have p_q_92900 := z_z_92906
  have p_a__92904 := z_z_92907
  have p_a__92905 := z_z_92908
  have hk := hk.call kf_92903 (fun b hb hp => (nmc (neL hp whkq_92900) nm0))
  have hkI := hkI.call kf_92903 (fun b hb hp => (nmc (neL hp whkIq_92900) nm0))
  have nr_q_92900 : NRg gl_21 ad20 q_92900 := (SHC.nr I whkIq_92900)
  have nr_a__92904 : NRg gl_21 ad20 a__92904 := (SHC.nr I w_92912)
  have nr_a__92905 : NRg gl_21 ad20 a__92905 := (SHC.nr I w_92914)
  have I := I.kp hkI (allc nr_h (allc nr_q_92581 (allc nr_q_92603 all0)))
  have hkI : kp L_92902 f_92903 L_92902 f_92903 [h, q_92581, q_92603] := kp.rf
  obtain ⟨ad21, I, X_92915, Y_92916, Z_92917⟩ := SHC.led (l2 := gl_22) (n := 4) I rfl rfl rfl (by decide) rfl p_q_92900 p_a__92904 p_a__92905 nr_q_92900 nr_a__92904 nr_a__92905 
  have eq40_0 := (X_92915.2 40 0 (by decide)).trans eq40_0
  have eq41_0 := (X_92915.2 41 0 (by decide)).trans eq41_0
  have eq10_0 := (X_92915.2 10 0 (by decide)).trans eq10_0
  have eq20_0 := (X_92915.2 20 0 (by decide)).trans eq20_0
  have eq20_1 := (X_92915.2 20 1 (by decide)).trans eq20_1
  have eq20_2 := (X_92915.2 20 2 (by decide)).trans eq20_2
  have eq20_3 := (X_92915.2 20 3 (by decide)).trans eq20_3
  have eq20_4 := (X_92915.2 20 4 (by decide)).trans eq20_4
  have fam_sc := fam_x fam_sc X_92915 (by decide)
  have fam_pa := fam_x fam_pa X_92915 (by decide)
  have nr_h := Z_92917 _ nr_h (p_h.neK p_q_92900 (by decide)) (p_h.neA p_a__92904) (p_h.neA p_a__92905)
  have nr_q_92581 := Z_92917 _ nr_q_92581 (p_q_92581.neB p_q_92900) (p_q_92581.neN p_a__92904 (by decide)) (p_q_92581.neN p_a__92905 (by decide))
  have nr_q_92603 := Z_92917 _ nr_q_92603 (p_q_92603.neB p_q_92900) (p_q_92603.neN p_a__92904 (by decide)) (p_q_92603.neN p_a__92905 (by decide))
  have hout : ∀ x, x ∈ L → NRg gl_0 ad x → NRg gl_22 ad21 x := fun x hx hn => Z_92917 x (hout x hx hn) (fun e => whkq_92900 (by rw [← e]; exact hx)) (fun e => w_92911 (by rw [← e]; exact hx)) (fun e => w_92913 (by rw [← e]; exact hx))
  have hext := hext.tr X_92915
  have eq10_4 := Y_92916
  have hkI : kp L_92902 f_92903 L_92902 f_92903 [h, q_92581, q_92603] := kp.rf
  refine pg_aast S Y (k := 3) p_q_92603 rfl p_q_92900 ok_X4.1 (by unfold vp_in; decide) dX10_init_164 (fun f_92919 H locs ef_92919 Y => ?_)
  obtain ⟨g_92918, eg_92918⟩ : ∃ z, z = va_up (g_92898) (3 : Int32).toNatClampNeg (some q_92900) := ⟨_, rfl⟩
  rw [← eg_92918] at ef_92919
  have p_h := p_h.up ef_92919 ((p_h.neA p_q_92603))
  have p_q_92581 := p_q_92581.up ef_92919 ((p_q_92581.neN p_q_92603 (by decide)))
  have p_q_92900 := p_q_92900.up ef_92919 ((p_q_92900.neA p_q_92603))
  have p_q_92603 := p_q_92603.me ef_92919
  have hk := hk.upN ef_92919 whkq_92603
  have hkI := hkI.up ef_92919 (by simp)
  have fam_pa := fam_s (i := 3) fam_pa eq10_4 eg_92918
  refine lv_iinc (v := 4) (lv' := [(1, .int 4), (0, .ref h)]) hx hb dX10_init_165 hl (k := 0) rfl (by decide) (by decide) rfl (fun ls hl => ?_)
  refine lv_goto (tgt := 146) hx hb dX10_init_168 (by decide) ?_
  refine lv_iload_n hx hb dX10_init_146 rfl (lv_at hl 0 rfl) ?_
  refine lv_bipush (v := 30) hx hb dX10_init_147 (by decide) ?_
  refine lv_icmp_ge (tgt := 171) hx hb dX10_init_149 (by decide) (fun h => absurd h (by decide)) (fun _ => ?_)
  refine lv_aload_n hx hb dX10_init_152 rfl (lv_at hl 1 rfl) ?_
  refine pg_get S Y ok_X10 4 (by decide) kf10_31 (v := .ref q_92603) p_h rfl dX10_init_153 ?_
  refine lv_iload_n hx hb dX10_init_156 rfl (lv_at hl 0 rfl) ?_
  refine pg_new S Y ok_X4 kc10_24 kn4 ki4 (fs := [.null, .null, .int 0, .int 0, .int 0, .int 0, .int 0]) (by decide) (by decide) (by decide) dX10_init_157 (fun q_92920 f_92921 H nq_92920 ef_92921 Y => ?_)
  have whkq_92920 := hk.notin nq_92920
  have hk := hk.push ef_92921 nq_92920
  have whkIq_92920 := hkI.notin nq_92920
  have hkI := hkI.push ef_92921 nq_92920
  have p_h := p_h.push ef_92921 nq_92920
  have p_q_92581 := p_q_92581.push ef_92921 nq_92920
  have p_q_92603 := p_q_92603.push ef_92921 nq_92920
  have p_q_92920 := pt.new (L := L_92902) ef_92921
  refine lv_dup hx hb dX10_init_160 rfl ?_
  refine cINv (b := q_92920) (As := []) (rest := [.ref q_92920, .int 4, .ref q_92603]) S Y (c_X4_init (l := l) p_q_92920) cw_X4_init km10_26 rfl ⟨Nat.le_of_ble_eq_true rfl, Nat.le_of_ble_eq_true rfl⟩ hl.1 rfl (Nat.le_of_ble_eq_true rfl) ⟨Nat.le_of_ble_eq_true rfl, Nat.le_of_ble_eq_true rfl⟩ dX10_init_161 (fun L_92922 f_92923 H locs hf_92923 Y => ?_)
  obtain ⟨a__92924, a__92925, kf_92923, z_z_92926, z_z_92927, z_z_92928, v_92929, v_92930⟩ := hf_92923
  have w_92931 := hk.notin v_92929
  have w_92932 := hkI.notin v_92929
  have w_92933 := hk.notin v_92930
  have w_92934 := hkI.notin v_92930
  have p_h := kf_92923.1 h _ (nmc (p_h.neK p_q_92920 (by decide)) nm0) p_h
  have p_q_92581 := kf_92923.1 q_92581 _ (nmc (p_q_92581.neB p_q_92920) nm0) p_q_92581
  have p_q_92603 := kf_92923.1 q_92603 _ (nmc (p_q_92603.neB p_q_92920) nm0) p_q_92603
  have p_q_92920 := z_z_92926
  have p_a__92924 := z_z_92927
  have p_a__92925 := z_z_92928
  have hk := hk.call kf_92923 (fun b hb hp => (nmc (neL hp whkq_92920) nm0))
  have hkI := hkI.call kf_92923 (fun b hb hp => (nmc (neL hp whkIq_92920) nm0))
  have nr_q_92920 : NRg gl_22 ad21 q_92920 := (SHC.nr I whkIq_92920)
  have nr_a__92924 : NRg gl_22 ad21 a__92924 := (SHC.nr I w_92932)
  have nr_a__92925 : NRg gl_22 ad21 a__92925 := (SHC.nr I w_92934)
  have I := I.kp hkI (allc nr_h (allc nr_q_92581 (allc nr_q_92603 all0)))
  have hkI : kp L_92922 f_92923 L_92922 f_92923 [h, q_92581, q_92603] := kp.rf
  obtain ⟨ad22, I, X_92935, Y_92936, Z_92937⟩ := SHC.led (l2 := gl_23) (n := 5) I rfl rfl rfl (by decide) rfl p_q_92920 p_a__92924 p_a__92925 nr_q_92920 nr_a__92924 nr_a__92925 
  have eq40_0 := (X_92935.2 40 0 (by decide)).trans eq40_0
  have eq41_0 := (X_92935.2 41 0 (by decide)).trans eq41_0
  have eq10_0 := (X_92935.2 10 0 (by decide)).trans eq10_0
  have eq20_0 := (X_92935.2 20 0 (by decide)).trans eq20_0
  have eq20_1 := (X_92935.2 20 1 (by decide)).trans eq20_1
  have eq20_2 := (X_92935.2 20 2 (by decide)).trans eq20_2
  have eq20_3 := (X_92935.2 20 3 (by decide)).trans eq20_3
  have eq20_4 := (X_92935.2 20 4 (by decide)).trans eq20_4
  have fam_sc := fam_x fam_sc X_92935 (by decide)
  have fam_pa := fam_x fam_pa X_92935 (by decide)
  have nr_h := Z_92937 _ nr_h (p_h.neK p_q_92920 (by decide)) (p_h.neA p_a__92924) (p_h.neA p_a__92925)
  have nr_q_92581 := Z_92937 _ nr_q_92581 (p_q_92581.neB p_q_92920) (p_q_92581.neN p_a__92924 (by decide)) (p_q_92581.neN p_a__92925 (by decide))
  have nr_q_92603 := Z_92937 _ nr_q_92603 (p_q_92603.neB p_q_92920) (p_q_92603.neN p_a__92924 (by decide)) (p_q_92603.neN p_a__92925 (by decide))
  have hout : ∀ x, x ∈ L → NRg gl_0 ad x → NRg gl_23 ad22 x := fun x hx hn => Z_92937 x (hout x hx hn) (fun e => whkq_92920 (by rw [← e]; exact hx)) (fun e => w_92931 (by rw [← e]; exact hx)) (fun e => w_92933 (by rw [← e]; exact hx))
  have hext := hext.tr X_92935
  have eq10_5 := Y_92936
  have hkI : kp L_92922 f_92923 L_92922 f_92923 [h, q_92581, q_92603] := kp.rf
  refine pg_aast S Y (k := 3) p_q_92603 rfl p_q_92920 ok_X4.1 (by unfold vp_in; decide) dX10_init_164 (fun f_92939 H locs ef_92939 Y => ?_)
  obtain ⟨g_92938, eg_92938⟩ : ∃ z, z = va_up (g_92918) (4 : Int32).toNatClampNeg (some q_92920) := ⟨_, rfl⟩
  rw [← eg_92938] at ef_92939
  have p_h := p_h.up ef_92939 ((p_h.neA p_q_92603))
  have p_q_92581 := p_q_92581.up ef_92939 ((p_q_92581.neN p_q_92603 (by decide)))
  have p_q_92920 := p_q_92920.up ef_92939 ((p_q_92920.neA p_q_92603))
  have p_q_92603 := p_q_92603.me ef_92939
  have hk := hk.upN ef_92939 whkq_92603
  have hkI := hkI.up ef_92939 (by simp)
  have fam_pa := fam_s (i := 4) fam_pa eq10_5 eg_92938
  refine lv_iinc (v := 5) (lv' := [(1, .int 5), (0, .ref h)]) hx hb dX10_init_165 hl (k := 0) rfl (by decide) (by decide) rfl (fun ls hl => ?_)
  refine lv_goto (tgt := 146) hx hb dX10_init_168 (by decide) ?_
  refine lv_iload_n hx hb dX10_init_146 rfl (lv_at hl 0 rfl) ?_
  refine lv_bipush (v := 30) hx hb dX10_init_147 (by decide) ?_
  refine lv_icmp_ge (tgt := 171) hx hb dX10_init_149 (by decide) (fun h => absurd h (by decide)) (fun _ => ?_)
  refine lv_aload_n hx hb dX10_init_152 rfl (lv_at hl 1 rfl) ?_
  refine pg_get S Y ok_X10 4 (by decide) kf10_31 (v := .ref q_92603) p_h rfl dX10_init_153 ?_
  refine lv_iload_n hx hb dX10_init_156 rfl (lv_at hl 0 rfl) ?_
  refine pg_new S Y ok_X4 kc10_24 kn4 ki4 (fs := [.null, .null, .int 0, .int 0, .int 0, .int 0, .int 0]) (by decide) (by decide) (by decide) dX10_init_157 (fun q_92940 f_92941 H nq_92940 ef_92941 Y => ?_)
  have whkq_92940 := hk.notin nq_92940
  have hk := hk.push ef_92941 nq_92940
  have whkIq_92940 := hkI.notin nq_92940
  have hkI := hkI.push ef_92941 nq_92940
  have p_h := p_h.push ef_92941 nq_92940
  have p_q_92581 := p_q_92581.push ef_92941 nq_92940
  have p_q_92603 := p_q_92603.push ef_92941 nq_92940
  have p_q_92940 := pt.new (L := L_92922) ef_92941
  refine lv_dup hx hb dX10_init_160 rfl ?_
  refine cINv (b := q_92940) (As := []) (rest := [.ref q_92940, .int 5, .ref q_92603]) S Y (c_X4_init (l := l) p_q_92940) cw_X4_init km10_26 rfl ⟨Nat.le_of_ble_eq_true rfl, Nat.le_of_ble_eq_true rfl⟩ hl.1 rfl (Nat.le_of_ble_eq_true rfl) ⟨Nat.le_of_ble_eq_true rfl, Nat.le_of_ble_eq_true rfl⟩ dX10_init_161 (fun L_92942 f_92943 H locs hf_92943 Y => ?_)
  obtain ⟨a__92944, a__92945, kf_92943, z_z_92946, z_z_92947, z_z_92948, v_92949, v_92950⟩ := hf_92943
  have w_92951 := hk.notin v_92949
  have w_92952 := hkI.notin v_92949
  have w_92953 := hk.notin v_92950
  have w_92954 := hkI.notin v_92950
  have p_h := kf_92943.1 h _ (nmc (p_h.neK p_q_92940 (by decide)) nm0) p_h
  have p_q_92581 := kf_92943.1 q_92581 _ (nmc (p_q_92581.neB p_q_92940) nm0) p_q_92581
  have p_q_92603 := kf_92943.1 q_92603 _ (nmc (p_q_92603.neB p_q_92940) nm0) p_q_92603
  have p_q_92940 := z_z_92946
  have p_a__92944 := z_z_92947
  have p_a__92945 := z_z_92948
  have hk := hk.call kf_92943 (fun b hb hp => (nmc (neL hp whkq_92940) nm0))
  have hkI := hkI.call kf_92943 (fun b hb hp => (nmc (neL hp whkIq_92940) nm0))
  have nr_q_92940 : NRg gl_23 ad22 q_92940 := (SHC.nr I whkIq_92940)
  have nr_a__92944 : NRg gl_23 ad22 a__92944 := (SHC.nr I w_92952)
  have nr_a__92945 : NRg gl_23 ad22 a__92945 := (SHC.nr I w_92954)
  have I := I.kp hkI (allc nr_h (allc nr_q_92581 (allc nr_q_92603 all0)))
  have hkI : kp L_92942 f_92943 L_92942 f_92943 [h, q_92581, q_92603] := kp.rf
  obtain ⟨ad23, I, X_92955, Y_92956, Z_92957⟩ := SHC.led (l2 := gl_24) (n := 6) I rfl rfl rfl (by decide) rfl p_q_92940 p_a__92944 p_a__92945 nr_q_92940 nr_a__92944 nr_a__92945 
  have eq40_0 := (X_92955.2 40 0 (by decide)).trans eq40_0
  have eq41_0 := (X_92955.2 41 0 (by decide)).trans eq41_0
  have eq10_0 := (X_92955.2 10 0 (by decide)).trans eq10_0
  have eq20_0 := (X_92955.2 20 0 (by decide)).trans eq20_0
  have eq20_1 := (X_92955.2 20 1 (by decide)).trans eq20_1
  have eq20_2 := (X_92955.2 20 2 (by decide)).trans eq20_2
  have eq20_3 := (X_92955.2 20 3 (by decide)).trans eq20_3
  have eq20_4 := (X_92955.2 20 4 (by decide)).trans eq20_4
  have fam_sc := fam_x fam_sc X_92955 (by decide)
  have fam_pa := fam_x fam_pa X_92955 (by decide)
  have nr_h := Z_92957 _ nr_h (p_h.neK p_q_92940 (by decide)) (p_h.neA p_a__92944) (p_h.neA p_a__92945)
  have nr_q_92581 := Z_92957 _ nr_q_92581 (p_q_92581.neB p_q_92940) (p_q_92581.neN p_a__92944 (by decide)) (p_q_92581.neN p_a__92945 (by decide))
  have nr_q_92603 := Z_92957 _ nr_q_92603 (p_q_92603.neB p_q_92940) (p_q_92603.neN p_a__92944 (by decide)) (p_q_92603.neN p_a__92945 (by decide))
  have hout : ∀ x, x ∈ L → NRg gl_0 ad x → NRg gl_24 ad23 x := fun x hx hn => Z_92957 x (hout x hx hn) (fun e => whkq_92940 (by rw [← e]; exact hx)) (fun e => w_92951 (by rw [← e]; exact hx)) (fun e => w_92953 (by rw [← e]; exact hx))
  have hext := hext.tr X_92955
  have eq10_6 := Y_92956
  have hkI : kp L_92942 f_92943 L_92942 f_92943 [h, q_92581, q_92603] := kp.rf
  refine pg_aast S Y (k := 3) p_q_92603 rfl p_q_92940 ok_X4.1 (by unfold vp_in; decide) dX10_init_164 (fun f_92959 H locs ef_92959 Y => ?_)
  obtain ⟨g_92958, eg_92958⟩ : ∃ z, z = va_up (g_92938) (5 : Int32).toNatClampNeg (some q_92940) := ⟨_, rfl⟩
  rw [← eg_92958] at ef_92959
  have p_h := p_h.up ef_92959 ((p_h.neA p_q_92603))
  have p_q_92581 := p_q_92581.up ef_92959 ((p_q_92581.neN p_q_92603 (by decide)))
  have p_q_92940 := p_q_92940.up ef_92959 ((p_q_92940.neA p_q_92603))
  have p_q_92603 := p_q_92603.me ef_92959
  have hk := hk.upN ef_92959 whkq_92603
  have hkI := hkI.up ef_92959 (by simp)
  have fam_pa := fam_s (i := 5) fam_pa eq10_6 eg_92958
  refine lv_iinc (v := 6) (lv' := [(1, .int 6), (0, .ref h)]) hx hb dX10_init_165 hl (k := 0) rfl (by decide) (by decide) rfl (fun ls hl => ?_)
  refine lv_goto (tgt := 146) hx hb dX10_init_168 (by decide) ?_
  refine lv_iload_n hx hb dX10_init_146 rfl (lv_at hl 0 rfl) ?_
  refine lv_bipush (v := 30) hx hb dX10_init_147 (by decide) ?_
  refine lv_icmp_ge (tgt := 171) hx hb dX10_init_149 (by decide) (fun h => absurd h (by decide)) (fun _ => ?_)
  refine lv_aload_n hx hb dX10_init_152 rfl (lv_at hl 1 rfl) ?_
  refine pg_get S Y ok_X10 4 (by decide) kf10_31 (v := .ref q_92603) p_h rfl dX10_init_153 ?_
  refine lv_iload_n hx hb dX10_init_156 rfl (lv_at hl 0 rfl) ?_
  refine pg_new S Y ok_X4 kc10_24 kn4 ki4 (fs := [.null, .null, .int 0, .int 0, .int 0, .int 0, .int 0]) (by decide) (by decide) (by decide) dX10_init_157 (fun q_92960 f_92961 H nq_92960 ef_92961 Y => ?_)
  have whkq_92960 := hk.notin nq_92960
  have hk := hk.push ef_92961 nq_92960
  have whkIq_92960 := hkI.notin nq_92960
  have hkI := hkI.push ef_92961 nq_92960
  have p_h := p_h.push ef_92961 nq_92960
  have p_q_92581 := p_q_92581.push ef_92961 nq_92960
  have p_q_92603 := p_q_92603.push ef_92961 nq_92960
  have p_q_92960 := pt.new (L := L_92942) ef_92961
  refine lv_dup hx hb dX10_init_160 rfl ?_
  refine cINv (b := q_92960) (As := []) (rest := [.ref q_92960, .int 6, .ref q_92603]) S Y (c_X4_init (l := l) p_q_92960) cw_X4_init km10_26 rfl ⟨Nat.le_of_ble_eq_true rfl, Nat.le_of_ble_eq_true rfl⟩ hl.1 rfl (Nat.le_of_ble_eq_true rfl) ⟨Nat.le_of_ble_eq_true rfl, Nat.le_of_ble_eq_true rfl⟩ dX10_init_161 (fun L_92962 f_92963 H locs hf_92963 Y => ?_)
  obtain ⟨a__92964, a__92965, kf_92963, z_z_92966, z_z_92967, z_z_92968, v_92969, v_92970⟩ := hf_92963
  have w_92971 := hk.notin v_92969
  have w_92972 := hkI.notin v_92969
  have w_92973 := hk.notin v_92970
  have w_92974 := hkI.notin v_92970
  have p_h := kf_92963.1 h _ (nmc (p_h.neK p_q_92960 (by decide)) nm0) p_h
  have p_q_92581 := kf_92963.1 q_92581 _ (nmc (p_q_92581.neB p_q_92960) nm0) p_q_92581
  have p_q_92603 := kf_92963.1 q_92603 _ (nmc (p_q_92603.neB p_q_92960) nm0) p_q_92603
  have p_q_92960 := z_z_92966
  have p_a__92964 := z_z_92967
  have p_a__92965 := z_z_92968
  have hk := hk.call kf_92963 (fun b hb hp => (nmc (neL hp whkq_92960) nm0))
  have hkI := hkI.call kf_92963 (fun b hb hp => (nmc (neL hp whkIq_92960) nm0))
  have nr_q_92960 : NRg gl_24 ad23 q_92960 := (SHC.nr I whkIq_92960)
  have nr_a__92964 : NRg gl_24 ad23 a__92964 := (SHC.nr I w_92972)
  have nr_a__92965 : NRg gl_24 ad23 a__92965 := (SHC.nr I w_92974)
  have I := I.kp hkI (allc nr_h (allc nr_q_92581 (allc nr_q_92603 all0)))
  have hkI : kp L_92962 f_92963 L_92962 f_92963 [h, q_92581, q_92603] := kp.rf
  obtain ⟨ad24, I, X_92975, Y_92976, Z_92977⟩ := SHC.led (l2 := gl_25) (n := 7) I rfl rfl rfl (by decide) rfl p_q_92960 p_a__92964 p_a__92965 nr_q_92960 nr_a__92964 nr_a__92965 
  have eq40_0 := (X_92975.2 40 0 (by decide)).trans eq40_0
  have eq41_0 := (X_92975.2 41 0 (by decide)).trans eq41_0
  have eq10_0 := (X_92975.2 10 0 (by decide)).trans eq10_0
  have eq20_0 := (X_92975.2 20 0 (by decide)).trans eq20_0
  have eq20_1 := (X_92975.2 20 1 (by decide)).trans eq20_1
  have eq20_2 := (X_92975.2 20 2 (by decide)).trans eq20_2
  have eq20_3 := (X_92975.2 20 3 (by decide)).trans eq20_3
  have eq20_4 := (X_92975.2 20 4 (by decide)).trans eq20_4
  have fam_sc := fam_x fam_sc X_92975 (by decide)
  have fam_pa := fam_x fam_pa X_92975 (by decide)
  have nr_h := Z_92977 _ nr_h (p_h.neK p_q_92960 (by decide)) (p_h.neA p_a__92964) (p_h.neA p_a__92965)
  have nr_q_92581 := Z_92977 _ nr_q_92581 (p_q_92581.neB p_q_92960) (p_q_92581.neN p_a__92964 (by decide)) (p_q_92581.neN p_a__92965 (by decide))
  have nr_q_92603 := Z_92977 _ nr_q_92603 (p_q_92603.neB p_q_92960) (p_q_92603.neN p_a__92964 (by decide)) (p_q_92603.neN p_a__92965 (by decide))
  have hout : ∀ x, x ∈ L → NRg gl_0 ad x → NRg gl_25 ad24 x := fun x hx hn => Z_92977 x (hout x hx hn) (fun e => whkq_92960 (by rw [← e]; exact hx)) (fun e => w_92971 (by rw [← e]; exact hx)) (fun e => w_92973 (by rw [← e]; exact hx))
  have hext := hext.tr X_92975
  have eq10_7 := Y_92976
  have hkI : kp L_92962 f_92963 L_92962 f_92963 [h, q_92581, q_92603] := kp.rf
  refine pg_aast S Y (k := 3) p_q_92603 rfl p_q_92960 ok_X4.1 (by unfold vp_in; decide) dX10_init_164 (fun f_92979 H locs ef_92979 Y => ?_)
  obtain ⟨g_92978, eg_92978⟩ : ∃ z, z = va_up (g_92958) (6 : Int32).toNatClampNeg (some q_92960) := ⟨_, rfl⟩
  rw [← eg_92978] at ef_92979
  have p_h := p_h.up ef_92979 ((p_h.neA p_q_92603))
  have p_q_92581 := p_q_92581.up ef_92979 ((p_q_92581.neN p_q_92603 (by decide)))
  have p_q_92960 := p_q_92960.up ef_92979 ((p_q_92960.neA p_q_92603))
  have p_q_92603 := p_q_92603.me ef_92979
  have hk := hk.upN ef_92979 whkq_92603
  have hkI := hkI.up ef_92979 (by simp)
  have fam_pa := fam_s (i := 6) fam_pa eq10_7 eg_92978
  refine lv_iinc (v := 7) (lv' := [(1, .int 7), (0, .ref h)]) hx hb dX10_init_165 hl (k := 0) rfl (by decide) (by decide) rfl (fun ls hl => ?_)
  refine lv_goto (tgt := 146) hx hb dX10_init_168 (by decide) ?_
  refine lv_iload_n hx hb dX10_init_146 rfl (lv_at hl 0 rfl) ?_
  refine lv_bipush (v := 30) hx hb dX10_init_147 (by decide) ?_
  refine lv_icmp_ge (tgt := 171) hx hb dX10_init_149 (by decide) (fun h => absurd h (by decide)) (fun _ => ?_)
  refine lv_aload_n hx hb dX10_init_152 rfl (lv_at hl 1 rfl) ?_
  refine pg_get S Y ok_X10 4 (by decide) kf10_31 (v := .ref q_92603) p_h rfl dX10_init_153 ?_
  refine lv_iload_n hx hb dX10_init_156 rfl (lv_at hl 0 rfl) ?_
  refine pg_new S Y ok_X4 kc10_24 kn4 ki4 (fs := [.null, .null, .int 0, .int 0, .int 0, .int 0, .int 0]) (by decide) (by decide) (by decide) dX10_init_157 (fun q_92980 f_92981 H nq_92980 ef_92981 Y => ?_)
  have whkq_92980 := hk.notin nq_92980
  have hk := hk.push ef_92981 nq_92980
  have whkIq_92980 := hkI.notin nq_92980
  have hkI := hkI.push ef_92981 nq_92980
  have p_h := p_h.push ef_92981 nq_92980
  have p_q_92581 := p_q_92581.push ef_92981 nq_92980
  have p_q_92603 := p_q_92603.push ef_92981 nq_92980
  have p_q_92980 := pt.new (L := L_92962) ef_92981
  refine lv_dup hx hb dX10_init_160 rfl ?_
  refine cINv (b := q_92980) (As := []) (rest := [.ref q_92980, .int 7, .ref q_92603]) S Y (c_X4_init (l := l) p_q_92980) cw_X4_init km10_26 rfl ⟨Nat.le_of_ble_eq_true rfl, Nat.le_of_ble_eq_true rfl⟩ hl.1 rfl (Nat.le_of_ble_eq_true rfl) ⟨Nat.le_of_ble_eq_true rfl, Nat.le_of_ble_eq_true rfl⟩ dX10_init_161 (fun L_92982 f_92983 H locs hf_92983 Y => ?_)
  obtain ⟨a__92984, a__92985, kf_92983, z_z_92986, z_z_92987, z_z_92988, v_92989, v_92990⟩ := hf_92983
  have w_92991 := hk.notin v_92989
  have w_92992 := hkI.notin v_92989
  have w_92993 := hk.notin v_92990
  have w_92994 := hkI.notin v_92990
  have p_h := kf_92983.1 h _ (nmc (p_h.neK p_q_92980 (by decide)) nm0) p_h
  have p_q_92581 := kf_92983.1 q_92581 _ (nmc (p_q_92581.neB p_q_92980) nm0) p_q_92581
  have p_q_92603 := kf_92983.1 q_92603 _ (nmc (p_q_92603.neB p_q_92980) nm0) p_q_92603
  have p_q_92980 := z_z_92986
  have p_a__92984 := z_z_92987
  have p_a__92985 := z_z_92988
  have hk := hk.call kf_92983 (fun b hb hp => (nmc (neL hp whkq_92980) nm0))
  have hkI := hkI.call kf_92983 (fun b hb hp => (nmc (neL hp whkIq_92980) nm0))
  have nr_q_92980 : NRg gl_25 ad24 q_92980 := (SHC.nr I whkIq_92980)
  have nr_a__92984 : NRg gl_25 ad24 a__92984 := (SHC.nr I w_92992)
  have nr_a__92985 : NRg gl_25 ad24 a__92985 := (SHC.nr I w_92994)
  have I := I.kp hkI (allc nr_h (allc nr_q_92581 (allc nr_q_92603 all0)))
  have hkI : kp L_92982 f_92983 L_92982 f_92983 [h, q_92581, q_92603] := kp.rf
  obtain ⟨ad25, I, X_92995, Y_92996, Z_92997⟩ := SHC.led (l2 := gl_26) (n := 8) I rfl rfl rfl (by decide) rfl p_q_92980 p_a__92984 p_a__92985 nr_q_92980 nr_a__92984 nr_a__92985 
  have eq40_0 := (X_92995.2 40 0 (by decide)).trans eq40_0
  have eq41_0 := (X_92995.2 41 0 (by decide)).trans eq41_0
  have eq10_0 := (X_92995.2 10 0 (by decide)).trans eq10_0
  have eq20_0 := (X_92995.2 20 0 (by decide)).trans eq20_0
  have eq20_1 := (X_92995.2 20 1 (by decide)).trans eq20_1
  have eq20_2 := (X_92995.2 20 2 (by decide)).trans eq20_2
  have eq20_3 := (X_92995.2 20 3 (by decide)).trans eq20_3
  have eq20_4 := (X_92995.2 20 4 (by decide)).trans eq20_4
  have fam_sc := fam_x fam_sc X_92995 (by decide)
  have fam_pa := fam_x fam_pa X_92995 (by decide)
  have nr_h := Z_92997 _ nr_h (p_h.neK p_q_92980 (by decide)) (p_h.neA p_a__92984) (p_h.neA p_a__92985)
  have nr_q_92581 := Z_92997 _ nr_q_92581 (p_q_92581.neB p_q_92980) (p_q_92581.neN p_a__92984 (by decide)) (p_q_92581.neN p_a__92985 (by decide))
  have nr_q_92603 := Z_92997 _ nr_q_92603 (p_q_92603.neB p_q_92980) (p_q_92603.neN p_a__92984 (by decide)) (p_q_92603.neN p_a__92985 (by decide))
  have hout : ∀ x, x ∈ L → NRg gl_0 ad x → NRg gl_26 ad25 x := fun x hx hn => Z_92997 x (hout x hx hn) (fun e => whkq_92980 (by rw [← e]; exact hx)) (fun e => w_92991 (by rw [← e]; exact hx)) (fun e => w_92993 (by rw [← e]; exact hx))
  have hext := hext.tr X_92995
  have eq10_8 := Y_92996
  have hkI : kp L_92982 f_92983 L_92982 f_92983 [h, q_92581, q_92603] := kp.rf
  refine pg_aast S Y (k := 3) p_q_92603 rfl p_q_92980 ok_X4.1 (by unfold vp_in; decide) dX10_init_164 (fun f_92999 H locs ef_92999 Y => ?_)
  obtain ⟨g_92998, eg_92998⟩ : ∃ z, z = va_up (g_92978) (7 : Int32).toNatClampNeg (some q_92980) := ⟨_, rfl⟩
  rw [← eg_92998] at ef_92999
  have p_h := p_h.up ef_92999 ((p_h.neA p_q_92603))
  have p_q_92581 := p_q_92581.up ef_92999 ((p_q_92581.neN p_q_92603 (by decide)))
  have p_q_92980 := p_q_92980.up ef_92999 ((p_q_92980.neA p_q_92603))
  have p_q_92603 := p_q_92603.me ef_92999
  have hk := hk.upN ef_92999 whkq_92603
  have hkI := hkI.up ef_92999 (by simp)
  have fam_pa := fam_s (i := 7) fam_pa eq10_8 eg_92998
  refine lv_iinc (v := 8) (lv' := [(1, .int 8), (0, .ref h)]) hx hb dX10_init_165 hl (k := 0) rfl (by decide) (by decide) rfl (fun ls hl => ?_)
  refine lv_goto (tgt := 146) hx hb dX10_init_168 (by decide) ?_
  refine lv_iload_n hx hb dX10_init_146 rfl (lv_at hl 0 rfl) ?_
  refine lv_bipush (v := 30) hx hb dX10_init_147 (by decide) ?_
  refine lv_icmp_ge (tgt := 171) hx hb dX10_init_149 (by decide) (fun h => absurd h (by decide)) (fun _ => ?_)
  refine lv_aload_n hx hb dX10_init_152 rfl (lv_at hl 1 rfl) ?_
  refine pg_get S Y ok_X10 4 (by decide) kf10_31 (v := .ref q_92603) p_h rfl dX10_init_153 ?_
  refine lv_iload_n hx hb dX10_init_156 rfl (lv_at hl 0 rfl) ?_
  refine pg_new S Y ok_X4 kc10_24 kn4 ki4 (fs := [.null, .null, .int 0, .int 0, .int 0, .int 0, .int 0]) (by decide) (by decide) (by decide) dX10_init_157 (fun q_93000 f_93001 H nq_93000 ef_93001 Y => ?_)
  have whkq_93000 := hk.notin nq_93000
  have hk := hk.push ef_93001 nq_93000
  have whkIq_93000 := hkI.notin nq_93000
  have hkI := hkI.push ef_93001 nq_93000
  have p_h := p_h.push ef_93001 nq_93000
  have p_q_92581 := p_q_92581.push ef_93001 nq_93000
  have p_q_92603 := p_q_92603.push ef_93001 nq_93000
  have p_q_93000 := pt.new (L := L_92982) ef_93001
  refine lv_dup hx hb dX10_init_160 rfl ?_
  refine cINv (b := q_93000) (As := []) (rest := [.ref q_93000, .int 8, .ref q_92603]) S Y (c_X4_init (l := l) p_q_93000) cw_X4_init km10_26 rfl ⟨Nat.le_of_ble_eq_true rfl, Nat.le_of_ble_eq_true rfl⟩ hl.1 rfl (Nat.le_of_ble_eq_true rfl) ⟨Nat.le_of_ble_eq_true rfl, Nat.le_of_ble_eq_true rfl⟩ dX10_init_161 (fun L_93002 f_93003 H locs hf_93003 Y => ?_)
  obtain ⟨a__93004, a__93005, kf_93003, z_z_93006, z_z_93007, z_z_93008, v_93009, v_93010⟩ := hf_93003
  have w_93011 := hk.notin v_93009
  have w_93012 := hkI.notin v_93009
  have w_93013 := hk.notin v_93010
  have w_93014 := hkI.notin v_93010
  have p_h := kf_93003.1 h _ (nmc (p_h.neK p_q_93000 (by decide)) nm0) p_h
  have p_q_92581 := kf_93003.1 q_92581 _ (nmc (p_q_92581.neB p_q_93000) nm0) p_q_92581
  have p_q_92603 := kf_93003.1 q_92603 _ (nmc (p_q_92603.neB p_q_93000) nm0) p_q_92603
  have p_q_93000 := z_z_93006
  have p_a__93004 := z_z_93007
  have p_a__93005 := z_z_93008
  have hk := hk.call kf_93003 (fun b hb hp => (nmc (neL hp whkq_93000) nm0))
  have hkI := hkI.call kf_93003 (fun b hb hp => (nmc (neL hp whkIq_93000) nm0))
  have nr_q_93000 : NRg gl_26 ad25 q_93000 := (SHC.nr I whkIq_93000)
  have nr_a__93004 : NRg gl_26 ad25 a__93004 := (SHC.nr I w_93012)
  have nr_a__93005 : NRg gl_26 ad25 a__93005 := (SHC.nr I w_93014)
  have I := I.kp hkI (allc nr_h (allc nr_q_92581 (allc nr_q_92603 all0)))
  have hkI : kp L_93002 f_93003 L_93002 f_93003 [h, q_92581, q_92603] := kp.rf
  obtain ⟨ad26, I, X_93015, Y_93016, Z_93017⟩ := SHC.led (l2 := gl_27) (n := 9) I rfl rfl rfl (by decide) rfl p_q_93000 p_a__93004 p_a__93005 nr_q_93000 nr_a__93004 nr_a__93005 
  have eq40_0 := (X_93015.2 40 0 (by decide)).trans eq40_0
  have eq41_0 := (X_93015.2 41 0 (by decide)).trans eq41_0
  have eq10_0 := (X_93015.2 10 0 (by decide)).trans eq10_0
  have eq20_0 := (X_93015.2 20 0 (by decide)).trans eq20_0
  have eq20_1 := (X_93015.2 20 1 (by decide)).trans eq20_1
  have eq20_2 := (X_93015.2 20 2 (by decide)).trans eq20_2
  have eq20_3 := (X_93015.2 20 3 (by decide)).trans eq20_3
  have eq20_4 := (X_93015.2 20 4 (by decide)).trans eq20_4
  have fam_sc := fam_x fam_sc X_93015 (by decide)
  have fam_pa := fam_x fam_pa X_93015 (by decide)
  have nr_h := Z_93017 _ nr_h (p_h.neK p_q_93000 (by decide)) (p_h.neA p_a__93004) (p_h.neA p_a__93005)
  have nr_q_92581 := Z_93017 _ nr_q_92581 (p_q_92581.neB p_q_93000) (p_q_92581.neN p_a__93004 (by decide)) (p_q_92581.neN p_a__93005 (by decide))
  have nr_q_92603 := Z_93017 _ nr_q_92603 (p_q_92603.neB p_q_93000) (p_q_92603.neN p_a__93004 (by decide)) (p_q_92603.neN p_a__93005 (by decide))
  have hout : ∀ x, x ∈ L → NRg gl_0 ad x → NRg gl_27 ad26 x := fun x hx hn => Z_93017 x (hout x hx hn) (fun e => whkq_93000 (by rw [← e]; exact hx)) (fun e => w_93011 (by rw [← e]; exact hx)) (fun e => w_93013 (by rw [← e]; exact hx))
  have hext := hext.tr X_93015
  have eq10_9 := Y_93016
  have hkI : kp L_93002 f_93003 L_93002 f_93003 [h, q_92581, q_92603] := kp.rf
  refine pg_aast S Y (k := 3) p_q_92603 rfl p_q_93000 ok_X4.1 (by unfold vp_in; decide) dX10_init_164 (fun f_93019 H locs ef_93019 Y => ?_)
  obtain ⟨g_93018, eg_93018⟩ : ∃ z, z = va_up (g_92998) (8 : Int32).toNatClampNeg (some q_93000) := ⟨_, rfl⟩
  rw [← eg_93018] at ef_93019
  have p_h := p_h.up ef_93019 ((p_h.neA p_q_92603))
  have p_q_92581 := p_q_92581.up ef_93019 ((p_q_92581.neN p_q_92603 (by decide)))
  have p_q_93000 := p_q_93000.up ef_93019 ((p_q_93000.neA p_q_92603))
  have p_q_92603 := p_q_92603.me ef_93019
  have hk := hk.upN ef_93019 whkq_92603
  have hkI := hkI.up ef_93019 (by simp)
  have fam_pa := fam_s (i := 8) fam_pa eq10_9 eg_93018
  refine lv_iinc (v := 9) (lv' := [(1, .int 9), (0, .ref h)]) hx hb dX10_init_165 hl (k := 0) rfl (by decide) (by decide) rfl (fun ls hl => ?_)
  refine lv_goto (tgt := 146) hx hb dX10_init_168 (by decide) ?_
  refine lv_iload_n hx hb dX10_init_146 rfl (lv_at hl 0 rfl) ?_
  refine lv_bipush (v := 30) hx hb dX10_init_147 (by decide) ?_
  refine lv_icmp_ge (tgt := 171) hx hb dX10_init_149 (by decide) (fun h => absurd h (by decide)) (fun _ => ?_)
  refine lv_aload_n hx hb dX10_init_152 rfl (lv_at hl 1 rfl) ?_
  refine pg_get S Y ok_X10 4 (by decide) kf10_31 (v := .ref q_92603) p_h rfl dX10_init_153 ?_
  refine lv_iload_n hx hb dX10_init_156 rfl (lv_at hl 0 rfl) ?_
  refine pg_new S Y ok_X4 kc10_24 kn4 ki4 (fs := [.null, .null, .int 0, .int 0, .int 0, .int 0, .int 0]) (by decide) (by decide) (by decide) dX10_init_157 (fun q_93020 f_93021 H nq_93020 ef_93021 Y => ?_)
  have whkq_93020 := hk.notin nq_93020
  have hk := hk.push ef_93021 nq_93020
  have whkIq_93020 := hkI.notin nq_93020
  have hkI := hkI.push ef_93021 nq_93020
  have p_h := p_h.push ef_93021 nq_93020
  have p_q_92581 := p_q_92581.push ef_93021 nq_93020
  have p_q_92603 := p_q_92603.push ef_93021 nq_93020
  have p_q_93020 := pt.new (L := L_93002) ef_93021
  refine lv_dup hx hb dX10_init_160 rfl ?_
  refine cINv (b := q_93020) (As := []) (rest := [.ref q_93020, .int 9, .ref q_92603]) S Y (c_X4_init (l := l) p_q_93020) cw_X4_init km10_26 rfl ⟨Nat.le_of_ble_eq_true rfl, Nat.le_of_ble_eq_true rfl⟩ hl.1 rfl (Nat.le_of_ble_eq_true rfl) ⟨Nat.le_of_ble_eq_true rfl, Nat.le_of_ble_eq_true rfl⟩ dX10_init_161 (fun L_93022 f_93023 H locs hf_93023 Y => ?_)
  obtain ⟨a__93024, a__93025, kf_93023, z_z_93026, z_z_93027, z_z_93028, v_93029, v_93030⟩ := hf_93023
  have w_93031 := hk.notin v_93029
  have w_93032 := hkI.notin v_93029
  have w_93033 := hk.notin v_93030
  have w_93034 := hkI.notin v_93030
  have p_h := kf_93023.1 h _ (nmc (p_h.neK p_q_93020 (by decide)) nm0) p_h
  have p_q_92581 := kf_93023.1 q_92581 _ (nmc (p_q_92581.neB p_q_93020) nm0) p_q_92581
  have p_q_92603 := kf_93023.1 q_92603 _ (nmc (p_q_92603.neB p_q_93020) nm0) p_q_92603
  have p_q_93020 := z_z_93026
  have p_a__93024 := z_z_93027
  have p_a__93025 := z_z_93028
  have hk := hk.call kf_93023 (fun b hb hp => (nmc (neL hp whkq_93020) nm0))
  have hkI := hkI.call kf_93023 (fun b hb hp => (nmc (neL hp whkIq_93020) nm0))
  have nr_q_93020 : NRg gl_27 ad26 q_93020 := (SHC.nr I whkIq_93020)
  have nr_a__93024 : NRg gl_27 ad26 a__93024 := (SHC.nr I w_93032)
  have nr_a__93025 : NRg gl_27 ad26 a__93025 := (SHC.nr I w_93034)
  have I := I.kp hkI (allc nr_h (allc nr_q_92581 (allc nr_q_92603 all0)))
  have hkI : kp L_93022 f_93023 L_93022 f_93023 [h, q_92581, q_92603] := kp.rf
  obtain ⟨ad27, I, X_93035, Y_93036, Z_93037⟩ := SHC.led (l2 := gl_28) (n := 10) I rfl rfl rfl (by decide) rfl p_q_93020 p_a__93024 p_a__93025 nr_q_93020 nr_a__93024 nr_a__93025 
  have eq40_0 := (X_93035.2 40 0 (by decide)).trans eq40_0
  have eq41_0 := (X_93035.2 41 0 (by decide)).trans eq41_0
  have eq10_0 := (X_93035.2 10 0 (by decide)).trans eq10_0
  have eq20_0 := (X_93035.2 20 0 (by decide)).trans eq20_0
  have eq20_1 := (X_93035.2 20 1 (by decide)).trans eq20_1
  have eq20_2 := (X_93035.2 20 2 (by decide)).trans eq20_2
  have eq20_3 := (X_93035.2 20 3 (by decide)).trans eq20_3
  have eq20_4 := (X_93035.2 20 4 (by decide)).trans eq20_4
  have fam_sc := fam_x fam_sc X_93035 (by decide)
  have fam_pa := fam_x fam_pa X_93035 (by decide)
  have nr_h := Z_93037 _ nr_h (p_h.neK p_q_93020 (by decide)) (p_h.neA p_a__93024) (p_h.neA p_a__93025)
  have nr_q_92581 := Z_93037 _ nr_q_92581 (p_q_92581.neB p_q_93020) (p_q_92581.neN p_a__93024 (by decide)) (p_q_92581.neN p_a__93025 (by decide))
  have nr_q_92603 := Z_93037 _ nr_q_92603 (p_q_92603.neB p_q_93020) (p_q_92603.neN p_a__93024 (by decide)) (p_q_92603.neN p_a__93025 (by decide))
  have hout : ∀ x, x ∈ L → NRg gl_0 ad x → NRg gl_28 ad27 x := fun x hx hn => Z_93037 x (hout x hx hn) (fun e => whkq_93020 (by rw [← e]; exact hx)) (fun e => w_93031 (by rw [← e]; exact hx)) (fun e => w_93033 (by rw [← e]; exact hx))
  have hext := hext.tr X_93035
  have eq10_10 := Y_93036
  have hkI : kp L_93022 f_93023 L_93022 f_93023 [h, q_92581, q_92603] := kp.rf
  refine pg_aast S Y (k := 3) p_q_92603 rfl p_q_93020 ok_X4.1 (by unfold vp_in; decide) dX10_init_164 (fun f_93039 H locs ef_93039 Y => ?_)
  obtain ⟨g_93038, eg_93038⟩ : ∃ z, z = va_up (g_93018) (9 : Int32).toNatClampNeg (some q_93020) := ⟨_, rfl⟩
  rw [← eg_93038] at ef_93039
  have p_h := p_h.up ef_93039 ((p_h.neA p_q_92603))
  have p_q_92581 := p_q_92581.up ef_93039 ((p_q_92581.neN p_q_92603 (by decide)))
  have p_q_93020 := p_q_93020.up ef_93039 ((p_q_93020.neA p_q_92603))
  have p_q_92603 := p_q_92603.me ef_93039
  have hk := hk.upN ef_93039 whkq_92603
  have hkI := hkI.up ef_93039 (by simp)
  have fam_pa := fam_s (i := 9) fam_pa eq10_10 eg_93038
  refine lv_iinc (v := 10) (lv' := [(1, .int 10), (0, .ref h)]) hx hb dX10_init_165 hl (k := 0) rfl (by decide) (by decide) rfl (fun ls hl => ?_)
  refine lv_goto (tgt := 146) hx hb dX10_init_168 (by decide) ?_
  refine lv_iload_n hx hb dX10_init_146 rfl (lv_at hl 0 rfl) ?_
  refine lv_bipush (v := 30) hx hb dX10_init_147 (by decide) ?_
  refine lv_icmp_ge (tgt := 171) hx hb dX10_init_149 (by decide) (fun h => absurd h (by decide)) (fun _ => ?_)
  refine lv_aload_n hx hb dX10_init_152 rfl (lv_at hl 1 rfl) ?_
  refine pg_get S Y ok_X10 4 (by decide) kf10_31 (v := .ref q_92603) p_h rfl dX10_init_153 ?_
  refine lv_iload_n hx hb dX10_init_156 rfl (lv_at hl 0 rfl) ?_
  refine pg_new S Y ok_X4 kc10_24 kn4 ki4 (fs := [.null, .null, .int 0, .int 0, .int 0, .int 0, .int 0]) (by decide) (by decide) (by decide) dX10_init_157 (fun q_93040 f_93041 H nq_93040 ef_93041 Y => ?_)
  have whkq_93040 := hk.notin nq_93040
  have hk := hk.push ef_93041 nq_93040
  have whkIq_93040 := hkI.notin nq_93040
  have hkI := hkI.push ef_93041 nq_93040
  have p_h := p_h.push ef_93041 nq_93040
  have p_q_92581 := p_q_92581.push ef_93041 nq_93040
  have p_q_92603 := p_q_92603.push ef_93041 nq_93040
  have p_q_93040 := pt.new (L := L_93022) ef_93041
  refine lv_dup hx hb dX10_init_160 rfl ?_
  refine cINv (b := q_93040) (As := []) (rest := [.ref q_93040, .int 10, .ref q_92603]) S Y (c_X4_init (l := l) p_q_93040) cw_X4_init km10_26 rfl ⟨Nat.le_of_ble_eq_true rfl, Nat.le_of_ble_eq_true rfl⟩ hl.1 rfl (Nat.le_of_ble_eq_true rfl) ⟨Nat.le_of_ble_eq_true rfl, Nat.le_of_ble_eq_true rfl⟩ dX10_init_161 (fun L_93042 f_93043 H locs hf_93043 Y => ?_)
  obtain ⟨a__93044, a__93045, kf_93043, z_z_93046, z_z_93047, z_z_93048, v_93049, v_93050⟩ := hf_93043
  have w_93051 := hk.notin v_93049
  have w_93052 := hkI.notin v_93049
  have w_93053 := hk.notin v_93050
  have w_93054 := hkI.notin v_93050
  have p_h := kf_93043.1 h _ (nmc (p_h.neK p_q_93040 (by decide)) nm0) p_h
  have p_q_92581 := kf_93043.1 q_92581 _ (nmc (p_q_92581.neB p_q_93040) nm0) p_q_92581
  have p_q_92603 := kf_93043.1 q_92603 _ (nmc (p_q_92603.neB p_q_93040) nm0) p_q_92603
  have p_q_93040 := z_z_93046
  have p_a__93044 := z_z_93047
  have p_a__93045 := z_z_93048
  have hk := hk.call kf_93043 (fun b hb hp => (nmc (neL hp whkq_93040) nm0))
  have hkI := hkI.call kf_93043 (fun b hb hp => (nmc (neL hp whkIq_93040) nm0))
  have nr_q_93040 : NRg gl_28 ad27 q_93040 := (SHC.nr I whkIq_93040)
  have nr_a__93044 : NRg gl_28 ad27 a__93044 := (SHC.nr I w_93052)
  have nr_a__93045 : NRg gl_28 ad27 a__93045 := (SHC.nr I w_93054)
  have I := I.kp hkI (allc nr_h (allc nr_q_92581 (allc nr_q_92603 all0)))
  have hkI : kp L_93042 f_93043 L_93042 f_93043 [h, q_92581, q_92603] := kp.rf
  obtain ⟨ad28, I, X_93055, Y_93056, Z_93057⟩ := SHC.led (l2 := gl_29) (n := 11) I rfl rfl rfl (by decide) rfl p_q_93040 p_a__93044 p_a__93045 nr_q_93040 nr_a__93044 nr_a__93045 
  have eq40_0 := (X_93055.2 40 0 (by decide)).trans eq40_0
  have eq41_0 := (X_93055.2 41 0 (by decide)).trans eq41_0
  have eq10_0 := (X_93055.2 10 0 (by decide)).trans eq10_0
  have eq20_0 := (X_93055.2 20 0 (by decide)).trans eq20_0
  have eq20_1 := (X_93055.2 20 1 (by decide)).trans eq20_1
  have eq20_2 := (X_93055.2 20 2 (by decide)).trans eq20_2
  have eq20_3 := (X_93055.2 20 3 (by decide)).trans eq20_3
  have eq20_4 := (X_93055.2 20 4 (by decide)).trans eq20_4
  have fam_sc := fam_x fam_sc X_93055 (by decide)
  have fam_pa := fam_x fam_pa X_93055 (by decide)
  have nr_h := Z_93057 _ nr_h (p_h.neK p_q_93040 (by decide)) (p_h.neA p_a__93044) (p_h.neA p_a__93045)
  have nr_q_92581 := Z_93057 _ nr_q_92581 (p_q_92581.neB p_q_93040) (p_q_92581.neN p_a__93044 (by decide)) (p_q_92581.neN p_a__93045 (by decide))
  have nr_q_92603 := Z_93057 _ nr_q_92603 (p_q_92603.neB p_q_93040) (p_q_92603.neN p_a__93044 (by decide)) (p_q_92603.neN p_a__93045 (by decide))
  have hout : ∀ x, x ∈ L → NRg gl_0 ad x → NRg gl_29 ad28 x := fun x hx hn => Z_93057 x (hout x hx hn) (fun e => whkq_93040 (by rw [← e]; exact hx)) (fun e => w_93051 (by rw [← e]; exact hx)) (fun e => w_93053 (by rw [← e]; exact hx))
  have hext := hext.tr X_93055
  have eq10_11 := Y_93056
  have hkI : kp L_93042 f_93043 L_93042 f_93043 [h, q_92581, q_92603] := kp.rf
  refine pg_aast S Y (k := 3) p_q_92603 rfl p_q_93040 ok_X4.1 (by unfold vp_in; decide) dX10_init_164 (fun f_93059 H locs ef_93059 Y => ?_)
  obtain ⟨g_93058, eg_93058⟩ : ∃ z, z = va_up (g_93038) (10 : Int32).toNatClampNeg (some q_93040) := ⟨_, rfl⟩
  rw [← eg_93058] at ef_93059
  have p_h := p_h.up ef_93059 ((p_h.neA p_q_92603))
  have p_q_92581 := p_q_92581.up ef_93059 ((p_q_92581.neN p_q_92603 (by decide)))
  have p_q_93040 := p_q_93040.up ef_93059 ((p_q_93040.neA p_q_92603))
  have p_q_92603 := p_q_92603.me ef_93059
  have hk := hk.upN ef_93059 whkq_92603
  have hkI := hkI.up ef_93059 (by simp)
  have fam_pa := fam_s (i := 10) fam_pa eq10_11 eg_93058
  refine lv_iinc (v := 11) (lv' := [(1, .int 11), (0, .ref h)]) hx hb dX10_init_165 hl (k := 0) rfl (by decide) (by decide) rfl (fun ls hl => ?_)
  refine lv_goto (tgt := 146) hx hb dX10_init_168 (by decide) ?_
  refine lv_iload_n hx hb dX10_init_146 rfl (lv_at hl 0 rfl) ?_
  refine lv_bipush (v := 30) hx hb dX10_init_147 (by decide) ?_
  refine lv_icmp_ge (tgt := 171) hx hb dX10_init_149 (by decide) (fun h => absurd h (by decide)) (fun _ => ?_)
  refine lv_aload_n hx hb dX10_init_152 rfl (lv_at hl 1 rfl) ?_
  refine pg_get S Y ok_X10 4 (by decide) kf10_31 (v := .ref q_92603) p_h rfl dX10_init_153 ?_
  refine lv_iload_n hx hb dX10_init_156 rfl (lv_at hl 0 rfl) ?_
  refine pg_new S Y ok_X4 kc10_24 kn4 ki4 (fs := [.null, .null, .int 0, .int 0, .int 0, .int 0, .int 0]) (by decide) (by decide) (by decide) dX10_init_157 (fun q_93060 f_93061 H nq_93060 ef_93061 Y => ?_)
  have whkq_93060 := hk.notin nq_93060
  have hk := hk.push ef_93061 nq_93060
  have whkIq_93060 := hkI.notin nq_93060
  have hkI := hkI.push ef_93061 nq_93060
  have p_h := p_h.push ef_93061 nq_93060
  have p_q_92581 := p_q_92581.push ef_93061 nq_93060
  have p_q_92603 := p_q_92603.push ef_93061 nq_93060
  have p_q_93060 := pt.new (L := L_93042) ef_93061
  refine lv_dup hx hb dX10_init_160 rfl ?_
  refine cINv (b := q_93060) (As := []) (rest := [.ref q_93060, .int 11, .ref q_92603]) S Y (c_X4_init (l := l) p_q_93060) cw_X4_init km10_26 rfl ⟨Nat.le_of_ble_eq_true rfl, Nat.le_of_ble_eq_true rfl⟩ hl.1 rfl (Nat.le_of_ble_eq_true rfl) ⟨Nat.le_of_ble_eq_true rfl, Nat.le_of_ble_eq_true rfl⟩ dX10_init_161 (fun L_93062 f_93063 H locs hf_93063 Y => ?_)
  obtain ⟨a__93064, a__93065, kf_93063, z_z_93066, z_z_93067, z_z_93068, v_93069, v_93070⟩ := hf_93063
  have w_93071 := hk.notin v_93069
  have w_93072 := hkI.notin v_93069
  have w_93073 := hk.notin v_93070
  have w_93074 := hkI.notin v_93070
  have p_h := kf_93063.1 h _ (nmc (p_h.neK p_q_93060 (by decide)) nm0) p_h
  have p_q_92581 := kf_93063.1 q_92581 _ (nmc (p_q_92581.neB p_q_93060) nm0) p_q_92581
  have p_q_92603 := kf_93063.1 q_92603 _ (nmc (p_q_92603.neB p_q_93060) nm0) p_q_92603
  have p_q_93060 := z_z_93066
  have p_a__93064 := z_z_93067
  have p_a__93065 := z_z_93068
  have hk := hk.call kf_93063 (fun b hb hp => (nmc (neL hp whkq_93060) nm0))
  have hkI := hkI.call kf_93063 (fun b hb hp => (nmc (neL hp whkIq_93060) nm0))
  have nr_q_93060 : NRg gl_29 ad28 q_93060 := (SHC.nr I whkIq_93060)
  have nr_a__93064 : NRg gl_29 ad28 a__93064 := (SHC.nr I w_93072)
  have nr_a__93065 : NRg gl_29 ad28 a__93065 := (SHC.nr I w_93074)
  have I := I.kp hkI (allc nr_h (allc nr_q_92581 (allc nr_q_92603 all0)))
  have hkI : kp L_93062 f_93063 L_93062 f_93063 [h, q_92581, q_92603] := kp.rf
  obtain ⟨ad29, I, X_93075, Y_93076, Z_93077⟩ := SHC.led (l2 := gl_30) (n := 12) I rfl rfl rfl (by decide) rfl p_q_93060 p_a__93064 p_a__93065 nr_q_93060 nr_a__93064 nr_a__93065 
  have eq40_0 := (X_93075.2 40 0 (by decide)).trans eq40_0
  have eq41_0 := (X_93075.2 41 0 (by decide)).trans eq41_0
  have eq10_0 := (X_93075.2 10 0 (by decide)).trans eq10_0
  have eq20_0 := (X_93075.2 20 0 (by decide)).trans eq20_0
  have eq20_1 := (X_93075.2 20 1 (by decide)).trans eq20_1
  have eq20_2 := (X_93075.2 20 2 (by decide)).trans eq20_2
  have eq20_3 := (X_93075.2 20 3 (by decide)).trans eq20_3
  have eq20_4 := (X_93075.2 20 4 (by decide)).trans eq20_4
  have fam_sc := fam_x fam_sc X_93075 (by decide)
  have fam_pa := fam_x fam_pa X_93075 (by decide)
  have nr_h := Z_93077 _ nr_h (p_h.neK p_q_93060 (by decide)) (p_h.neA p_a__93064) (p_h.neA p_a__93065)
  have nr_q_92581 := Z_93077 _ nr_q_92581 (p_q_92581.neB p_q_93060) (p_q_92581.neN p_a__93064 (by decide)) (p_q_92581.neN p_a__93065 (by decide))
  have nr_q_92603 := Z_93077 _ nr_q_92603 (p_q_92603.neB p_q_93060) (p_q_92603.neN p_a__93064 (by decide)) (p_q_92603.neN p_a__93065 (by decide))
  have hout : ∀ x, x ∈ L → NRg gl_0 ad x → NRg gl_30 ad29 x := fun x hx hn => Z_93077 x (hout x hx hn) (fun e => whkq_93060 (by rw [← e]; exact hx)) (fun e => w_93071 (by rw [← e]; exact hx)) (fun e => w_93073 (by rw [← e]; exact hx))
  have hext := hext.tr X_93075
  have eq10_12 := Y_93076
  have hkI : kp L_93062 f_93063 L_93062 f_93063 [h, q_92581, q_92603] := kp.rf
  refine pg_aast S Y (k := 3) p_q_92603 rfl p_q_93060 ok_X4.1 (by unfold vp_in; decide) dX10_init_164 (fun f_93079 H locs ef_93079 Y => ?_)
  obtain ⟨g_93078, eg_93078⟩ : ∃ z, z = va_up (g_93058) (11 : Int32).toNatClampNeg (some q_93060) := ⟨_, rfl⟩
  rw [← eg_93078] at ef_93079
  have p_h := p_h.up ef_93079 ((p_h.neA p_q_92603))
  have p_q_92581 := p_q_92581.up ef_93079 ((p_q_92581.neN p_q_92603 (by decide)))
  have p_q_93060 := p_q_93060.up ef_93079 ((p_q_93060.neA p_q_92603))
  have p_q_92603 := p_q_92603.me ef_93079
  have hk := hk.upN ef_93079 whkq_92603
  have hkI := hkI.up ef_93079 (by simp)
  have fam_pa := fam_s (i := 11) fam_pa eq10_12 eg_93078
  refine lv_iinc (v := 12) (lv' := [(1, .int 12), (0, .ref h)]) hx hb dX10_init_165 hl (k := 0) rfl (by decide) (by decide) rfl (fun ls hl => ?_)
  refine lv_goto (tgt := 146) hx hb dX10_init_168 (by decide) ?_
  refine lv_iload_n hx hb dX10_init_146 rfl (lv_at hl 0 rfl) ?_
  refine lv_bipush (v := 30) hx hb dX10_init_147 (by decide) ?_
  refine lv_icmp_ge (tgt := 171) hx hb dX10_init_149 (by decide) (fun h => absurd h (by decide)) (fun _ => ?_)
  refine lv_aload_n hx hb dX10_init_152 rfl (lv_at hl 1 rfl) ?_
  refine pg_get S Y ok_X10 4 (by decide) kf10_31 (v := .ref q_92603) p_h rfl dX10_init_153 ?_
  refine lv_iload_n hx hb dX10_init_156 rfl (lv_at hl 0 rfl) ?_
  refine pg_new S Y ok_X4 kc10_24 kn4 ki4 (fs := [.null, .null, .int 0, .int 0, .int 0, .int 0, .int 0]) (by decide) (by decide) (by decide) dX10_init_157 (fun q_93080 f_93081 H nq_93080 ef_93081 Y => ?_)
  have whkq_93080 := hk.notin nq_93080
  have hk := hk.push ef_93081 nq_93080
  have whkIq_93080 := hkI.notin nq_93080
  have hkI := hkI.push ef_93081 nq_93080
  have p_h := p_h.push ef_93081 nq_93080
  have p_q_92581 := p_q_92581.push ef_93081 nq_93080
  have p_q_92603 := p_q_92603.push ef_93081 nq_93080
  have p_q_93080 := pt.new (L := L_93062) ef_93081
  refine lv_dup hx hb dX10_init_160 rfl ?_
  refine cINv (b := q_93080) (As := []) (rest := [.ref q_93080, .int 12, .ref q_92603]) S Y (c_X4_init (l := l) p_q_93080) cw_X4_init km10_26 rfl ⟨Nat.le_of_ble_eq_true rfl, Nat.le_of_ble_eq_true rfl⟩ hl.1 rfl (Nat.le_of_ble_eq_true rfl) ⟨Nat.le_of_ble_eq_true rfl, Nat.le_of_ble_eq_true rfl⟩ dX10_init_161 (fun L_93082 f_93083 H locs hf_93083 Y => ?_)
  obtain ⟨a__93084, a__93085, kf_93083, z_z_93086, z_z_93087, z_z_93088, v_93089, v_93090⟩ := hf_93083
  have w_93091 := hk.notin v_93089
  have w_93092 := hkI.notin v_93089
  have w_93093 := hk.notin v_93090
  have w_93094 := hkI.notin v_93090
  have p_h := kf_93083.1 h _ (nmc (p_h.neK p_q_93080 (by decide)) nm0) p_h
  have p_q_92581 := kf_93083.1 q_92581 _ (nmc (p_q_92581.neB p_q_93080) nm0) p_q_92581
  have p_q_92603 := kf_93083.1 q_92603 _ (nmc (p_q_92603.neB p_q_93080) nm0) p_q_92603
  have p_q_93080 := z_z_93086
  have p_a__93084 := z_z_93087
  have p_a__93085 := z_z_93088
  have hk := hk.call kf_93083 (fun b hb hp => (nmc (neL hp whkq_93080) nm0))
  have hkI := hkI.call kf_93083 (fun b hb hp => (nmc (neL hp whkIq_93080) nm0))
  have nr_q_93080 : NRg gl_30 ad29 q_93080 := (SHC.nr I whkIq_93080)
  have nr_a__93084 : NRg gl_30 ad29 a__93084 := (SHC.nr I w_93092)
  have nr_a__93085 : NRg gl_30 ad29 a__93085 := (SHC.nr I w_93094)
  have I := I.kp hkI (allc nr_h (allc nr_q_92581 (allc nr_q_92603 all0)))
  have hkI : kp L_93082 f_93083 L_93082 f_93083 [h, q_92581, q_92603] := kp.rf
  obtain ⟨ad30, I, X_93095, Y_93096, Z_93097⟩ := SHC.led (l2 := gl_31) (n := 13) I rfl rfl rfl (by decide) rfl p_q_93080 p_a__93084 p_a__93085 nr_q_93080 nr_a__93084 nr_a__93085 
  have eq40_0 := (X_93095.2 40 0 (by decide)).trans eq40_0
  have eq41_0 := (X_93095.2 41 0 (by decide)).trans eq41_0
  have eq10_0 := (X_93095.2 10 0 (by decide)).trans eq10_0
  have eq20_0 := (X_93095.2 20 0 (by decide)).trans eq20_0
  have eq20_1 := (X_93095.2 20 1 (by decide)).trans eq20_1
  have eq20_2 := (X_93095.2 20 2 (by decide)).trans eq20_2
  have eq20_3 := (X_93095.2 20 3 (by decide)).trans eq20_3
  have eq20_4 := (X_93095.2 20 4 (by decide)).trans eq20_4
  have fam_sc := fam_x fam_sc X_93095 (by decide)
  have fam_pa := fam_x fam_pa X_93095 (by decide)
  have nr_h := Z_93097 _ nr_h (p_h.neK p_q_93080 (by decide)) (p_h.neA p_a__93084) (p_h.neA p_a__93085)
  have nr_q_92581 := Z_93097 _ nr_q_92581 (p_q_92581.neB p_q_93080) (p_q_92581.neN p_a__93084 (by decide)) (p_q_92581.neN p_a__93085 (by decide))
  have nr_q_92603 := Z_93097 _ nr_q_92603 (p_q_92603.neB p_q_93080) (p_q_92603.neN p_a__93084 (by decide)) (p_q_92603.neN p_a__93085 (by decide))
  have hout : ∀ x, x ∈ L → NRg gl_0 ad x → NRg gl_31 ad30 x := fun x hx hn => Z_93097 x (hout x hx hn) (fun e => whkq_93080 (by rw [← e]; exact hx)) (fun e => w_93091 (by rw [← e]; exact hx)) (fun e => w_93093 (by rw [← e]; exact hx))
  have hext := hext.tr X_93095
  have eq10_13 := Y_93096
  have hkI : kp L_93082 f_93083 L_93082 f_93083 [h, q_92581, q_92603] := kp.rf
  refine pg_aast S Y (k := 3) p_q_92603 rfl p_q_93080 ok_X4.1 (by unfold vp_in; decide) dX10_init_164 (fun f_93099 H locs ef_93099 Y => ?_)
  obtain ⟨g_93098, eg_93098⟩ : ∃ z, z = va_up (g_93078) (12 : Int32).toNatClampNeg (some q_93080) := ⟨_, rfl⟩
  rw [← eg_93098] at ef_93099
  have p_h := p_h.up ef_93099 ((p_h.neA p_q_92603))
  have p_q_92581 := p_q_92581.up ef_93099 ((p_q_92581.neN p_q_92603 (by decide)))
  have p_q_93080 := p_q_93080.up ef_93099 ((p_q_93080.neA p_q_92603))
  have p_q_92603 := p_q_92603.me ef_93099
  have hk := hk.upN ef_93099 whkq_92603
  have hkI := hkI.up ef_93099 (by simp)
  have fam_pa := fam_s (i := 12) fam_pa eq10_13 eg_93098
  refine lv_iinc (v := 13) (lv' := [(1, .int 13), (0, .ref h)]) hx hb dX10_init_165 hl (k := 0) rfl (by decide) (by decide) rfl (fun ls hl => ?_)
  refine lv_goto (tgt := 146) hx hb dX10_init_168 (by decide) ?_
  refine lv_iload_n hx hb dX10_init_146 rfl (lv_at hl 0 rfl) ?_
  refine lv_bipush (v := 30) hx hb dX10_init_147 (by decide) ?_
  refine lv_icmp_ge (tgt := 171) hx hb dX10_init_149 (by decide) (fun h => absurd h (by decide)) (fun _ => ?_)
  refine lv_aload_n hx hb dX10_init_152 rfl (lv_at hl 1 rfl) ?_
  refine pg_get S Y ok_X10 4 (by decide) kf10_31 (v := .ref q_92603) p_h rfl dX10_init_153 ?_
  refine lv_iload_n hx hb dX10_init_156 rfl (lv_at hl 0 rfl) ?_
  refine pg_new S Y ok_X4 kc10_24 kn4 ki4 (fs := [.null, .null, .int 0, .int 0, .int 0, .int 0, .int 0]) (by decide) (by decide) (by decide) dX10_init_157 (fun q_93100 f_93101 H nq_93100 ef_93101 Y => ?_)
  have whkq_93100 := hk.notin nq_93100
  have hk := hk.push ef_93101 nq_93100
  have whkIq_93100 := hkI.notin nq_93100
  have hkI := hkI.push ef_93101 nq_93100
  have p_h := p_h.push ef_93101 nq_93100
  have p_q_92581 := p_q_92581.push ef_93101 nq_93100
  have p_q_92603 := p_q_92603.push ef_93101 nq_93100
  have p_q_93100 := pt.new (L := L_93082) ef_93101
  refine lv_dup hx hb dX10_init_160 rfl ?_
  refine cINv (b := q_93100) (As := []) (rest := [.ref q_93100, .int 13, .ref q_92603]) S Y (c_X4_init (l := l) p_q_93100) cw_X4_init km10_26 rfl ⟨Nat.le_of_ble_eq_true rfl, Nat.le_of_ble_eq_true rfl⟩ hl.1 rfl (Nat.le_of_ble_eq_true rfl) ⟨Nat.le_of_ble_eq_true rfl, Nat.le_of_ble_eq_true rfl⟩ dX10_init_161 (fun L_93102 f_93103 H locs hf_93103 Y => ?_)
  obtain ⟨a__93104, a__93105, kf_93103, z_z_93106, z_z_93107, z_z_93108, v_93109, v_93110⟩ := hf_93103
  have w_93111 := hk.notin v_93109
  have w_93112 := hkI.notin v_93109
  have w_93113 := hk.notin v_93110
  have w_93114 := hkI.notin v_93110
  have p_h := kf_93103.1 h _ (nmc (p_h.neK p_q_93100 (by decide)) nm0) p_h
  have p_q_92581 := kf_93103.1 q_92581 _ (nmc (p_q_92581.neB p_q_93100) nm0) p_q_92581
  have p_q_92603 := kf_93103.1 q_92603 _ (nmc (p_q_92603.neB p_q_93100) nm0) p_q_92603
  have p_q_93100 := z_z_93106
  have p_a__93104 := z_z_93107
  have p_a__93105 := z_z_93108
  have hk := hk.call kf_93103 (fun b hb hp => (nmc (neL hp whkq_93100) nm0))
  have hkI := hkI.call kf_93103 (fun b hb hp => (nmc (neL hp whkIq_93100) nm0))
  have nr_q_93100 : NRg gl_31 ad30 q_93100 := (SHC.nr I whkIq_93100)
  have nr_a__93104 : NRg gl_31 ad30 a__93104 := (SHC.nr I w_93112)
  have nr_a__93105 : NRg gl_31 ad30 a__93105 := (SHC.nr I w_93114)
  have I := I.kp hkI (allc nr_h (allc nr_q_92581 (allc nr_q_92603 all0)))
  have hkI : kp L_93102 f_93103 L_93102 f_93103 [h, q_92581, q_92603] := kp.rf
  obtain ⟨ad31, I, X_93115, Y_93116, Z_93117⟩ := SHC.led (l2 := gl_32) (n := 14) I rfl rfl rfl (by decide) rfl p_q_93100 p_a__93104 p_a__93105 nr_q_93100 nr_a__93104 nr_a__93105 
  have eq40_0 := (X_93115.2 40 0 (by decide)).trans eq40_0
  have eq41_0 := (X_93115.2 41 0 (by decide)).trans eq41_0
  have eq10_0 := (X_93115.2 10 0 (by decide)).trans eq10_0
  have eq20_0 := (X_93115.2 20 0 (by decide)).trans eq20_0
  have eq20_1 := (X_93115.2 20 1 (by decide)).trans eq20_1
  have eq20_2 := (X_93115.2 20 2 (by decide)).trans eq20_2
  have eq20_3 := (X_93115.2 20 3 (by decide)).trans eq20_3
  have eq20_4 := (X_93115.2 20 4 (by decide)).trans eq20_4
  have fam_sc := fam_x fam_sc X_93115 (by decide)
  have fam_pa := fam_x fam_pa X_93115 (by decide)
  have nr_h := Z_93117 _ nr_h (p_h.neK p_q_93100 (by decide)) (p_h.neA p_a__93104) (p_h.neA p_a__93105)
  have nr_q_92581 := Z_93117 _ nr_q_92581 (p_q_92581.neB p_q_93100) (p_q_92581.neN p_a__93104 (by decide)) (p_q_92581.neN p_a__93105 (by decide))
  have nr_q_92603 := Z_93117 _ nr_q_92603 (p_q_92603.neB p_q_93100) (p_q_92603.neN p_a__93104 (by decide)) (p_q_92603.neN p_a__93105 (by decide))
  have hout : ∀ x, x ∈ L → NRg gl_0 ad x → NRg gl_32 ad31 x := fun x hx hn => Z_93117 x (hout x hx hn) (fun e => whkq_93100 (by rw [← e]; exact hx)) (fun e => w_93111 (by rw [← e]; exact hx)) (fun e => w_93113 (by rw [← e]; exact hx))
  have hext := hext.tr X_93115
  have eq10_14 := Y_93116
  have hkI : kp L_93102 f_93103 L_93102 f_93103 [h, q_92581, q_92603] := kp.rf
  refine pg_aast S Y (k := 3) p_q_92603 rfl p_q_93100 ok_X4.1 (by unfold vp_in; decide) dX10_init_164 (fun f_93119 H locs ef_93119 Y => ?_)
  obtain ⟨g_93118, eg_93118⟩ : ∃ z, z = va_up (g_93098) (13 : Int32).toNatClampNeg (some q_93100) := ⟨_, rfl⟩
  rw [← eg_93118] at ef_93119
  have p_h := p_h.up ef_93119 ((p_h.neA p_q_92603))
  have p_q_92581 := p_q_92581.up ef_93119 ((p_q_92581.neN p_q_92603 (by decide)))
  have p_q_93100 := p_q_93100.up ef_93119 ((p_q_93100.neA p_q_92603))
  have p_q_92603 := p_q_92603.me ef_93119
  have hk := hk.upN ef_93119 whkq_92603
  have hkI := hkI.up ef_93119 (by simp)
  have fam_pa := fam_s (i := 13) fam_pa eq10_14 eg_93118
  refine lv_iinc (v := 14) (lv' := [(1, .int 14), (0, .ref h)]) hx hb dX10_init_165 hl (k := 0) rfl (by decide) (by decide) rfl (fun ls hl => ?_)
  refine lv_goto (tgt := 146) hx hb dX10_init_168 (by decide) ?_
  refine lv_iload_n hx hb dX10_init_146 rfl (lv_at hl 0 rfl) ?_
  refine lv_bipush (v := 30) hx hb dX10_init_147 (by decide) ?_
  refine lv_icmp_ge (tgt := 171) hx hb dX10_init_149 (by decide) (fun h => absurd h (by decide)) (fun _ => ?_)
  refine lv_aload_n hx hb dX10_init_152 rfl (lv_at hl 1 rfl) ?_
  refine pg_get S Y ok_X10 4 (by decide) kf10_31 (v := .ref q_92603) p_h rfl dX10_init_153 ?_
  refine lv_iload_n hx hb dX10_init_156 rfl (lv_at hl 0 rfl) ?_
  refine pg_new S Y ok_X4 kc10_24 kn4 ki4 (fs := [.null, .null, .int 0, .int 0, .int 0, .int 0, .int 0]) (by decide) (by decide) (by decide) dX10_init_157 (fun q_93120 f_93121 H nq_93120 ef_93121 Y => ?_)
  have whkq_93120 := hk.notin nq_93120
  have hk := hk.push ef_93121 nq_93120
  have whkIq_93120 := hkI.notin nq_93120
  have hkI := hkI.push ef_93121 nq_93120
  have p_h := p_h.push ef_93121 nq_93120
  have p_q_92581 := p_q_92581.push ef_93121 nq_93120
  have p_q_92603 := p_q_92603.push ef_93121 nq_93120
  have p_q_93120 := pt.new (L := L_93102) ef_93121
  refine lv_dup hx hb dX10_init_160 rfl ?_
  refine cINv (b := q_93120) (As := []) (rest := [.ref q_93120, .int 14, .ref q_92603]) S Y (c_X4_init (l := l) p_q_93120) cw_X4_init km10_26 rfl ⟨Nat.le_of_ble_eq_true rfl, Nat.le_of_ble_eq_true rfl⟩ hl.1 rfl (Nat.le_of_ble_eq_true rfl) ⟨Nat.le_of_ble_eq_true rfl, Nat.le_of_ble_eq_true rfl⟩ dX10_init_161 (fun L_93122 f_93123 H locs hf_93123 Y => ?_)
  obtain ⟨a__93124, a__93125, kf_93123, z_z_93126, z_z_93127, z_z_93128, v_93129, v_93130⟩ := hf_93123
  have w_93131 := hk.notin v_93129
  have w_93132 := hkI.notin v_93129
  have w_93133 := hk.notin v_93130
  have w_93134 := hkI.notin v_93130
  have p_h := kf_93123.1 h _ (nmc (p_h.neK p_q_93120 (by decide)) nm0) p_h
  have p_q_92581 := kf_93123.1 q_92581 _ (nmc (p_q_92581.neB p_q_93120) nm0) p_q_92581
  have p_q_92603 := kf_93123.1 q_92603 _ (nmc (p_q_92603.neB p_q_93120) nm0) p_q_92603
  have p_q_93120 := z_z_93126
  have p_a__93124 := z_z_93127
  have p_a__93125 := z_z_93128
  have hk := hk.call kf_93123 (fun b hb hp => (nmc (neL hp whkq_93120) nm0))
  have hkI := hkI.call kf_93123 (fun b hb hp => (nmc (neL hp whkIq_93120) nm0))
  have nr_q_93120 : NRg gl_32 ad31 q_93120 := (SHC.nr I whkIq_93120)
  have nr_a__93124 : NRg gl_32 ad31 a__93124 := (SHC.nr I w_93132)
  have nr_a__93125 : NRg gl_32 ad31 a__93125 := (SHC.nr I w_93134)
  have I := I.kp hkI (allc nr_h (allc nr_q_92581 (allc nr_q_92603 all0)))
  have hkI : kp L_93122 f_93123 L_93122 f_93123 [h, q_92581, q_92603] := kp.rf
  obtain ⟨ad32, I, X_93135, Y_93136, Z_93137⟩ := SHC.led (l2 := gl_33) (n := 15) I rfl rfl rfl (by decide) rfl p_q_93120 p_a__93124 p_a__93125 nr_q_93120 nr_a__93124 nr_a__93125 
  have eq40_0 := (X_93135.2 40 0 (by decide)).trans eq40_0
  have eq41_0 := (X_93135.2 41 0 (by decide)).trans eq41_0
  have eq10_0 := (X_93135.2 10 0 (by decide)).trans eq10_0
  have eq20_0 := (X_93135.2 20 0 (by decide)).trans eq20_0
  have eq20_1 := (X_93135.2 20 1 (by decide)).trans eq20_1
  have eq20_2 := (X_93135.2 20 2 (by decide)).trans eq20_2
  have eq20_3 := (X_93135.2 20 3 (by decide)).trans eq20_3
  have eq20_4 := (X_93135.2 20 4 (by decide)).trans eq20_4
  have fam_sc := fam_x fam_sc X_93135 (by decide)
  have fam_pa := fam_x fam_pa X_93135 (by decide)
  have nr_h := Z_93137 _ nr_h (p_h.neK p_q_93120 (by decide)) (p_h.neA p_a__93124) (p_h.neA p_a__93125)
  have nr_q_92581 := Z_93137 _ nr_q_92581 (p_q_92581.neB p_q_93120) (p_q_92581.neN p_a__93124 (by decide)) (p_q_92581.neN p_a__93125 (by decide))
  have nr_q_92603 := Z_93137 _ nr_q_92603 (p_q_92603.neB p_q_93120) (p_q_92603.neN p_a__93124 (by decide)) (p_q_92603.neN p_a__93125 (by decide))
  have hout : ∀ x, x ∈ L → NRg gl_0 ad x → NRg gl_33 ad32 x := fun x hx hn => Z_93137 x (hout x hx hn) (fun e => whkq_93120 (by rw [← e]; exact hx)) (fun e => w_93131 (by rw [← e]; exact hx)) (fun e => w_93133 (by rw [← e]; exact hx))
  have hext := hext.tr X_93135
  have eq10_15 := Y_93136
  have hkI : kp L_93122 f_93123 L_93122 f_93123 [h, q_92581, q_92603] := kp.rf
  refine pg_aast S Y (k := 3) p_q_92603 rfl p_q_93120 ok_X4.1 (by unfold vp_in; decide) dX10_init_164 (fun f_93139 H locs ef_93139 Y => ?_)
  obtain ⟨g_93138, eg_93138⟩ : ∃ z, z = va_up (g_93118) (14 : Int32).toNatClampNeg (some q_93120) := ⟨_, rfl⟩
  rw [← eg_93138] at ef_93139
  have p_h := p_h.up ef_93139 ((p_h.neA p_q_92603))
  have p_q_92581 := p_q_92581.up ef_93139 ((p_q_92581.neN p_q_92603 (by decide)))
  have p_q_93120 := p_q_93120.up ef_93139 ((p_q_93120.neA p_q_92603))
  have p_q_92603 := p_q_92603.me ef_93139
  have hk := hk.upN ef_93139 whkq_92603
  have hkI := hkI.up ef_93139 (by simp)
  have fam_pa := fam_s (i := 14) fam_pa eq10_15 eg_93138
  refine lv_iinc (v := 15) (lv' := [(1, .int 15), (0, .ref h)]) hx hb dX10_init_165 hl (k := 0) rfl (by decide) (by decide) rfl (fun ls hl => ?_)
  refine lv_goto (tgt := 146) hx hb dX10_init_168 (by decide) ?_
  refine lv_iload_n hx hb dX10_init_146 rfl (lv_at hl 0 rfl) ?_
  refine lv_bipush (v := 30) hx hb dX10_init_147 (by decide) ?_
  refine lv_icmp_ge (tgt := 171) hx hb dX10_init_149 (by decide) (fun h => absurd h (by decide)) (fun _ => ?_)
  refine lv_aload_n hx hb dX10_init_152 rfl (lv_at hl 1 rfl) ?_
  refine pg_get S Y ok_X10 4 (by decide) kf10_31 (v := .ref q_92603) p_h rfl dX10_init_153 ?_
  refine lv_iload_n hx hb dX10_init_156 rfl (lv_at hl 0 rfl) ?_
  refine pg_new S Y ok_X4 kc10_24 kn4 ki4 (fs := [.null, .null, .int 0, .int 0, .int 0, .int 0, .int 0]) (by decide) (by decide) (by decide) dX10_init_157 (fun q_93140 f_93141 H nq_93140 ef_93141 Y => ?_)
  have whkq_93140 := hk.notin nq_93140
  have hk := hk.push ef_93141 nq_93140
  have whkIq_93140 := hkI.notin nq_93140
  have hkI := hkI.push ef_93141 nq_93140
  have p_h := p_h.push ef_93141 nq_93140
  have p_q_92581 := p_q_92581.push ef_93141 nq_93140
  have p_q_92603 := p_q_92603.push ef_93141 nq_93140
  have p_q_93140 := pt.new (L := L_93122) ef_93141
  refine lv_dup hx hb dX10_init_160 rfl ?_
  refine cINv (b := q_93140) (As := []) (rest := [.ref q_93140, .int 15, .ref q_92603]) S Y (c_X4_init (l := l) p_q_93140) cw_X4_init km10_26 rfl ⟨Nat.le_of_ble_eq_true rfl, Nat.le_of_ble_eq_true rfl⟩ hl.1 rfl (Nat.le_of_ble_eq_true rfl) ⟨Nat.le_of_ble_eq_true rfl, Nat.le_of_ble_eq_true rfl⟩ dX10_init_161 (fun L_93142 f_93143 H locs hf_93143 Y => ?_)
  obtain ⟨a__93144, a__93145, kf_93143, z_z_93146, z_z_93147, z_z_93148, v_93149, v_93150⟩ := hf_93143
  have w_93151 := hk.notin v_93149
  have w_93152 := hkI.notin v_93149
  have w_93153 := hk.notin v_93150
  have w_93154 := hkI.notin v_93150
  have p_h := kf_93143.1 h _ (nmc (p_h.neK p_q_93140 (by decide)) nm0) p_h
  have p_q_92581 := kf_93143.1 q_92581 _ (nmc (p_q_92581.neB p_q_93140) nm0) p_q_92581
  have p_q_92603 := kf_93143.1 q_92603 _ (nmc (p_q_92603.neB p_q_93140) nm0) p_q_92603
  have p_q_93140 := z_z_93146
  have p_a__93144 := z_z_93147
  have p_a__93145 := z_z_93148
  have hk := hk.call kf_93143 (fun b hb hp => (nmc (neL hp whkq_93140) nm0))
  have hkI := hkI.call kf_93143 (fun b hb hp => (nmc (neL hp whkIq_93140) nm0))
  have nr_q_93140 : NRg gl_33 ad32 q_93140 := (SHC.nr I whkIq_93140)
  have nr_a__93144 : NRg gl_33 ad32 a__93144 := (SHC.nr I w_93152)
  have nr_a__93145 : NRg gl_33 ad32 a__93145 := (SHC.nr I w_93154)
  have I := I.kp hkI (allc nr_h (allc nr_q_92581 (allc nr_q_92603 all0)))
  have hkI : kp L_93142 f_93143 L_93142 f_93143 [h, q_92581, q_92603] := kp.rf
  obtain ⟨ad33, I, X_93155, Y_93156, Z_93157⟩ := SHC.led (l2 := gl_34) (n := 16) I rfl rfl rfl (by decide) rfl p_q_93140 p_a__93144 p_a__93145 nr_q_93140 nr_a__93144 nr_a__93145 
  have eq40_0 := (X_93155.2 40 0 (by decide)).trans eq40_0
  have eq41_0 := (X_93155.2 41 0 (by decide)).trans eq41_0
  have eq10_0 := (X_93155.2 10 0 (by decide)).trans eq10_0
  have eq20_0 := (X_93155.2 20 0 (by decide)).trans eq20_0
  have eq20_1 := (X_93155.2 20 1 (by decide)).trans eq20_1
  have eq20_2 := (X_93155.2 20 2 (by decide)).trans eq20_2
  have eq20_3 := (X_93155.2 20 3 (by decide)).trans eq20_3
  have eq20_4 := (X_93155.2 20 4 (by decide)).trans eq20_4
  have fam_sc := fam_x fam_sc X_93155 (by decide)
  have fam_pa := fam_x fam_pa X_93155 (by decide)
  have nr_h := Z_93157 _ nr_h (p_h.neK p_q_93140 (by decide)) (p_h.neA p_a__93144) (p_h.neA p_a__93145)
  have nr_q_92581 := Z_93157 _ nr_q_92581 (p_q_92581.neB p_q_93140) (p_q_92581.neN p_a__93144 (by decide)) (p_q_92581.neN p_a__93145 (by decide))
  have nr_q_92603 := Z_93157 _ nr_q_92603 (p_q_92603.neB p_q_93140) (p_q_92603.neN p_a__93144 (by decide)) (p_q_92603.neN p_a__93145 (by decide))
  have hout : ∀ x, x ∈ L → NRg gl_0 ad x → NRg gl_34 ad33 x := fun x hx hn => Z_93157 x (hout x hx hn) (fun e => whkq_93140 (by rw [← e]; exact hx)) (fun e => w_93151 (by rw [← e]; exact hx)) (fun e => w_93153 (by rw [← e]; exact hx))
  have hext := hext.tr X_93155
  have eq10_16 := Y_93156
  have hkI : kp L_93142 f_93143 L_93142 f_93143 [h, q_92581, q_92603] := kp.rf
  refine pg_aast S Y (k := 3) p_q_92603 rfl p_q_93140 ok_X4.1 (by unfold vp_in; decide) dX10_init_164 (fun f_93159 H locs ef_93159 Y => ?_)
  obtain ⟨g_93158, eg_93158⟩ : ∃ z, z = va_up (g_93138) (15 : Int32).toNatClampNeg (some q_93140) := ⟨_, rfl⟩
  rw [← eg_93158] at ef_93159
  have p_h := p_h.up ef_93159 ((p_h.neA p_q_92603))
  have p_q_92581 := p_q_92581.up ef_93159 ((p_q_92581.neN p_q_92603 (by decide)))
  have p_q_93140 := p_q_93140.up ef_93159 ((p_q_93140.neA p_q_92603))
  have p_q_92603 := p_q_92603.me ef_93159
  have hk := hk.upN ef_93159 whkq_92603
  have hkI := hkI.up ef_93159 (by simp)
  have fam_pa := fam_s (i := 15) fam_pa eq10_16 eg_93158
  refine lv_iinc (v := 16) (lv' := [(1, .int 16), (0, .ref h)]) hx hb dX10_init_165 hl (k := 0) rfl (by decide) (by decide) rfl (fun ls hl => ?_)
  refine lv_goto (tgt := 146) hx hb dX10_init_168 (by decide) ?_
  refine lv_iload_n hx hb dX10_init_146 rfl (lv_at hl 0 rfl) ?_
  refine lv_bipush (v := 30) hx hb dX10_init_147 (by decide) ?_
  refine lv_icmp_ge (tgt := 171) hx hb dX10_init_149 (by decide) (fun h => absurd h (by decide)) (fun _ => ?_)
  refine lv_aload_n hx hb dX10_init_152 rfl (lv_at hl 1 rfl) ?_
  refine pg_get S Y ok_X10 4 (by decide) kf10_31 (v := .ref q_92603) p_h rfl dX10_init_153 ?_
  refine lv_iload_n hx hb dX10_init_156 rfl (lv_at hl 0 rfl) ?_
  refine pg_new S Y ok_X4 kc10_24 kn4 ki4 (fs := [.null, .null, .int 0, .int 0, .int 0, .int 0, .int 0]) (by decide) (by decide) (by decide) dX10_init_157 (fun q_93160 f_93161 H nq_93160 ef_93161 Y => ?_)
  have whkq_93160 := hk.notin nq_93160
  have hk := hk.push ef_93161 nq_93160
  have whkIq_93160 := hkI.notin nq_93160
  have hkI := hkI.push ef_93161 nq_93160
  have p_h := p_h.push ef_93161 nq_93160
  have p_q_92581 := p_q_92581.push ef_93161 nq_93160
  have p_q_92603 := p_q_92603.push ef_93161 nq_93160
  have p_q_93160 := pt.new (L := L_93142) ef_93161
  refine lv_dup hx hb dX10_init_160 rfl ?_
  refine cINv (b := q_93160) (As := []) (rest := [.ref q_93160, .int 16, .ref q_92603]) S Y (c_X4_init (l := l) p_q_93160) cw_X4_init km10_26 rfl ⟨Nat.le_of_ble_eq_true rfl, Nat.le_of_ble_eq_true rfl⟩ hl.1 rfl (Nat.le_of_ble_eq_true rfl) ⟨Nat.le_of_ble_eq_true rfl, Nat.le_of_ble_eq_true rfl⟩ dX10_init_161 (fun L_93162 f_93163 H locs hf_93163 Y => ?_)
  obtain ⟨a__93164, a__93165, kf_93163, z_z_93166, z_z_93167, z_z_93168, v_93169, v_93170⟩ := hf_93163
  have w_93171 := hk.notin v_93169
  have w_93172 := hkI.notin v_93169
  have w_93173 := hk.notin v_93170
  have w_93174 := hkI.notin v_93170
  have p_h := kf_93163.1 h _ (nmc (p_h.neK p_q_93160 (by decide)) nm0) p_h
  have p_q_92581 := kf_93163.1 q_92581 _ (nmc (p_q_92581.neB p_q_93160) nm0) p_q_92581
  have p_q_92603 := kf_93163.1 q_92603 _ (nmc (p_q_92603.neB p_q_93160) nm0) p_q_92603
  have p_q_93160 := z_z_93166
  have p_a__93164 := z_z_93167
  have p_a__93165 := z_z_93168
  have hk := hk.call kf_93163 (fun b hb hp => (nmc (neL hp whkq_93160) nm0))
  have hkI := hkI.call kf_93163 (fun b hb hp => (nmc (neL hp whkIq_93160) nm0))
  have nr_q_93160 : NRg gl_34 ad33 q_93160 := (SHC.nr I whkIq_93160)
  have nr_a__93164 : NRg gl_34 ad33 a__93164 := (SHC.nr I w_93172)
  have nr_a__93165 : NRg gl_34 ad33 a__93165 := (SHC.nr I w_93174)
  have I := I.kp hkI (allc nr_h (allc nr_q_92581 (allc nr_q_92603 all0)))
  have hkI : kp L_93162 f_93163 L_93162 f_93163 [h, q_92581, q_92603] := kp.rf
  obtain ⟨ad34, I, X_93175, Y_93176, Z_93177⟩ := SHC.led (l2 := gl_35) (n := 17) I rfl rfl rfl (by decide) rfl p_q_93160 p_a__93164 p_a__93165 nr_q_93160 nr_a__93164 nr_a__93165 
  have eq40_0 := (X_93175.2 40 0 (by decide)).trans eq40_0
  have eq41_0 := (X_93175.2 41 0 (by decide)).trans eq41_0
  have eq10_0 := (X_93175.2 10 0 (by decide)).trans eq10_0
  have eq20_0 := (X_93175.2 20 0 (by decide)).trans eq20_0
  have eq20_1 := (X_93175.2 20 1 (by decide)).trans eq20_1
  have eq20_2 := (X_93175.2 20 2 (by decide)).trans eq20_2
  have eq20_3 := (X_93175.2 20 3 (by decide)).trans eq20_3
  have eq20_4 := (X_93175.2 20 4 (by decide)).trans eq20_4
  have fam_sc := fam_x fam_sc X_93175 (by decide)
  have fam_pa := fam_x fam_pa X_93175 (by decide)
  have nr_h := Z_93177 _ nr_h (p_h.neK p_q_93160 (by decide)) (p_h.neA p_a__93164) (p_h.neA p_a__93165)
  have nr_q_92581 := Z_93177 _ nr_q_92581 (p_q_92581.neB p_q_93160) (p_q_92581.neN p_a__93164 (by decide)) (p_q_92581.neN p_a__93165 (by decide))
  have nr_q_92603 := Z_93177 _ nr_q_92603 (p_q_92603.neB p_q_93160) (p_q_92603.neN p_a__93164 (by decide)) (p_q_92603.neN p_a__93165 (by decide))
  have hout : ∀ x, x ∈ L → NRg gl_0 ad x → NRg gl_35 ad34 x := fun x hx hn => Z_93177 x (hout x hx hn) (fun e => whkq_93160 (by rw [← e]; exact hx)) (fun e => w_93171 (by rw [← e]; exact hx)) (fun e => w_93173 (by rw [← e]; exact hx))
  have hext := hext.tr X_93175
  have eq10_17 := Y_93176
  have hkI : kp L_93162 f_93163 L_93162 f_93163 [h, q_92581, q_92603] := kp.rf
  refine pg_aast S Y (k := 3) p_q_92603 rfl p_q_93160 ok_X4.1 (by unfold vp_in; decide) dX10_init_164 (fun f_93179 H locs ef_93179 Y => ?_)
  obtain ⟨g_93178, eg_93178⟩ : ∃ z, z = va_up (g_93158) (16 : Int32).toNatClampNeg (some q_93160) := ⟨_, rfl⟩
  rw [← eg_93178] at ef_93179
  have p_h := p_h.up ef_93179 ((p_h.neA p_q_92603))
  have p_q_92581 := p_q_92581.up ef_93179 ((p_q_92581.neN p_q_92603 (by decide)))
  have p_q_93160 := p_q_93160.up ef_93179 ((p_q_93160.neA p_q_92603))
  have p_q_92603 := p_q_92603.me ef_93179
  have hk := hk.upN ef_93179 whkq_92603
  have hkI := hkI.up ef_93179 (by simp)
  have fam_pa := fam_s (i := 16) fam_pa eq10_17 eg_93178
  refine lv_iinc (v := 17) (lv' := [(1, .int 17), (0, .ref h)]) hx hb dX10_init_165 hl (k := 0) rfl (by decide) (by decide) rfl (fun ls hl => ?_)
  refine lv_goto (tgt := 146) hx hb dX10_init_168 (by decide) ?_
  refine lv_iload_n hx hb dX10_init_146 rfl (lv_at hl 0 rfl) ?_
  refine lv_bipush (v := 30) hx hb dX10_init_147 (by decide) ?_
  refine lv_icmp_ge (tgt := 171) hx hb dX10_init_149 (by decide) (fun h => absurd h (by decide)) (fun _ => ?_)
  refine lv_aload_n hx hb dX10_init_152 rfl (lv_at hl 1 rfl) ?_
  refine pg_get S Y ok_X10 4 (by decide) kf10_31 (v := .ref q_92603) p_h rfl dX10_init_153 ?_
  refine lv_iload_n hx hb dX10_init_156 rfl (lv_at hl 0 rfl) ?_
  refine pg_new S Y ok_X4 kc10_24 kn4 ki4 (fs := [.null, .null, .int 0, .int 0, .int 0, .int 0, .int 0]) (by decide) (by decide) (by decide) dX10_init_157 (fun q_93180 f_93181 H nq_93180 ef_93181 Y => ?_)
  have whkq_93180 := hk.notin nq_93180
  have hk := hk.push ef_93181 nq_93180
  have whkIq_93180 := hkI.notin nq_93180
  have hkI := hkI.push ef_93181 nq_93180
  have p_h := p_h.push ef_93181 nq_93180
  have p_q_92581 := p_q_92581.push ef_93181 nq_93180
  have p_q_92603 := p_q_92603.push ef_93181 nq_93180
  have p_q_93180 := pt.new (L := L_93162) ef_93181
  refine lv_dup hx hb dX10_init_160 rfl ?_
  refine cINv (b := q_93180) (As := []) (rest := [.ref q_93180, .int 17, .ref q_92603]) S Y (c_X4_init (l := l) p_q_93180) cw_X4_init km10_26 rfl ⟨Nat.le_of_ble_eq_true rfl, Nat.le_of_ble_eq_true rfl⟩ hl.1 rfl (Nat.le_of_ble_eq_true rfl) ⟨Nat.le_of_ble_eq_true rfl, Nat.le_of_ble_eq_true rfl⟩ dX10_init_161 (fun L_93182 f_93183 H locs hf_93183 Y => ?_)
  obtain ⟨a__93184, a__93185, kf_93183, z_z_93186, z_z_93187, z_z_93188, v_93189, v_93190⟩ := hf_93183
  have w_93191 := hk.notin v_93189
  have w_93192 := hkI.notin v_93189
  have w_93193 := hk.notin v_93190
  have w_93194 := hkI.notin v_93190
  have p_h := kf_93183.1 h _ (nmc (p_h.neK p_q_93180 (by decide)) nm0) p_h
  have p_q_92581 := kf_93183.1 q_92581 _ (nmc (p_q_92581.neB p_q_93180) nm0) p_q_92581
  have p_q_92603 := kf_93183.1 q_92603 _ (nmc (p_q_92603.neB p_q_93180) nm0) p_q_92603
  have p_q_93180 := z_z_93186
  have p_a__93184 := z_z_93187
  have p_a__93185 := z_z_93188
  have hk := hk.call kf_93183 (fun b hb hp => (nmc (neL hp whkq_93180) nm0))
  have hkI := hkI.call kf_93183 (fun b hb hp => (nmc (neL hp whkIq_93180) nm0))
  have nr_q_93180 : NRg gl_35 ad34 q_93180 := (SHC.nr I whkIq_93180)
  have nr_a__93184 : NRg gl_35 ad34 a__93184 := (SHC.nr I w_93192)
  have nr_a__93185 : NRg gl_35 ad34 a__93185 := (SHC.nr I w_93194)
  have I := I.kp hkI (allc nr_h (allc nr_q_92581 (allc nr_q_92603 all0)))
  have hkI : kp L_93182 f_93183 L_93182 f_93183 [h, q_92581, q_92603] := kp.rf
  obtain ⟨ad35, I, X_93195, Y_93196, Z_93197⟩ := SHC.led (l2 := gl_36) (n := 18) I rfl rfl rfl (by decide) rfl p_q_93180 p_a__93184 p_a__93185 nr_q_93180 nr_a__93184 nr_a__93185 
  have eq40_0 := (X_93195.2 40 0 (by decide)).trans eq40_0
  have eq41_0 := (X_93195.2 41 0 (by decide)).trans eq41_0
  have eq10_0 := (X_93195.2 10 0 (by decide)).trans eq10_0
  have eq20_0 := (X_93195.2 20 0 (by decide)).trans eq20_0
  have eq20_1 := (X_93195.2 20 1 (by decide)).trans eq20_1
  have eq20_2 := (X_93195.2 20 2 (by decide)).trans eq20_2
  have eq20_3 := (X_93195.2 20 3 (by decide)).trans eq20_3
  have eq20_4 := (X_93195.2 20 4 (by decide)).trans eq20_4
  have fam_sc := fam_x fam_sc X_93195 (by decide)
  have fam_pa := fam_x fam_pa X_93195 (by decide)
  have nr_h := Z_93197 _ nr_h (p_h.neK p_q_93180 (by decide)) (p_h.neA p_a__93184) (p_h.neA p_a__93185)
  have nr_q_92581 := Z_93197 _ nr_q_92581 (p_q_92581.neB p_q_93180) (p_q_92581.neN p_a__93184 (by decide)) (p_q_92581.neN p_a__93185 (by decide))
  have nr_q_92603 := Z_93197 _ nr_q_92603 (p_q_92603.neB p_q_93180) (p_q_92603.neN p_a__93184 (by decide)) (p_q_92603.neN p_a__93185 (by decide))
  have hout : ∀ x, x ∈ L → NRg gl_0 ad x → NRg gl_36 ad35 x := fun x hx hn => Z_93197 x (hout x hx hn) (fun e => whkq_93180 (by rw [← e]; exact hx)) (fun e => w_93191 (by rw [← e]; exact hx)) (fun e => w_93193 (by rw [← e]; exact hx))
  have hext := hext.tr X_93195
  have eq10_18 := Y_93196
  have hkI : kp L_93182 f_93183 L_93182 f_93183 [h, q_92581, q_92603] := kp.rf
  refine pg_aast S Y (k := 3) p_q_92603 rfl p_q_93180 ok_X4.1 (by unfold vp_in; decide) dX10_init_164 (fun f_93199 H locs ef_93199 Y => ?_)
  obtain ⟨g_93198, eg_93198⟩ : ∃ z, z = va_up (g_93178) (17 : Int32).toNatClampNeg (some q_93180) := ⟨_, rfl⟩
  rw [← eg_93198] at ef_93199
  have p_h := p_h.up ef_93199 ((p_h.neA p_q_92603))
  have p_q_92581 := p_q_92581.up ef_93199 ((p_q_92581.neN p_q_92603 (by decide)))
  have p_q_93180 := p_q_93180.up ef_93199 ((p_q_93180.neA p_q_92603))
  have p_q_92603 := p_q_92603.me ef_93199
  have hk := hk.upN ef_93199 whkq_92603
  have hkI := hkI.up ef_93199 (by simp)
  have fam_pa := fam_s (i := 17) fam_pa eq10_18 eg_93198
  refine lv_iinc (v := 18) (lv' := [(1, .int 18), (0, .ref h)]) hx hb dX10_init_165 hl (k := 0) rfl (by decide) (by decide) rfl (fun ls hl => ?_)
  refine lv_goto (tgt := 146) hx hb dX10_init_168 (by decide) ?_
  refine lv_iload_n hx hb dX10_init_146 rfl (lv_at hl 0 rfl) ?_
  refine lv_bipush (v := 30) hx hb dX10_init_147 (by decide) ?_
  refine lv_icmp_ge (tgt := 171) hx hb dX10_init_149 (by decide) (fun h => absurd h (by decide)) (fun _ => ?_)
  refine lv_aload_n hx hb dX10_init_152 rfl (lv_at hl 1 rfl) ?_
  refine pg_get S Y ok_X10 4 (by decide) kf10_31 (v := .ref q_92603) p_h rfl dX10_init_153 ?_
  refine lv_iload_n hx hb dX10_init_156 rfl (lv_at hl 0 rfl) ?_
  refine pg_new S Y ok_X4 kc10_24 kn4 ki4 (fs := [.null, .null, .int 0, .int 0, .int 0, .int 0, .int 0]) (by decide) (by decide) (by decide) dX10_init_157 (fun q_93200 f_93201 H nq_93200 ef_93201 Y => ?_)
  have whkq_93200 := hk.notin nq_93200
  have hk := hk.push ef_93201 nq_93200
  have whkIq_93200 := hkI.notin nq_93200
  have hkI := hkI.push ef_93201 nq_93200
  have p_h := p_h.push ef_93201 nq_93200
  have p_q_92581 := p_q_92581.push ef_93201 nq_93200
  have p_q_92603 := p_q_92603.push ef_93201 nq_93200
  have p_q_93200 := pt.new (L := L_93182) ef_93201
  refine lv_dup hx hb dX10_init_160 rfl ?_
  refine cINv (b := q_93200) (As := []) (rest := [.ref q_93200, .int 18, .ref q_92603]) S Y (c_X4_init (l := l) p_q_93200) cw_X4_init km10_26 rfl ⟨Nat.le_of_ble_eq_true rfl, Nat.le_of_ble_eq_true rfl⟩ hl.1 rfl (Nat.le_of_ble_eq_true rfl) ⟨Nat.le_of_ble_eq_true rfl, Nat.le_of_ble_eq_true rfl⟩ dX10_init_161 (fun L_93202 f_93203 H locs hf_93203 Y => ?_)
  obtain ⟨a__93204, a__93205, kf_93203, z_z_93206, z_z_93207, z_z_93208, v_93209, v_93210⟩ := hf_93203
  have w_93211 := hk.notin v_93209
  have w_93212 := hkI.notin v_93209
  have w_93213 := hk.notin v_93210
  have w_93214 := hkI.notin v_93210
  have p_h := kf_93203.1 h _ (nmc (p_h.neK p_q_93200 (by decide)) nm0) p_h
  have p_q_92581 := kf_93203.1 q_92581 _ (nmc (p_q_92581.neB p_q_93200) nm0) p_q_92581
  have p_q_92603 := kf_93203.1 q_92603 _ (nmc (p_q_92603.neB p_q_93200) nm0) p_q_92603
  have p_q_93200 := z_z_93206
  have p_a__93204 := z_z_93207
  have p_a__93205 := z_z_93208
  have hk := hk.call kf_93203 (fun b hb hp => (nmc (neL hp whkq_93200) nm0))
  have hkI := hkI.call kf_93203 (fun b hb hp => (nmc (neL hp whkIq_93200) nm0))
  have nr_q_93200 : NRg gl_36 ad35 q_93200 := (SHC.nr I whkIq_93200)
  have nr_a__93204 : NRg gl_36 ad35 a__93204 := (SHC.nr I w_93212)
  have nr_a__93205 : NRg gl_36 ad35 a__93205 := (SHC.nr I w_93214)
  have I := I.kp hkI (allc nr_h (allc nr_q_92581 (allc nr_q_92603 all0)))
  have hkI : kp L_93202 f_93203 L_93202 f_93203 [h, q_92581, q_92603] := kp.rf
  obtain ⟨ad36, I, X_93215, Y_93216, Z_93217⟩ := SHC.led (l2 := gl_37) (n := 19) I rfl rfl rfl (by decide) rfl p_q_93200 p_a__93204 p_a__93205 nr_q_93200 nr_a__93204 nr_a__93205 
  have eq40_0 := (X_93215.2 40 0 (by decide)).trans eq40_0
  have eq41_0 := (X_93215.2 41 0 (by decide)).trans eq41_0
  have eq10_0 := (X_93215.2 10 0 (by decide)).trans eq10_0
  have eq20_0 := (X_93215.2 20 0 (by decide)).trans eq20_0
  have eq20_1 := (X_93215.2 20 1 (by decide)).trans eq20_1
  have eq20_2 := (X_93215.2 20 2 (by decide)).trans eq20_2
  have eq20_3 := (X_93215.2 20 3 (by decide)).trans eq20_3
  have eq20_4 := (X_93215.2 20 4 (by decide)).trans eq20_4
  have fam_sc := fam_x fam_sc X_93215 (by decide)
  have fam_pa := fam_x fam_pa X_93215 (by decide)
  have nr_h := Z_93217 _ nr_h (p_h.neK p_q_93200 (by decide)) (p_h.neA p_a__93204) (p_h.neA p_a__93205)
  have nr_q_92581 := Z_93217 _ nr_q_92581 (p_q_92581.neB p_q_93200) (p_q_92581.neN p_a__93204 (by decide)) (p_q_92581.neN p_a__93205 (by decide))
  have nr_q_92603 := Z_93217 _ nr_q_92603 (p_q_92603.neB p_q_93200) (p_q_92603.neN p_a__93204 (by decide)) (p_q_92603.neN p_a__93205 (by decide))
  have hout : ∀ x, x ∈ L → NRg gl_0 ad x → NRg gl_37 ad36 x := fun x hx hn => Z_93217 x (hout x hx hn) (fun e => whkq_93200 (by rw [← e]; exact hx)) (fun e => w_93211 (by rw [← e]; exact hx)) (fun e => w_93213 (by rw [← e]; exact hx))
  have hext := hext.tr X_93215
  have eq10_19 := Y_93216
  have hkI : kp L_93202 f_93203 L_93202 f_93203 [h, q_92581, q_92603] := kp.rf
  refine pg_aast S Y (k := 3) p_q_92603 rfl p_q_93200 ok_X4.1 (by unfold vp_in; decide) dX10_init_164 (fun f_93219 H locs ef_93219 Y => ?_)
  obtain ⟨g_93218, eg_93218⟩ : ∃ z, z = va_up (g_93198) (18 : Int32).toNatClampNeg (some q_93200) := ⟨_, rfl⟩
  rw [← eg_93218] at ef_93219
  have p_h := p_h.up ef_93219 ((p_h.neA p_q_92603))
  have p_q_92581 := p_q_92581.up ef_93219 ((p_q_92581.neN p_q_92603 (by decide)))
  have p_q_93200 := p_q_93200.up ef_93219 ((p_q_93200.neA p_q_92603))
  have p_q_92603 := p_q_92603.me ef_93219
  have hk := hk.upN ef_93219 whkq_92603
  have hkI := hkI.up ef_93219 (by simp)
  have fam_pa := fam_s (i := 18) fam_pa eq10_19 eg_93218
  refine lv_iinc (v := 19) (lv' := [(1, .int 19), (0, .ref h)]) hx hb dX10_init_165 hl (k := 0) rfl (by decide) (by decide) rfl (fun ls hl => ?_)
  refine lv_goto (tgt := 146) hx hb dX10_init_168 (by decide) ?_
  refine lv_iload_n hx hb dX10_init_146 rfl (lv_at hl 0 rfl) ?_
  refine lv_bipush (v := 30) hx hb dX10_init_147 (by decide) ?_
  refine lv_icmp_ge (tgt := 171) hx hb dX10_init_149 (by decide) (fun h => absurd h (by decide)) (fun _ => ?_)
  refine lv_aload_n hx hb dX10_init_152 rfl (lv_at hl 1 rfl) ?_
  refine pg_get S Y ok_X10 4 (by decide) kf10_31 (v := .ref q_92603) p_h rfl dX10_init_153 ?_
  refine lv_iload_n hx hb dX10_init_156 rfl (lv_at hl 0 rfl) ?_
  refine pg_new S Y ok_X4 kc10_24 kn4 ki4 (fs := [.null, .null, .int 0, .int 0, .int 0, .int 0, .int 0]) (by decide) (by decide) (by decide) dX10_init_157 (fun q_93220 f_93221 H nq_93220 ef_93221 Y => ?_)
  have whkq_93220 := hk.notin nq_93220
  have hk := hk.push ef_93221 nq_93220
  have whkIq_93220 := hkI.notin nq_93220
  have hkI := hkI.push ef_93221 nq_93220
  have p_h := p_h.push ef_93221 nq_93220
  have p_q_92581 := p_q_92581.push ef_93221 nq_93220
  have p_q_92603 := p_q_92603.push ef_93221 nq_93220
  have p_q_93220 := pt.new (L := L_93202) ef_93221
  refine lv_dup hx hb dX10_init_160 rfl ?_
  refine cINv (b := q_93220) (As := []) (rest := [.ref q_93220, .int 19, .ref q_92603]) S Y (c_X4_init (l := l) p_q_93220) cw_X4_init km10_26 rfl ⟨Nat.le_of_ble_eq_true rfl, Nat.le_of_ble_eq_true rfl⟩ hl.1 rfl (Nat.le_of_ble_eq_true rfl) ⟨Nat.le_of_ble_eq_true rfl, Nat.le_of_ble_eq_true rfl⟩ dX10_init_161 (fun L_93222 f_93223 H locs hf_93223 Y => ?_)
  obtain ⟨a__93224, a__93225, kf_93223, z_z_93226, z_z_93227, z_z_93228, v_93229, v_93230⟩ := hf_93223
  have w_93231 := hk.notin v_93229
  have w_93232 := hkI.notin v_93229
  have w_93233 := hk.notin v_93230
  have w_93234 := hkI.notin v_93230
  have p_h := kf_93223.1 h _ (nmc (p_h.neK p_q_93220 (by decide)) nm0) p_h
  have p_q_92581 := kf_93223.1 q_92581 _ (nmc (p_q_92581.neB p_q_93220) nm0) p_q_92581
  have p_q_92603 := kf_93223.1 q_92603 _ (nmc (p_q_92603.neB p_q_93220) nm0) p_q_92603
  have p_q_93220 := z_z_93226
  have p_a__93224 := z_z_93227
  have p_a__93225 := z_z_93228
  have hk := hk.call kf_93223 (fun b hb hp => (nmc (neL hp whkq_93220) nm0))
  have hkI := hkI.call kf_93223 (fun b hb hp => (nmc (neL hp whkIq_93220) nm0))
  have nr_q_93220 : NRg gl_37 ad36 q_93220 := (SHC.nr I whkIq_93220)
  have nr_a__93224 : NRg gl_37 ad36 a__93224 := (SHC.nr I w_93232)
  have nr_a__93225 : NRg gl_37 ad36 a__93225 := (SHC.nr I w_93234)
  have I := I.kp hkI (allc nr_h (allc nr_q_92581 (allc nr_q_92603 all0)))
  have hkI : kp L_93222 f_93223 L_93222 f_93223 [h, q_92581, q_92603] := kp.rf
  obtain ⟨ad37, I, X_93235, Y_93236, Z_93237⟩ := SHC.led (l2 := gl_38) (n := 20) I rfl rfl rfl (by decide) rfl p_q_93220 p_a__93224 p_a__93225 nr_q_93220 nr_a__93224 nr_a__93225 
  have eq40_0 := (X_93235.2 40 0 (by decide)).trans eq40_0
  have eq41_0 := (X_93235.2 41 0 (by decide)).trans eq41_0
  have eq10_0 := (X_93235.2 10 0 (by decide)).trans eq10_0
  have eq20_0 := (X_93235.2 20 0 (by decide)).trans eq20_0
  have eq20_1 := (X_93235.2 20 1 (by decide)).trans eq20_1
  have eq20_2 := (X_93235.2 20 2 (by decide)).trans eq20_2
  have eq20_3 := (X_93235.2 20 3 (by decide)).trans eq20_3
  have eq20_4 := (X_93235.2 20 4 (by decide)).trans eq20_4
  have fam_sc := fam_x fam_sc X_93235 (by decide)
  have fam_pa := fam_x fam_pa X_93235 (by decide)
  have nr_h := Z_93237 _ nr_h (p_h.neK p_q_93220 (by decide)) (p_h.neA p_a__93224) (p_h.neA p_a__93225)
  have nr_q_92581 := Z_93237 _ nr_q_92581 (p_q_92581.neB p_q_93220) (p_q_92581.neN p_a__93224 (by decide)) (p_q_92581.neN p_a__93225 (by decide))
  have nr_q_92603 := Z_93237 _ nr_q_92603 (p_q_92603.neB p_q_93220) (p_q_92603.neN p_a__93224 (by decide)) (p_q_92603.neN p_a__93225 (by decide))
  have hout : ∀ x, x ∈ L → NRg gl_0 ad x → NRg gl_38 ad37 x := fun x hx hn => Z_93237 x (hout x hx hn) (fun e => whkq_93220 (by rw [← e]; exact hx)) (fun e => w_93231 (by rw [← e]; exact hx)) (fun e => w_93233 (by rw [← e]; exact hx))
  have hext := hext.tr X_93235
  have eq10_20 := Y_93236
  have hkI : kp L_93222 f_93223 L_93222 f_93223 [h, q_92581, q_92603] := kp.rf
  refine pg_aast S Y (k := 3) p_q_92603 rfl p_q_93220 ok_X4.1 (by unfold vp_in; decide) dX10_init_164 (fun f_93239 H locs ef_93239 Y => ?_)
  obtain ⟨g_93238, eg_93238⟩ : ∃ z, z = va_up (g_93218) (19 : Int32).toNatClampNeg (some q_93220) := ⟨_, rfl⟩
  rw [← eg_93238] at ef_93239
  have p_h := p_h.up ef_93239 ((p_h.neA p_q_92603))
  have p_q_92581 := p_q_92581.up ef_93239 ((p_q_92581.neN p_q_92603 (by decide)))
  have p_q_93220 := p_q_93220.up ef_93239 ((p_q_93220.neA p_q_92603))
  have p_q_92603 := p_q_92603.me ef_93239
  have hk := hk.upN ef_93239 whkq_92603
  have hkI := hkI.up ef_93239 (by simp)
  have fam_pa := fam_s (i := 19) fam_pa eq10_20 eg_93238
  refine lv_iinc (v := 20) (lv' := [(1, .int 20), (0, .ref h)]) hx hb dX10_init_165 hl (k := 0) rfl (by decide) (by decide) rfl (fun ls hl => ?_)
  refine lv_goto (tgt := 146) hx hb dX10_init_168 (by decide) ?_
  refine lv_iload_n hx hb dX10_init_146 rfl (lv_at hl 0 rfl) ?_
  refine lv_bipush (v := 30) hx hb dX10_init_147 (by decide) ?_
  refine lv_icmp_ge (tgt := 171) hx hb dX10_init_149 (by decide) (fun h => absurd h (by decide)) (fun _ => ?_)
  refine lv_aload_n hx hb dX10_init_152 rfl (lv_at hl 1 rfl) ?_
  refine pg_get S Y ok_X10 4 (by decide) kf10_31 (v := .ref q_92603) p_h rfl dX10_init_153 ?_
  refine lv_iload_n hx hb dX10_init_156 rfl (lv_at hl 0 rfl) ?_
  refine pg_new S Y ok_X4 kc10_24 kn4 ki4 (fs := [.null, .null, .int 0, .int 0, .int 0, .int 0, .int 0]) (by decide) (by decide) (by decide) dX10_init_157 (fun q_93240 f_93241 H nq_93240 ef_93241 Y => ?_)
  have whkq_93240 := hk.notin nq_93240
  have hk := hk.push ef_93241 nq_93240
  have whkIq_93240 := hkI.notin nq_93240
  have hkI := hkI.push ef_93241 nq_93240
  have p_h := p_h.push ef_93241 nq_93240
  have p_q_92581 := p_q_92581.push ef_93241 nq_93240
  have p_q_92603 := p_q_92603.push ef_93241 nq_93240
  have p_q_93240 := pt.new (L := L_93222) ef_93241
  refine lv_dup hx hb dX10_init_160 rfl ?_
  refine cINv (b := q_93240) (As := []) (rest := [.ref q_93240, .int 20, .ref q_92603]) S Y (c_X4_init (l := l) p_q_93240) cw_X4_init km10_26 rfl ⟨Nat.le_of_ble_eq_true rfl, Nat.le_of_ble_eq_true rfl⟩ hl.1 rfl (Nat.le_of_ble_eq_true rfl) ⟨Nat.le_of_ble_eq_true rfl, Nat.le_of_ble_eq_true rfl⟩ dX10_init_161 (fun L_93242 f_93243 H locs hf_93243 Y => ?_)
  obtain ⟨a__93244, a__93245, kf_93243, z_z_93246, z_z_93247, z_z_93248, v_93249, v_93250⟩ := hf_93243
  have w_93251 := hk.notin v_93249
  have w_93252 := hkI.notin v_93249
  have w_93253 := hk.notin v_93250
  have w_93254 := hkI.notin v_93250
  have p_h := kf_93243.1 h _ (nmc (p_h.neK p_q_93240 (by decide)) nm0) p_h
  have p_q_92581 := kf_93243.1 q_92581 _ (nmc (p_q_92581.neB p_q_93240) nm0) p_q_92581
  have p_q_92603 := kf_93243.1 q_92603 _ (nmc (p_q_92603.neB p_q_93240) nm0) p_q_92603
  have p_q_93240 := z_z_93246
  have p_a__93244 := z_z_93247
  have p_a__93245 := z_z_93248
  have hk := hk.call kf_93243 (fun b hb hp => (nmc (neL hp whkq_93240) nm0))
  have hkI := hkI.call kf_93243 (fun b hb hp => (nmc (neL hp whkIq_93240) nm0))
  have nr_q_93240 : NRg gl_38 ad37 q_93240 := (SHC.nr I whkIq_93240)
  have nr_a__93244 : NRg gl_38 ad37 a__93244 := (SHC.nr I w_93252)
  have nr_a__93245 : NRg gl_38 ad37 a__93245 := (SHC.nr I w_93254)
  have I := I.kp hkI (allc nr_h (allc nr_q_92581 (allc nr_q_92603 all0)))
  have hkI : kp L_93242 f_93243 L_93242 f_93243 [h, q_92581, q_92603] := kp.rf
  obtain ⟨ad38, I, X_93255, Y_93256, Z_93257⟩ := SHC.led (l2 := gl_39) (n := 21) I rfl rfl rfl (by decide) rfl p_q_93240 p_a__93244 p_a__93245 nr_q_93240 nr_a__93244 nr_a__93245 
  have eq40_0 := (X_93255.2 40 0 (by decide)).trans eq40_0
  have eq41_0 := (X_93255.2 41 0 (by decide)).trans eq41_0
  have eq10_0 := (X_93255.2 10 0 (by decide)).trans eq10_0
  have eq20_0 := (X_93255.2 20 0 (by decide)).trans eq20_0
  have eq20_1 := (X_93255.2 20 1 (by decide)).trans eq20_1
  have eq20_2 := (X_93255.2 20 2 (by decide)).trans eq20_2
  have eq20_3 := (X_93255.2 20 3 (by decide)).trans eq20_3
  have eq20_4 := (X_93255.2 20 4 (by decide)).trans eq20_4
  have fam_sc := fam_x fam_sc X_93255 (by decide)
  have fam_pa := fam_x fam_pa X_93255 (by decide)
  have nr_h := Z_93257 _ nr_h (p_h.neK p_q_93240 (by decide)) (p_h.neA p_a__93244) (p_h.neA p_a__93245)
  have nr_q_92581 := Z_93257 _ nr_q_92581 (p_q_92581.neB p_q_93240) (p_q_92581.neN p_a__93244 (by decide)) (p_q_92581.neN p_a__93245 (by decide))
  have nr_q_92603 := Z_93257 _ nr_q_92603 (p_q_92603.neB p_q_93240) (p_q_92603.neN p_a__93244 (by decide)) (p_q_92603.neN p_a__93245 (by decide))
  have hout : ∀ x, x ∈ L → NRg gl_0 ad x → NRg gl_39 ad38 x := fun x hx hn => Z_93257 x (hout x hx hn) (fun e => whkq_93240 (by rw [← e]; exact hx)) (fun e => w_93251 (by rw [← e]; exact hx)) (fun e => w_93253 (by rw [← e]; exact hx))
  have hext := hext.tr X_93255
  have eq10_21 := Y_93256
  have hkI : kp L_93242 f_93243 L_93242 f_93243 [h, q_92581, q_92603] := kp.rf
  refine pg_aast S Y (k := 3) p_q_92603 rfl p_q_93240 ok_X4.1 (by unfold vp_in; decide) dX10_init_164 (fun f_93259 H locs ef_93259 Y => ?_)
  obtain ⟨g_93258, eg_93258⟩ : ∃ z, z = va_up (g_93238) (20 : Int32).toNatClampNeg (some q_93240) := ⟨_, rfl⟩
  rw [← eg_93258] at ef_93259
  have p_h := p_h.up ef_93259 ((p_h.neA p_q_92603))
  have p_q_92581 := p_q_92581.up ef_93259 ((p_q_92581.neN p_q_92603 (by decide)))
  have p_q_93240 := p_q_93240.up ef_93259 ((p_q_93240.neA p_q_92603))
  have p_q_92603 := p_q_92603.me ef_93259
  have hk := hk.upN ef_93259 whkq_92603
  have hkI := hkI.up ef_93259 (by simp)
  have fam_pa := fam_s (i := 20) fam_pa eq10_21 eg_93258
  refine lv_iinc (v := 21) (lv' := [(1, .int 21), (0, .ref h)]) hx hb dX10_init_165 hl (k := 0) rfl (by decide) (by decide) rfl (fun ls hl => ?_)
  refine lv_goto (tgt := 146) hx hb dX10_init_168 (by decide) ?_
  refine lv_iload_n hx hb dX10_init_146 rfl (lv_at hl 0 rfl) ?_
  refine lv_bipush (v := 30) hx hb dX10_init_147 (by decide) ?_
  refine lv_icmp_ge (tgt := 171) hx hb dX10_init_149 (by decide) (fun h => absurd h (by decide)) (fun _ => ?_)
  refine lv_aload_n hx hb dX10_init_152 rfl (lv_at hl 1 rfl) ?_
  refine pg_get S Y ok_X10 4 (by decide) kf10_31 (v := .ref q_92603) p_h rfl dX10_init_153 ?_
  refine lv_iload_n hx hb dX10_init_156 rfl (lv_at hl 0 rfl) ?_
  refine pg_new S Y ok_X4 kc10_24 kn4 ki4 (fs := [.null, .null, .int 0, .int 0, .int 0, .int 0, .int 0]) (by decide) (by decide) (by decide) dX10_init_157 (fun q_93260 f_93261 H nq_93260 ef_93261 Y => ?_)
  have whkq_93260 := hk.notin nq_93260
  have hk := hk.push ef_93261 nq_93260
  have whkIq_93260 := hkI.notin nq_93260
  have hkI := hkI.push ef_93261 nq_93260
  have p_h := p_h.push ef_93261 nq_93260
  have p_q_92581 := p_q_92581.push ef_93261 nq_93260
  have p_q_92603 := p_q_92603.push ef_93261 nq_93260
  have p_q_93260 := pt.new (L := L_93242) ef_93261
  refine lv_dup hx hb dX10_init_160 rfl ?_
  refine cINv (b := q_93260) (As := []) (rest := [.ref q_93260, .int 21, .ref q_92603]) S Y (c_X4_init (l := l) p_q_93260) cw_X4_init km10_26 rfl ⟨Nat.le_of_ble_eq_true rfl, Nat.le_of_ble_eq_true rfl⟩ hl.1 rfl (Nat.le_of_ble_eq_true rfl) ⟨Nat.le_of_ble_eq_true rfl, Nat.le_of_ble_eq_true rfl⟩ dX10_init_161 (fun L_93262 f_93263 H locs hf_93263 Y => ?_)
  obtain ⟨a__93264, a__93265, kf_93263, z_z_93266, z_z_93267, z_z_93268, v_93269, v_93270⟩ := hf_93263
  have w_93271 := hk.notin v_93269
  have w_93272 := hkI.notin v_93269
  have w_93273 := hk.notin v_93270
  have w_93274 := hkI.notin v_93270
  have p_h := kf_93263.1 h _ (nmc (p_h.neK p_q_93260 (by decide)) nm0) p_h
  have p_q_92581 := kf_93263.1 q_92581 _ (nmc (p_q_92581.neB p_q_93260) nm0) p_q_92581
  have p_q_92603 := kf_93263.1 q_92603 _ (nmc (p_q_92603.neB p_q_93260) nm0) p_q_92603
  have p_q_93260 := z_z_93266
  have p_a__93264 := z_z_93267
  have p_a__93265 := z_z_93268
  have hk := hk.call kf_93263 (fun b hb hp => (nmc (neL hp whkq_93260) nm0))
  have hkI := hkI.call kf_93263 (fun b hb hp => (nmc (neL hp whkIq_93260) nm0))
  have nr_q_93260 : NRg gl_39 ad38 q_93260 := (SHC.nr I whkIq_93260)
  have nr_a__93264 : NRg gl_39 ad38 a__93264 := (SHC.nr I w_93272)
  have nr_a__93265 : NRg gl_39 ad38 a__93265 := (SHC.nr I w_93274)
  have I := I.kp hkI (allc nr_h (allc nr_q_92581 (allc nr_q_92603 all0)))
  have hkI : kp L_93262 f_93263 L_93262 f_93263 [h, q_92581, q_92603] := kp.rf
  obtain ⟨ad39, I, X_93275, Y_93276, Z_93277⟩ := SHC.led (l2 := gl_40) (n := 22) I rfl rfl rfl (by decide) rfl p_q_93260 p_a__93264 p_a__93265 nr_q_93260 nr_a__93264 nr_a__93265 
  have eq40_0 := (X_93275.2 40 0 (by decide)).trans eq40_0
  have eq41_0 := (X_93275.2 41 0 (by decide)).trans eq41_0
  have eq10_0 := (X_93275.2 10 0 (by decide)).trans eq10_0
  have eq20_0 := (X_93275.2 20 0 (by decide)).trans eq20_0
  have eq20_1 := (X_93275.2 20 1 (by decide)).trans eq20_1
  have eq20_2 := (X_93275.2 20 2 (by decide)).trans eq20_2
  have eq20_3 := (X_93275.2 20 3 (by decide)).trans eq20_3
  have eq20_4 := (X_93275.2 20 4 (by decide)).trans eq20_4
  have fam_sc := fam_x fam_sc X_93275 (by decide)
  have fam_pa := fam_x fam_pa X_93275 (by decide)
  have nr_h := Z_93277 _ nr_h (p_h.neK p_q_93260 (by decide)) (p_h.neA p_a__93264) (p_h.neA p_a__93265)
  have nr_q_92581 := Z_93277 _ nr_q_92581 (p_q_92581.neB p_q_93260) (p_q_92581.neN p_a__93264 (by decide)) (p_q_92581.neN p_a__93265 (by decide))
  have nr_q_92603 := Z_93277 _ nr_q_92603 (p_q_92603.neB p_q_93260) (p_q_92603.neN p_a__93264 (by decide)) (p_q_92603.neN p_a__93265 (by decide))
  have hout : ∀ x, x ∈ L → NRg gl_0 ad x → NRg gl_40 ad39 x := fun x hx hn => Z_93277 x (hout x hx hn) (fun e => whkq_93260 (by rw [← e]; exact hx)) (fun e => w_93271 (by rw [← e]; exact hx)) (fun e => w_93273 (by rw [← e]; exact hx))
  have hext := hext.tr X_93275
  have eq10_22 := Y_93276
  have hkI : kp L_93262 f_93263 L_93262 f_93263 [h, q_92581, q_92603] := kp.rf
  refine pg_aast S Y (k := 3) p_q_92603 rfl p_q_93260 ok_X4.1 (by unfold vp_in; decide) dX10_init_164 (fun f_93279 H locs ef_93279 Y => ?_)
  obtain ⟨g_93278, eg_93278⟩ : ∃ z, z = va_up (g_93258) (21 : Int32).toNatClampNeg (some q_93260) := ⟨_, rfl⟩
  rw [← eg_93278] at ef_93279
  have p_h := p_h.up ef_93279 ((p_h.neA p_q_92603))
  have p_q_92581 := p_q_92581.up ef_93279 ((p_q_92581.neN p_q_92603 (by decide)))
  have p_q_93260 := p_q_93260.up ef_93279 ((p_q_93260.neA p_q_92603))
  have p_q_92603 := p_q_92603.me ef_93279
  have hk := hk.upN ef_93279 whkq_92603
  have hkI := hkI.up ef_93279 (by simp)
  have fam_pa := fam_s (i := 21) fam_pa eq10_22 eg_93278
  refine lv_iinc (v := 22) (lv' := [(1, .int 22), (0, .ref h)]) hx hb dX10_init_165 hl (k := 0) rfl (by decide) (by decide) rfl (fun ls hl => ?_)
  refine lv_goto (tgt := 146) hx hb dX10_init_168 (by decide) ?_
  refine lv_iload_n hx hb dX10_init_146 rfl (lv_at hl 0 rfl) ?_
  refine lv_bipush (v := 30) hx hb dX10_init_147 (by decide) ?_
  refine lv_icmp_ge (tgt := 171) hx hb dX10_init_149 (by decide) (fun h => absurd h (by decide)) (fun _ => ?_)
  refine lv_aload_n hx hb dX10_init_152 rfl (lv_at hl 1 rfl) ?_
  refine pg_get S Y ok_X10 4 (by decide) kf10_31 (v := .ref q_92603) p_h rfl dX10_init_153 ?_
  refine lv_iload_n hx hb dX10_init_156 rfl (lv_at hl 0 rfl) ?_
  refine pg_new S Y ok_X4 kc10_24 kn4 ki4 (fs := [.null, .null, .int 0, .int 0, .int 0, .int 0, .int 0]) (by decide) (by decide) (by decide) dX10_init_157 (fun q_93280 f_93281 H nq_93280 ef_93281 Y => ?_)
  have whkq_93280 := hk.notin nq_93280
  have hk := hk.push ef_93281 nq_93280
  have whkIq_93280 := hkI.notin nq_93280
  have hkI := hkI.push ef_93281 nq_93280
  have p_h := p_h.push ef_93281 nq_93280
  have p_q_92581 := p_q_92581.push ef_93281 nq_93280
  have p_q_92603 := p_q_92603.push ef_93281 nq_93280
  have p_q_93280 := pt.new (L := L_93262) ef_93281
  refine lv_dup hx hb dX10_init_160 rfl ?_
  refine cINv (b := q_93280) (As := []) (rest := [.ref q_93280, .int 22, .ref q_92603]) S Y (c_X4_init (l := l) p_q_93280) cw_X4_init km10_26 rfl ⟨Nat.le_of_ble_eq_true rfl, Nat.le_of_ble_eq_true rfl⟩ hl.1 rfl (Nat.le_of_ble_eq_true rfl) ⟨Nat.le_of_ble_eq_true rfl, Nat.le_of_ble_eq_true rfl⟩ dX10_init_161 (fun L_93282 f_93283 H locs hf_93283 Y => ?_)
  obtain ⟨a__93284, a__93285, kf_93283, z_z_93286, z_z_93287, z_z_93288, v_93289, v_93290⟩ := hf_93283
  have w_93291 := hk.notin v_93289
  have w_93292 := hkI.notin v_93289
  have w_93293 := hk.notin v_93290
  have w_93294 := hkI.notin v_93290
  have p_h := kf_93283.1 h _ (nmc (p_h.neK p_q_93280 (by decide)) nm0) p_h
  have p_q_92581 := kf_93283.1 q_92581 _ (nmc (p_q_92581.neB p_q_93280) nm0) p_q_92581
  have p_q_92603 := kf_93283.1 q_92603 _ (nmc (p_q_92603.neB p_q_93280) nm0) p_q_92603
  have p_q_93280 := z_z_93286
  have p_a__93284 := z_z_93287
  have p_a__93285 := z_z_93288
  have hk := hk.call kf_93283 (fun b hb hp => (nmc (neL hp whkq_93280) nm0))
  have hkI := hkI.call kf_93283 (fun b hb hp => (nmc (neL hp whkIq_93280) nm0))
  have nr_q_93280 : NRg gl_40 ad39 q_93280 := (SHC.nr I whkIq_93280)
  have nr_a__93284 : NRg gl_40 ad39 a__93284 := (SHC.nr I w_93292)
  have nr_a__93285 : NRg gl_40 ad39 a__93285 := (SHC.nr I w_93294)
  have I := I.kp hkI (allc nr_h (allc nr_q_92581 (allc nr_q_92603 all0)))
  have hkI : kp L_93282 f_93283 L_93282 f_93283 [h, q_92581, q_92603] := kp.rf
  obtain ⟨ad40, I, X_93295, Y_93296, Z_93297⟩ := SHC.led (l2 := gl_41) (n := 23) I rfl rfl rfl (by decide) rfl p_q_93280 p_a__93284 p_a__93285 nr_q_93280 nr_a__93284 nr_a__93285 
  have eq40_0 := (X_93295.2 40 0 (by decide)).trans eq40_0
  have eq41_0 := (X_93295.2 41 0 (by decide)).trans eq41_0
  have eq10_0 := (X_93295.2 10 0 (by decide)).trans eq10_0
  have eq20_0 := (X_93295.2 20 0 (by decide)).trans eq20_0
  have eq20_1 := (X_93295.2 20 1 (by decide)).trans eq20_1
  have eq20_2 := (X_93295.2 20 2 (by decide)).trans eq20_2
  have eq20_3 := (X_93295.2 20 3 (by decide)).trans eq20_3
  have eq20_4 := (X_93295.2 20 4 (by decide)).trans eq20_4
  have fam_sc := fam_x fam_sc X_93295 (by decide)
  have fam_pa := fam_x fam_pa X_93295 (by decide)
  have nr_h := Z_93297 _ nr_h (p_h.neK p_q_93280 (by decide)) (p_h.neA p_a__93284) (p_h.neA p_a__93285)
  have nr_q_92581 := Z_93297 _ nr_q_92581 (p_q_92581.neB p_q_93280) (p_q_92581.neN p_a__93284 (by decide)) (p_q_92581.neN p_a__93285 (by decide))
  have nr_q_92603 := Z_93297 _ nr_q_92603 (p_q_92603.neB p_q_93280) (p_q_92603.neN p_a__93284 (by decide)) (p_q_92603.neN p_a__93285 (by decide))
  have hout : ∀ x, x ∈ L → NRg gl_0 ad x → NRg gl_41 ad40 x := fun x hx hn => Z_93297 x (hout x hx hn) (fun e => whkq_93280 (by rw [← e]; exact hx)) (fun e => w_93291 (by rw [← e]; exact hx)) (fun e => w_93293 (by rw [← e]; exact hx))
  have hext := hext.tr X_93295
  have eq10_23 := Y_93296
  have hkI : kp L_93282 f_93283 L_93282 f_93283 [h, q_92581, q_92603] := kp.rf
  refine pg_aast S Y (k := 3) p_q_92603 rfl p_q_93280 ok_X4.1 (by unfold vp_in; decide) dX10_init_164 (fun f_93299 H locs ef_93299 Y => ?_)
  obtain ⟨g_93298, eg_93298⟩ : ∃ z, z = va_up (g_93278) (22 : Int32).toNatClampNeg (some q_93280) := ⟨_, rfl⟩
  rw [← eg_93298] at ef_93299
  have p_h := p_h.up ef_93299 ((p_h.neA p_q_92603))
  have p_q_92581 := p_q_92581.up ef_93299 ((p_q_92581.neN p_q_92603 (by decide)))
  have p_q_93280 := p_q_93280.up ef_93299 ((p_q_93280.neA p_q_92603))
  have p_q_92603 := p_q_92603.me ef_93299
  have hk := hk.upN ef_93299 whkq_92603
  have hkI := hkI.up ef_93299 (by simp)
  have fam_pa := fam_s (i := 22) fam_pa eq10_23 eg_93298
  refine lv_iinc (v := 23) (lv' := [(1, .int 23), (0, .ref h)]) hx hb dX10_init_165 hl (k := 0) rfl (by decide) (by decide) rfl (fun ls hl => ?_)
  refine lv_goto (tgt := 146) hx hb dX10_init_168 (by decide) ?_
  refine lv_iload_n hx hb dX10_init_146 rfl (lv_at hl 0 rfl) ?_
  refine lv_bipush (v := 30) hx hb dX10_init_147 (by decide) ?_
  refine lv_icmp_ge (tgt := 171) hx hb dX10_init_149 (by decide) (fun h => absurd h (by decide)) (fun _ => ?_)
  refine lv_aload_n hx hb dX10_init_152 rfl (lv_at hl 1 rfl) ?_
  refine pg_get S Y ok_X10 4 (by decide) kf10_31 (v := .ref q_92603) p_h rfl dX10_init_153 ?_
  refine lv_iload_n hx hb dX10_init_156 rfl (lv_at hl 0 rfl) ?_
  refine pg_new S Y ok_X4 kc10_24 kn4 ki4 (fs := [.null, .null, .int 0, .int 0, .int 0, .int 0, .int 0]) (by decide) (by decide) (by decide) dX10_init_157 (fun q_93300 f_93301 H nq_93300 ef_93301 Y => ?_)
  have whkq_93300 := hk.notin nq_93300
  have hk := hk.push ef_93301 nq_93300
  have whkIq_93300 := hkI.notin nq_93300
  have hkI := hkI.push ef_93301 nq_93300
  have p_h := p_h.push ef_93301 nq_93300
  have p_q_92581 := p_q_92581.push ef_93301 nq_93300
  have p_q_92603 := p_q_92603.push ef_93301 nq_93300
  have p_q_93300 := pt.new (L := L_93282) ef_93301
  refine lv_dup hx hb dX10_init_160 rfl ?_
  refine cINv (b := q_93300) (As := []) (rest := [.ref q_93300, .int 23, .ref q_92603]) S Y (c_X4_init (l := l) p_q_93300) cw_X4_init km10_26 rfl ⟨Nat.le_of_ble_eq_true rfl, Nat.le_of_ble_eq_true rfl⟩ hl.1 rfl (Nat.le_of_ble_eq_true rfl) ⟨Nat.le_of_ble_eq_true rfl, Nat.le_of_ble_eq_true rfl⟩ dX10_init_161 (fun L_93302 f_93303 H locs hf_93303 Y => ?_)
  obtain ⟨a__93304, a__93305, kf_93303, z_z_93306, z_z_93307, z_z_93308, v_93309, v_93310⟩ := hf_93303
  have w_93311 := hk.notin v_93309
  have w_93312 := hkI.notin v_93309
  have w_93313 := hk.notin v_93310
  have w_93314 := hkI.notin v_93310
  have p_h := kf_93303.1 h _ (nmc (p_h.neK p_q_93300 (by decide)) nm0) p_h
  have p_q_92581 := kf_93303.1 q_92581 _ (nmc (p_q_92581.neB p_q_93300) nm0) p_q_92581
  have p_q_92603 := kf_93303.1 q_92603 _ (nmc (p_q_92603.neB p_q_93300) nm0) p_q_92603
  have p_q_93300 := z_z_93306
  have p_a__93304 := z_z_93307
  have p_a__93305 := z_z_93308
  have hk := hk.call kf_93303 (fun b hb hp => (nmc (neL hp whkq_93300) nm0))
  have hkI := hkI.call kf_93303 (fun b hb hp => (nmc (neL hp whkIq_93300) nm0))
  have nr_q_93300 : NRg gl_41 ad40 q_93300 := (SHC.nr I whkIq_93300)
  have nr_a__93304 : NRg gl_41 ad40 a__93304 := (SHC.nr I w_93312)
  have nr_a__93305 : NRg gl_41 ad40 a__93305 := (SHC.nr I w_93314)
  have I := I.kp hkI (allc nr_h (allc nr_q_92581 (allc nr_q_92603 all0)))
  have hkI : kp L_93302 f_93303 L_93302 f_93303 [h, q_92581, q_92603] := kp.rf
  obtain ⟨ad41, I, X_93315, Y_93316, Z_93317⟩ := SHC.led (l2 := gl_42) (n := 24) I rfl rfl rfl (by decide) rfl p_q_93300 p_a__93304 p_a__93305 nr_q_93300 nr_a__93304 nr_a__93305 
  have eq40_0 := (X_93315.2 40 0 (by decide)).trans eq40_0
  have eq41_0 := (X_93315.2 41 0 (by decide)).trans eq41_0
  have eq10_0 := (X_93315.2 10 0 (by decide)).trans eq10_0
  have eq20_0 := (X_93315.2 20 0 (by decide)).trans eq20_0
  have eq20_1 := (X_93315.2 20 1 (by decide)).trans eq20_1
  have eq20_2 := (X_93315.2 20 2 (by decide)).trans eq20_2
  have eq20_3 := (X_93315.2 20 3 (by decide)).trans eq20_3
  have eq20_4 := (X_93315.2 20 4 (by decide)).trans eq20_4
  have fam_sc := fam_x fam_sc X_93315 (by decide)
  have fam_pa := fam_x fam_pa X_93315 (by decide)
  have nr_h := Z_93317 _ nr_h (p_h.neK p_q_93300 (by decide)) (p_h.neA p_a__93304) (p_h.neA p_a__93305)
  have nr_q_92581 := Z_93317 _ nr_q_92581 (p_q_92581.neB p_q_93300) (p_q_92581.neN p_a__93304 (by decide)) (p_q_92581.neN p_a__93305 (by decide))
  have nr_q_92603 := Z_93317 _ nr_q_92603 (p_q_92603.neB p_q_93300) (p_q_92603.neN p_a__93304 (by decide)) (p_q_92603.neN p_a__93305 (by decide))
  have hout : ∀ x, x ∈ L → NRg gl_0 ad x → NRg gl_42 ad41 x := fun x hx hn => Z_93317 x (hout x hx hn) (fun e => whkq_93300 (by rw [← e]; exact hx)) (fun e => w_93311 (by rw [← e]; exact hx)) (fun e => w_93313 (by rw [← e]; exact hx))
  have hext := hext.tr X_93315
  have eq10_24 := Y_93316
  have hkI : kp L_93302 f_93303 L_93302 f_93303 [h, q_92581, q_92603] := kp.rf
  refine pg_aast S Y (k := 3) p_q_92603 rfl p_q_93300 ok_X4.1 (by unfold vp_in; decide) dX10_init_164 (fun f_93319 H locs ef_93319 Y => ?_)
  obtain ⟨g_93318, eg_93318⟩ : ∃ z, z = va_up (g_93298) (23 : Int32).toNatClampNeg (some q_93300) := ⟨_, rfl⟩
  rw [← eg_93318] at ef_93319
  have p_h := p_h.up ef_93319 ((p_h.neA p_q_92603))
  have p_q_92581 := p_q_92581.up ef_93319 ((p_q_92581.neN p_q_92603 (by decide)))
  have p_q_93300 := p_q_93300.up ef_93319 ((p_q_93300.neA p_q_92603))
  have p_q_92603 := p_q_92603.me ef_93319
  have hk := hk.upN ef_93319 whkq_92603
  have hkI := hkI.up ef_93319 (by simp)
  have fam_pa := fam_s (i := 23) fam_pa eq10_24 eg_93318
  refine lv_iinc (v := 24) (lv' := [(1, .int 24), (0, .ref h)]) hx hb dX10_init_165 hl (k := 0) rfl (by decide) (by decide) rfl (fun ls hl => ?_)
  refine lv_goto (tgt := 146) hx hb dX10_init_168 (by decide) ?_
  refine lv_iload_n hx hb dX10_init_146 rfl (lv_at hl 0 rfl) ?_
  refine lv_bipush (v := 30) hx hb dX10_init_147 (by decide) ?_
  refine lv_icmp_ge (tgt := 171) hx hb dX10_init_149 (by decide) (fun h => absurd h (by decide)) (fun _ => ?_)
  refine lv_aload_n hx hb dX10_init_152 rfl (lv_at hl 1 rfl) ?_
  refine pg_get S Y ok_X10 4 (by decide) kf10_31 (v := .ref q_92603) p_h rfl dX10_init_153 ?_
  refine lv_iload_n hx hb dX10_init_156 rfl (lv_at hl 0 rfl) ?_
  refine pg_new S Y ok_X4 kc10_24 kn4 ki4 (fs := [.null, .null, .int 0, .int 0, .int 0, .int 0, .int 0]) (by decide) (by decide) (by decide) dX10_init_157 (fun q_93320 f_93321 H nq_93320 ef_93321 Y => ?_)
  have whkq_93320 := hk.notin nq_93320
  have hk := hk.push ef_93321 nq_93320
  have whkIq_93320 := hkI.notin nq_93320
  have hkI := hkI.push ef_93321 nq_93320
  have p_h := p_h.push ef_93321 nq_93320
  have p_q_92581 := p_q_92581.push ef_93321 nq_93320
  have p_q_92603 := p_q_92603.push ef_93321 nq_93320
  have p_q_93320 := pt.new (L := L_93302) ef_93321
  refine lv_dup hx hb dX10_init_160 rfl ?_
  refine cINv (b := q_93320) (As := []) (rest := [.ref q_93320, .int 24, .ref q_92603]) S Y (c_X4_init (l := l) p_q_93320) cw_X4_init km10_26 rfl ⟨Nat.le_of_ble_eq_true rfl, Nat.le_of_ble_eq_true rfl⟩ hl.1 rfl (Nat.le_of_ble_eq_true rfl) ⟨Nat.le_of_ble_eq_true rfl, Nat.le_of_ble_eq_true rfl⟩ dX10_init_161 (fun L_93322 f_93323 H locs hf_93323 Y => ?_)
  obtain ⟨a__93324, a__93325, kf_93323, z_z_93326, z_z_93327, z_z_93328, v_93329, v_93330⟩ := hf_93323
  have w_93331 := hk.notin v_93329
  have w_93332 := hkI.notin v_93329
  have w_93333 := hk.notin v_93330
  have w_93334 := hkI.notin v_93330
  have p_h := kf_93323.1 h _ (nmc (p_h.neK p_q_93320 (by decide)) nm0) p_h
  have p_q_92581 := kf_93323.1 q_92581 _ (nmc (p_q_92581.neB p_q_93320) nm0) p_q_92581
  have p_q_92603 := kf_93323.1 q_92603 _ (nmc (p_q_92603.neB p_q_93320) nm0) p_q_92603
  have p_q_93320 := z_z_93326
  have p_a__93324 := z_z_93327
  have p_a__93325 := z_z_93328
  have hk := hk.call kf_93323 (fun b hb hp => (nmc (neL hp whkq_93320) nm0))
  have hkI := hkI.call kf_93323 (fun b hb hp => (nmc (neL hp whkIq_93320) nm0))
  have nr_q_93320 : NRg gl_42 ad41 q_93320 := (SHC.nr I whkIq_93320)
  have nr_a__93324 : NRg gl_42 ad41 a__93324 := (SHC.nr I w_93332)
  have nr_a__93325 : NRg gl_42 ad41 a__93325 := (SHC.nr I w_93334)
  have I := I.kp hkI (allc nr_h (allc nr_q_92581 (allc nr_q_92603 all0)))
  have hkI : kp L_93322 f_93323 L_93322 f_93323 [h, q_92581, q_92603] := kp.rf
  obtain ⟨ad42, I, X_93335, Y_93336, Z_93337⟩ := SHC.led (l2 := gl_43) (n := 25) I rfl rfl rfl (by decide) rfl p_q_93320 p_a__93324 p_a__93325 nr_q_93320 nr_a__93324 nr_a__93325 
  have eq40_0 := (X_93335.2 40 0 (by decide)).trans eq40_0
  have eq41_0 := (X_93335.2 41 0 (by decide)).trans eq41_0
  have eq10_0 := (X_93335.2 10 0 (by decide)).trans eq10_0
  have eq20_0 := (X_93335.2 20 0 (by decide)).trans eq20_0
  have eq20_1 := (X_93335.2 20 1 (by decide)).trans eq20_1
  have eq20_2 := (X_93335.2 20 2 (by decide)).trans eq20_2
  have eq20_3 := (X_93335.2 20 3 (by decide)).trans eq20_3
  have eq20_4 := (X_93335.2 20 4 (by decide)).trans eq20_4
  have fam_sc := fam_x fam_sc X_93335 (by decide)
  have fam_pa := fam_x fam_pa X_93335 (by decide)
  have nr_h := Z_93337 _ nr_h (p_h.neK p_q_93320 (by decide)) (p_h.neA p_a__93324) (p_h.neA p_a__93325)
  have nr_q_92581 := Z_93337 _ nr_q_92581 (p_q_92581.neB p_q_93320) (p_q_92581.neN p_a__93324 (by decide)) (p_q_92581.neN p_a__93325 (by decide))
  have nr_q_92603 := Z_93337 _ nr_q_92603 (p_q_92603.neB p_q_93320) (p_q_92603.neN p_a__93324 (by decide)) (p_q_92603.neN p_a__93325 (by decide))
  have hout : ∀ x, x ∈ L → NRg gl_0 ad x → NRg gl_43 ad42 x := fun x hx hn => Z_93337 x (hout x hx hn) (fun e => whkq_93320 (by rw [← e]; exact hx)) (fun e => w_93331 (by rw [← e]; exact hx)) (fun e => w_93333 (by rw [← e]; exact hx))
  have hext := hext.tr X_93335
  have eq10_25 := Y_93336
  have hkI : kp L_93322 f_93323 L_93322 f_93323 [h, q_92581, q_92603] := kp.rf
  refine pg_aast S Y (k := 3) p_q_92603 rfl p_q_93320 ok_X4.1 (by unfold vp_in; decide) dX10_init_164 (fun f_93339 H locs ef_93339 Y => ?_)
  obtain ⟨g_93338, eg_93338⟩ : ∃ z, z = va_up (g_93318) (24 : Int32).toNatClampNeg (some q_93320) := ⟨_, rfl⟩
  rw [← eg_93338] at ef_93339
  have p_h := p_h.up ef_93339 ((p_h.neA p_q_92603))
  have p_q_92581 := p_q_92581.up ef_93339 ((p_q_92581.neN p_q_92603 (by decide)))
  have p_q_93320 := p_q_93320.up ef_93339 ((p_q_93320.neA p_q_92603))
  have p_q_92603 := p_q_92603.me ef_93339
  have hk := hk.upN ef_93339 whkq_92603
  have hkI := hkI.up ef_93339 (by simp)
  have fam_pa := fam_s (i := 24) fam_pa eq10_25 eg_93338
  refine lv_iinc (v := 25) (lv' := [(1, .int 25), (0, .ref h)]) hx hb dX10_init_165 hl (k := 0) rfl (by decide) (by decide) rfl (fun ls hl => ?_)
  refine lv_goto (tgt := 146) hx hb dX10_init_168 (by decide) ?_
  refine lv_iload_n hx hb dX10_init_146 rfl (lv_at hl 0 rfl) ?_
  refine lv_bipush (v := 30) hx hb dX10_init_147 (by decide) ?_
  refine lv_icmp_ge (tgt := 171) hx hb dX10_init_149 (by decide) (fun h => absurd h (by decide)) (fun _ => ?_)
  refine lv_aload_n hx hb dX10_init_152 rfl (lv_at hl 1 rfl) ?_
  refine pg_get S Y ok_X10 4 (by decide) kf10_31 (v := .ref q_92603) p_h rfl dX10_init_153 ?_
  refine lv_iload_n hx hb dX10_init_156 rfl (lv_at hl 0 rfl) ?_
  refine pg_new S Y ok_X4 kc10_24 kn4 ki4 (fs := [.null, .null, .int 0, .int 0, .int 0, .int 0, .int 0]) (by decide) (by decide) (by decide) dX10_init_157 (fun q_93340 f_93341 H nq_93340 ef_93341 Y => ?_)
  have whkq_93340 := hk.notin nq_93340
  have hk := hk.push ef_93341 nq_93340
  have whkIq_93340 := hkI.notin nq_93340
  have hkI := hkI.push ef_93341 nq_93340
  have p_h := p_h.push ef_93341 nq_93340
  have p_q_92581 := p_q_92581.push ef_93341 nq_93340
  have p_q_92603 := p_q_92603.push ef_93341 nq_93340
  have p_q_93340 := pt.new (L := L_93322) ef_93341
  refine lv_dup hx hb dX10_init_160 rfl ?_
  refine cINv (b := q_93340) (As := []) (rest := [.ref q_93340, .int 25, .ref q_92603]) S Y (c_X4_init (l := l) p_q_93340) cw_X4_init km10_26 rfl ⟨Nat.le_of_ble_eq_true rfl, Nat.le_of_ble_eq_true rfl⟩ hl.1 rfl (Nat.le_of_ble_eq_true rfl) ⟨Nat.le_of_ble_eq_true rfl, Nat.le_of_ble_eq_true rfl⟩ dX10_init_161 (fun L_93342 f_93343 H locs hf_93343 Y => ?_)
  obtain ⟨a__93344, a__93345, kf_93343, z_z_93346, z_z_93347, z_z_93348, v_93349, v_93350⟩ := hf_93343
  have w_93351 := hk.notin v_93349
  have w_93352 := hkI.notin v_93349
  have w_93353 := hk.notin v_93350
  have w_93354 := hkI.notin v_93350
  have p_h := kf_93343.1 h _ (nmc (p_h.neK p_q_93340 (by decide)) nm0) p_h
  have p_q_92581 := kf_93343.1 q_92581 _ (nmc (p_q_92581.neB p_q_93340) nm0) p_q_92581
  have p_q_92603 := kf_93343.1 q_92603 _ (nmc (p_q_92603.neB p_q_93340) nm0) p_q_92603
  have p_q_93340 := z_z_93346
  have p_a__93344 := z_z_93347
  have p_a__93345 := z_z_93348
  have hk := hk.call kf_93343 (fun b hb hp => (nmc (neL hp whkq_93340) nm0))
  have hkI := hkI.call kf_93343 (fun b hb hp => (nmc (neL hp whkIq_93340) nm0))
  have nr_q_93340 : NRg gl_43 ad42 q_93340 := (SHC.nr I whkIq_93340)
  have nr_a__93344 : NRg gl_43 ad42 a__93344 := (SHC.nr I w_93352)
  have nr_a__93345 : NRg gl_43 ad42 a__93345 := (SHC.nr I w_93354)
  have I := I.kp hkI (allc nr_h (allc nr_q_92581 (allc nr_q_92603 all0)))
  have hkI : kp L_93342 f_93343 L_93342 f_93343 [h, q_92581, q_92603] := kp.rf
  obtain ⟨ad43, I, X_93355, Y_93356, Z_93357⟩ := SHC.led (l2 := gl_44) (n := 26) I rfl rfl rfl (by decide) rfl p_q_93340 p_a__93344 p_a__93345 nr_q_93340 nr_a__93344 nr_a__93345 
  have eq40_0 := (X_93355.2 40 0 (by decide)).trans eq40_0
  have eq41_0 := (X_93355.2 41 0 (by decide)).trans eq41_0
  have eq10_0 := (X_93355.2 10 0 (by decide)).trans eq10_0
  have eq20_0 := (X_93355.2 20 0 (by decide)).trans eq20_0
  have eq20_1 := (X_93355.2 20 1 (by decide)).trans eq20_1
  have eq20_2 := (X_93355.2 20 2 (by decide)).trans eq20_2
  have eq20_3 := (X_93355.2 20 3 (by decide)).trans eq20_3
  have eq20_4 := (X_93355.2 20 4 (by decide)).trans eq20_4
  have fam_sc := fam_x fam_sc X_93355 (by decide)
  have fam_pa := fam_x fam_pa X_93355 (by decide)
  have nr_h := Z_93357 _ nr_h (p_h.neK p_q_93340 (by decide)) (p_h.neA p_a__93344) (p_h.neA p_a__93345)
  have nr_q_92581 := Z_93357 _ nr_q_92581 (p_q_92581.neB p_q_93340) (p_q_92581.neN p_a__93344 (by decide)) (p_q_92581.neN p_a__93345 (by decide))
  have nr_q_92603 := Z_93357 _ nr_q_92603 (p_q_92603.neB p_q_93340) (p_q_92603.neN p_a__93344 (by decide)) (p_q_92603.neN p_a__93345 (by decide))
  have hout : ∀ x, x ∈ L → NRg gl_0 ad x → NRg gl_44 ad43 x := fun x hx hn => Z_93357 x (hout x hx hn) (fun e => whkq_93340 (by rw [← e]; exact hx)) (fun e => w_93351 (by rw [← e]; exact hx)) (fun e => w_93353 (by rw [← e]; exact hx))
  have hext := hext.tr X_93355
  have eq10_26 := Y_93356
  have hkI : kp L_93342 f_93343 L_93342 f_93343 [h, q_92581, q_92603] := kp.rf
  refine pg_aast S Y (k := 3) p_q_92603 rfl p_q_93340 ok_X4.1 (by unfold vp_in; decide) dX10_init_164 (fun f_93359 H locs ef_93359 Y => ?_)
  obtain ⟨g_93358, eg_93358⟩ : ∃ z, z = va_up (g_93338) (25 : Int32).toNatClampNeg (some q_93340) := ⟨_, rfl⟩
  rw [← eg_93358] at ef_93359
  have p_h := p_h.up ef_93359 ((p_h.neA p_q_92603))
  have p_q_92581 := p_q_92581.up ef_93359 ((p_q_92581.neN p_q_92603 (by decide)))
  have p_q_93340 := p_q_93340.up ef_93359 ((p_q_93340.neA p_q_92603))
  have p_q_92603 := p_q_92603.me ef_93359
  have hk := hk.upN ef_93359 whkq_92603
  have hkI := hkI.up ef_93359 (by simp)
  have fam_pa := fam_s (i := 25) fam_pa eq10_26 eg_93358
  refine lv_iinc (v := 26) (lv' := [(1, .int 26), (0, .ref h)]) hx hb dX10_init_165 hl (k := 0) rfl (by decide) (by decide) rfl (fun ls hl => ?_)
  refine lv_goto (tgt := 146) hx hb dX10_init_168 (by decide) ?_
  refine lv_iload_n hx hb dX10_init_146 rfl (lv_at hl 0 rfl) ?_
  refine lv_bipush (v := 30) hx hb dX10_init_147 (by decide) ?_
  refine lv_icmp_ge (tgt := 171) hx hb dX10_init_149 (by decide) (fun h => absurd h (by decide)) (fun _ => ?_)
  refine lv_aload_n hx hb dX10_init_152 rfl (lv_at hl 1 rfl) ?_
  refine pg_get S Y ok_X10 4 (by decide) kf10_31 (v := .ref q_92603) p_h rfl dX10_init_153 ?_
  refine lv_iload_n hx hb dX10_init_156 rfl (lv_at hl 0 rfl) ?_
  refine pg_new S Y ok_X4 kc10_24 kn4 ki4 (fs := [.null, .null, .int 0, .int 0, .int 0, .int 0, .int 0]) (by decide) (by decide) (by decide) dX10_init_157 (fun q_93360 f_93361 H nq_93360 ef_93361 Y => ?_)
  have whkq_93360 := hk.notin nq_93360
  have hk := hk.push ef_93361 nq_93360
  have whkIq_93360 := hkI.notin nq_93360
  have hkI := hkI.push ef_93361 nq_93360
  have p_h := p_h.push ef_93361 nq_93360
  have p_q_92581 := p_q_92581.push ef_93361 nq_93360
  have p_q_92603 := p_q_92603.push ef_93361 nq_93360
  have p_q_93360 := pt.new (L := L_93342) ef_93361
  refine lv_dup hx hb dX10_init_160 rfl ?_
  refine cINv (b := q_93360) (As := []) (rest := [.ref q_93360, .int 26, .ref q_92603]) S Y (c_X4_init (l := l) p_q_93360) cw_X4_init km10_26 rfl ⟨Nat.le_of_ble_eq_true rfl, Nat.le_of_ble_eq_true rfl⟩ hl.1 rfl (Nat.le_of_ble_eq_true rfl) ⟨Nat.le_of_ble_eq_true rfl, Nat.le_of_ble_eq_true rfl⟩ dX10_init_161 (fun L_93362 f_93363 H locs hf_93363 Y => ?_)
  obtain ⟨a__93364, a__93365, kf_93363, z_z_93366, z_z_93367, z_z_93368, v_93369, v_93370⟩ := hf_93363
  have w_93371 := hk.notin v_93369
  have w_93372 := hkI.notin v_93369
  have w_93373 := hk.notin v_93370
  have w_93374 := hkI.notin v_93370
  have p_h := kf_93363.1 h _ (nmc (p_h.neK p_q_93360 (by decide)) nm0) p_h
  have p_q_92581 := kf_93363.1 q_92581 _ (nmc (p_q_92581.neB p_q_93360) nm0) p_q_92581
  have p_q_92603 := kf_93363.1 q_92603 _ (nmc (p_q_92603.neB p_q_93360) nm0) p_q_92603
  have p_q_93360 := z_z_93366
  have p_a__93364 := z_z_93367
  have p_a__93365 := z_z_93368
  have hk := hk.call kf_93363 (fun b hb hp => (nmc (neL hp whkq_93360) nm0))
  have hkI := hkI.call kf_93363 (fun b hb hp => (nmc (neL hp whkIq_93360) nm0))
  have nr_q_93360 : NRg gl_44 ad43 q_93360 := (SHC.nr I whkIq_93360)
  have nr_a__93364 : NRg gl_44 ad43 a__93364 := (SHC.nr I w_93372)
  have nr_a__93365 : NRg gl_44 ad43 a__93365 := (SHC.nr I w_93374)
  have I := I.kp hkI (allc nr_h (allc nr_q_92581 (allc nr_q_92603 all0)))
  have hkI : kp L_93362 f_93363 L_93362 f_93363 [h, q_92581, q_92603] := kp.rf
  obtain ⟨ad44, I, X_93375, Y_93376, Z_93377⟩ := SHC.led (l2 := gl_45) (n := 27) I rfl rfl rfl (by decide) rfl p_q_93360 p_a__93364 p_a__93365 nr_q_93360 nr_a__93364 nr_a__93365 
  have eq40_0 := (X_93375.2 40 0 (by decide)).trans eq40_0
  have eq41_0 := (X_93375.2 41 0 (by decide)).trans eq41_0
  have eq10_0 := (X_93375.2 10 0 (by decide)).trans eq10_0
  have eq20_0 := (X_93375.2 20 0 (by decide)).trans eq20_0
  have eq20_1 := (X_93375.2 20 1 (by decide)).trans eq20_1
  have eq20_2 := (X_93375.2 20 2 (by decide)).trans eq20_2
  have eq20_3 := (X_93375.2 20 3 (by decide)).trans eq20_3
  have eq20_4 := (X_93375.2 20 4 (by decide)).trans eq20_4
  have fam_sc := fam_x fam_sc X_93375 (by decide)
  have fam_pa := fam_x fam_pa X_93375 (by decide)
  have nr_h := Z_93377 _ nr_h (p_h.neK p_q_93360 (by decide)) (p_h.neA p_a__93364) (p_h.neA p_a__93365)
  have nr_q_92581 := Z_93377 _ nr_q_92581 (p_q_92581.neB p_q_93360) (p_q_92581.neN p_a__93364 (by decide)) (p_q_92581.neN p_a__93365 (by decide))
  have nr_q_92603 := Z_93377 _ nr_q_92603 (p_q_92603.neB p_q_93360) (p_q_92603.neN p_a__93364 (by decide)) (p_q_92603.neN p_a__93365 (by decide))
  have hout : ∀ x, x ∈ L → NRg gl_0 ad x → NRg gl_45 ad44 x := fun x hx hn => Z_93377 x (hout x hx hn) (fun e => whkq_93360 (by rw [← e]; exact hx)) (fun e => w_93371 (by rw [← e]; exact hx)) (fun e => w_93373 (by rw [← e]; exact hx))
  have hext := hext.tr X_93375
  have eq10_27 := Y_93376
  have hkI : kp L_93362 f_93363 L_93362 f_93363 [h, q_92581, q_92603] := kp.rf
  refine pg_aast S Y (k := 3) p_q_92603 rfl p_q_93360 ok_X4.1 (by unfold vp_in; decide) dX10_init_164 (fun f_93379 H locs ef_93379 Y => ?_)
  obtain ⟨g_93378, eg_93378⟩ : ∃ z, z = va_up (g_93358) (26 : Int32).toNatClampNeg (some q_93360) := ⟨_, rfl⟩
  rw [← eg_93378] at ef_93379
  have p_h := p_h.up ef_93379 ((p_h.neA p_q_92603))
  have p_q_92581 := p_q_92581.up ef_93379 ((p_q_92581.neN p_q_92603 (by decide)))
  have p_q_93360 := p_q_93360.up ef_93379 ((p_q_93360.neA p_q_92603))
  have p_q_92603 := p_q_92603.me ef_93379
  have hk := hk.upN ef_93379 whkq_92603
  have hkI := hkI.up ef_93379 (by simp)
  have fam_pa := fam_s (i := 26) fam_pa eq10_27 eg_93378
  refine lv_iinc (v := 27) (lv' := [(1, .int 27), (0, .ref h)]) hx hb dX10_init_165 hl (k := 0) rfl (by decide) (by decide) rfl (fun ls hl => ?_)
  refine lv_goto (tgt := 146) hx hb dX10_init_168 (by decide) ?_
  refine lv_iload_n hx hb dX10_init_146 rfl (lv_at hl 0 rfl) ?_
  refine lv_bipush (v := 30) hx hb dX10_init_147 (by decide) ?_
  refine lv_icmp_ge (tgt := 171) hx hb dX10_init_149 (by decide) (fun h => absurd h (by decide)) (fun _ => ?_)
  refine lv_aload_n hx hb dX10_init_152 rfl (lv_at hl 1 rfl) ?_
  refine pg_get S Y ok_X10 4 (by decide) kf10_31 (v := .ref q_92603) p_h rfl dX10_init_153 ?_
  refine lv_iload_n hx hb dX10_init_156 rfl (lv_at hl 0 rfl) ?_
  refine pg_new S Y ok_X4 kc10_24 kn4 ki4 (fs := [.null, .null, .int 0, .int 0, .int 0, .int 0, .int 0]) (by decide) (by decide) (by decide) dX10_init_157 (fun q_93380 f_93381 H nq_93380 ef_93381 Y => ?_)
  have whkq_93380 := hk.notin nq_93380
  have hk := hk.push ef_93381 nq_93380
  have whkIq_93380 := hkI.notin nq_93380
  have hkI := hkI.push ef_93381 nq_93380
  have p_h := p_h.push ef_93381 nq_93380
  have p_q_92581 := p_q_92581.push ef_93381 nq_93380
  have p_q_92603 := p_q_92603.push ef_93381 nq_93380
  have p_q_93380 := pt.new (L := L_93362) ef_93381
  refine lv_dup hx hb dX10_init_160 rfl ?_
  refine cINv (b := q_93380) (As := []) (rest := [.ref q_93380, .int 27, .ref q_92603]) S Y (c_X4_init (l := l) p_q_93380) cw_X4_init km10_26 rfl ⟨Nat.le_of_ble_eq_true rfl, Nat.le_of_ble_eq_true rfl⟩ hl.1 rfl (Nat.le_of_ble_eq_true rfl) ⟨Nat.le_of_ble_eq_true rfl, Nat.le_of_ble_eq_true rfl⟩ dX10_init_161 (fun L_93382 f_93383 H locs hf_93383 Y => ?_)
  obtain ⟨a__93384, a__93385, kf_93383, z_z_93386, z_z_93387, z_z_93388, v_93389, v_93390⟩ := hf_93383
  have w_93391 := hk.notin v_93389
  have w_93392 := hkI.notin v_93389
  have w_93393 := hk.notin v_93390
  have w_93394 := hkI.notin v_93390
  have p_h := kf_93383.1 h _ (nmc (p_h.neK p_q_93380 (by decide)) nm0) p_h
  have p_q_92581 := kf_93383.1 q_92581 _ (nmc (p_q_92581.neB p_q_93380) nm0) p_q_92581
  have p_q_92603 := kf_93383.1 q_92603 _ (nmc (p_q_92603.neB p_q_93380) nm0) p_q_92603
  have p_q_93380 := z_z_93386
  have p_a__93384 := z_z_93387
  have p_a__93385 := z_z_93388
  have hk := hk.call kf_93383 (fun b hb hp => (nmc (neL hp whkq_93380) nm0))
  have hkI := hkI.call kf_93383 (fun b hb hp => (nmc (neL hp whkIq_93380) nm0))
  have nr_q_93380 : NRg gl_45 ad44 q_93380 := (SHC.nr I whkIq_93380)
  have nr_a__93384 : NRg gl_45 ad44 a__93384 := (SHC.nr I w_93392)
  have nr_a__93385 : NRg gl_45 ad44 a__93385 := (SHC.nr I w_93394)
  have I := I.kp hkI (allc nr_h (allc nr_q_92581 (allc nr_q_92603 all0)))
  have hkI : kp L_93382 f_93383 L_93382 f_93383 [h, q_92581, q_92603] := kp.rf
  obtain ⟨ad45, I, X_93395, Y_93396, Z_93397⟩ := SHC.led (l2 := gl_46) (n := 28) I rfl rfl rfl (by decide) rfl p_q_93380 p_a__93384 p_a__93385 nr_q_93380 nr_a__93384 nr_a__93385 
  have eq40_0 := (X_93395.2 40 0 (by decide)).trans eq40_0
  have eq41_0 := (X_93395.2 41 0 (by decide)).trans eq41_0
  have eq10_0 := (X_93395.2 10 0 (by decide)).trans eq10_0
  have eq20_0 := (X_93395.2 20 0 (by decide)).trans eq20_0
  have eq20_1 := (X_93395.2 20 1 (by decide)).trans eq20_1
  have eq20_2 := (X_93395.2 20 2 (by decide)).trans eq20_2
  have eq20_3 := (X_93395.2 20 3 (by decide)).trans eq20_3
  have eq20_4 := (X_93395.2 20 4 (by decide)).trans eq20_4
  have fam_sc := fam_x fam_sc X_93395 (by decide)
  have fam_pa := fam_x fam_pa X_93395 (by decide)
  have nr_h := Z_93397 _ nr_h (p_h.neK p_q_93380 (by decide)) (p_h.neA p_a__93384) (p_h.neA p_a__93385)
  have nr_q_92581 := Z_93397 _ nr_q_92581 (p_q_92581.neB p_q_93380) (p_q_92581.neN p_a__93384 (by decide)) (p_q_92581.neN p_a__93385 (by decide))
  have nr_q_92603 := Z_93397 _ nr_q_92603 (p_q_92603.neB p_q_93380) (p_q_92603.neN p_a__93384 (by decide)) (p_q_92603.neN p_a__93385 (by decide))
  have hout : ∀ x, x ∈ L → NRg gl_0 ad x → NRg gl_46 ad45 x := fun x hx hn => Z_93397 x (hout x hx hn) (fun e => whkq_93380 (by rw [← e]; exact hx)) (fun e => w_93391 (by rw [← e]; exact hx)) (fun e => w_93393 (by rw [← e]; exact hx))
  have hext := hext.tr X_93395
  have eq10_28 := Y_93396
  have hkI : kp L_93382 f_93383 L_93382 f_93383 [h, q_92581, q_92603] := kp.rf
  refine pg_aast S Y (k := 3) p_q_92603 rfl p_q_93380 ok_X4.1 (by unfold vp_in; decide) dX10_init_164 (fun f_93399 H locs ef_93399 Y => ?_)
  obtain ⟨g_93398, eg_93398⟩ : ∃ z, z = va_up (g_93378) (27 : Int32).toNatClampNeg (some q_93380) := ⟨_, rfl⟩
  rw [← eg_93398] at ef_93399
  have p_h := p_h.up ef_93399 ((p_h.neA p_q_92603))
  have p_q_92581 := p_q_92581.up ef_93399 ((p_q_92581.neN p_q_92603 (by decide)))
  have p_q_93380 := p_q_93380.up ef_93399 ((p_q_93380.neA p_q_92603))
  have p_q_92603 := p_q_92603.me ef_93399
  have hk := hk.upN ef_93399 whkq_92603
  have hkI := hkI.up ef_93399 (by simp)
  have fam_pa := fam_s (i := 27) fam_pa eq10_28 eg_93398
  refine lv_iinc (v := 28) (lv' := [(1, .int 28), (0, .ref h)]) hx hb dX10_init_165 hl (k := 0) rfl (by decide) (by decide) rfl (fun ls hl => ?_)
  refine lv_goto (tgt := 146) hx hb dX10_init_168 (by decide) ?_
  refine lv_iload_n hx hb dX10_init_146 rfl (lv_at hl 0 rfl) ?_
  refine lv_bipush (v := 30) hx hb dX10_init_147 (by decide) ?_
  refine lv_icmp_ge (tgt := 171) hx hb dX10_init_149 (by decide) (fun h => absurd h (by decide)) (fun _ => ?_)
  refine lv_aload_n hx hb dX10_init_152 rfl (lv_at hl 1 rfl) ?_
  refine pg_get S Y ok_X10 4 (by decide) kf10_31 (v := .ref q_92603) p_h rfl dX10_init_153 ?_
  refine lv_iload_n hx hb dX10_init_156 rfl (lv_at hl 0 rfl) ?_
  refine pg_new S Y ok_X4 kc10_24 kn4 ki4 (fs := [.null, .null, .int 0, .int 0, .int 0, .int 0, .int 0]) (by decide) (by decide) (by decide) dX10_init_157 (fun q_93400 f_93401 H nq_93400 ef_93401 Y => ?_)
  have whkq_93400 := hk.notin nq_93400
  have hk := hk.push ef_93401 nq_93400
  have whkIq_93400 := hkI.notin nq_93400
  have hkI := hkI.push ef_93401 nq_93400
  have p_h := p_h.push ef_93401 nq_93400
  have p_q_92581 := p_q_92581.push ef_93401 nq_93400
  have p_q_92603 := p_q_92603.push ef_93401 nq_93400
  have p_q_93400 := pt.new (L := L_93382) ef_93401
  refine lv_dup hx hb dX10_init_160 rfl ?_
  refine cINv (b := q_93400) (As := []) (rest := [.ref q_93400, .int 28, .ref q_92603]) S Y (c_X4_init (l := l) p_q_93400) cw_X4_init km10_26 rfl ⟨Nat.le_of_ble_eq_true rfl, Nat.le_of_ble_eq_true rfl⟩ hl.1 rfl (Nat.le_of_ble_eq_true rfl) ⟨Nat.le_of_ble_eq_true rfl, Nat.le_of_ble_eq_true rfl⟩ dX10_init_161 (fun L_93402 f_93403 H locs hf_93403 Y => ?_)
  obtain ⟨a__93404, a__93405, kf_93403, z_z_93406, z_z_93407, z_z_93408, v_93409, v_93410⟩ := hf_93403
  have w_93411 := hk.notin v_93409
  have w_93412 := hkI.notin v_93409
  have w_93413 := hk.notin v_93410
  have w_93414 := hkI.notin v_93410
  have p_h := kf_93403.1 h _ (nmc (p_h.neK p_q_93400 (by decide)) nm0) p_h
  have p_q_92581 := kf_93403.1 q_92581 _ (nmc (p_q_92581.neB p_q_93400) nm0) p_q_92581
  have p_q_92603 := kf_93403.1 q_92603 _ (nmc (p_q_92603.neB p_q_93400) nm0) p_q_92603
  have p_q_93400 := z_z_93406
  have p_a__93404 := z_z_93407
  have p_a__93405 := z_z_93408
  have hk := hk.call kf_93403 (fun b hb hp => (nmc (neL hp whkq_93400) nm0))
  have hkI := hkI.call kf_93403 (fun b hb hp => (nmc (neL hp whkIq_93400) nm0))
  have nr_q_93400 : NRg gl_46 ad45 q_93400 := (SHC.nr I whkIq_93400)
  have nr_a__93404 : NRg gl_46 ad45 a__93404 := (SHC.nr I w_93412)
  have nr_a__93405 : NRg gl_46 ad45 a__93405 := (SHC.nr I w_93414)
  have I := I.kp hkI (allc nr_h (allc nr_q_92581 (allc nr_q_92603 all0)))
  have hkI : kp L_93402 f_93403 L_93402 f_93403 [h, q_92581, q_92603] := kp.rf
  obtain ⟨ad46, I, X_93415, Y_93416, Z_93417⟩ := SHC.led (l2 := gl_47) (n := 29) I rfl rfl rfl (by decide) rfl p_q_93400 p_a__93404 p_a__93405 nr_q_93400 nr_a__93404 nr_a__93405 
  have eq40_0 := (X_93415.2 40 0 (by decide)).trans eq40_0
  have eq41_0 := (X_93415.2 41 0 (by decide)).trans eq41_0
  have eq10_0 := (X_93415.2 10 0 (by decide)).trans eq10_0
  have eq20_0 := (X_93415.2 20 0 (by decide)).trans eq20_0
  have eq20_1 := (X_93415.2 20 1 (by decide)).trans eq20_1
  have eq20_2 := (X_93415.2 20 2 (by decide)).trans eq20_2
  have eq20_3 := (X_93415.2 20 3 (by decide)).trans eq20_3
  have eq20_4 := (X_93415.2 20 4 (by decide)).trans eq20_4
  have fam_sc := fam_x fam_sc X_93415 (by decide)
  have fam_pa := fam_x fam_pa X_93415 (by decide)
  have nr_h := Z_93417 _ nr_h (p_h.neK p_q_93400 (by decide)) (p_h.neA p_a__93404) (p_h.neA p_a__93405)
  have nr_q_92581 := Z_93417 _ nr_q_92581 (p_q_92581.neB p_q_93400) (p_q_92581.neN p_a__93404 (by decide)) (p_q_92581.neN p_a__93405 (by decide))
  have nr_q_92603 := Z_93417 _ nr_q_92603 (p_q_92603.neB p_q_93400) (p_q_92603.neN p_a__93404 (by decide)) (p_q_92603.neN p_a__93405 (by decide))
  have hout : ∀ x, x ∈ L → NRg gl_0 ad x → NRg gl_47 ad46 x := fun x hx hn => Z_93417 x (hout x hx hn) (fun e => whkq_93400 (by rw [← e]; exact hx)) (fun e => w_93411 (by rw [← e]; exact hx)) (fun e => w_93413 (by rw [← e]; exact hx))
  have hext := hext.tr X_93415
  have eq10_29 := Y_93416
  have hkI : kp L_93402 f_93403 L_93402 f_93403 [h, q_92581, q_92603] := kp.rf
  refine pg_aast S Y (k := 3) p_q_92603 rfl p_q_93400 ok_X4.1 (by unfold vp_in; decide) dX10_init_164 (fun f_93419 H locs ef_93419 Y => ?_)
  obtain ⟨g_93418, eg_93418⟩ : ∃ z, z = va_up (g_93398) (28 : Int32).toNatClampNeg (some q_93400) := ⟨_, rfl⟩
  rw [← eg_93418] at ef_93419
  have p_h := p_h.up ef_93419 ((p_h.neA p_q_92603))
  have p_q_92581 := p_q_92581.up ef_93419 ((p_q_92581.neN p_q_92603 (by decide)))
  have p_q_93400 := p_q_93400.up ef_93419 ((p_q_93400.neA p_q_92603))
  have p_q_92603 := p_q_92603.me ef_93419
  have hk := hk.upN ef_93419 whkq_92603
  have hkI := hkI.up ef_93419 (by simp)
  have fam_pa := fam_s (i := 28) fam_pa eq10_29 eg_93418
  refine lv_iinc (v := 29) (lv' := [(1, .int 29), (0, .ref h)]) hx hb dX10_init_165 hl (k := 0) rfl (by decide) (by decide) rfl (fun ls hl => ?_)
  refine lv_goto (tgt := 146) hx hb dX10_init_168 (by decide) ?_
  refine lv_iload_n hx hb dX10_init_146 rfl (lv_at hl 0 rfl) ?_
  refine lv_bipush (v := 30) hx hb dX10_init_147 (by decide) ?_
  refine lv_icmp_ge (tgt := 171) hx hb dX10_init_149 (by decide) (fun h => absurd h (by decide)) (fun _ => ?_)
  refine lv_aload_n hx hb dX10_init_152 rfl (lv_at hl 1 rfl) ?_
  refine pg_get S Y ok_X10 4 (by decide) kf10_31 (v := .ref q_92603) p_h rfl dX10_init_153 ?_
  refine lv_iload_n hx hb dX10_init_156 rfl (lv_at hl 0 rfl) ?_
  refine pg_new S Y ok_X4 kc10_24 kn4 ki4 (fs := [.null, .null, .int 0, .int 0, .int 0, .int 0, .int 0]) (by decide) (by decide) (by decide) dX10_init_157 (fun q_93420 f_93421 H nq_93420 ef_93421 Y => ?_)
  have whkq_93420 := hk.notin nq_93420
  have hk := hk.push ef_93421 nq_93420
  have whkIq_93420 := hkI.notin nq_93420
  have hkI := hkI.push ef_93421 nq_93420
  have p_h := p_h.push ef_93421 nq_93420
  have p_q_92581 := p_q_92581.push ef_93421 nq_93420
  have p_q_92603 := p_q_92603.push ef_93421 nq_93420
  have p_q_93420 := pt.new (L := L_93402) ef_93421
  refine lv_dup hx hb dX10_init_160 rfl ?_
  refine cINv (b := q_93420) (As := []) (rest := [.ref q_93420, .int 29, .ref q_92603]) S Y (c_X4_init (l := l) p_q_93420) cw_X4_init km10_26 rfl ⟨Nat.le_of_ble_eq_true rfl, Nat.le_of_ble_eq_true rfl⟩ hl.1 rfl (Nat.le_of_ble_eq_true rfl) ⟨Nat.le_of_ble_eq_true rfl, Nat.le_of_ble_eq_true rfl⟩ dX10_init_161 (fun L_93422 f_93423 H locs hf_93423 Y => ?_)
  obtain ⟨a__93424, a__93425, kf_93423, z_z_93426, z_z_93427, z_z_93428, v_93429, v_93430⟩ := hf_93423
  have w_93431 := hk.notin v_93429
  have w_93432 := hkI.notin v_93429
  have w_93433 := hk.notin v_93430
  have w_93434 := hkI.notin v_93430
  have p_h := kf_93423.1 h _ (nmc (p_h.neK p_q_93420 (by decide)) nm0) p_h
  have p_q_92581 := kf_93423.1 q_92581 _ (nmc (p_q_92581.neB p_q_93420) nm0) p_q_92581
  have p_q_92603 := kf_93423.1 q_92603 _ (nmc (p_q_92603.neB p_q_93420) nm0) p_q_92603
  have p_q_93420 := z_z_93426
  have p_a__93424 := z_z_93427
  have p_a__93425 := z_z_93428
  have hk := hk.call kf_93423 (fun b hb hp => (nmc (neL hp whkq_93420) nm0))
  have hkI := hkI.call kf_93423 (fun b hb hp => (nmc (neL hp whkIq_93420) nm0))
  have nr_q_93420 : NRg gl_47 ad46 q_93420 := (SHC.nr I whkIq_93420)
  have nr_a__93424 : NRg gl_47 ad46 a__93424 := (SHC.nr I w_93432)
  have nr_a__93425 : NRg gl_47 ad46 a__93425 := (SHC.nr I w_93434)
  have I := I.kp hkI (allc nr_h (allc nr_q_92581 (allc nr_q_92603 all0)))
  have hkI : kp L_93422 f_93423 L_93422 f_93423 [h, q_92581, q_92603] := kp.rf
  obtain ⟨ad47, I, X_93435, Y_93436, Z_93437⟩ := SHC.led (l2 := gl_48) (n := 30) I rfl rfl rfl (by decide) rfl p_q_93420 p_a__93424 p_a__93425 nr_q_93420 nr_a__93424 nr_a__93425 
  have eq40_0 := (X_93435.2 40 0 (by decide)).trans eq40_0
  have eq41_0 := (X_93435.2 41 0 (by decide)).trans eq41_0
  have eq10_0 := (X_93435.2 10 0 (by decide)).trans eq10_0
  have eq20_0 := (X_93435.2 20 0 (by decide)).trans eq20_0
  have eq20_1 := (X_93435.2 20 1 (by decide)).trans eq20_1
  have eq20_2 := (X_93435.2 20 2 (by decide)).trans eq20_2
  have eq20_3 := (X_93435.2 20 3 (by decide)).trans eq20_3
  have eq20_4 := (X_93435.2 20 4 (by decide)).trans eq20_4
  have fam_sc := fam_x fam_sc X_93435 (by decide)
  have fam_pa := fam_x fam_pa X_93435 (by decide)
  have nr_h := Z_93437 _ nr_h (p_h.neK p_q_93420 (by decide)) (p_h.neA p_a__93424) (p_h.neA p_a__93425)
  have nr_q_92581 := Z_93437 _ nr_q_92581 (p_q_92581.neB p_q_93420) (p_q_92581.neN p_a__93424 (by decide)) (p_q_92581.neN p_a__93425 (by decide))
  have nr_q_92603 := Z_93437 _ nr_q_92603 (p_q_92603.neB p_q_93420) (p_q_92603.neN p_a__93424 (by decide)) (p_q_92603.neN p_a__93425 (by decide))
  have hout : ∀ x, x ∈ L → NRg gl_0 ad x → NRg gl_48 ad47 x := fun x hx hn => Z_93437 x (hout x hx hn) (fun e => whkq_93420 (by rw [← e]; exact hx)) (fun e => w_93431 (by rw [← e]; exact hx)) (fun e => w_93433 (by rw [← e]; exact hx))
  have hext := hext.tr X_93435
  have eq10_30 := Y_93436
  have hkI : kp L_93422 f_93423 L_93422 f_93423 [h, q_92581, q_92603] := kp.rf
  refine pg_aast S Y (k := 3) p_q_92603 rfl p_q_93420 ok_X4.1 (by unfold vp_in; decide) dX10_init_164 (fun f_93439 H locs ef_93439 Y => ?_)
  obtain ⟨g_93438, eg_93438⟩ : ∃ z, z = va_up (g_93418) (29 : Int32).toNatClampNeg (some q_93420) := ⟨_, rfl⟩
  rw [← eg_93438] at ef_93439
  have p_h := p_h.up ef_93439 ((p_h.neA p_q_92603))
  have p_q_92581 := p_q_92581.up ef_93439 ((p_q_92581.neN p_q_92603 (by decide)))
  have p_q_93420 := p_q_93420.up ef_93439 ((p_q_93420.neA p_q_92603))
  have p_q_92603 := p_q_92603.me ef_93439
  have hk := hk.upN ef_93439 whkq_92603
  have hkI := hkI.up ef_93439 (by simp)
  have fam_pa := fam_s (i := 29) fam_pa eq10_30 eg_93438
  refine lv_iinc (v := 30) (lv' := [(1, .int 30), (0, .ref h)]) hx hb dX10_init_165 hl (k := 0) rfl (by decide) (by decide) rfl (fun ls hl => ?_)
  refine lv_goto (tgt := 146) hx hb dX10_init_168 (by decide) ?_
  refine lv_iload_n hx hb dX10_init_146 rfl (lv_at hl 0 rfl) ?_
  refine lv_bipush (v := 30) hx hb dX10_init_147 (by decide) ?_
  refine lv_icmp_ge (tgt := 171) hx hb dX10_init_149 (by decide) (fun _ => ?_) (fun h => absurd (by decide) h)
  have I := I.kp hkI (allc nr_h (allc nr_q_92581 (allc nr_q_92603 all0)))
  have hkI : kp L_93422 f_93439 L_93422 f_93439 [h, q_92581, q_92603] := kp.rf
  obtain ⟨ad48, I, X_93440, Y_93441, Z_93442⟩ := SHC.add (l2 := gl_49) I (k := 42) (n := 0) rfl (by decide) rfl p_q_92581 nr_q_92581 ⟨_, rfl, fam_sc⟩ (show ∀ t, t < 4 → 0 + t < 4 from fun t ht => by omega)
  have eq40_0 := (X_93440.2 40 0 (by decide)).trans eq40_0
  have eq41_0 := (X_93440.2 41 0 (by decide)).trans eq41_0
  have eq10_0 := (X_93440.2 10 0 (by decide)).trans eq10_0
  have eq20_0 := (X_93440.2 20 0 (by decide)).trans eq20_0
  have eq20_1 := (X_93440.2 20 1 (by decide)).trans eq20_1
  have eq20_2 := (X_93440.2 20 2 (by decide)).trans eq20_2
  have eq20_3 := (X_93440.2 20 3 (by decide)).trans eq20_3
  have eq20_4 := (X_93440.2 20 4 (by decide)).trans eq20_4
  have fam_sc := fam_x fam_sc X_93440 (by decide)
  have fam_pa := fam_x fam_pa X_93440 (by decide)
  have nr_h := Z_93442 _ nr_h (p_h.neA p_q_92581)
  have nr_q_92603 := Z_93442 _ nr_q_92603 (p_q_92603.neN p_q_92581 (by decide))
  have hout : ∀ x, x ∈ L → NRg gl_0 ad x → NRg gl_49 ad48 x := fun x hx hn => Z_93442 x (hout x hx hn) (fun e => whkq_92581 (by rw [← e]; exact hx))
  have hext := hext.tr X_93440
  have eq42_0 := Y_93441
  have hkI : kp L_93422 f_93439 L_93422 f_93439 [h, q_92603] := kp.rf
  have I := I.kp hkI (allc nr_h (allc nr_q_92603 all0))
  have hkI : kp L_93422 f_93439 L_93422 f_93439 [h, q_92603] := kp.rf
  obtain ⟨ad49, I, X_93443, Y_93444, Z_93445⟩ := SHC.add (l2 := gl_1) I (k := 43) (n := 0) rfl (by decide) rfl p_q_92603 nr_q_92603 ⟨_, rfl, fam_pa⟩ (show ∀ t, t < 30 → 1 + t < 31 from fun t ht => by omega)
  have eq40_0 := (X_93443.2 40 0 (by decide)).trans eq40_0
  have eq41_0 := (X_93443.2 41 0 (by decide)).trans eq41_0
  have eq10_0 := (X_93443.2 10 0 (by decide)).trans eq10_0
  have eq20_0 := (X_93443.2 20 0 (by decide)).trans eq20_0
  have eq20_1 := (X_93443.2 20 1 (by decide)).trans eq20_1
  have eq20_2 := (X_93443.2 20 2 (by decide)).trans eq20_2
  have eq20_3 := (X_93443.2 20 3 (by decide)).trans eq20_3
  have eq20_4 := (X_93443.2 20 4 (by decide)).trans eq20_4
  have eq42_0 := (X_93443.2 42 0 (by decide)).trans eq42_0
  have fam_sc := fam_x fam_sc X_93443 (by decide)
  have fam_pa := fam_x fam_pa X_93443 (by decide)
  have nr_h := Z_93445 _ nr_h (p_h.neA p_q_92603)
  have hout : ∀ x, x ∈ L → NRg gl_0 ad x → NRg gl_1 ad49 x := fun x hx hn => Z_93445 x (hout x hx hn) (fun e => whkq_92603 (by rw [← e]; exact hx))
  have hext := hext.tr X_93443
  have eq43_0 := Y_93444
  have hkI : kp L_93422 f_93439 L_93422 f_93439 [h] := kp.rf
  have p_h : pt L_93422 f_93439 h (.inr (10, [.ref (ad49 40 0), .ref (ad49 41 0), .ref (ad49 42 0), .ref (ad49 10 0), .ref (ad49 43 0), .ref (ad49 20 0), .ref (ad49 20 1), .ref (ad49 20 2), .ref (ad49 20 3), .ref (ad49 20 4), .int 0, .int 0, .int (-1), .int 0, .int 0])) := by rw [eq40_0, eq41_0, eq42_0, eq10_0, eq43_0, eq20_0, eq20_1, eq20_2, eq20_3, eq20_4]; exact p_h
  exact prV (post := fun L1 f1 => ∃ ad2 : Nat → Nat → Nat, kp L f L1 f1 [h] ∧ pt L1 f1 h (.inr (10, [.ref (ad2 40 0), .ref (ad2 41 0), .ref (ad2 42 0), .ref (ad2 10 0), .ref (ad2 43 0), .ref (ad2 20 0), .ref (ad2 20 1), .ref (ad2 20 2), .ref (ad2 20 3), .ref (ad2 20 4), .int 0, .int 0, .int (-1), .int 0, .int 0])) ∧ SHC gl_1 G ad2 L1 f1 ∧ EXT gl_0 ad gl_1 ad2 ∧ (∀ x, x ∈ L → NRg gl_0 ad x → NRg gl_1 ad2 x)) S Y (by decide) (by decide) hA1 ⟨ad49, hk, p_h, I, hext, hout⟩ dX10_init_171
set_option maxHeartbeats 4000000 in
set_option maxRecDepth 100000 in
theorem c_world1 {l : Launch} {G : GG} {L : List Nat} {f : HF} {h : Nat} {ad : Nat → Nat → Nat} (p_h : pt L f h (.inr (10, [.null, .null, .null, .null, .null, .null, .null, .null, .null, .null, .int 0, .int 0, .int 0, .int 0, .int 0]))) (I : SHC gl_50 G ad L f) (nr_h : NRg gl_50 ad h) : PMv l yX10_init cX10_init 2 2 131 9158 G [.ref h] L f (fun L1 f1 => ∃ ad2 : Nat → Nat → Nat, kp L f L1 f1 [h] ∧ pt L1 f1 h (.inr (10, [.ref (ad2 40 1), .ref (ad2 41 1), .ref (ad2 42 1), .ref (ad2 10 31), .ref (ad2 43 1), .ref (ad2 20 5), .ref (ad2 20 6), .ref (ad2 20 7), .ref (ad2 20 8), .ref (ad2 20 9), .int 0, .int 0, .int (-1), .int 0, .int 0])) ∧ SHC gl_51 G ad2 L1 f1 ∧ EXT gl_50 ad gl_51 ad2 ∧ (∀ x, x ∈ L → NRg gl_50 ad x → NRg gl_51 ad2 x)) := by
  refine PMv.of (post := fun L1 f1 => ∃ ad2 : Nat → Nat → Nat, kp L f L1 f1 [h] ∧ pt L1 f1 h (.inr (10, [.ref (ad2 40 1), .ref (ad2 41 1), .ref (ad2 42 1), .ref (ad2 10 31), .ref (ad2 43 1), .ref (ad2 20 5), .ref (ad2 20 6), .ref (ad2 20 7), .ref (ad2 20 8), .ref (ad2 20 9), .int 0, .int 0, .int (-1), .int 0, .int 0])) ∧ SHC gl_51 G ad2 L1 f1 ∧ EXT gl_50 ad gl_51 ad2 ∧ (∀ x, x ∈ L → NRg gl_50 ad x → NRg gl_51 ad2 x)) (own := RX10) (by decide) rfl (Nat.le_of_ble_eq_true rfl) (fun sz p e s m args below meth c A ls hA1 hname S Y hl => ?_)
  have hx := S.hx
  have hb := S.hb
  have hl : lv_has ls 2 [(0, .ref h)] := hl
  have hk : kp L f L f [h] := kp.rf
  refine lv_aload_n hx hb dX10_init_0 rfl (lv_at hl 0 rfl) ?_
  refine pObj S km10_3 kObj1 kObj2 hl.1 (Nat.le_of_ble_eq_true rfl) (Nat.le_of_ble_eq_true rfl) dX10_init_1 ?_
  have hkI : kp L f L f [h] := kp.rf
  have hout : ∀ x, x ∈ L → NRg gl_50 ad x → NRg gl_50 ad x := fun _ _ h => h
  have hext : EXT gl_50 ad gl_50 ad := EXT.rf
  refine lv_aload_n hx hb dX10_init_4 rfl (lv_at hl 0 rfl) ?_
  refine lv_bipush (v := 6) hx hb dX10_init_5 (by decide) ?_
  refine pg_newa S Y (ty := .int) rfl 0 rfl ka_int (N' := 6) (6, .inl (fun _ => 0)) (fun _ => rfl) (by decide) (by decide) (by decide) (by decide) (by decide) dX10_init_7 (fun q_93446 f_93447 H nq_93446 ef_93447 Y => ?_)
  have whkq_93446 := hk.notin nq_93446
  have hk := hk.push ef_93447 nq_93446
  have whkIq_93446 := hkI.notin nq_93446
  have hkI := hkI.push ef_93447 nq_93446
  have p_h := p_h.push ef_93447 nq_93446
  have p_q_93446 := pt.new (L := L) ef_93447
  refine pg_putF S Y hname ok_X10 0 (by decide) kf10_9 rfl rfl (fs' := [.ref q_93446, .null, .null, .null, .null, .null, .null, .null, .null, .null, .int 0, .int 0, .int 0, .int 0, .int 0]) (v := .ref q_93446) p_h rfl rfl rfl (Nat.le_of_ble_eq_true rfl) dX10_init_9 (fun f_93448 H locs ef_93448 Y => ?_)
  have p_q_93446 := p_q_93446.up ef_93448 ((p_q_93446.neB p_h))
  have p_h := p_h.me ef_93448
  have hk := hk.up ef_93448 (by simp)
  have hkI := hkI.up ef_93448 (by simp)
  have nr_q_93446 : NRg gl_50 ad q_93446 := (SHC.nr I whkIq_93446)
  have I := I.kp hkI (allc nr_h all0)
  have hkI : kp (L ++ [q_93446]) f_93448 (L ++ [q_93446]) f_93448 [h] := kp.rf
  obtain ⟨ad1, I, X_93449, Y_93450, Z_93451⟩ := SHC.add (l2 := gl_52) I (k := 40) (n := 1) rfl (by decide) rfl p_q_93446 nr_q_93446 (okE_a (g := (fun _ => 0)) trivial) trivial
  have nr_h := Z_93451 _ nr_h (p_h.neA p_q_93446)
  have hout : ∀ x, x ∈ L → NRg gl_50 ad x → NRg gl_52 ad1 x := fun x hx hn => Z_93451 x (hout x hx hn) (fun e => whkq_93446 (by rw [← e]; exact hx))
  have hext := hext.tr X_93449
  have eq40_1 := Y_93450
  have hkI : kp (L ++ [q_93446]) f_93448 (L ++ [q_93446]) f_93448 [h] := kp.rf
  refine lv_aload_n hx hb dX10_init_12 rfl (lv_at hl 0 rfl) ?_
  refine lv_bipush (v := 6) hx hb dX10_init_13 (by decide) ?_
  refine pg_newa S Y (ty := .int) rfl 0 rfl ka_int (N' := 6) (6, .inl (fun _ => 0)) (fun _ => rfl) (by decide) (by decide) (by decide) (by decide) (by decide) dX10_init_15 (fun q_93452 f_93453 H nq_93452 ef_93453 Y => ?_)
  have whkq_93452 := hk.notin nq_93452
  have hk := hk.push ef_93453 nq_93452
  have whkIq_93452 := hkI.notin nq_93452
  have hkI := hkI.push ef_93453 nq_93452
  have p_h := p_h.push ef_93453 nq_93452
  have p_q_93452 := pt.new (L := (L ++ [q_93446])) ef_93453
  refine pg_putF S Y hname ok_X10 1 (by decide) kf10_15 rfl rfl (fs' := [.ref q_93446, .ref q_93452, .null, .null, .null, .null, .null, .null, .null, .null, .int 0, .int 0, .int 0, .int 0, .int 0]) (v := .ref q_93452) p_h rfl rfl rfl (Nat.le_of_ble_eq_true rfl) dX10_init_17 (fun f_93454 H locs ef_93454 Y => ?_)
  have p_q_93452 := p_q_93452.up ef_93454 ((p_q_93452.neB p_h))
  have p_h := p_h.me ef_93454
  have hk := hk.up ef_93454 (by simp)
  have hkI := hkI.up ef_93454 (by simp)
  have nr_q_93452 : NRg gl_52 ad1 q_93452 := (SHC.nr I whkIq_93452)
  have I := I.kp hkI (allc nr_h all0)
  have hkI : kp ((L ++ [q_93446]) ++ [q_93452]) f_93454 ((L ++ [q_93446]) ++ [q_93452]) f_93454 [h] := kp.rf
  obtain ⟨ad2, I, X_93455, Y_93456, Z_93457⟩ := SHC.add (l2 := gl_53) I (k := 41) (n := 1) rfl (by decide) rfl p_q_93452 nr_q_93452 (okE_a (g := (fun _ => 0)) trivial) trivial
  have eq40_1 := (X_93455.2 40 1 (by decide)).trans eq40_1
  have nr_h := Z_93457 _ nr_h (p_h.neA p_q_93452)
  have hout : ∀ x, x ∈ L → NRg gl_50 ad x → NRg gl_53 ad2 x := fun x hx hn => Z_93457 x (hout x hx hn) (fun e => whkq_93452 (by rw [← e]; exact hx))
  have hext := hext.tr X_93455
  have eq41_1 := Y_93456
  have hkI : kp ((L ++ [q_93446]) ++ [q_93452]) f_93454 ((L ++ [q_93446]) ++ [q_93452]) f_93454 [h] := kp.rf
  refine lv_aload_n hx hb dX10_init_20 rfl (lv_at hl 0 rfl) ?_
  refine lv_iconst (v := 4) hx hb dX10_init_21 (by decide) ?_
  refine pg_newq S Y kc10_18 (fun w => w.2.2) 4 rfl (N' := 4) (by decide) (by decide) (by decide) (by decide) (by decide) dX10_init_22 (fun q_93458 f_93459 H nq_93458 ef_93459 Y => ?_)
  have whkq_93458 := hk.notin nq_93458
  have hk := hk.push ef_93459 nq_93458
  have whkIq_93458 := hkI.notin nq_93458
  have hkI := hkI.push ef_93459 nq_93458
  have p_h := p_h.push ef_93459 nq_93458
  have p_q_93458 := pt.new (L := ((L ++ [q_93446]) ++ [q_93452])) ef_93459
  have nr_q_93458 : NRg gl_53 ad2 q_93458 := (SHC.nr I whkIq_93458)
  have I := I.kp hkI (allc nr_h all0)
  have hkI : kp (((L ++ [q_93446]) ++ [q_93452]) ++ [q_93458]) f_93459 (((L ++ [q_93446]) ++ [q_93452]) ++ [q_93458]) f_93459 [h, q_93458] := kp.rf
  refine pg_putF S Y hname ok_X10 2 (by decide) kf10_20 rfl rfl (fs' := [.ref q_93446, .ref q_93452, .ref q_93458, .null, .null, .null, .null, .null, .null, .null, .int 0, .int 0, .int 0, .int 0, .int 0]) (v := .ref q_93458) p_h rfl rfl rfl (Nat.le_of_ble_eq_true rfl) dX10_init_25 (fun f_93460 H locs ef_93460 Y => ?_)
  have p_q_93458 := p_q_93458.up ef_93460 ((p_q_93458.neB p_h))
  have p_h := p_h.me ef_93460
  have hk := hk.up ef_93460 (by simp)
  have hkI := hkI.up ef_93460 (by simp)
  refine lv_aload_n hx hb dX10_init_28 rfl (lv_at hl 0 rfl) ?_
  refine pg_new S Y ok_X4 kc10_24 kn4 ki4 (fs := [.null, .null, .int 0, .int 0, .int 0, .int 0, .int 0]) (by decide) (by decide) (by decide) dX10_init_29 (fun q_93461 f_93462 H nq_93461 ef_93462 Y => ?_)
  have whkq_93461 := hk.notin nq_93461
  have hk := hk.push ef_93462 nq_93461
  have whkIq_93461 := hkI.notin nq_93461
  have hkI := hkI.push ef_93462 nq_93461
  have p_h := p_h.push ef_93462 nq_93461
  have p_q_93458 := p_q_93458.push ef_93462 nq_93461
  have p_q_93461 := pt.new (L := (((L ++ [q_93446]) ++ [q_93452]) ++ [q_93458])) ef_93462
  refine lv_dup hx hb dX10_init_32 rfl ?_
  refine cINv (b := q_93461) (As := []) (rest := [.ref q_93461, .ref h]) S Y (c_X4_init (l := l) p_q_93461) cw_X4_init km10_26 rfl ⟨Nat.le_of_ble_eq_true rfl, Nat.le_of_ble_eq_true rfl⟩ hl.1 rfl (Nat.le_of_ble_eq_true rfl) ⟨Nat.le_of_ble_eq_true rfl, Nat.le_of_ble_eq_true rfl⟩ dX10_init_33 (fun L_93463 f_93464 H locs hf_93464 Y => ?_)
  obtain ⟨a__93465, a__93466, kf_93464, z_z_93467, z_z_93468, z_z_93469, v_93470, v_93471⟩ := hf_93464
  have w_93472 := hk.notin v_93470
  have w_93473 := hkI.notin v_93470
  have w_93474 := hk.notin v_93471
  have w_93475 := hkI.notin v_93471
  have p_h := kf_93464.1 h _ (nmc (p_h.neK p_q_93461 (by decide)) nm0) p_h
  have p_q_93458 := kf_93464.1 q_93458 _ (nmc (p_q_93458.neB p_q_93461) nm0) p_q_93458
  have p_q_93461 := z_z_93467
  have p_a__93465 := z_z_93468
  have p_a__93466 := z_z_93469
  have hk := hk.call kf_93464 (fun b hb hp => (nmc (neL hp whkq_93461) nm0))
  have hkI := hkI.call kf_93464 (fun b hb hp => (nmc (neL hp whkIq_93461) nm0))
  have nr_q_93461 : NRg gl_53 ad2 q_93461 := (SHC.nr I whkIq_93461)
  have nr_a__93465 : NRg gl_53 ad2 a__93465 := (SHC.nr I w_93473)
  have nr_a__93466 : NRg gl_53 ad2 a__93466 := (SHC.nr I w_93475)
  have I := I.kp hkI (allc nr_h (allc nr_q_93458 all0))
  have hkI : kp L_93463 f_93464 L_93463 f_93464 [h, q_93458] := kp.rf
  obtain ⟨ad3, I, X_93476, Y_93477, Z_93478⟩ := SHC.led (l2 := gl_54) (n := 31) I rfl rfl rfl (by decide) rfl p_q_93461 p_a__93465 p_a__93466 nr_q_93461 nr_a__93465 nr_a__93466 
  have eq40_1 := (X_93476.2 40 1 (by decide)).trans eq40_1
  have eq41_1 := (X_93476.2 41 1 (by decide)).trans eq41_1
  have nr_h := Z_93478 _ nr_h (p_h.neK p_q_93461 (by decide)) (p_h.neA p_a__93465) (p_h.neA p_a__93466)
  have nr_q_93458 := Z_93478 _ nr_q_93458 (p_q_93458.neB p_q_93461) (p_q_93458.neN p_a__93465 (by decide)) (p_q_93458.neN p_a__93466 (by decide))
  have hout : ∀ x, x ∈ L → NRg gl_50 ad x → NRg gl_54 ad3 x := fun x hx hn => Z_93478 x (hout x hx hn) (fun e => whkq_93461 (by rw [← e]; exact hx)) (fun e => w_93472 (by rw [← e]; exact hx)) (fun e => w_93474 (by rw [← e]; exact hx))
  have hext := hext.tr X_93476
  have eq10_31 := Y_93477
  have hkI : kp L_93463 f_93464 L_93463 f_93464 [h, q_93458] := kp.rf
  refine pg_putF S Y hname ok_X10 3 (by decide) kf10_27 rfl rfl (fs' := [.ref q_93446, .ref q_93452, .ref q_93458, .ref q_93461, .null, .null, .null, .null, .null, .null, .int 0, .int 0, .int 0, .int 0, .int 0]) (v := .ref q_93461) p_h rfl rfl rfl (Nat.le_of_ble_eq_true rfl) dX10_init_36 (fun f_93479 H locs ef_93479 Y => ?_)
  have p_q_93458 := p_q_93458.up ef_93479 ((p_q_93458.neB p_h))
  have p_q_93461 := p_q_93461.up ef_93479 ((p_q_93461.neK p_h (by decide)))
  have p_h := p_h.me ef_93479
  have hk := hk.up ef_93479 (by simp)
  have hkI := hkI.up ef_93479 (by simp)
  refine lv_aload_n hx hb dX10_init_39 rfl (lv_at hl 0 rfl) ?_
  refine lv_bipush (v := 30) hx hb dX10_init_40 (by decide) ?_
  refine pg_newq S Y kc10_24 (fun w => w.2.1) 3 rfl (N' := 30) (by decide) (by decide) (by decide) (by decide) (by decide) dX10_init_42 (fun q_93480 f_93481 H nq_93480 ef_93481 Y => ?_)
  have whkq_93480 := hk.notin nq_93480
  have hk := hk.push ef_93481 nq_93480
  have whkIq_93480 := hkI.notin nq_93480
  have hkI := hkI.push ef_93481 nq_93480
  have p_h := p_h.push ef_93481 nq_93480
  have p_q_93458 := p_q_93458.push ef_93481 nq_93480
  have p_q_93461 := p_q_93461.push ef_93481 nq_93480
  have p_q_93480 := pt.new (L := L_93463) ef_93481
  have nr_q_93480 : NRg gl_54 ad3 q_93480 := (SHC.nr I whkIq_93480)
  have I := I.kp hkI (allc nr_h (allc nr_q_93458 all0))
  have hkI : kp (L_93463 ++ [q_93480]) f_93481 (L_93463 ++ [q_93480]) f_93481 [h, q_93458, q_93480] := kp.rf
  refine pg_putF S Y hname ok_X10 4 (by decide) kf10_31 rfl rfl (fs' := [.ref q_93446, .ref q_93452, .ref q_93458, .ref q_93461, .ref q_93480, .null, .null, .null, .null, .null, .int 0, .int 0, .int 0, .int 0, .int 0]) (v := .ref q_93480) p_h rfl rfl rfl (Nat.le_of_ble_eq_true rfl) dX10_init_45 (fun f_93482 H locs ef_93482 Y => ?_)
  have p_q_93458 := p_q_93458.up ef_93482 ((p_q_93458.neB p_h))
  have p_q_93461 := p_q_93461.up ef_93482 ((p_q_93461.neK p_h (by decide)))
  have p_q_93480 := p_q_93480.up ef_93482 ((p_q_93480.neB p_h))
  have p_h := p_h.me ef_93482
  have hk := hk.up ef_93482 (by simp)
  have hkI := hkI.up ef_93482 (by simp)
  refine lv_aload_n hx hb dX10_init_48 rfl (lv_at hl 0 rfl) ?_
  refine pg_new S Y ok_X9 kc10_35 kn9 ki9 (fs := [.null, .int 0, .int 0]) (by decide) (by decide) (by decide) dX10_init_49 (fun q_93483 f_93484 H nq_93483 ef_93484 Y => ?_)
  have whkq_93483 := hk.notin nq_93483
  have hk := hk.push ef_93484 nq_93483
  have whkIq_93483 := hkI.notin nq_93483
  have hkI := hkI.push ef_93484 nq_93483
  have p_h := p_h.push ef_93484 nq_93483
  have p_q_93458 := p_q_93458.push ef_93484 nq_93483
  have p_q_93461 := p_q_93461.push ef_93484 nq_93483
  have p_q_93480 := p_q_93480.push ef_93484 nq_93483
  have p_q_93483 := pt.new (L := (L_93463 ++ [q_93480])) ef_93484
  refine lv_dup hx hb dX10_init_52 rfl ?_
  refine lv_bipush (v := 6) hx hb dX10_init_53 (by decide) ?_
  refine cIv (b := q_93483) (As := [.int 6]) (rest := [.ref q_93483, .ref h]) S Y (c_told6 (l := l) p_q_93483) cw_X9_init km10_37 rfl ⟨Nat.le_of_ble_eq_true rfl, Nat.le_of_ble_eq_true rfl⟩ hl.1 rfl (Nat.le_of_ble_eq_true rfl) ⟨Nat.le_of_ble_eq_true rfl, Nat.le_of_ble_eq_true rfl⟩ dX10_init_55 (fun L_93485 f_93486 H locs hf_93486 Y => ?_)
  obtain ⟨a__93487, kf_93486, z_z_93488, z_z_93489, v_93490⟩ := hf_93486
  have w_93491 := hk.notin v_93490
  have w_93492 := hkI.notin v_93490
  have p_h := kf_93486.1 h _ (nmc (p_h.neK p_q_93483 (by decide)) nm0) p_h
  have p_q_93458 := kf_93486.1 q_93458 _ (nmc (p_q_93458.neB p_q_93483) nm0) p_q_93458
  have p_q_93461 := kf_93486.1 q_93461 _ (nmc (p_q_93461.neK p_q_93483 (by decide)) nm0) p_q_93461
  have p_q_93480 := kf_93486.1 q_93480 _ (nmc (p_q_93480.neB p_q_93483) nm0) p_q_93480
  have p_q_93483 := z_z_93488
  have p_a__93487 := z_z_93489
  have hk := hk.call kf_93486 (fun b hb hp => (nmc (neL hp whkq_93483) nm0))
  have hkI := hkI.call kf_93486 (fun b hb hp => (nmc (neL hp whkIq_93483) nm0))
  have nr_q_93483 : NRg gl_54 ad3 q_93483 := (SHC.nr I whkIq_93483)
  have nr_a__93487 : NRg gl_54 ad3 a__93487 := (SHC.nr I w_93492)
  have I := I.kp hkI (allc nr_h (allc nr_q_93458 (allc nr_q_93480 all0)))
  have hkI : kp L_93485 f_93486 L_93485 f_93486 [h, q_93458, q_93480, q_93483, a__93487] := kp.rf
  obtain ⟨ad4, I, X_93493, Y_93494, Z_93495⟩ := SHC.add (l2 := gl_55) I (k := 21) (n := 5) rfl (by decide) rfl p_a__93487 nr_a__93487 (okE_a (g := (fun _ => 0)) trivial) trivial
  have eq40_1 := (X_93493.2 40 1 (by decide)).trans eq40_1
  have eq41_1 := (X_93493.2 41 1 (by decide)).trans eq41_1
  have eq10_31 := (X_93493.2 10 31 (by decide)).trans eq10_31
  have nr_h := Z_93495 _ nr_h (p_h.neA p_a__93487)
  have nr_q_93458 := Z_93495 _ nr_q_93458 (p_q_93458.neN p_a__93487 (by decide))
  have nr_q_93480 := Z_93495 _ nr_q_93480 (p_q_93480.neN p_a__93487 (by decide))
  have nr_q_93483 := Z_93495 _ nr_q_93483 (p_q_93483.neA p_a__93487)
  have hout : ∀ x, x ∈ L → NRg gl_50 ad x → NRg gl_55 ad4 x := fun x hx hn => Z_93495 x (hout x hx hn) (fun e => w_93491 (by rw [← e]; exact hx))
  have hext := hext.tr X_93493
  have eq21_5 := Y_93494
  have hkI : kp L_93485 f_93486 L_93485 f_93486 [h, q_93458, q_93480, q_93483] := kp.rf
  have I := I.kp hkI (allc nr_h (allc nr_q_93458 (allc nr_q_93480 (allc nr_q_93483 all0))))
  have hkI : kp L_93485 f_93486 L_93485 f_93486 [h, q_93458, q_93480, q_93483] := kp.rf
  obtain ⟨ad5, I, X_93496, Y_93497, Z_93498⟩ := SHC.add (l2 := gl_56) I (k := 20) (n := 5) rfl (by decide) rfl p_q_93483 nr_q_93483 (okE_o (okFs_c (okV_re eq21_5) (okFs_c (okV_p (by constructor <;> decide)) (okFs_c (okV_p (by constructor <;> decide)) okFs_n)))) ⟨(show 5 < nL gl_55 21 from by decide), ⟨trivial, ⟨trivial, trivial⟩⟩⟩
  have eq40_1 := (X_93496.2 40 1 (by decide)).trans eq40_1
  have eq41_1 := (X_93496.2 41 1 (by decide)).trans eq41_1
  have eq10_31 := (X_93496.2 10 31 (by decide)).trans eq10_31
  have eq21_5 := (X_93496.2 21 5 (by decide)).trans eq21_5
  have nr_h := Z_93498 _ nr_h (p_h.neK p_q_93483 (by decide))
  have nr_q_93458 := Z_93498 _ nr_q_93458 (p_q_93458.neB p_q_93483)
  have nr_q_93480 := Z_93498 _ nr_q_93480 (p_q_93480.neB p_q_93483)
  have hout : ∀ x, x ∈ L → NRg gl_50 ad x → NRg gl_56 ad5 x := fun x hx hn => Z_93498 x (hout x hx hn) (fun e => whkq_93483 (by rw [← e]; exact hx))
  have hext := hext.tr X_93496
  have eq20_5 := Y_93497
  have hkI : kp L_93485 f_93486 L_93485 f_93486 [h, q_93458, q_93480] := kp.rf
  refine pg_putF S Y hname ok_X10 5 (by decide) kf10_40 rfl rfl (fs' := [.ref q_93446, .ref q_93452, .ref q_93458, .ref q_93461, .ref q_93480, .ref q_93483, .null, .null, .null, .null, .int 0, .int 0, .int 0, .int 0, .int 0]) (v := .ref q_93483) p_h rfl rfl rfl (Nat.le_of_ble_eq_true rfl) dX10_init_58 (fun f_93499 H locs ef_93499 Y => ?_)
  have p_q_93458 := p_q_93458.up ef_93499 ((p_q_93458.neB p_h))
  have p_q_93480 := p_q_93480.up ef_93499 ((p_q_93480.neB p_h))
  have p_h := p_h.me ef_93499
  have hk := hk.up ef_93499 (by simp)
  have hkI := hkI.up ef_93499 (by simp)
  refine lv_aload_n hx hb dX10_init_61 rfl (lv_at hl 0 rfl) ?_
  refine pg_new S Y ok_X9 kc10_35 kn9 ki9 (fs := [.null, .int 0, .int 0]) (by decide) (by decide) (by decide) dX10_init_62 (fun q_93500 f_93501 H nq_93500 ef_93501 Y => ?_)
  have whkq_93500 := hk.notin nq_93500
  have hk := hk.push ef_93501 nq_93500
  have whkIq_93500 := hkI.notin nq_93500
  have hkI := hkI.push ef_93501 nq_93500
  have p_h := p_h.push ef_93501 nq_93500
  have p_q_93458 := p_q_93458.push ef_93501 nq_93500
  have p_q_93480 := p_q_93480.push ef_93501 nq_93500
  have p_q_93500 := pt.new (L := L_93485) ef_93501
  refine lv_dup hx hb dX10_init_65 rfl ?_
  refine lv_bipush (v := 8) hx hb dX10_init_66 (by decide) ?_
  refine cIv (b := q_93500) (As := [.int 8]) (rest := [.ref q_93500, .ref h]) S Y (c_told8 (l := l) p_q_93500) cw_X9_init km10_37 rfl ⟨Nat.le_of_ble_eq_true rfl, Nat.le_of_ble_eq_true rfl⟩ hl.1 rfl (Nat.le_of_ble_eq_true rfl) ⟨Nat.le_of_ble_eq_true rfl, Nat.le_of_ble_eq_true rfl⟩ dX10_init_68 (fun L_93502 f_93503 H locs hf_93503 Y => ?_)
  obtain ⟨a__93504, kf_93503, z_z_93505, z_z_93506, v_93507⟩ := hf_93503
  have w_93508 := hk.notin v_93507
  have w_93509 := hkI.notin v_93507
  have p_h := kf_93503.1 h _ (nmc (p_h.neK p_q_93500 (by decide)) nm0) p_h
  have p_q_93458 := kf_93503.1 q_93458 _ (nmc (p_q_93458.neB p_q_93500) nm0) p_q_93458
  have p_q_93480 := kf_93503.1 q_93480 _ (nmc (p_q_93480.neB p_q_93500) nm0) p_q_93480
  have p_q_93500 := z_z_93505
  have p_a__93504 := z_z_93506
  have hk := hk.call kf_93503 (fun b hb hp => (nmc (neL hp whkq_93500) nm0))
  have hkI := hkI.call kf_93503 (fun b hb hp => (nmc (neL hp whkIq_93500) nm0))
  have nr_q_93500 : NRg gl_56 ad5 q_93500 := (SHC.nr I whkIq_93500)
  have nr_a__93504 : NRg gl_56 ad5 a__93504 := (SHC.nr I w_93509)
  have I := I.kp hkI (allc nr_h (allc nr_q_93458 (allc nr_q_93480 all0)))
  have hkI : kp L_93502 f_93503 L_93502 f_93503 [h, q_93458, q_93480, q_93500, a__93504] := kp.rf
  obtain ⟨ad6, I, X_93510, Y_93511, Z_93512⟩ := SHC.add (l2 := gl_57) I (k := 21) (n := 6) rfl (by decide) rfl p_a__93504 nr_a__93504 (okE_a (g := (fun _ => 0)) trivial) trivial
  have eq40_1 := (X_93510.2 40 1 (by decide)).trans eq40_1
  have eq41_1 := (X_93510.2 41 1 (by decide)).trans eq41_1
  have eq10_31 := (X_93510.2 10 31 (by decide)).trans eq10_31
  have eq20_5 := (X_93510.2 20 5 (by decide)).trans eq20_5
  have nr_h := Z_93512 _ nr_h (p_h.neA p_a__93504)
  have nr_q_93458 := Z_93512 _ nr_q_93458 (p_q_93458.neN p_a__93504 (by decide))
  have nr_q_93480 := Z_93512 _ nr_q_93480 (p_q_93480.neN p_a__93504 (by decide))
  have nr_q_93500 := Z_93512 _ nr_q_93500 (p_q_93500.neA p_a__93504)
  have hout : ∀ x, x ∈ L → NRg gl_50 ad x → NRg gl_57 ad6 x := fun x hx hn => Z_93512 x (hout x hx hn) (fun e => w_93508 (by rw [← e]; exact hx))
  have hext := hext.tr X_93510
  have eq21_6 := Y_93511
  have hkI : kp L_93502 f_93503 L_93502 f_93503 [h, q_93458, q_93480, q_93500] := kp.rf
  have I := I.kp hkI (allc nr_h (allc nr_q_93458 (allc nr_q_93480 (allc nr_q_93500 all0))))
  have hkI : kp L_93502 f_93503 L_93502 f_93503 [h, q_93458, q_93480, q_93500] := kp.rf
  obtain ⟨ad7, I, X_93513, Y_93514, Z_93515⟩ := SHC.add (l2 := gl_58) I (k := 20) (n := 6) rfl (by decide) rfl p_q_93500 nr_q_93500 (okE_o (okFs_c (okV_re eq21_6) (okFs_c (okV_p (by constructor <;> decide)) (okFs_c (okV_p (by constructor <;> decide)) okFs_n)))) ⟨(show 6 < nL gl_57 21 from by decide), ⟨trivial, ⟨trivial, trivial⟩⟩⟩
  have eq40_1 := (X_93513.2 40 1 (by decide)).trans eq40_1
  have eq41_1 := (X_93513.2 41 1 (by decide)).trans eq41_1
  have eq10_31 := (X_93513.2 10 31 (by decide)).trans eq10_31
  have eq20_5 := (X_93513.2 20 5 (by decide)).trans eq20_5
  have eq21_6 := (X_93513.2 21 6 (by decide)).trans eq21_6
  have nr_h := Z_93515 _ nr_h (p_h.neK p_q_93500 (by decide))
  have nr_q_93458 := Z_93515 _ nr_q_93458 (p_q_93458.neB p_q_93500)
  have nr_q_93480 := Z_93515 _ nr_q_93480 (p_q_93480.neB p_q_93500)
  have hout : ∀ x, x ∈ L → NRg gl_50 ad x → NRg gl_58 ad7 x := fun x hx hn => Z_93515 x (hout x hx hn) (fun e => whkq_93500 (by rw [← e]; exact hx))
  have hext := hext.tr X_93513
  have eq20_6 := Y_93514
  have hkI : kp L_93502 f_93503 L_93502 f_93503 [h, q_93458, q_93480] := kp.rf
  refine pg_putF S Y hname ok_X10 6 (by decide) kf10_44 rfl rfl (fs' := [.ref q_93446, .ref q_93452, .ref q_93458, .ref q_93461, .ref q_93480, .ref q_93483, .ref q_93500, .null, .null, .null, .int 0, .int 0, .int 0, .int 0, .int 0]) (v := .ref q_93500) p_h rfl rfl rfl (Nat.le_of_ble_eq_true rfl) dX10_init_71 (fun f_93516 H locs ef_93516 Y => ?_)
  have p_q_93458 := p_q_93458.up ef_93516 ((p_q_93458.neB p_h))
  have p_q_93480 := p_q_93480.up ef_93516 ((p_q_93480.neB p_h))
  have p_h := p_h.me ef_93516
  have hk := hk.up ef_93516 (by simp)
  have hkI := hkI.up ef_93516 (by simp)
  refine lv_aload_n hx hb dX10_init_74 rfl (lv_at hl 0 rfl) ?_
  refine pg_new S Y ok_X9 kc10_35 kn9 ki9 (fs := [.null, .int 0, .int 0]) (by decide) (by decide) (by decide) dX10_init_75 (fun q_93517 f_93518 H nq_93517 ef_93518 Y => ?_)
  have whkq_93517 := hk.notin nq_93517
  have hk := hk.push ef_93518 nq_93517
  have whkIq_93517 := hkI.notin nq_93517
  have hkI := hkI.push ef_93518 nq_93517
  have p_h := p_h.push ef_93518 nq_93517
  have p_q_93458 := p_q_93458.push ef_93518 nq_93517
  have p_q_93480 := p_q_93480.push ef_93518 nq_93517
  have p_q_93517 := pt.new (L := L_93502) ef_93518
  refine lv_dup hx hb dX10_init_78 rfl ?_
  refine lv_bipush (v := 8) hx hb dX10_init_79 (by decide) ?_
  refine cIv (b := q_93517) (As := [.int 8]) (rest := [.ref q_93517, .ref h]) S Y (c_told8 (l := l) p_q_93517) cw_X9_init km10_37 rfl ⟨Nat.le_of_ble_eq_true rfl, Nat.le_of_ble_eq_true rfl⟩ hl.1 rfl (Nat.le_of_ble_eq_true rfl) ⟨Nat.le_of_ble_eq_true rfl, Nat.le_of_ble_eq_true rfl⟩ dX10_init_81 (fun L_93519 f_93520 H locs hf_93520 Y => ?_)
  obtain ⟨a__93521, kf_93520, z_z_93522, z_z_93523, v_93524⟩ := hf_93520
  have w_93525 := hk.notin v_93524
  have w_93526 := hkI.notin v_93524
  have p_h := kf_93520.1 h _ (nmc (p_h.neK p_q_93517 (by decide)) nm0) p_h
  have p_q_93458 := kf_93520.1 q_93458 _ (nmc (p_q_93458.neB p_q_93517) nm0) p_q_93458
  have p_q_93480 := kf_93520.1 q_93480 _ (nmc (p_q_93480.neB p_q_93517) nm0) p_q_93480
  have p_q_93517 := z_z_93522
  have p_a__93521 := z_z_93523
  have hk := hk.call kf_93520 (fun b hb hp => (nmc (neL hp whkq_93517) nm0))
  have hkI := hkI.call kf_93520 (fun b hb hp => (nmc (neL hp whkIq_93517) nm0))
  have nr_q_93517 : NRg gl_58 ad7 q_93517 := (SHC.nr I whkIq_93517)
  have nr_a__93521 : NRg gl_58 ad7 a__93521 := (SHC.nr I w_93526)
  have I := I.kp hkI (allc nr_h (allc nr_q_93458 (allc nr_q_93480 all0)))
  have hkI : kp L_93519 f_93520 L_93519 f_93520 [h, q_93458, q_93480, q_93517, a__93521] := kp.rf
  obtain ⟨ad8, I, X_93527, Y_93528, Z_93529⟩ := SHC.add (l2 := gl_59) I (k := 21) (n := 7) rfl (by decide) rfl p_a__93521 nr_a__93521 (okE_a (g := (fun _ => 0)) trivial) trivial
  have eq40_1 := (X_93527.2 40 1 (by decide)).trans eq40_1
  have eq41_1 := (X_93527.2 41 1 (by decide)).trans eq41_1
  have eq10_31 := (X_93527.2 10 31 (by decide)).trans eq10_31
  have eq20_5 := (X_93527.2 20 5 (by decide)).trans eq20_5
  have eq20_6 := (X_93527.2 20 6 (by decide)).trans eq20_6
  have nr_h := Z_93529 _ nr_h (p_h.neA p_a__93521)
  have nr_q_93458 := Z_93529 _ nr_q_93458 (p_q_93458.neN p_a__93521 (by decide))
  have nr_q_93480 := Z_93529 _ nr_q_93480 (p_q_93480.neN p_a__93521 (by decide))
  have nr_q_93517 := Z_93529 _ nr_q_93517 (p_q_93517.neA p_a__93521)
  have hout : ∀ x, x ∈ L → NRg gl_50 ad x → NRg gl_59 ad8 x := fun x hx hn => Z_93529 x (hout x hx hn) (fun e => w_93525 (by rw [← e]; exact hx))
  have hext := hext.tr X_93527
  have eq21_7 := Y_93528
  have hkI : kp L_93519 f_93520 L_93519 f_93520 [h, q_93458, q_93480, q_93517] := kp.rf
  have I := I.kp hkI (allc nr_h (allc nr_q_93458 (allc nr_q_93480 (allc nr_q_93517 all0))))
  have hkI : kp L_93519 f_93520 L_93519 f_93520 [h, q_93458, q_93480, q_93517] := kp.rf
  obtain ⟨ad9, I, X_93530, Y_93531, Z_93532⟩ := SHC.add (l2 := gl_60) I (k := 20) (n := 7) rfl (by decide) rfl p_q_93517 nr_q_93517 (okE_o (okFs_c (okV_re eq21_7) (okFs_c (okV_p (by constructor <;> decide)) (okFs_c (okV_p (by constructor <;> decide)) okFs_n)))) ⟨(show 7 < nL gl_59 21 from by decide), ⟨trivial, ⟨trivial, trivial⟩⟩⟩
  have eq40_1 := (X_93530.2 40 1 (by decide)).trans eq40_1
  have eq41_1 := (X_93530.2 41 1 (by decide)).trans eq41_1
  have eq10_31 := (X_93530.2 10 31 (by decide)).trans eq10_31
  have eq20_5 := (X_93530.2 20 5 (by decide)).trans eq20_5
  have eq20_6 := (X_93530.2 20 6 (by decide)).trans eq20_6
  have eq21_7 := (X_93530.2 21 7 (by decide)).trans eq21_7
  have nr_h := Z_93532 _ nr_h (p_h.neK p_q_93517 (by decide))
  have nr_q_93458 := Z_93532 _ nr_q_93458 (p_q_93458.neB p_q_93517)
  have nr_q_93480 := Z_93532 _ nr_q_93480 (p_q_93480.neB p_q_93517)
  have hout : ∀ x, x ∈ L → NRg gl_50 ad x → NRg gl_60 ad9 x := fun x hx hn => Z_93532 x (hout x hx hn) (fun e => whkq_93517 (by rw [← e]; exact hx))
  have hext := hext.tr X_93530
  have eq20_7 := Y_93531
  have hkI : kp L_93519 f_93520 L_93519 f_93520 [h, q_93458, q_93480] := kp.rf
  refine pg_putF S Y hname ok_X10 7 (by decide) kf10_47 rfl rfl (fs' := [.ref q_93446, .ref q_93452, .ref q_93458, .ref q_93461, .ref q_93480, .ref q_93483, .ref q_93500, .ref q_93517, .null, .null, .int 0, .int 0, .int 0, .int 0, .int 0]) (v := .ref q_93517) p_h rfl rfl rfl (Nat.le_of_ble_eq_true rfl) dX10_init_84 (fun f_93533 H locs ef_93533 Y => ?_)
  have p_q_93458 := p_q_93458.up ef_93533 ((p_q_93458.neB p_h))
  have p_q_93480 := p_q_93480.up ef_93533 ((p_q_93480.neB p_h))
  have p_h := p_h.me ef_93533
  have hk := hk.up ef_93533 (by simp)
  have hkI := hkI.up ef_93533 (by simp)
  refine lv_aload_n hx hb dX10_init_87 rfl (lv_at hl 0 rfl) ?_
  refine pg_new S Y ok_X9 kc10_35 kn9 ki9 (fs := [.null, .int 0, .int 0]) (by decide) (by decide) (by decide) dX10_init_88 (fun q_93534 f_93535 H nq_93534 ef_93535 Y => ?_)
  have whkq_93534 := hk.notin nq_93534
  have hk := hk.push ef_93535 nq_93534
  have whkIq_93534 := hkI.notin nq_93534
  have hkI := hkI.push ef_93535 nq_93534
  have p_h := p_h.push ef_93535 nq_93534
  have p_q_93458 := p_q_93458.push ef_93535 nq_93534
  have p_q_93480 := p_q_93480.push ef_93535 nq_93534
  have p_q_93534 := pt.new (L := L_93519) ef_93535
  refine lv_dup hx hb dX10_init_91 rfl ?_
  refine lv_bipush (v := 8) hx hb dX10_init_92 (by decide) ?_
  refine cIv (b := q_93534) (As := [.int 8]) (rest := [.ref q_93534, .ref h]) S Y (c_told8 (l := l) p_q_93534) cw_X9_init km10_37 rfl ⟨Nat.le_of_ble_eq_true rfl, Nat.le_of_ble_eq_true rfl⟩ hl.1 rfl (Nat.le_of_ble_eq_true rfl) ⟨Nat.le_of_ble_eq_true rfl, Nat.le_of_ble_eq_true rfl⟩ dX10_init_94 (fun L_93536 f_93537 H locs hf_93537 Y => ?_)
  obtain ⟨a__93538, kf_93537, z_z_93539, z_z_93540, v_93541⟩ := hf_93537
  have w_93542 := hk.notin v_93541
  have w_93543 := hkI.notin v_93541
  have p_h := kf_93537.1 h _ (nmc (p_h.neK p_q_93534 (by decide)) nm0) p_h
  have p_q_93458 := kf_93537.1 q_93458 _ (nmc (p_q_93458.neB p_q_93534) nm0) p_q_93458
  have p_q_93480 := kf_93537.1 q_93480 _ (nmc (p_q_93480.neB p_q_93534) nm0) p_q_93480
  have p_q_93534 := z_z_93539
  have p_a__93538 := z_z_93540
  have hk := hk.call kf_93537 (fun b hb hp => (nmc (neL hp whkq_93534) nm0))
  have hkI := hkI.call kf_93537 (fun b hb hp => (nmc (neL hp whkIq_93534) nm0))
  have nr_q_93534 : NRg gl_60 ad9 q_93534 := (SHC.nr I whkIq_93534)
  have nr_a__93538 : NRg gl_60 ad9 a__93538 := (SHC.nr I w_93543)
  have I := I.kp hkI (allc nr_h (allc nr_q_93458 (allc nr_q_93480 all0)))
  have hkI : kp L_93536 f_93537 L_93536 f_93537 [h, q_93458, q_93480, q_93534, a__93538] := kp.rf
  obtain ⟨ad10, I, X_93544, Y_93545, Z_93546⟩ := SHC.add (l2 := gl_61) I (k := 21) (n := 8) rfl (by decide) rfl p_a__93538 nr_a__93538 (okE_a (g := (fun _ => 0)) trivial) trivial
  have eq40_1 := (X_93544.2 40 1 (by decide)).trans eq40_1
  have eq41_1 := (X_93544.2 41 1 (by decide)).trans eq41_1
  have eq10_31 := (X_93544.2 10 31 (by decide)).trans eq10_31
  have eq20_5 := (X_93544.2 20 5 (by decide)).trans eq20_5
  have eq20_6 := (X_93544.2 20 6 (by decide)).trans eq20_6
  have eq20_7 := (X_93544.2 20 7 (by decide)).trans eq20_7
  have nr_h := Z_93546 _ nr_h (p_h.neA p_a__93538)
  have nr_q_93458 := Z_93546 _ nr_q_93458 (p_q_93458.neN p_a__93538 (by decide))
  have nr_q_93480 := Z_93546 _ nr_q_93480 (p_q_93480.neN p_a__93538 (by decide))
  have nr_q_93534 := Z_93546 _ nr_q_93534 (p_q_93534.neA p_a__93538)
  have hout : ∀ x, x ∈ L → NRg gl_50 ad x → NRg gl_61 ad10 x := fun x hx hn => Z_93546 x (hout x hx hn) (fun e => w_93542 (by rw [← e]; exact hx))
  have hext := hext.tr X_93544
  have eq21_8 := Y_93545
  have hkI : kp L_93536 f_93537 L_93536 f_93537 [h, q_93458, q_93480, q_93534] := kp.rf
  have I := I.kp hkI (allc nr_h (allc nr_q_93458 (allc nr_q_93480 (allc nr_q_93534 all0))))
  have hkI : kp L_93536 f_93537 L_93536 f_93537 [h, q_93458, q_93480, q_93534] := kp.rf
  obtain ⟨ad11, I, X_93547, Y_93548, Z_93549⟩ := SHC.add (l2 := gl_62) I (k := 20) (n := 8) rfl (by decide) rfl p_q_93534 nr_q_93534 (okE_o (okFs_c (okV_re eq21_8) (okFs_c (okV_p (by constructor <;> decide)) (okFs_c (okV_p (by constructor <;> decide)) okFs_n)))) ⟨(show 8 < nL gl_61 21 from by decide), ⟨trivial, ⟨trivial, trivial⟩⟩⟩
  have eq40_1 := (X_93547.2 40 1 (by decide)).trans eq40_1
  have eq41_1 := (X_93547.2 41 1 (by decide)).trans eq41_1
  have eq10_31 := (X_93547.2 10 31 (by decide)).trans eq10_31
  have eq20_5 := (X_93547.2 20 5 (by decide)).trans eq20_5
  have eq20_6 := (X_93547.2 20 6 (by decide)).trans eq20_6
  have eq20_7 := (X_93547.2 20 7 (by decide)).trans eq20_7
  have eq21_8 := (X_93547.2 21 8 (by decide)).trans eq21_8
  have nr_h := Z_93549 _ nr_h (p_h.neK p_q_93534 (by decide))
  have nr_q_93458 := Z_93549 _ nr_q_93458 (p_q_93458.neB p_q_93534)
  have nr_q_93480 := Z_93549 _ nr_q_93480 (p_q_93480.neB p_q_93534)
  have hout : ∀ x, x ∈ L → NRg gl_50 ad x → NRg gl_62 ad11 x := fun x hx hn => Z_93549 x (hout x hx hn) (fun e => whkq_93534 (by rw [← e]; exact hx))
  have hext := hext.tr X_93547
  have eq20_8 := Y_93548
  have hkI : kp L_93536 f_93537 L_93536 f_93537 [h, q_93458, q_93480] := kp.rf
  refine pg_putF S Y hname ok_X10 8 (by decide) kf10_50 rfl rfl (fs' := [.ref q_93446, .ref q_93452, .ref q_93458, .ref q_93461, .ref q_93480, .ref q_93483, .ref q_93500, .ref q_93517, .ref q_93534, .null, .int 0, .int 0, .int 0, .int 0, .int 0]) (v := .ref q_93534) p_h rfl rfl rfl (Nat.le_of_ble_eq_true rfl) dX10_init_97 (fun f_93550 H locs ef_93550 Y => ?_)
  have p_q_93458 := p_q_93458.up ef_93550 ((p_q_93458.neB p_h))
  have p_q_93480 := p_q_93480.up ef_93550 ((p_q_93480.neB p_h))
  have p_h := p_h.me ef_93550
  have hk := hk.up ef_93550 (by simp)
  have hkI := hkI.up ef_93550 (by simp)
  refine lv_aload_n hx hb dX10_init_100 rfl (lv_at hl 0 rfl) ?_
  refine pg_new S Y ok_X9 kc10_35 kn9 ki9 (fs := [.null, .int 0, .int 0]) (by decide) (by decide) (by decide) dX10_init_101 (fun q_93551 f_93552 H nq_93551 ef_93552 Y => ?_)
  have whkq_93551 := hk.notin nq_93551
  have hk := hk.push ef_93552 nq_93551
  have whkIq_93551 := hkI.notin nq_93551
  have hkI := hkI.push ef_93552 nq_93551
  have p_h := p_h.push ef_93552 nq_93551
  have p_q_93458 := p_q_93458.push ef_93552 nq_93551
  have p_q_93480 := p_q_93480.push ef_93552 nq_93551
  have p_q_93551 := pt.new (L := L_93536) ef_93552
  refine lv_dup hx hb dX10_init_104 rfl ?_
  refine lv_bipush (v := 8) hx hb dX10_init_105 (by decide) ?_
  refine cIv (b := q_93551) (As := [.int 8]) (rest := [.ref q_93551, .ref h]) S Y (c_told8 (l := l) p_q_93551) cw_X9_init km10_37 rfl ⟨Nat.le_of_ble_eq_true rfl, Nat.le_of_ble_eq_true rfl⟩ hl.1 rfl (Nat.le_of_ble_eq_true rfl) ⟨Nat.le_of_ble_eq_true rfl, Nat.le_of_ble_eq_true rfl⟩ dX10_init_107 (fun L_93553 f_93554 H locs hf_93554 Y => ?_)
  obtain ⟨a__93555, kf_93554, z_z_93556, z_z_93557, v_93558⟩ := hf_93554
  have w_93559 := hk.notin v_93558
  have w_93560 := hkI.notin v_93558
  have p_h := kf_93554.1 h _ (nmc (p_h.neK p_q_93551 (by decide)) nm0) p_h
  have p_q_93458 := kf_93554.1 q_93458 _ (nmc (p_q_93458.neB p_q_93551) nm0) p_q_93458
  have p_q_93480 := kf_93554.1 q_93480 _ (nmc (p_q_93480.neB p_q_93551) nm0) p_q_93480
  have p_q_93551 := z_z_93556
  have p_a__93555 := z_z_93557
  have hk := hk.call kf_93554 (fun b hb hp => (nmc (neL hp whkq_93551) nm0))
  have hkI := hkI.call kf_93554 (fun b hb hp => (nmc (neL hp whkIq_93551) nm0))
  have nr_q_93551 : NRg gl_62 ad11 q_93551 := (SHC.nr I whkIq_93551)
  have nr_a__93555 : NRg gl_62 ad11 a__93555 := (SHC.nr I w_93560)
  have I := I.kp hkI (allc nr_h (allc nr_q_93458 (allc nr_q_93480 all0)))
  have hkI : kp L_93553 f_93554 L_93553 f_93554 [h, q_93458, q_93480, q_93551, a__93555] := kp.rf
  obtain ⟨ad12, I, X_93561, Y_93562, Z_93563⟩ := SHC.add (l2 := gl_63) I (k := 21) (n := 9) rfl (by decide) rfl p_a__93555 nr_a__93555 (okE_a (g := (fun _ => 0)) trivial) trivial
  have eq40_1 := (X_93561.2 40 1 (by decide)).trans eq40_1
  have eq41_1 := (X_93561.2 41 1 (by decide)).trans eq41_1
  have eq10_31 := (X_93561.2 10 31 (by decide)).trans eq10_31
  have eq20_5 := (X_93561.2 20 5 (by decide)).trans eq20_5
  have eq20_6 := (X_93561.2 20 6 (by decide)).trans eq20_6
  have eq20_7 := (X_93561.2 20 7 (by decide)).trans eq20_7
  have eq20_8 := (X_93561.2 20 8 (by decide)).trans eq20_8
  have nr_h := Z_93563 _ nr_h (p_h.neA p_a__93555)
  have nr_q_93458 := Z_93563 _ nr_q_93458 (p_q_93458.neN p_a__93555 (by decide))
  have nr_q_93480 := Z_93563 _ nr_q_93480 (p_q_93480.neN p_a__93555 (by decide))
  have nr_q_93551 := Z_93563 _ nr_q_93551 (p_q_93551.neA p_a__93555)
  have hout : ∀ x, x ∈ L → NRg gl_50 ad x → NRg gl_63 ad12 x := fun x hx hn => Z_93563 x (hout x hx hn) (fun e => w_93559 (by rw [← e]; exact hx))
  have hext := hext.tr X_93561
  have eq21_9 := Y_93562
  have hkI : kp L_93553 f_93554 L_93553 f_93554 [h, q_93458, q_93480, q_93551] := kp.rf
  have I := I.kp hkI (allc nr_h (allc nr_q_93458 (allc nr_q_93480 (allc nr_q_93551 all0))))
  have hkI : kp L_93553 f_93554 L_93553 f_93554 [h, q_93458, q_93480, q_93551] := kp.rf
  obtain ⟨ad13, I, X_93564, Y_93565, Z_93566⟩ := SHC.add (l2 := gl_64) I (k := 20) (n := 9) rfl (by decide) rfl p_q_93551 nr_q_93551 (okE_o (okFs_c (okV_re eq21_9) (okFs_c (okV_p (by constructor <;> decide)) (okFs_c (okV_p (by constructor <;> decide)) okFs_n)))) ⟨(show 9 < nL gl_63 21 from by decide), ⟨trivial, ⟨trivial, trivial⟩⟩⟩
  have eq40_1 := (X_93564.2 40 1 (by decide)).trans eq40_1
  have eq41_1 := (X_93564.2 41 1 (by decide)).trans eq41_1
  have eq10_31 := (X_93564.2 10 31 (by decide)).trans eq10_31
  have eq20_5 := (X_93564.2 20 5 (by decide)).trans eq20_5
  have eq20_6 := (X_93564.2 20 6 (by decide)).trans eq20_6
  have eq20_7 := (X_93564.2 20 7 (by decide)).trans eq20_7
  have eq20_8 := (X_93564.2 20 8 (by decide)).trans eq20_8
  have eq21_9 := (X_93564.2 21 9 (by decide)).trans eq21_9
  have nr_h := Z_93566 _ nr_h (p_h.neK p_q_93551 (by decide))
  have nr_q_93458 := Z_93566 _ nr_q_93458 (p_q_93458.neB p_q_93551)
  have nr_q_93480 := Z_93566 _ nr_q_93480 (p_q_93480.neB p_q_93551)
  have hout : ∀ x, x ∈ L → NRg gl_50 ad x → NRg gl_64 ad13 x := fun x hx hn => Z_93566 x (hout x hx hn) (fun e => whkq_93551 (by rw [← e]; exact hx))
  have hext := hext.tr X_93564
  have eq20_9 := Y_93565
  have hkI : kp L_93553 f_93554 L_93553 f_93554 [h, q_93458, q_93480] := kp.rf
  refine pg_putF S Y hname ok_X10 9 (by decide) kf10_53 rfl rfl (fs' := [.ref q_93446, .ref q_93452, .ref q_93458, .ref q_93461, .ref q_93480, .ref q_93483, .ref q_93500, .ref q_93517, .ref q_93534, .ref q_93551, .int 0, .int 0, .int 0, .int 0, .int 0]) (v := .ref q_93551) p_h rfl rfl rfl (Nat.le_of_ble_eq_true rfl) dX10_init_110 (fun f_93567 H locs ef_93567 Y => ?_)
  have p_q_93458 := p_q_93458.up ef_93567 ((p_q_93458.neB p_h))
  have p_q_93480 := p_q_93480.up ef_93567 ((p_q_93480.neB p_h))
  have p_h := p_h.me ef_93567
  have hk := hk.up ef_93567 (by simp)
  have hkI := hkI.up ef_93567 (by simp)
  refine lv_aload_n hx hb dX10_init_113 rfl (lv_at hl 0 rfl) ?_
  refine lv_iconst (v := (-1)) hx hb dX10_init_114 (by decide) ?_
  refine pg_put S Y ok_X10 12 (by decide) kf10_56 rfl (fs' := [.ref q_93446, .ref q_93452, .ref q_93458, .ref q_93461, .ref q_93480, .ref q_93483, .ref q_93500, .ref q_93517, .ref q_93534, .ref q_93551, .int 0, .int 0, .int (-1), .int 0, .int 0]) (v := .int (-1)) p_h rfl rfl rfl (Nat.le_of_ble_eq_true rfl) dX10_init_115 (fun f_93568 H locs ef_93568 Y => ?_)
  have p_q_93458 := p_q_93458.up ef_93568 ((p_q_93458.neB p_h))
  have p_q_93480 := p_q_93480.up ef_93568 ((p_q_93480.neB p_h))
  have p_h := p_h.me ef_93568
  have hk := hk.up ef_93568 (by simp)
  have hkI := hkI.up ef_93568 (by simp)
  have fam_sc : ∀ t, t < 0 → (fun _ => none) t = some (ad13 30 (4 + t)) := fam_0
  have fam_pa : ∀ t, t < 0 → (fun _ => none) t = some (ad13 10 (32 + t)) := fam_0
  refine lv_iconst (v := 0) hx hb dX10_init_118 (by decide) ?_
  refine lv_istore_n (lv' := [(1, .int 0), (0, .ref h)]) hx hb dX10_init_119 rfl hl (by decide) rfl (fun ls hl => ?_)
  refine lv_iload_n hx hb dX10_init_120 rfl (lv_at hl 0 rfl) ?_
  refine lv_iconst (v := 4) hx hb dX10_init_121 (by decide) ?_
  refine lv_icmp_ge (tgt := 144) hx hb dX10_init_122 (by decide) (fun h => absurd h (by decide)) (fun _ => ?_)
  refine lv_aload_n hx hb dX10_init_125 rfl (lv_at hl 1 rfl) ?_
  refine pg_get S Y ok_X10 2 (by decide) kf10_20 (v := .ref q_93458) p_h rfl dX10_init_126 ?_
  refine lv_iload_n hx hb dX10_init_129 rfl (lv_at hl 0 rfl) ?_
  refine pg_new S Y ok_X7 kc10_18 kn7 ki7 (fs := [.null, .null, .null, .null, .null, .int 0, .int 0]) (by decide) (by decide) (by decide) dX10_init_130 (fun q_93569 f_93570 H nq_93569 ef_93570 Y => ?_)
  have whkq_93569 := hk.notin nq_93569
  have hk := hk.push ef_93570 nq_93569
  have whkIq_93569 := hkI.notin nq_93569
  have hkI := hkI.push ef_93570 nq_93569
  have p_h := p_h.push ef_93570 nq_93569
  have p_q_93458 := p_q_93458.push ef_93570 nq_93569
  have p_q_93480 := p_q_93480.push ef_93570 nq_93569
  have p_q_93569 := pt.new (L := L_93553) ef_93570
  refine lv_dup hx hb dX10_init_133 rfl ?_
  refine cINv (b := q_93569) (As := []) (rest := [.ref q_93569, .int 0, .ref q_93458]) S Y (c_X7_init (l := l) p_q_93569) cw_X7_init km10_60 rfl ⟨Nat.le_of_ble_eq_true rfl, Nat.le_of_ble_eq_true rfl⟩ hl.1 rfl (Nat.le_of_ble_eq_true rfl) ⟨Nat.le_of_ble_eq_true rfl, Nat.le_of_ble_eq_true rfl⟩ dX10_init_134 (fun L_93571 f_93572 H locs hf_93572 Y => ?_)
  obtain ⟨a__93573, a__93574, a__93575, a__93576, a__93577, kf_93572, z_z_93578, z_z_93579, z_z_93580, z_z_93581, z_z_93582, z_z_93583, na1a2_93584, na3a4_93585, v_93586, v_93587, v_93588, v_93589, v_93590⟩ := hf_93572
  have w_93591 := hk.notin v_93586
  have w_93592 := hkI.notin v_93586
  have w_93593 := hk.notin v_93587
  have w_93594 := hkI.notin v_93587
  have w_93595 := hk.notin v_93588
  have w_93596 := hkI.notin v_93588
  have w_93597 := hk.notin v_93589
  have w_93598 := hkI.notin v_93589
  have w_93599 := hk.notin v_93590
  have w_93600 := hkI.notin v_93590
  have p_h := kf_93572.1 h _ (nmc (p_h.neK p_q_93569 (by decide)) nm0) p_h
  have p_q_93458 := kf_93572.1 q_93458 _ (nmc (p_q_93458.neB p_q_93569) nm0) p_q_93458
  have p_q_93480 := kf_93572.1 q_93480 _ (nmc (p_q_93480.neB p_q_93569) nm0) p_q_93480
  have p_q_93569 := z_z_93578
  have p_a__93573 := z_z_93579
  have p_a__93574 := z_z_93580
  have p_a__93575 := z_z_93581
  have p_a__93576 := z_z_93582
  have p_a__93577 := z_z_93583
  have hk := hk.call kf_93572 (fun b hb hp => (nmc (neL hp whkq_93569) nm0))
  have hkI := hkI.call kf_93572 (fun b hb hp => (nmc (neL hp whkIq_93569) nm0))
  have nr_q_93569 : NRg gl_64 ad13 q_93569 := (SHC.nr I whkIq_93569)
  have nr_a__93573 : NRg gl_64 ad13 a__93573 := (SHC.nr I w_93592)
  have nr_a__93574 : NRg gl_64 ad13 a__93574 := (SHC.nr I w_93594)
  have nr_a__93575 : NRg gl_64 ad13 a__93575 := (SHC.nr I w_93596)
  have nr_a__93576 : NRg gl_64 ad13 a__93576 := (SHC.nr I w_93598)
  have nr_a__93577 : NRg gl_64 ad13 a__93577 := (SHC.nr I w_93600)
  have I := I.kp hkI (allc nr_h (allc nr_q_93458 (allc nr_q_93480 all0)))
  have hkI : kp L_93571 f_93572 L_93571 f_93572 [h, q_93458, q_93480] := kp.rf
  obtain ⟨ad14, I, X_93601, Y_93602, Z_93603⟩ := SHC.scr (l2 := gl_65) (n := 4) I rfl rfl rfl rfl rfl rfl (by decide) rfl p_q_93569 p_a__93573 p_a__93574 p_a__93575 p_a__93576 p_a__93577 nr_q_93569 nr_a__93573 nr_a__93574 nr_a__93575 nr_a__93576 nr_a__93577 (na1a2_93584) (na3a4_93585)
  have eq40_1 := (X_93601.2 40 1 (by decide)).trans eq40_1
  have eq41_1 := (X_93601.2 41 1 (by decide)).trans eq41_1
  have eq10_31 := (X_93601.2 10 31 (by decide)).trans eq10_31
  have eq20_5 := (X_93601.2 20 5 (by decide)).trans eq20_5
  have eq20_6 := (X_93601.2 20 6 (by decide)).trans eq20_6
  have eq20_7 := (X_93601.2 20 7 (by decide)).trans eq20_7
  have eq20_8 := (X_93601.2 20 8 (by decide)).trans eq20_8
  have eq20_9 := (X_93601.2 20 9 (by decide)).trans eq20_9
  have fam_sc := fam_x fam_sc X_93601 (by decide)
  have fam_pa := fam_x fam_pa X_93601 (by decide)
  have nr_h := Z_93603 _ nr_h (p_h.neK p_q_93569 (by decide)) (p_h.neA p_a__93573) (p_h.neA p_a__93574) (p_h.neA p_a__93575) (p_h.neA p_a__93576) (p_h.neA p_a__93577)
  have nr_q_93458 := Z_93603 _ nr_q_93458 (p_q_93458.neB p_q_93569) (p_q_93458.neN p_a__93573 (by decide)) (p_q_93458.neN p_a__93574 (by decide)) (p_q_93458.neN p_a__93575 (by decide)) (p_q_93458.neN p_a__93576 (by decide)) (p_q_93458.neN p_a__93577 (by decide))
  have nr_q_93480 := Z_93603 _ nr_q_93480 (p_q_93480.neB p_q_93569) (p_q_93480.neN p_a__93573 (by decide)) (p_q_93480.neN p_a__93574 (by decide)) (p_q_93480.neN p_a__93575 (by decide)) (p_q_93480.neN p_a__93576 (by decide)) (p_q_93480.neN p_a__93577 (by decide))
  have hout : ∀ x, x ∈ L → NRg gl_50 ad x → NRg gl_65 ad14 x := fun x hx hn => Z_93603 x (hout x hx hn) (fun e => whkq_93569 (by rw [← e]; exact hx)) (fun e => w_93591 (by rw [← e]; exact hx)) (fun e => w_93593 (by rw [← e]; exact hx)) (fun e => w_93595 (by rw [← e]; exact hx)) (fun e => w_93597 (by rw [← e]; exact hx)) (fun e => w_93599 (by rw [← e]; exact hx))
  have hext := hext.tr X_93601
  have eq30_4 := Y_93602
  have hkI : kp L_93571 f_93572 L_93571 f_93572 [h, q_93458, q_93480] := kp.rf
  refine pg_aast S Y (k := 4) p_q_93458 rfl p_q_93569 ok_X7.1 (by unfold vp_in; decide) dX10_init_137 (fun f_93605 H locs ef_93605 Y => ?_)
  obtain ⟨g_93604, eg_93604⟩ : ∃ z, z = va_up ((fun _ => none)) (0 : Int32).toNatClampNeg (some q_93569) := ⟨_, rfl⟩
  rw [← eg_93604] at ef_93605
  have p_h := p_h.up ef_93605 ((p_h.neA p_q_93458))
  have p_q_93480 := p_q_93480.up ef_93605 ((p_q_93480.neN p_q_93458 (by decide)))
  have p_q_93569 := p_q_93569.up ef_93605 ((p_q_93569.neA p_q_93458))
  have p_q_93458 := p_q_93458.me ef_93605
  have hk := hk.upN ef_93605 whkq_93458
  have hkI := hkI.up ef_93605 (by simp)
  have fam_sc := fam_s (i := 0) fam_sc eq30_4 eg_93604
  refine lv_iinc (v := 1) (lv' := [(1, .int 1), (0, .ref h)]) hx hb dX10_init_138 hl (k := 0) rfl (by decide) (by decide) rfl (fun ls hl => ?_)
  refine lv_goto (tgt := 120) hx hb dX10_init_141 (by decide) ?_
  refine lv_iload_n hx hb dX10_init_120 rfl (lv_at hl 0 rfl) ?_
  refine lv_iconst (v := 4) hx hb dX10_init_121 (by decide) ?_
  refine lv_icmp_ge (tgt := 144) hx hb dX10_init_122 (by decide) (fun h => absurd h (by decide)) (fun _ => ?_)
  refine lv_aload_n hx hb dX10_init_125 rfl (lv_at hl 1 rfl) ?_
  refine pg_get S Y ok_X10 2 (by decide) kf10_20 (v := .ref q_93458) p_h rfl dX10_init_126 ?_
  refine lv_iload_n hx hb dX10_init_129 rfl (lv_at hl 0 rfl) ?_
  refine pg_new S Y ok_X7 kc10_18 kn7 ki7 (fs := [.null, .null, .null, .null, .null, .int 0, .int 0]) (by decide) (by decide) (by decide) dX10_init_130 (fun q_93606 f_93607 H nq_93606 ef_93607 Y => ?_)
  have whkq_93606 := hk.notin nq_93606
  have hk := hk.push ef_93607 nq_93606
  have whkIq_93606 := hkI.notin nq_93606
  have hkI := hkI.push ef_93607 nq_93606
  have p_h := p_h.push ef_93607 nq_93606
  have p_q_93458 := p_q_93458.push ef_93607 nq_93606
  have p_q_93480 := p_q_93480.push ef_93607 nq_93606
  have p_q_93606 := pt.new (L := L_93571) ef_93607
  refine lv_dup hx hb dX10_init_133 rfl ?_
  refine cINv (b := q_93606) (As := []) (rest := [.ref q_93606, .int 1, .ref q_93458]) S Y (c_X7_init (l := l) p_q_93606) cw_X7_init km10_60 rfl ⟨Nat.le_of_ble_eq_true rfl, Nat.le_of_ble_eq_true rfl⟩ hl.1 rfl (Nat.le_of_ble_eq_true rfl) ⟨Nat.le_of_ble_eq_true rfl, Nat.le_of_ble_eq_true rfl⟩ dX10_init_134 (fun L_93608 f_93609 H locs hf_93609 Y => ?_)
  obtain ⟨a__93610, a__93611, a__93612, a__93613, a__93614, kf_93609, z_z_93615, z_z_93616, z_z_93617, z_z_93618, z_z_93619, z_z_93620, na1a2_93621, na3a4_93622, v_93623, v_93624, v_93625, v_93626, v_93627⟩ := hf_93609
  have w_93628 := hk.notin v_93623
  have w_93629 := hkI.notin v_93623
  have w_93630 := hk.notin v_93624
  have w_93631 := hkI.notin v_93624
  have w_93632 := hk.notin v_93625
  have w_93633 := hkI.notin v_93625
  have w_93634 := hk.notin v_93626
  have w_93635 := hkI.notin v_93626
  have w_93636 := hk.notin v_93627
  have w_93637 := hkI.notin v_93627
  have p_h := kf_93609.1 h _ (nmc (p_h.neK p_q_93606 (by decide)) nm0) p_h
  have p_q_93458 := kf_93609.1 q_93458 _ (nmc (p_q_93458.neB p_q_93606) nm0) p_q_93458
  have p_q_93480 := kf_93609.1 q_93480 _ (nmc (p_q_93480.neB p_q_93606) nm0) p_q_93480
  have p_q_93606 := z_z_93615
  have p_a__93610 := z_z_93616
  have p_a__93611 := z_z_93617
  have p_a__93612 := z_z_93618
  have p_a__93613 := z_z_93619
  have p_a__93614 := z_z_93620
  have hk := hk.call kf_93609 (fun b hb hp => (nmc (neL hp whkq_93606) nm0))
  have hkI := hkI.call kf_93609 (fun b hb hp => (nmc (neL hp whkIq_93606) nm0))
  have nr_q_93606 : NRg gl_65 ad14 q_93606 := (SHC.nr I whkIq_93606)
  have nr_a__93610 : NRg gl_65 ad14 a__93610 := (SHC.nr I w_93629)
  have nr_a__93611 : NRg gl_65 ad14 a__93611 := (SHC.nr I w_93631)
  have nr_a__93612 : NRg gl_65 ad14 a__93612 := (SHC.nr I w_93633)
  have nr_a__93613 : NRg gl_65 ad14 a__93613 := (SHC.nr I w_93635)
  have nr_a__93614 : NRg gl_65 ad14 a__93614 := (SHC.nr I w_93637)
  have I := I.kp hkI (allc nr_h (allc nr_q_93458 (allc nr_q_93480 all0)))
  have hkI : kp L_93608 f_93609 L_93608 f_93609 [h, q_93458, q_93480] := kp.rf
  obtain ⟨ad15, I, X_93638, Y_93639, Z_93640⟩ := SHC.scr (l2 := gl_66) (n := 5) I rfl rfl rfl rfl rfl rfl (by decide) rfl p_q_93606 p_a__93610 p_a__93611 p_a__93612 p_a__93613 p_a__93614 nr_q_93606 nr_a__93610 nr_a__93611 nr_a__93612 nr_a__93613 nr_a__93614 (na1a2_93621) (na3a4_93622)
  have eq40_1 := (X_93638.2 40 1 (by decide)).trans eq40_1
  have eq41_1 := (X_93638.2 41 1 (by decide)).trans eq41_1
  have eq10_31 := (X_93638.2 10 31 (by decide)).trans eq10_31
  have eq20_5 := (X_93638.2 20 5 (by decide)).trans eq20_5
  have eq20_6 := (X_93638.2 20 6 (by decide)).trans eq20_6
  have eq20_7 := (X_93638.2 20 7 (by decide)).trans eq20_7
  have eq20_8 := (X_93638.2 20 8 (by decide)).trans eq20_8
  have eq20_9 := (X_93638.2 20 9 (by decide)).trans eq20_9
  have fam_sc := fam_x fam_sc X_93638 (by decide)
  have fam_pa := fam_x fam_pa X_93638 (by decide)
  have nr_h := Z_93640 _ nr_h (p_h.neK p_q_93606 (by decide)) (p_h.neA p_a__93610) (p_h.neA p_a__93611) (p_h.neA p_a__93612) (p_h.neA p_a__93613) (p_h.neA p_a__93614)
  have nr_q_93458 := Z_93640 _ nr_q_93458 (p_q_93458.neB p_q_93606) (p_q_93458.neN p_a__93610 (by decide)) (p_q_93458.neN p_a__93611 (by decide)) (p_q_93458.neN p_a__93612 (by decide)) (p_q_93458.neN p_a__93613 (by decide)) (p_q_93458.neN p_a__93614 (by decide))
  have nr_q_93480 := Z_93640 _ nr_q_93480 (p_q_93480.neB p_q_93606) (p_q_93480.neN p_a__93610 (by decide)) (p_q_93480.neN p_a__93611 (by decide)) (p_q_93480.neN p_a__93612 (by decide)) (p_q_93480.neN p_a__93613 (by decide)) (p_q_93480.neN p_a__93614 (by decide))
  have hout : ∀ x, x ∈ L → NRg gl_50 ad x → NRg gl_66 ad15 x := fun x hx hn => Z_93640 x (hout x hx hn) (fun e => whkq_93606 (by rw [← e]; exact hx)) (fun e => w_93628 (by rw [← e]; exact hx)) (fun e => w_93630 (by rw [← e]; exact hx)) (fun e => w_93632 (by rw [← e]; exact hx)) (fun e => w_93634 (by rw [← e]; exact hx)) (fun e => w_93636 (by rw [← e]; exact hx))
  have hext := hext.tr X_93638
  have eq30_5 := Y_93639
  have hkI : kp L_93608 f_93609 L_93608 f_93609 [h, q_93458, q_93480] := kp.rf
  refine pg_aast S Y (k := 4) p_q_93458 rfl p_q_93606 ok_X7.1 (by unfold vp_in; decide) dX10_init_137 (fun f_93642 H locs ef_93642 Y => ?_)
  obtain ⟨g_93641, eg_93641⟩ : ∃ z, z = va_up (g_93604) (1 : Int32).toNatClampNeg (some q_93606) := ⟨_, rfl⟩
  rw [← eg_93641] at ef_93642
  have p_h := p_h.up ef_93642 ((p_h.neA p_q_93458))
  have p_q_93480 := p_q_93480.up ef_93642 ((p_q_93480.neN p_q_93458 (by decide)))
  have p_q_93606 := p_q_93606.up ef_93642 ((p_q_93606.neA p_q_93458))
  have p_q_93458 := p_q_93458.me ef_93642
  have hk := hk.upN ef_93642 whkq_93458
  have hkI := hkI.up ef_93642 (by simp)
  have fam_sc := fam_s (i := 1) fam_sc eq30_5 eg_93641
  refine lv_iinc (v := 2) (lv' := [(1, .int 2), (0, .ref h)]) hx hb dX10_init_138 hl (k := 0) rfl (by decide) (by decide) rfl (fun ls hl => ?_)
  refine lv_goto (tgt := 120) hx hb dX10_init_141 (by decide) ?_
  refine lv_iload_n hx hb dX10_init_120 rfl (lv_at hl 0 rfl) ?_
  refine lv_iconst (v := 4) hx hb dX10_init_121 (by decide) ?_
  refine lv_icmp_ge (tgt := 144) hx hb dX10_init_122 (by decide) (fun h => absurd h (by decide)) (fun _ => ?_)
  refine lv_aload_n hx hb dX10_init_125 rfl (lv_at hl 1 rfl) ?_
  refine pg_get S Y ok_X10 2 (by decide) kf10_20 (v := .ref q_93458) p_h rfl dX10_init_126 ?_
  refine lv_iload_n hx hb dX10_init_129 rfl (lv_at hl 0 rfl) ?_
  refine pg_new S Y ok_X7 kc10_18 kn7 ki7 (fs := [.null, .null, .null, .null, .null, .int 0, .int 0]) (by decide) (by decide) (by decide) dX10_init_130 (fun q_93643 f_93644 H nq_93643 ef_93644 Y => ?_)
  have whkq_93643 := hk.notin nq_93643
  have hk := hk.push ef_93644 nq_93643
  have whkIq_93643 := hkI.notin nq_93643
  have hkI := hkI.push ef_93644 nq_93643
  have p_h := p_h.push ef_93644 nq_93643
  have p_q_93458 := p_q_93458.push ef_93644 nq_93643
  have p_q_93480 := p_q_93480.push ef_93644 nq_93643
  have p_q_93643 := pt.new (L := L_93608) ef_93644
  refine lv_dup hx hb dX10_init_133 rfl ?_
  refine cINv (b := q_93643) (As := []) (rest := [.ref q_93643, .int 2, .ref q_93458]) S Y (c_X7_init (l := l) p_q_93643) cw_X7_init km10_60 rfl ⟨Nat.le_of_ble_eq_true rfl, Nat.le_of_ble_eq_true rfl⟩ hl.1 rfl (Nat.le_of_ble_eq_true rfl) ⟨Nat.le_of_ble_eq_true rfl, Nat.le_of_ble_eq_true rfl⟩ dX10_init_134 (fun L_93645 f_93646 H locs hf_93646 Y => ?_)
  obtain ⟨a__93647, a__93648, a__93649, a__93650, a__93651, kf_93646, z_z_93652, z_z_93653, z_z_93654, z_z_93655, z_z_93656, z_z_93657, na1a2_93658, na3a4_93659, v_93660, v_93661, v_93662, v_93663, v_93664⟩ := hf_93646
  have w_93665 := hk.notin v_93660
  have w_93666 := hkI.notin v_93660
  have w_93667 := hk.notin v_93661
  have w_93668 := hkI.notin v_93661
  have w_93669 := hk.notin v_93662
  have w_93670 := hkI.notin v_93662
  have w_93671 := hk.notin v_93663
  have w_93672 := hkI.notin v_93663
  have w_93673 := hk.notin v_93664
  have w_93674 := hkI.notin v_93664
  have p_h := kf_93646.1 h _ (nmc (p_h.neK p_q_93643 (by decide)) nm0) p_h
  have p_q_93458 := kf_93646.1 q_93458 _ (nmc (p_q_93458.neB p_q_93643) nm0) p_q_93458
  have p_q_93480 := kf_93646.1 q_93480 _ (nmc (p_q_93480.neB p_q_93643) nm0) p_q_93480
  have p_q_93643 := z_z_93652
  have p_a__93647 := z_z_93653
  have p_a__93648 := z_z_93654
  have p_a__93649 := z_z_93655
  have p_a__93650 := z_z_93656
  have p_a__93651 := z_z_93657
  have hk := hk.call kf_93646 (fun b hb hp => (nmc (neL hp whkq_93643) nm0))
  have hkI := hkI.call kf_93646 (fun b hb hp => (nmc (neL hp whkIq_93643) nm0))
  have nr_q_93643 : NRg gl_66 ad15 q_93643 := (SHC.nr I whkIq_93643)
  have nr_a__93647 : NRg gl_66 ad15 a__93647 := (SHC.nr I w_93666)
  have nr_a__93648 : NRg gl_66 ad15 a__93648 := (SHC.nr I w_93668)
  have nr_a__93649 : NRg gl_66 ad15 a__93649 := (SHC.nr I w_93670)
  have nr_a__93650 : NRg gl_66 ad15 a__93650 := (SHC.nr I w_93672)
  have nr_a__93651 : NRg gl_66 ad15 a__93651 := (SHC.nr I w_93674)
  have I := I.kp hkI (allc nr_h (allc nr_q_93458 (allc nr_q_93480 all0)))
  have hkI : kp L_93645 f_93646 L_93645 f_93646 [h, q_93458, q_93480] := kp.rf
  obtain ⟨ad16, I, X_93675, Y_93676, Z_93677⟩ := SHC.scr (l2 := gl_67) (n := 6) I rfl rfl rfl rfl rfl rfl (by decide) rfl p_q_93643 p_a__93647 p_a__93648 p_a__93649 p_a__93650 p_a__93651 nr_q_93643 nr_a__93647 nr_a__93648 nr_a__93649 nr_a__93650 nr_a__93651 (na1a2_93658) (na3a4_93659)
  have eq40_1 := (X_93675.2 40 1 (by decide)).trans eq40_1
  have eq41_1 := (X_93675.2 41 1 (by decide)).trans eq41_1
  have eq10_31 := (X_93675.2 10 31 (by decide)).trans eq10_31
  have eq20_5 := (X_93675.2 20 5 (by decide)).trans eq20_5
  have eq20_6 := (X_93675.2 20 6 (by decide)).trans eq20_6
  have eq20_7 := (X_93675.2 20 7 (by decide)).trans eq20_7
  have eq20_8 := (X_93675.2 20 8 (by decide)).trans eq20_8
  have eq20_9 := (X_93675.2 20 9 (by decide)).trans eq20_9
  have fam_sc := fam_x fam_sc X_93675 (by decide)
  have fam_pa := fam_x fam_pa X_93675 (by decide)
  have nr_h := Z_93677 _ nr_h (p_h.neK p_q_93643 (by decide)) (p_h.neA p_a__93647) (p_h.neA p_a__93648) (p_h.neA p_a__93649) (p_h.neA p_a__93650) (p_h.neA p_a__93651)
  have nr_q_93458 := Z_93677 _ nr_q_93458 (p_q_93458.neB p_q_93643) (p_q_93458.neN p_a__93647 (by decide)) (p_q_93458.neN p_a__93648 (by decide)) (p_q_93458.neN p_a__93649 (by decide)) (p_q_93458.neN p_a__93650 (by decide)) (p_q_93458.neN p_a__93651 (by decide))
  have nr_q_93480 := Z_93677 _ nr_q_93480 (p_q_93480.neB p_q_93643) (p_q_93480.neN p_a__93647 (by decide)) (p_q_93480.neN p_a__93648 (by decide)) (p_q_93480.neN p_a__93649 (by decide)) (p_q_93480.neN p_a__93650 (by decide)) (p_q_93480.neN p_a__93651 (by decide))
  have hout : ∀ x, x ∈ L → NRg gl_50 ad x → NRg gl_67 ad16 x := fun x hx hn => Z_93677 x (hout x hx hn) (fun e => whkq_93643 (by rw [← e]; exact hx)) (fun e => w_93665 (by rw [← e]; exact hx)) (fun e => w_93667 (by rw [← e]; exact hx)) (fun e => w_93669 (by rw [← e]; exact hx)) (fun e => w_93671 (by rw [← e]; exact hx)) (fun e => w_93673 (by rw [← e]; exact hx))
  have hext := hext.tr X_93675
  have eq30_6 := Y_93676
  have hkI : kp L_93645 f_93646 L_93645 f_93646 [h, q_93458, q_93480] := kp.rf
  refine pg_aast S Y (k := 4) p_q_93458 rfl p_q_93643 ok_X7.1 (by unfold vp_in; decide) dX10_init_137 (fun f_93679 H locs ef_93679 Y => ?_)
  obtain ⟨g_93678, eg_93678⟩ : ∃ z, z = va_up (g_93641) (2 : Int32).toNatClampNeg (some q_93643) := ⟨_, rfl⟩
  rw [← eg_93678] at ef_93679
  have p_h := p_h.up ef_93679 ((p_h.neA p_q_93458))
  have p_q_93480 := p_q_93480.up ef_93679 ((p_q_93480.neN p_q_93458 (by decide)))
  have p_q_93643 := p_q_93643.up ef_93679 ((p_q_93643.neA p_q_93458))
  have p_q_93458 := p_q_93458.me ef_93679
  have hk := hk.upN ef_93679 whkq_93458
  have hkI := hkI.up ef_93679 (by simp)
  have fam_sc := fam_s (i := 2) fam_sc eq30_6 eg_93678
  refine lv_iinc (v := 3) (lv' := [(1, .int 3), (0, .ref h)]) hx hb dX10_init_138 hl (k := 0) rfl (by decide) (by decide) rfl (fun ls hl => ?_)
  refine lv_goto (tgt := 120) hx hb dX10_init_141 (by decide) ?_
  refine lv_iload_n hx hb dX10_init_120 rfl (lv_at hl 0 rfl) ?_
  refine lv_iconst (v := 4) hx hb dX10_init_121 (by decide) ?_
  refine lv_icmp_ge (tgt := 144) hx hb dX10_init_122 (by decide) (fun h => absurd h (by decide)) (fun _ => ?_)
  refine lv_aload_n hx hb dX10_init_125 rfl (lv_at hl 1 rfl) ?_
  refine pg_get S Y ok_X10 2 (by decide) kf10_20 (v := .ref q_93458) p_h rfl dX10_init_126 ?_
  refine lv_iload_n hx hb dX10_init_129 rfl (lv_at hl 0 rfl) ?_
  refine pg_new S Y ok_X7 kc10_18 kn7 ki7 (fs := [.null, .null, .null, .null, .null, .int 0, .int 0]) (by decide) (by decide) (by decide) dX10_init_130 (fun q_93680 f_93681 H nq_93680 ef_93681 Y => ?_)
  have whkq_93680 := hk.notin nq_93680
  have hk := hk.push ef_93681 nq_93680
  have whkIq_93680 := hkI.notin nq_93680
  have hkI := hkI.push ef_93681 nq_93680
  have p_h := p_h.push ef_93681 nq_93680
  have p_q_93458 := p_q_93458.push ef_93681 nq_93680
  have p_q_93480 := p_q_93480.push ef_93681 nq_93680
  have p_q_93680 := pt.new (L := L_93645) ef_93681
  refine lv_dup hx hb dX10_init_133 rfl ?_
  refine cINv (b := q_93680) (As := []) (rest := [.ref q_93680, .int 3, .ref q_93458]) S Y (c_X7_init (l := l) p_q_93680) cw_X7_init km10_60 rfl ⟨Nat.le_of_ble_eq_true rfl, Nat.le_of_ble_eq_true rfl⟩ hl.1 rfl (Nat.le_of_ble_eq_true rfl) ⟨Nat.le_of_ble_eq_true rfl, Nat.le_of_ble_eq_true rfl⟩ dX10_init_134 (fun L_93682 f_93683 H locs hf_93683 Y => ?_)
  obtain ⟨a__93684, a__93685, a__93686, a__93687, a__93688, kf_93683, z_z_93689, z_z_93690, z_z_93691, z_z_93692, z_z_93693, z_z_93694, na1a2_93695, na3a4_93696, v_93697, v_93698, v_93699, v_93700, v_93701⟩ := hf_93683
  have w_93702 := hk.notin v_93697
  have w_93703 := hkI.notin v_93697
  have w_93704 := hk.notin v_93698
  have w_93705 := hkI.notin v_93698
  have w_93706 := hk.notin v_93699
  have w_93707 := hkI.notin v_93699
  have w_93708 := hk.notin v_93700
  have w_93709 := hkI.notin v_93700
  have w_93710 := hk.notin v_93701
  have w_93711 := hkI.notin v_93701
  have p_h := kf_93683.1 h _ (nmc (p_h.neK p_q_93680 (by decide)) nm0) p_h
  have p_q_93458 := kf_93683.1 q_93458 _ (nmc (p_q_93458.neB p_q_93680) nm0) p_q_93458
  have p_q_93480 := kf_93683.1 q_93480 _ (nmc (p_q_93480.neB p_q_93680) nm0) p_q_93480
  have p_q_93680 := z_z_93689
  have p_a__93684 := z_z_93690
  have p_a__93685 := z_z_93691
  have p_a__93686 := z_z_93692
  have p_a__93687 := z_z_93693
  have p_a__93688 := z_z_93694
  have hk := hk.call kf_93683 (fun b hb hp => (nmc (neL hp whkq_93680) nm0))
  have hkI := hkI.call kf_93683 (fun b hb hp => (nmc (neL hp whkIq_93680) nm0))
  have nr_q_93680 : NRg gl_67 ad16 q_93680 := (SHC.nr I whkIq_93680)
  have nr_a__93684 : NRg gl_67 ad16 a__93684 := (SHC.nr I w_93703)
  have nr_a__93685 : NRg gl_67 ad16 a__93685 := (SHC.nr I w_93705)
  have nr_a__93686 : NRg gl_67 ad16 a__93686 := (SHC.nr I w_93707)
  have nr_a__93687 : NRg gl_67 ad16 a__93687 := (SHC.nr I w_93709)
  have nr_a__93688 : NRg gl_67 ad16 a__93688 := (SHC.nr I w_93711)
  have I := I.kp hkI (allc nr_h (allc nr_q_93458 (allc nr_q_93480 all0)))
  have hkI : kp L_93682 f_93683 L_93682 f_93683 [h, q_93458, q_93480] := kp.rf
  obtain ⟨ad17, I, X_93712, Y_93713, Z_93714⟩ := SHC.scr (l2 := gl_68) (n := 7) I rfl rfl rfl rfl rfl rfl (by decide) rfl p_q_93680 p_a__93684 p_a__93685 p_a__93686 p_a__93687 p_a__93688 nr_q_93680 nr_a__93684 nr_a__93685 nr_a__93686 nr_a__93687 nr_a__93688 (na1a2_93695) (na3a4_93696)
  have eq40_1 := (X_93712.2 40 1 (by decide)).trans eq40_1
  have eq41_1 := (X_93712.2 41 1 (by decide)).trans eq41_1
  have eq10_31 := (X_93712.2 10 31 (by decide)).trans eq10_31
  have eq20_5 := (X_93712.2 20 5 (by decide)).trans eq20_5
  have eq20_6 := (X_93712.2 20 6 (by decide)).trans eq20_6
  have eq20_7 := (X_93712.2 20 7 (by decide)).trans eq20_7
  have eq20_8 := (X_93712.2 20 8 (by decide)).trans eq20_8
  have eq20_9 := (X_93712.2 20 9 (by decide)).trans eq20_9
  have fam_sc := fam_x fam_sc X_93712 (by decide)
  have fam_pa := fam_x fam_pa X_93712 (by decide)
  have nr_h := Z_93714 _ nr_h (p_h.neK p_q_93680 (by decide)) (p_h.neA p_a__93684) (p_h.neA p_a__93685) (p_h.neA p_a__93686) (p_h.neA p_a__93687) (p_h.neA p_a__93688)
  have nr_q_93458 := Z_93714 _ nr_q_93458 (p_q_93458.neB p_q_93680) (p_q_93458.neN p_a__93684 (by decide)) (p_q_93458.neN p_a__93685 (by decide)) (p_q_93458.neN p_a__93686 (by decide)) (p_q_93458.neN p_a__93687 (by decide)) (p_q_93458.neN p_a__93688 (by decide))
  have nr_q_93480 := Z_93714 _ nr_q_93480 (p_q_93480.neB p_q_93680) (p_q_93480.neN p_a__93684 (by decide)) (p_q_93480.neN p_a__93685 (by decide)) (p_q_93480.neN p_a__93686 (by decide)) (p_q_93480.neN p_a__93687 (by decide)) (p_q_93480.neN p_a__93688 (by decide))
  have hout : ∀ x, x ∈ L → NRg gl_50 ad x → NRg gl_68 ad17 x := fun x hx hn => Z_93714 x (hout x hx hn) (fun e => whkq_93680 (by rw [← e]; exact hx)) (fun e => w_93702 (by rw [← e]; exact hx)) (fun e => w_93704 (by rw [← e]; exact hx)) (fun e => w_93706 (by rw [← e]; exact hx)) (fun e => w_93708 (by rw [← e]; exact hx)) (fun e => w_93710 (by rw [← e]; exact hx))
  have hext := hext.tr X_93712
  have eq30_7 := Y_93713
  have hkI : kp L_93682 f_93683 L_93682 f_93683 [h, q_93458, q_93480] := kp.rf
  refine pg_aast S Y (k := 4) p_q_93458 rfl p_q_93680 ok_X7.1 (by unfold vp_in; decide) dX10_init_137 (fun f_93716 H locs ef_93716 Y => ?_)
  obtain ⟨g_93715, eg_93715⟩ : ∃ z, z = va_up (g_93678) (3 : Int32).toNatClampNeg (some q_93680) := ⟨_, rfl⟩
  rw [← eg_93715] at ef_93716
  have p_h := p_h.up ef_93716 ((p_h.neA p_q_93458))
  have p_q_93480 := p_q_93480.up ef_93716 ((p_q_93480.neN p_q_93458 (by decide)))
  have p_q_93680 := p_q_93680.up ef_93716 ((p_q_93680.neA p_q_93458))
  have p_q_93458 := p_q_93458.me ef_93716
  have hk := hk.upN ef_93716 whkq_93458
  have hkI := hkI.up ef_93716 (by simp)
  have fam_sc := fam_s (i := 3) fam_sc eq30_7 eg_93715
  refine lv_iinc (v := 4) (lv' := [(1, .int 4), (0, .ref h)]) hx hb dX10_init_138 hl (k := 0) rfl (by decide) (by decide) rfl (fun ls hl => ?_)
  refine lv_goto (tgt := 120) hx hb dX10_init_141 (by decide) ?_
  refine lv_iload_n hx hb dX10_init_120 rfl (lv_at hl 0 rfl) ?_
  refine lv_iconst (v := 4) hx hb dX10_init_121 (by decide) ?_
  refine lv_icmp_ge (tgt := 144) hx hb dX10_init_122 (by decide) (fun _ => ?_) (fun h => absurd (by decide) h)
  refine lv_iconst (v := 0) hx hb dX10_init_144 (by decide) ?_
  refine lv_istore_n (lv' := [(1, .int 0), (0, .ref h)]) hx hb dX10_init_145 rfl hl (by decide) rfl (fun ls hl => ?_)
  refine lv_iload_n hx hb dX10_init_146 rfl (lv_at hl 0 rfl) ?_
  refine lv_bipush (v := 30) hx hb dX10_init_147 (by decide) ?_
  refine lv_icmp_ge (tgt := 171) hx hb dX10_init_149 (by decide) (fun h => absurd h (by decide)) (fun _ => ?_)
  refine lv_aload_n hx hb dX10_init_152 rfl (lv_at hl 1 rfl) ?_
  refine pg_get S Y ok_X10 4 (by decide) kf10_31 (v := .ref q_93480) p_h rfl dX10_init_153 ?_
  refine lv_iload_n hx hb dX10_init_156 rfl (lv_at hl 0 rfl) ?_
  refine pg_new S Y ok_X4 kc10_24 kn4 ki4 (fs := [.null, .null, .int 0, .int 0, .int 0, .int 0, .int 0]) (by decide) (by decide) (by decide) dX10_init_157 (fun q_93717 f_93718 H nq_93717 ef_93718 Y => ?_)
  have whkq_93717 := hk.notin nq_93717
  have hk := hk.push ef_93718 nq_93717
  have whkIq_93717 := hkI.notin nq_93717
  have hkI := hkI.push ef_93718 nq_93717
  have p_h := p_h.push ef_93718 nq_93717
  have p_q_93458 := p_q_93458.push ef_93718 nq_93717
  have p_q_93480 := p_q_93480.push ef_93718 nq_93717
  have p_q_93717 := pt.new (L := L_93682) ef_93718
  refine lv_dup hx hb dX10_init_160 rfl ?_
  refine cINv (b := q_93717) (As := []) (rest := [.ref q_93717, .int 0, .ref q_93480]) S Y (c_X4_init (l := l) p_q_93717) cw_X4_init km10_26 rfl ⟨Nat.le_of_ble_eq_true rfl, Nat.le_of_ble_eq_true rfl⟩ hl.1 rfl (Nat.le_of_ble_eq_true rfl) ⟨Nat.le_of_ble_eq_true rfl, Nat.le_of_ble_eq_true rfl⟩ dX10_init_161 (fun L_93719 f_93720 H locs hf_93720 Y => ?_)
  obtain ⟨a__93721, a__93722, kf_93720, z_z_93723, z_z_93724, z_z_93725, v_93726, v_93727⟩ := hf_93720
  have w_93728 := hk.notin v_93726
  have w_93729 := hkI.notin v_93726
  have w_93730 := hk.notin v_93727
  have w_93731 := hkI.notin v_93727
  have p_h := kf_93720.1 h _ (nmc (p_h.neK p_q_93717 (by decide)) nm0) p_h
  have p_q_93458 := kf_93720.1 q_93458 _ (nmc (p_q_93458.neB p_q_93717) nm0) p_q_93458
  have p_q_93480 := kf_93720.1 q_93480 _ (nmc (p_q_93480.neB p_q_93717) nm0) p_q_93480
  have p_q_93717 := z_z_93723
  have p_a__93721 := z_z_93724
  have p_a__93722 := z_z_93725
  have hk := hk.call kf_93720 (fun b hb hp => (nmc (neL hp whkq_93717) nm0))
  have hkI := hkI.call kf_93720 (fun b hb hp => (nmc (neL hp whkIq_93717) nm0))
  have nr_q_93717 : NRg gl_68 ad17 q_93717 := (SHC.nr I whkIq_93717)
  have nr_a__93721 : NRg gl_68 ad17 a__93721 := (SHC.nr I w_93729)
  have nr_a__93722 : NRg gl_68 ad17 a__93722 := (SHC.nr I w_93731)
  have I := I.kp hkI (allc nr_h (allc nr_q_93458 (allc nr_q_93480 all0)))
  have hkI : kp L_93719 f_93720 L_93719 f_93720 [h, q_93458, q_93480] := kp.rf
  obtain ⟨ad18, I, X_93732, Y_93733, Z_93734⟩ := SHC.led (l2 := gl_69) (n := 32) I rfl rfl rfl (by decide) rfl p_q_93717 p_a__93721 p_a__93722 nr_q_93717 nr_a__93721 nr_a__93722 
  have eq40_1 := (X_93732.2 40 1 (by decide)).trans eq40_1
  have eq41_1 := (X_93732.2 41 1 (by decide)).trans eq41_1
  have eq10_31 := (X_93732.2 10 31 (by decide)).trans eq10_31
  have eq20_5 := (X_93732.2 20 5 (by decide)).trans eq20_5
  have eq20_6 := (X_93732.2 20 6 (by decide)).trans eq20_6
  have eq20_7 := (X_93732.2 20 7 (by decide)).trans eq20_7
  have eq20_8 := (X_93732.2 20 8 (by decide)).trans eq20_8
  have eq20_9 := (X_93732.2 20 9 (by decide)).trans eq20_9
  have fam_sc := fam_x fam_sc X_93732 (by decide)
  have fam_pa := fam_x fam_pa X_93732 (by decide)
  have nr_h := Z_93734 _ nr_h (p_h.neK p_q_93717 (by decide)) (p_h.neA p_a__93721) (p_h.neA p_a__93722)
  have nr_q_93458 := Z_93734 _ nr_q_93458 (p_q_93458.neB p_q_93717) (p_q_93458.neN p_a__93721 (by decide)) (p_q_93458.neN p_a__93722 (by decide))
  have nr_q_93480 := Z_93734 _ nr_q_93480 (p_q_93480.neB p_q_93717) (p_q_93480.neN p_a__93721 (by decide)) (p_q_93480.neN p_a__93722 (by decide))
  have hout : ∀ x, x ∈ L → NRg gl_50 ad x → NRg gl_69 ad18 x := fun x hx hn => Z_93734 x (hout x hx hn) (fun e => whkq_93717 (by rw [← e]; exact hx)) (fun e => w_93728 (by rw [← e]; exact hx)) (fun e => w_93730 (by rw [← e]; exact hx))
  have hext := hext.tr X_93732
  have eq10_32 := Y_93733
  have hkI : kp L_93719 f_93720 L_93719 f_93720 [h, q_93458, q_93480] := kp.rf
  refine pg_aast S Y (k := 3) p_q_93480 rfl p_q_93717 ok_X4.1 (by unfold vp_in; decide) dX10_init_164 (fun f_93736 H locs ef_93736 Y => ?_)
  obtain ⟨g_93735, eg_93735⟩ : ∃ z, z = va_up ((fun _ => none)) (0 : Int32).toNatClampNeg (some q_93717) := ⟨_, rfl⟩
  rw [← eg_93735] at ef_93736
  have p_h := p_h.up ef_93736 ((p_h.neA p_q_93480))
  have p_q_93458 := p_q_93458.up ef_93736 ((p_q_93458.neN p_q_93480 (by decide)))
  have p_q_93717 := p_q_93717.up ef_93736 ((p_q_93717.neA p_q_93480))
  have p_q_93480 := p_q_93480.me ef_93736
  have hk := hk.upN ef_93736 whkq_93480
  have hkI := hkI.up ef_93736 (by simp)
  have fam_pa := fam_s (i := 0) fam_pa eq10_32 eg_93735
  refine lv_iinc (v := 1) (lv' := [(1, .int 1), (0, .ref h)]) hx hb dX10_init_165 hl (k := 0) rfl (by decide) (by decide) rfl (fun ls hl => ?_)
  refine lv_goto (tgt := 146) hx hb dX10_init_168 (by decide) ?_
  refine lv_iload_n hx hb dX10_init_146 rfl (lv_at hl 0 rfl) ?_
  refine lv_bipush (v := 30) hx hb dX10_init_147 (by decide) ?_
  refine lv_icmp_ge (tgt := 171) hx hb dX10_init_149 (by decide) (fun h => absurd h (by decide)) (fun _ => ?_)
  refine lv_aload_n hx hb dX10_init_152 rfl (lv_at hl 1 rfl) ?_
  refine pg_get S Y ok_X10 4 (by decide) kf10_31 (v := .ref q_93480) p_h rfl dX10_init_153 ?_
  refine lv_iload_n hx hb dX10_init_156 rfl (lv_at hl 0 rfl) ?_
  refine pg_new S Y ok_X4 kc10_24 kn4 ki4 (fs := [.null, .null, .int 0, .int 0, .int 0, .int 0, .int 0]) (by decide) (by decide) (by decide) dX10_init_157 (fun q_93737 f_93738 H nq_93737 ef_93738 Y => ?_)
  have whkq_93737 := hk.notin nq_93737
  have hk := hk.push ef_93738 nq_93737
  have whkIq_93737 := hkI.notin nq_93737
  have hkI := hkI.push ef_93738 nq_93737
  have p_h := p_h.push ef_93738 nq_93737
  have p_q_93458 := p_q_93458.push ef_93738 nq_93737
  have p_q_93480 := p_q_93480.push ef_93738 nq_93737
  have p_q_93737 := pt.new (L := L_93719) ef_93738
  refine lv_dup hx hb dX10_init_160 rfl ?_
  refine cINv (b := q_93737) (As := []) (rest := [.ref q_93737, .int 1, .ref q_93480]) S Y (c_X4_init (l := l) p_q_93737) cw_X4_init km10_26 rfl ⟨Nat.le_of_ble_eq_true rfl, Nat.le_of_ble_eq_true rfl⟩ hl.1 rfl (Nat.le_of_ble_eq_true rfl) ⟨Nat.le_of_ble_eq_true rfl, Nat.le_of_ble_eq_true rfl⟩ dX10_init_161 (fun L_93739 f_93740 H locs hf_93740 Y => ?_)
  obtain ⟨a__93741, a__93742, kf_93740, z_z_93743, z_z_93744, z_z_93745, v_93746, v_93747⟩ := hf_93740
  have w_93748 := hk.notin v_93746
  have w_93749 := hkI.notin v_93746
  have w_93750 := hk.notin v_93747
  have w_93751 := hkI.notin v_93747
  have p_h := kf_93740.1 h _ (nmc (p_h.neK p_q_93737 (by decide)) nm0) p_h
  have p_q_93458 := kf_93740.1 q_93458 _ (nmc (p_q_93458.neB p_q_93737) nm0) p_q_93458
  have p_q_93480 := kf_93740.1 q_93480 _ (nmc (p_q_93480.neB p_q_93737) nm0) p_q_93480
  have p_q_93737 := z_z_93743
  have p_a__93741 := z_z_93744
  have p_a__93742 := z_z_93745
  have hk := hk.call kf_93740 (fun b hb hp => (nmc (neL hp whkq_93737) nm0))
  have hkI := hkI.call kf_93740 (fun b hb hp => (nmc (neL hp whkIq_93737) nm0))
  have nr_q_93737 : NRg gl_69 ad18 q_93737 := (SHC.nr I whkIq_93737)
  have nr_a__93741 : NRg gl_69 ad18 a__93741 := (SHC.nr I w_93749)
  have nr_a__93742 : NRg gl_69 ad18 a__93742 := (SHC.nr I w_93751)
  have I := I.kp hkI (allc nr_h (allc nr_q_93458 (allc nr_q_93480 all0)))
  have hkI : kp L_93739 f_93740 L_93739 f_93740 [h, q_93458, q_93480] := kp.rf
  obtain ⟨ad19, I, X_93752, Y_93753, Z_93754⟩ := SHC.led (l2 := gl_70) (n := 33) I rfl rfl rfl (by decide) rfl p_q_93737 p_a__93741 p_a__93742 nr_q_93737 nr_a__93741 nr_a__93742 
  have eq40_1 := (X_93752.2 40 1 (by decide)).trans eq40_1
  have eq41_1 := (X_93752.2 41 1 (by decide)).trans eq41_1
  have eq10_31 := (X_93752.2 10 31 (by decide)).trans eq10_31
  have eq20_5 := (X_93752.2 20 5 (by decide)).trans eq20_5
  have eq20_6 := (X_93752.2 20 6 (by decide)).trans eq20_6
  have eq20_7 := (X_93752.2 20 7 (by decide)).trans eq20_7
  have eq20_8 := (X_93752.2 20 8 (by decide)).trans eq20_8
  have eq20_9 := (X_93752.2 20 9 (by decide)).trans eq20_9
  have fam_sc := fam_x fam_sc X_93752 (by decide)
  have fam_pa := fam_x fam_pa X_93752 (by decide)
  have nr_h := Z_93754 _ nr_h (p_h.neK p_q_93737 (by decide)) (p_h.neA p_a__93741) (p_h.neA p_a__93742)
  have nr_q_93458 := Z_93754 _ nr_q_93458 (p_q_93458.neB p_q_93737) (p_q_93458.neN p_a__93741 (by decide)) (p_q_93458.neN p_a__93742 (by decide))
  have nr_q_93480 := Z_93754 _ nr_q_93480 (p_q_93480.neB p_q_93737) (p_q_93480.neN p_a__93741 (by decide)) (p_q_93480.neN p_a__93742 (by decide))
  have hout : ∀ x, x ∈ L → NRg gl_50 ad x → NRg gl_70 ad19 x := fun x hx hn => Z_93754 x (hout x hx hn) (fun e => whkq_93737 (by rw [← e]; exact hx)) (fun e => w_93748 (by rw [← e]; exact hx)) (fun e => w_93750 (by rw [← e]; exact hx))
  have hext := hext.tr X_93752
  have eq10_33 := Y_93753
  have hkI : kp L_93739 f_93740 L_93739 f_93740 [h, q_93458, q_93480] := kp.rf
  refine pg_aast S Y (k := 3) p_q_93480 rfl p_q_93737 ok_X4.1 (by unfold vp_in; decide) dX10_init_164 (fun f_93756 H locs ef_93756 Y => ?_)
  obtain ⟨g_93755, eg_93755⟩ : ∃ z, z = va_up (g_93735) (1 : Int32).toNatClampNeg (some q_93737) := ⟨_, rfl⟩
  rw [← eg_93755] at ef_93756
  have p_h := p_h.up ef_93756 ((p_h.neA p_q_93480))
  have p_q_93458 := p_q_93458.up ef_93756 ((p_q_93458.neN p_q_93480 (by decide)))
  have p_q_93737 := p_q_93737.up ef_93756 ((p_q_93737.neA p_q_93480))
  have p_q_93480 := p_q_93480.me ef_93756
  have hk := hk.upN ef_93756 whkq_93480
  have hkI := hkI.up ef_93756 (by simp)
  have fam_pa := fam_s (i := 1) fam_pa eq10_33 eg_93755
  refine lv_iinc (v := 2) (lv' := [(1, .int 2), (0, .ref h)]) hx hb dX10_init_165 hl (k := 0) rfl (by decide) (by decide) rfl (fun ls hl => ?_)
  refine lv_goto (tgt := 146) hx hb dX10_init_168 (by decide) ?_
  refine lv_iload_n hx hb dX10_init_146 rfl (lv_at hl 0 rfl) ?_
  refine lv_bipush (v := 30) hx hb dX10_init_147 (by decide) ?_
  refine lv_icmp_ge (tgt := 171) hx hb dX10_init_149 (by decide) (fun h => absurd h (by decide)) (fun _ => ?_)
  refine lv_aload_n hx hb dX10_init_152 rfl (lv_at hl 1 rfl) ?_
  refine pg_get S Y ok_X10 4 (by decide) kf10_31 (v := .ref q_93480) p_h rfl dX10_init_153 ?_
  refine lv_iload_n hx hb dX10_init_156 rfl (lv_at hl 0 rfl) ?_
  refine pg_new S Y ok_X4 kc10_24 kn4 ki4 (fs := [.null, .null, .int 0, .int 0, .int 0, .int 0, .int 0]) (by decide) (by decide) (by decide) dX10_init_157 (fun q_93757 f_93758 H nq_93757 ef_93758 Y => ?_)
  have whkq_93757 := hk.notin nq_93757
  have hk := hk.push ef_93758 nq_93757
  have whkIq_93757 := hkI.notin nq_93757
  have hkI := hkI.push ef_93758 nq_93757
  have p_h := p_h.push ef_93758 nq_93757
  have p_q_93458 := p_q_93458.push ef_93758 nq_93757
  have p_q_93480 := p_q_93480.push ef_93758 nq_93757
  have p_q_93757 := pt.new (L := L_93739) ef_93758
  refine lv_dup hx hb dX10_init_160 rfl ?_
  refine cINv (b := q_93757) (As := []) (rest := [.ref q_93757, .int 2, .ref q_93480]) S Y (c_X4_init (l := l) p_q_93757) cw_X4_init km10_26 rfl ⟨Nat.le_of_ble_eq_true rfl, Nat.le_of_ble_eq_true rfl⟩ hl.1 rfl (Nat.le_of_ble_eq_true rfl) ⟨Nat.le_of_ble_eq_true rfl, Nat.le_of_ble_eq_true rfl⟩ dX10_init_161 (fun L_93759 f_93760 H locs hf_93760 Y => ?_)
  obtain ⟨a__93761, a__93762, kf_93760, z_z_93763, z_z_93764, z_z_93765, v_93766, v_93767⟩ := hf_93760
  have w_93768 := hk.notin v_93766
  have w_93769 := hkI.notin v_93766
  have w_93770 := hk.notin v_93767
  have w_93771 := hkI.notin v_93767
  have p_h := kf_93760.1 h _ (nmc (p_h.neK p_q_93757 (by decide)) nm0) p_h
  have p_q_93458 := kf_93760.1 q_93458 _ (nmc (p_q_93458.neB p_q_93757) nm0) p_q_93458
  have p_q_93480 := kf_93760.1 q_93480 _ (nmc (p_q_93480.neB p_q_93757) nm0) p_q_93480
  have p_q_93757 := z_z_93763
  have p_a__93761 := z_z_93764
  have p_a__93762 := z_z_93765
  have hk := hk.call kf_93760 (fun b hb hp => (nmc (neL hp whkq_93757) nm0))
  have hkI := hkI.call kf_93760 (fun b hb hp => (nmc (neL hp whkIq_93757) nm0))
  have nr_q_93757 : NRg gl_70 ad19 q_93757 := (SHC.nr I whkIq_93757)
  have nr_a__93761 : NRg gl_70 ad19 a__93761 := (SHC.nr I w_93769)
  have nr_a__93762 : NRg gl_70 ad19 a__93762 := (SHC.nr I w_93771)
  have I := I.kp hkI (allc nr_h (allc nr_q_93458 (allc nr_q_93480 all0)))
  have hkI : kp L_93759 f_93760 L_93759 f_93760 [h, q_93458, q_93480] := kp.rf
  obtain ⟨ad20, I, X_93772, Y_93773, Z_93774⟩ := SHC.led (l2 := gl_71) (n := 34) I rfl rfl rfl (by decide) rfl p_q_93757 p_a__93761 p_a__93762 nr_q_93757 nr_a__93761 nr_a__93762 
  have eq40_1 := (X_93772.2 40 1 (by decide)).trans eq40_1
  have eq41_1 := (X_93772.2 41 1 (by decide)).trans eq41_1
  have eq10_31 := (X_93772.2 10 31 (by decide)).trans eq10_31
  have eq20_5 := (X_93772.2 20 5 (by decide)).trans eq20_5
  have eq20_6 := (X_93772.2 20 6 (by decide)).trans eq20_6
  have eq20_7 := (X_93772.2 20 7 (by decide)).trans eq20_7
  have eq20_8 := (X_93772.2 20 8 (by decide)).trans eq20_8
  have eq20_9 := (X_93772.2 20 9 (by decide)).trans eq20_9
  have fam_sc := fam_x fam_sc X_93772 (by decide)
  have fam_pa := fam_x fam_pa X_93772 (by decide)
  have nr_h := Z_93774 _ nr_h (p_h.neK p_q_93757 (by decide)) (p_h.neA p_a__93761) (p_h.neA p_a__93762)
  have nr_q_93458 := Z_93774 _ nr_q_93458 (p_q_93458.neB p_q_93757) (p_q_93458.neN p_a__93761 (by decide)) (p_q_93458.neN p_a__93762 (by decide))
  have nr_q_93480 := Z_93774 _ nr_q_93480 (p_q_93480.neB p_q_93757) (p_q_93480.neN p_a__93761 (by decide)) (p_q_93480.neN p_a__93762 (by decide))
  have hout : ∀ x, x ∈ L → NRg gl_50 ad x → NRg gl_71 ad20 x := fun x hx hn => Z_93774 x (hout x hx hn) (fun e => whkq_93757 (by rw [← e]; exact hx)) (fun e => w_93768 (by rw [← e]; exact hx)) (fun e => w_93770 (by rw [← e]; exact hx))
  have hext := hext.tr X_93772
  have eq10_34 := Y_93773
  have hkI : kp L_93759 f_93760 L_93759 f_93760 [h, q_93458, q_93480] := kp.rf
  refine pg_aast S Y (k := 3) p_q_93480 rfl p_q_93757 ok_X4.1 (by unfold vp_in; decide) dX10_init_164 (fun f_93776 H locs ef_93776 Y => ?_)
  obtain ⟨g_93775, eg_93775⟩ : ∃ z, z = va_up (g_93755) (2 : Int32).toNatClampNeg (some q_93757) := ⟨_, rfl⟩
  rw [← eg_93775] at ef_93776
  have p_h := p_h.up ef_93776 ((p_h.neA p_q_93480))
  have p_q_93458 := p_q_93458.up ef_93776 ((p_q_93458.neN p_q_93480 (by decide)))
  have p_q_93757 := p_q_93757.up ef_93776 ((p_q_93757.neA p_q_93480))
  have p_q_93480 := p_q_93480.me ef_93776
  have hk := hk.upN ef_93776 whkq_93480
  have hkI := hkI.up ef_93776 (by simp)
  have fam_pa := fam_s (i := 2) fam_pa eq10_34 eg_93775
  refine lv_iinc (v := 3) (lv' := [(1, .int 3), (0, .ref h)]) hx hb dX10_init_165 hl (k := 0) rfl (by decide) (by decide) rfl (fun ls hl => ?_)
  refine lv_goto (tgt := 146) hx hb dX10_init_168 (by decide) ?_
  refine lv_iload_n hx hb dX10_init_146 rfl (lv_at hl 0 rfl) ?_
  refine lv_bipush (v := 30) hx hb dX10_init_147 (by decide) ?_
  refine lv_icmp_ge (tgt := 171) hx hb dX10_init_149 (by decide) (fun h => absurd h (by decide)) (fun _ => ?_)
  refine lv_aload_n hx hb dX10_init_152 rfl (lv_at hl 1 rfl) ?_
  refine pg_get S Y ok_X10 4 (by decide) kf10_31 (v := .ref q_93480) p_h rfl dX10_init_153 ?_
  refine lv_iload_n hx hb dX10_init_156 rfl (lv_at hl 0 rfl) ?_
  refine pg_new S Y ok_X4 kc10_24 kn4 ki4 (fs := [.null, .null, .int 0, .int 0, .int 0, .int 0, .int 0]) (by decide) (by decide) (by decide) dX10_init_157 (fun q_93777 f_93778 H nq_93777 ef_93778 Y => ?_)
  have whkq_93777 := hk.notin nq_93777
  have hk := hk.push ef_93778 nq_93777
  have whkIq_93777 := hkI.notin nq_93777
  have hkI := hkI.push ef_93778 nq_93777
  have p_h := p_h.push ef_93778 nq_93777
  have p_q_93458 := p_q_93458.push ef_93778 nq_93777
  have p_q_93480 := p_q_93480.push ef_93778 nq_93777
  have p_q_93777 := pt.new (L := L_93759) ef_93778
  refine lv_dup hx hb dX10_init_160 rfl ?_
  refine cINv (b := q_93777) (As := []) (rest := [.ref q_93777, .int 3, .ref q_93480]) S Y (c_X4_init (l := l) p_q_93777) cw_X4_init km10_26 rfl ⟨Nat.le_of_ble_eq_true rfl, Nat.le_of_ble_eq_true rfl⟩ hl.1 rfl (Nat.le_of_ble_eq_true rfl) ⟨Nat.le_of_ble_eq_true rfl, Nat.le_of_ble_eq_true rfl⟩ dX10_init_161 (fun L_93779 f_93780 H locs hf_93780 Y => ?_)
  obtain ⟨a__93781, a__93782, kf_93780, z_z_93783, z_z_93784, z_z_93785, v_93786, v_93787⟩ := hf_93780
  have w_93788 := hk.notin v_93786
  have w_93789 := hkI.notin v_93786
  have w_93790 := hk.notin v_93787
  have w_93791 := hkI.notin v_93787
  have p_h := kf_93780.1 h _ (nmc (p_h.neK p_q_93777 (by decide)) nm0) p_h
  have p_q_93458 := kf_93780.1 q_93458 _ (nmc (p_q_93458.neB p_q_93777) nm0) p_q_93458
  have p_q_93480 := kf_93780.1 q_93480 _ (nmc (p_q_93480.neB p_q_93777) nm0) p_q_93480
  have p_q_93777 := z_z_93783
  have p_a__93781 := z_z_93784
  have p_a__93782 := z_z_93785
  have hk := hk.call kf_93780 (fun b hb hp => (nmc (neL hp whkq_93777) nm0))
  have hkI := hkI.call kf_93780 (fun b hb hp => (nmc (neL hp whkIq_93777) nm0))
  have nr_q_93777 : NRg gl_71 ad20 q_93777 := (SHC.nr I whkIq_93777)
  have nr_a__93781 : NRg gl_71 ad20 a__93781 := (SHC.nr I w_93789)
  have nr_a__93782 : NRg gl_71 ad20 a__93782 := (SHC.nr I w_93791)
  have I := I.kp hkI (allc nr_h (allc nr_q_93458 (allc nr_q_93480 all0)))
  have hkI : kp L_93779 f_93780 L_93779 f_93780 [h, q_93458, q_93480] := kp.rf
  obtain ⟨ad21, I, X_93792, Y_93793, Z_93794⟩ := SHC.led (l2 := gl_72) (n := 35) I rfl rfl rfl (by decide) rfl p_q_93777 p_a__93781 p_a__93782 nr_q_93777 nr_a__93781 nr_a__93782 
  have eq40_1 := (X_93792.2 40 1 (by decide)).trans eq40_1
  have eq41_1 := (X_93792.2 41 1 (by decide)).trans eq41_1
  have eq10_31 := (X_93792.2 10 31 (by decide)).trans eq10_31
  have eq20_5 := (X_93792.2 20 5 (by decide)).trans eq20_5
  have eq20_6 := (X_93792.2 20 6 (by decide)).trans eq20_6
  have eq20_7 := (X_93792.2 20 7 (by decide)).trans eq20_7
  have eq20_8 := (X_93792.2 20 8 (by decide)).trans eq20_8
  have eq20_9 := (X_93792.2 20 9 (by decide)).trans eq20_9
  have fam_sc := fam_x fam_sc X_93792 (by decide)
  have fam_pa := fam_x fam_pa X_93792 (by decide)
  have nr_h := Z_93794 _ nr_h (p_h.neK p_q_93777 (by decide)) (p_h.neA p_a__93781) (p_h.neA p_a__93782)
  have nr_q_93458 := Z_93794 _ nr_q_93458 (p_q_93458.neB p_q_93777) (p_q_93458.neN p_a__93781 (by decide)) (p_q_93458.neN p_a__93782 (by decide))
  have nr_q_93480 := Z_93794 _ nr_q_93480 (p_q_93480.neB p_q_93777) (p_q_93480.neN p_a__93781 (by decide)) (p_q_93480.neN p_a__93782 (by decide))
  have hout : ∀ x, x ∈ L → NRg gl_50 ad x → NRg gl_72 ad21 x := fun x hx hn => Z_93794 x (hout x hx hn) (fun e => whkq_93777 (by rw [← e]; exact hx)) (fun e => w_93788 (by rw [← e]; exact hx)) (fun e => w_93790 (by rw [← e]; exact hx))
  have hext := hext.tr X_93792
  have eq10_35 := Y_93793
  have hkI : kp L_93779 f_93780 L_93779 f_93780 [h, q_93458, q_93480] := kp.rf
  refine pg_aast S Y (k := 3) p_q_93480 rfl p_q_93777 ok_X4.1 (by unfold vp_in; decide) dX10_init_164 (fun f_93796 H locs ef_93796 Y => ?_)
  obtain ⟨g_93795, eg_93795⟩ : ∃ z, z = va_up (g_93775) (3 : Int32).toNatClampNeg (some q_93777) := ⟨_, rfl⟩
  rw [← eg_93795] at ef_93796
  have p_h := p_h.up ef_93796 ((p_h.neA p_q_93480))
  have p_q_93458 := p_q_93458.up ef_93796 ((p_q_93458.neN p_q_93480 (by decide)))
  have p_q_93777 := p_q_93777.up ef_93796 ((p_q_93777.neA p_q_93480))
  have p_q_93480 := p_q_93480.me ef_93796
  have hk := hk.upN ef_93796 whkq_93480
  have hkI := hkI.up ef_93796 (by simp)
  have fam_pa := fam_s (i := 3) fam_pa eq10_35 eg_93795
  refine lv_iinc (v := 4) (lv' := [(1, .int 4), (0, .ref h)]) hx hb dX10_init_165 hl (k := 0) rfl (by decide) (by decide) rfl (fun ls hl => ?_)
  refine lv_goto (tgt := 146) hx hb dX10_init_168 (by decide) ?_
  refine lv_iload_n hx hb dX10_init_146 rfl (lv_at hl 0 rfl) ?_
  refine lv_bipush (v := 30) hx hb dX10_init_147 (by decide) ?_
  refine lv_icmp_ge (tgt := 171) hx hb dX10_init_149 (by decide) (fun h => absurd h (by decide)) (fun _ => ?_)
  refine lv_aload_n hx hb dX10_init_152 rfl (lv_at hl 1 rfl) ?_
  refine pg_get S Y ok_X10 4 (by decide) kf10_31 (v := .ref q_93480) p_h rfl dX10_init_153 ?_
  refine lv_iload_n hx hb dX10_init_156 rfl (lv_at hl 0 rfl) ?_
  refine pg_new S Y ok_X4 kc10_24 kn4 ki4 (fs := [.null, .null, .int 0, .int 0, .int 0, .int 0, .int 0]) (by decide) (by decide) (by decide) dX10_init_157 (fun q_93797 f_93798 H nq_93797 ef_93798 Y => ?_)
  have whkq_93797 := hk.notin nq_93797
  have hk := hk.push ef_93798 nq_93797
  have whkIq_93797 := hkI.notin nq_93797
  have hkI := hkI.push ef_93798 nq_93797
  have p_h := p_h.push ef_93798 nq_93797
  have p_q_93458 := p_q_93458.push ef_93798 nq_93797
  have p_q_93480 := p_q_93480.push ef_93798 nq_93797
  have p_q_93797 := pt.new (L := L_93779) ef_93798
  refine lv_dup hx hb dX10_init_160 rfl ?_
  refine cINv (b := q_93797) (As := []) (rest := [.ref q_93797, .int 4, .ref q_93480]) S Y (c_X4_init (l := l) p_q_93797) cw_X4_init km10_26 rfl ⟨Nat.le_of_ble_eq_true rfl, Nat.le_of_ble_eq_true rfl⟩ hl.1 rfl (Nat.le_of_ble_eq_true rfl) ⟨Nat.le_of_ble_eq_true rfl, Nat.le_of_ble_eq_true rfl⟩ dX10_init_161 (fun L_93799 f_93800 H locs hf_93800 Y => ?_)
  obtain ⟨a__93801, a__93802, kf_93800, z_z_93803, z_z_93804, z_z_93805, v_93806, v_93807⟩ := hf_93800
  have w_93808 := hk.notin v_93806
  have w_93809 := hkI.notin v_93806
  have w_93810 := hk.notin v_93807
  have w_93811 := hkI.notin v_93807
  have p_h := kf_93800.1 h _ (nmc (p_h.neK p_q_93797 (by decide)) nm0) p_h
  have p_q_93458 := kf_93800.1 q_93458 _ (nmc (p_q_93458.neB p_q_93797) nm0) p_q_93458
  have p_q_93480 := kf_93800.1 q_93480 _ (nmc (p_q_93480.neB p_q_93797) nm0) p_q_93480
  have p_q_93797 := z_z_93803
  have p_a__93801 := z_z_93804
  have p_a__93802 := z_z_93805
  have hk := hk.call kf_93800 (fun b hb hp => (nmc (neL hp whkq_93797) nm0))
  have hkI := hkI.call kf_93800 (fun b hb hp => (nmc (neL hp whkIq_93797) nm0))
  have nr_q_93797 : NRg gl_72 ad21 q_93797 := (SHC.nr I whkIq_93797)
  have nr_a__93801 : NRg gl_72 ad21 a__93801 := (SHC.nr I w_93809)
  have nr_a__93802 : NRg gl_72 ad21 a__93802 := (SHC.nr I w_93811)
  have I := I.kp hkI (allc nr_h (allc nr_q_93458 (allc nr_q_93480 all0)))
  have hkI : kp L_93799 f_93800 L_93799 f_93800 [h, q_93458, q_93480] := kp.rf
  obtain ⟨ad22, I, X_93812, Y_93813, Z_93814⟩ := SHC.led (l2 := gl_73) (n := 36) I rfl rfl rfl (by decide) rfl p_q_93797 p_a__93801 p_a__93802 nr_q_93797 nr_a__93801 nr_a__93802 
  have eq40_1 := (X_93812.2 40 1 (by decide)).trans eq40_1
  have eq41_1 := (X_93812.2 41 1 (by decide)).trans eq41_1
  have eq10_31 := (X_93812.2 10 31 (by decide)).trans eq10_31
  have eq20_5 := (X_93812.2 20 5 (by decide)).trans eq20_5
  have eq20_6 := (X_93812.2 20 6 (by decide)).trans eq20_6
  have eq20_7 := (X_93812.2 20 7 (by decide)).trans eq20_7
  have eq20_8 := (X_93812.2 20 8 (by decide)).trans eq20_8
  have eq20_9 := (X_93812.2 20 9 (by decide)).trans eq20_9
  have fam_sc := fam_x fam_sc X_93812 (by decide)
  have fam_pa := fam_x fam_pa X_93812 (by decide)
  have nr_h := Z_93814 _ nr_h (p_h.neK p_q_93797 (by decide)) (p_h.neA p_a__93801) (p_h.neA p_a__93802)
  have nr_q_93458 := Z_93814 _ nr_q_93458 (p_q_93458.neB p_q_93797) (p_q_93458.neN p_a__93801 (by decide)) (p_q_93458.neN p_a__93802 (by decide))
  have nr_q_93480 := Z_93814 _ nr_q_93480 (p_q_93480.neB p_q_93797) (p_q_93480.neN p_a__93801 (by decide)) (p_q_93480.neN p_a__93802 (by decide))
  have hout : ∀ x, x ∈ L → NRg gl_50 ad x → NRg gl_73 ad22 x := fun x hx hn => Z_93814 x (hout x hx hn) (fun e => whkq_93797 (by rw [← e]; exact hx)) (fun e => w_93808 (by rw [← e]; exact hx)) (fun e => w_93810 (by rw [← e]; exact hx))
  have hext := hext.tr X_93812
  have eq10_36 := Y_93813
  have hkI : kp L_93799 f_93800 L_93799 f_93800 [h, q_93458, q_93480] := kp.rf
  refine pg_aast S Y (k := 3) p_q_93480 rfl p_q_93797 ok_X4.1 (by unfold vp_in; decide) dX10_init_164 (fun f_93816 H locs ef_93816 Y => ?_)
  obtain ⟨g_93815, eg_93815⟩ : ∃ z, z = va_up (g_93795) (4 : Int32).toNatClampNeg (some q_93797) := ⟨_, rfl⟩
  rw [← eg_93815] at ef_93816
  have p_h := p_h.up ef_93816 ((p_h.neA p_q_93480))
  have p_q_93458 := p_q_93458.up ef_93816 ((p_q_93458.neN p_q_93480 (by decide)))
  have p_q_93797 := p_q_93797.up ef_93816 ((p_q_93797.neA p_q_93480))
  have p_q_93480 := p_q_93480.me ef_93816
  have hk := hk.upN ef_93816 whkq_93480
  have hkI := hkI.up ef_93816 (by simp)
  have fam_pa := fam_s (i := 4) fam_pa eq10_36 eg_93815
  refine lv_iinc (v := 5) (lv' := [(1, .int 5), (0, .ref h)]) hx hb dX10_init_165 hl (k := 0) rfl (by decide) (by decide) rfl (fun ls hl => ?_)
  refine lv_goto (tgt := 146) hx hb dX10_init_168 (by decide) ?_
  refine lv_iload_n hx hb dX10_init_146 rfl (lv_at hl 0 rfl) ?_
  refine lv_bipush (v := 30) hx hb dX10_init_147 (by decide) ?_
  refine lv_icmp_ge (tgt := 171) hx hb dX10_init_149 (by decide) (fun h => absurd h (by decide)) (fun _ => ?_)
  refine lv_aload_n hx hb dX10_init_152 rfl (lv_at hl 1 rfl) ?_
  refine pg_get S Y ok_X10 4 (by decide) kf10_31 (v := .ref q_93480) p_h rfl dX10_init_153 ?_
  refine lv_iload_n hx hb dX10_init_156 rfl (lv_at hl 0 rfl) ?_
  refine pg_new S Y ok_X4 kc10_24 kn4 ki4 (fs := [.null, .null, .int 0, .int 0, .int 0, .int 0, .int 0]) (by decide) (by decide) (by decide) dX10_init_157 (fun q_93817 f_93818 H nq_93817 ef_93818 Y => ?_)
  have whkq_93817 := hk.notin nq_93817
  have hk := hk.push ef_93818 nq_93817
  have whkIq_93817 := hkI.notin nq_93817
  have hkI := hkI.push ef_93818 nq_93817
  have p_h := p_h.push ef_93818 nq_93817
  have p_q_93458 := p_q_93458.push ef_93818 nq_93817
  have p_q_93480 := p_q_93480.push ef_93818 nq_93817
  have p_q_93817 := pt.new (L := L_93799) ef_93818
  refine lv_dup hx hb dX10_init_160 rfl ?_
  refine cINv (b := q_93817) (As := []) (rest := [.ref q_93817, .int 5, .ref q_93480]) S Y (c_X4_init (l := l) p_q_93817) cw_X4_init km10_26 rfl ⟨Nat.le_of_ble_eq_true rfl, Nat.le_of_ble_eq_true rfl⟩ hl.1 rfl (Nat.le_of_ble_eq_true rfl) ⟨Nat.le_of_ble_eq_true rfl, Nat.le_of_ble_eq_true rfl⟩ dX10_init_161 (fun L_93819 f_93820 H locs hf_93820 Y => ?_)
  obtain ⟨a__93821, a__93822, kf_93820, z_z_93823, z_z_93824, z_z_93825, v_93826, v_93827⟩ := hf_93820
  have w_93828 := hk.notin v_93826
  have w_93829 := hkI.notin v_93826
  have w_93830 := hk.notin v_93827
  have w_93831 := hkI.notin v_93827
  have p_h := kf_93820.1 h _ (nmc (p_h.neK p_q_93817 (by decide)) nm0) p_h
  have p_q_93458 := kf_93820.1 q_93458 _ (nmc (p_q_93458.neB p_q_93817) nm0) p_q_93458
  have p_q_93480 := kf_93820.1 q_93480 _ (nmc (p_q_93480.neB p_q_93817) nm0) p_q_93480
  have p_q_93817 := z_z_93823
  have p_a__93821 := z_z_93824
  have p_a__93822 := z_z_93825
  have hk := hk.call kf_93820 (fun b hb hp => (nmc (neL hp whkq_93817) nm0))
  have hkI := hkI.call kf_93820 (fun b hb hp => (nmc (neL hp whkIq_93817) nm0))
  have nr_q_93817 : NRg gl_73 ad22 q_93817 := (SHC.nr I whkIq_93817)
  have nr_a__93821 : NRg gl_73 ad22 a__93821 := (SHC.nr I w_93829)
  have nr_a__93822 : NRg gl_73 ad22 a__93822 := (SHC.nr I w_93831)
  have I := I.kp hkI (allc nr_h (allc nr_q_93458 (allc nr_q_93480 all0)))
  have hkI : kp L_93819 f_93820 L_93819 f_93820 [h, q_93458, q_93480] := kp.rf
  obtain ⟨ad23, I, X_93832, Y_93833, Z_93834⟩ := SHC.led (l2 := gl_74) (n := 37) I rfl rfl rfl (by decide) rfl p_q_93817 p_a__93821 p_a__93822 nr_q_93817 nr_a__93821 nr_a__93822 
  have eq40_1 := (X_93832.2 40 1 (by decide)).trans eq40_1
  have eq41_1 := (X_93832.2 41 1 (by decide)).trans eq41_1
  have eq10_31 := (X_93832.2 10 31 (by decide)).trans eq10_31
  have eq20_5 := (X_93832.2 20 5 (by decide)).trans eq20_5
  have eq20_6 := (X_93832.2 20 6 (by decide)).trans eq20_6
  have eq20_7 := (X_93832.2 20 7 (by decide)).trans eq20_7
  have eq20_8 := (X_93832.2 20 8 (by decide)).trans eq20_8
  have eq20_9 := (X_93832.2 20 9 (by decide)).trans eq20_9
  have fam_sc := fam_x fam_sc X_93832 (by decide)
  have fam_pa := fam_x fam_pa X_93832 (by decide)
  have nr_h := Z_93834 _ nr_h (p_h.neK p_q_93817 (by decide)) (p_h.neA p_a__93821) (p_h.neA p_a__93822)
  have nr_q_93458 := Z_93834 _ nr_q_93458 (p_q_93458.neB p_q_93817) (p_q_93458.neN p_a__93821 (by decide)) (p_q_93458.neN p_a__93822 (by decide))
  have nr_q_93480 := Z_93834 _ nr_q_93480 (p_q_93480.neB p_q_93817) (p_q_93480.neN p_a__93821 (by decide)) (p_q_93480.neN p_a__93822 (by decide))
  have hout : ∀ x, x ∈ L → NRg gl_50 ad x → NRg gl_74 ad23 x := fun x hx hn => Z_93834 x (hout x hx hn) (fun e => whkq_93817 (by rw [← e]; exact hx)) (fun e => w_93828 (by rw [← e]; exact hx)) (fun e => w_93830 (by rw [← e]; exact hx))
  have hext := hext.tr X_93832
  have eq10_37 := Y_93833
  have hkI : kp L_93819 f_93820 L_93819 f_93820 [h, q_93458, q_93480] := kp.rf
  refine pg_aast S Y (k := 3) p_q_93480 rfl p_q_93817 ok_X4.1 (by unfold vp_in; decide) dX10_init_164 (fun f_93836 H locs ef_93836 Y => ?_)
  obtain ⟨g_93835, eg_93835⟩ : ∃ z, z = va_up (g_93815) (5 : Int32).toNatClampNeg (some q_93817) := ⟨_, rfl⟩
  rw [← eg_93835] at ef_93836
  have p_h := p_h.up ef_93836 ((p_h.neA p_q_93480))
  have p_q_93458 := p_q_93458.up ef_93836 ((p_q_93458.neN p_q_93480 (by decide)))
  have p_q_93817 := p_q_93817.up ef_93836 ((p_q_93817.neA p_q_93480))
  have p_q_93480 := p_q_93480.me ef_93836
  have hk := hk.upN ef_93836 whkq_93480
  have hkI := hkI.up ef_93836 (by simp)
  have fam_pa := fam_s (i := 5) fam_pa eq10_37 eg_93835
  refine lv_iinc (v := 6) (lv' := [(1, .int 6), (0, .ref h)]) hx hb dX10_init_165 hl (k := 0) rfl (by decide) (by decide) rfl (fun ls hl => ?_)
  refine lv_goto (tgt := 146) hx hb dX10_init_168 (by decide) ?_
  refine lv_iload_n hx hb dX10_init_146 rfl (lv_at hl 0 rfl) ?_
  refine lv_bipush (v := 30) hx hb dX10_init_147 (by decide) ?_
  refine lv_icmp_ge (tgt := 171) hx hb dX10_init_149 (by decide) (fun h => absurd h (by decide)) (fun _ => ?_)
  refine lv_aload_n hx hb dX10_init_152 rfl (lv_at hl 1 rfl) ?_
  refine pg_get S Y ok_X10 4 (by decide) kf10_31 (v := .ref q_93480) p_h rfl dX10_init_153 ?_
  refine lv_iload_n hx hb dX10_init_156 rfl (lv_at hl 0 rfl) ?_
  refine pg_new S Y ok_X4 kc10_24 kn4 ki4 (fs := [.null, .null, .int 0, .int 0, .int 0, .int 0, .int 0]) (by decide) (by decide) (by decide) dX10_init_157 (fun q_93837 f_93838 H nq_93837 ef_93838 Y => ?_)
  have whkq_93837 := hk.notin nq_93837
  have hk := hk.push ef_93838 nq_93837
  have whkIq_93837 := hkI.notin nq_93837
  have hkI := hkI.push ef_93838 nq_93837
  have p_h := p_h.push ef_93838 nq_93837
  have p_q_93458 := p_q_93458.push ef_93838 nq_93837
  have p_q_93480 := p_q_93480.push ef_93838 nq_93837
  have p_q_93837 := pt.new (L := L_93819) ef_93838
  refine lv_dup hx hb dX10_init_160 rfl ?_
  refine cINv (b := q_93837) (As := []) (rest := [.ref q_93837, .int 6, .ref q_93480]) S Y (c_X4_init (l := l) p_q_93837) cw_X4_init km10_26 rfl ⟨Nat.le_of_ble_eq_true rfl, Nat.le_of_ble_eq_true rfl⟩ hl.1 rfl (Nat.le_of_ble_eq_true rfl) ⟨Nat.le_of_ble_eq_true rfl, Nat.le_of_ble_eq_true rfl⟩ dX10_init_161 (fun L_93839 f_93840 H locs hf_93840 Y => ?_)
  obtain ⟨a__93841, a__93842, kf_93840, z_z_93843, z_z_93844, z_z_93845, v_93846, v_93847⟩ := hf_93840
  have w_93848 := hk.notin v_93846
  have w_93849 := hkI.notin v_93846
  have w_93850 := hk.notin v_93847
  have w_93851 := hkI.notin v_93847
  have p_h := kf_93840.1 h _ (nmc (p_h.neK p_q_93837 (by decide)) nm0) p_h
  have p_q_93458 := kf_93840.1 q_93458 _ (nmc (p_q_93458.neB p_q_93837) nm0) p_q_93458
  have p_q_93480 := kf_93840.1 q_93480 _ (nmc (p_q_93480.neB p_q_93837) nm0) p_q_93480
  have p_q_93837 := z_z_93843
  have p_a__93841 := z_z_93844
  have p_a__93842 := z_z_93845
  have hk := hk.call kf_93840 (fun b hb hp => (nmc (neL hp whkq_93837) nm0))
  have hkI := hkI.call kf_93840 (fun b hb hp => (nmc (neL hp whkIq_93837) nm0))
  have nr_q_93837 : NRg gl_74 ad23 q_93837 := (SHC.nr I whkIq_93837)
  have nr_a__93841 : NRg gl_74 ad23 a__93841 := (SHC.nr I w_93849)
  have nr_a__93842 : NRg gl_74 ad23 a__93842 := (SHC.nr I w_93851)
  have I := I.kp hkI (allc nr_h (allc nr_q_93458 (allc nr_q_93480 all0)))
  have hkI : kp L_93839 f_93840 L_93839 f_93840 [h, q_93458, q_93480] := kp.rf
  obtain ⟨ad24, I, X_93852, Y_93853, Z_93854⟩ := SHC.led (l2 := gl_75) (n := 38) I rfl rfl rfl (by decide) rfl p_q_93837 p_a__93841 p_a__93842 nr_q_93837 nr_a__93841 nr_a__93842 
  have eq40_1 := (X_93852.2 40 1 (by decide)).trans eq40_1
  have eq41_1 := (X_93852.2 41 1 (by decide)).trans eq41_1
  have eq10_31 := (X_93852.2 10 31 (by decide)).trans eq10_31
  have eq20_5 := (X_93852.2 20 5 (by decide)).trans eq20_5
  have eq20_6 := (X_93852.2 20 6 (by decide)).trans eq20_6
  have eq20_7 := (X_93852.2 20 7 (by decide)).trans eq20_7
  have eq20_8 := (X_93852.2 20 8 (by decide)).trans eq20_8
  have eq20_9 := (X_93852.2 20 9 (by decide)).trans eq20_9
  have fam_sc := fam_x fam_sc X_93852 (by decide)
  have fam_pa := fam_x fam_pa X_93852 (by decide)
  have nr_h := Z_93854 _ nr_h (p_h.neK p_q_93837 (by decide)) (p_h.neA p_a__93841) (p_h.neA p_a__93842)
  have nr_q_93458 := Z_93854 _ nr_q_93458 (p_q_93458.neB p_q_93837) (p_q_93458.neN p_a__93841 (by decide)) (p_q_93458.neN p_a__93842 (by decide))
  have nr_q_93480 := Z_93854 _ nr_q_93480 (p_q_93480.neB p_q_93837) (p_q_93480.neN p_a__93841 (by decide)) (p_q_93480.neN p_a__93842 (by decide))
  have hout : ∀ x, x ∈ L → NRg gl_50 ad x → NRg gl_75 ad24 x := fun x hx hn => Z_93854 x (hout x hx hn) (fun e => whkq_93837 (by rw [← e]; exact hx)) (fun e => w_93848 (by rw [← e]; exact hx)) (fun e => w_93850 (by rw [← e]; exact hx))
  have hext := hext.tr X_93852
  have eq10_38 := Y_93853
  have hkI : kp L_93839 f_93840 L_93839 f_93840 [h, q_93458, q_93480] := kp.rf
  refine pg_aast S Y (k := 3) p_q_93480 rfl p_q_93837 ok_X4.1 (by unfold vp_in; decide) dX10_init_164 (fun f_93856 H locs ef_93856 Y => ?_)
  obtain ⟨g_93855, eg_93855⟩ : ∃ z, z = va_up (g_93835) (6 : Int32).toNatClampNeg (some q_93837) := ⟨_, rfl⟩
  rw [← eg_93855] at ef_93856
  have p_h := p_h.up ef_93856 ((p_h.neA p_q_93480))
  have p_q_93458 := p_q_93458.up ef_93856 ((p_q_93458.neN p_q_93480 (by decide)))
  have p_q_93837 := p_q_93837.up ef_93856 ((p_q_93837.neA p_q_93480))
  have p_q_93480 := p_q_93480.me ef_93856
  have hk := hk.upN ef_93856 whkq_93480
  have hkI := hkI.up ef_93856 (by simp)
  have fam_pa := fam_s (i := 6) fam_pa eq10_38 eg_93855
  refine lv_iinc (v := 7) (lv' := [(1, .int 7), (0, .ref h)]) hx hb dX10_init_165 hl (k := 0) rfl (by decide) (by decide) rfl (fun ls hl => ?_)
  refine lv_goto (tgt := 146) hx hb dX10_init_168 (by decide) ?_
  refine lv_iload_n hx hb dX10_init_146 rfl (lv_at hl 0 rfl) ?_
  refine lv_bipush (v := 30) hx hb dX10_init_147 (by decide) ?_
  refine lv_icmp_ge (tgt := 171) hx hb dX10_init_149 (by decide) (fun h => absurd h (by decide)) (fun _ => ?_)
  refine lv_aload_n hx hb dX10_init_152 rfl (lv_at hl 1 rfl) ?_
  refine pg_get S Y ok_X10 4 (by decide) kf10_31 (v := .ref q_93480) p_h rfl dX10_init_153 ?_
  refine lv_iload_n hx hb dX10_init_156 rfl (lv_at hl 0 rfl) ?_
  refine pg_new S Y ok_X4 kc10_24 kn4 ki4 (fs := [.null, .null, .int 0, .int 0, .int 0, .int 0, .int 0]) (by decide) (by decide) (by decide) dX10_init_157 (fun q_93857 f_93858 H nq_93857 ef_93858 Y => ?_)
  have whkq_93857 := hk.notin nq_93857
  have hk := hk.push ef_93858 nq_93857
  have whkIq_93857 := hkI.notin nq_93857
  have hkI := hkI.push ef_93858 nq_93857
  have p_h := p_h.push ef_93858 nq_93857
  have p_q_93458 := p_q_93458.push ef_93858 nq_93857
  have p_q_93480 := p_q_93480.push ef_93858 nq_93857
  have p_q_93857 := pt.new (L := L_93839) ef_93858
  refine lv_dup hx hb dX10_init_160 rfl ?_
  refine cINv (b := q_93857) (As := []) (rest := [.ref q_93857, .int 7, .ref q_93480]) S Y (c_X4_init (l := l) p_q_93857) cw_X4_init km10_26 rfl ⟨Nat.le_of_ble_eq_true rfl, Nat.le_of_ble_eq_true rfl⟩ hl.1 rfl (Nat.le_of_ble_eq_true rfl) ⟨Nat.le_of_ble_eq_true rfl, Nat.le_of_ble_eq_true rfl⟩ dX10_init_161 (fun L_93859 f_93860 H locs hf_93860 Y => ?_)
  obtain ⟨a__93861, a__93862, kf_93860, z_z_93863, z_z_93864, z_z_93865, v_93866, v_93867⟩ := hf_93860
  have w_93868 := hk.notin v_93866
  have w_93869 := hkI.notin v_93866
  have w_93870 := hk.notin v_93867
  have w_93871 := hkI.notin v_93867
  have p_h := kf_93860.1 h _ (nmc (p_h.neK p_q_93857 (by decide)) nm0) p_h
  have p_q_93458 := kf_93860.1 q_93458 _ (nmc (p_q_93458.neB p_q_93857) nm0) p_q_93458
  have p_q_93480 := kf_93860.1 q_93480 _ (nmc (p_q_93480.neB p_q_93857) nm0) p_q_93480
  have p_q_93857 := z_z_93863
  have p_a__93861 := z_z_93864
  have p_a__93862 := z_z_93865
  have hk := hk.call kf_93860 (fun b hb hp => (nmc (neL hp whkq_93857) nm0))
  have hkI := hkI.call kf_93860 (fun b hb hp => (nmc (neL hp whkIq_93857) nm0))
  have nr_q_93857 : NRg gl_75 ad24 q_93857 := (SHC.nr I whkIq_93857)
  have nr_a__93861 : NRg gl_75 ad24 a__93861 := (SHC.nr I w_93869)
  have nr_a__93862 : NRg gl_75 ad24 a__93862 := (SHC.nr I w_93871)
  have I := I.kp hkI (allc nr_h (allc nr_q_93458 (allc nr_q_93480 all0)))
  have hkI : kp L_93859 f_93860 L_93859 f_93860 [h, q_93458, q_93480] := kp.rf
  obtain ⟨ad25, I, X_93872, Y_93873, Z_93874⟩ := SHC.led (l2 := gl_76) (n := 39) I rfl rfl rfl (by decide) rfl p_q_93857 p_a__93861 p_a__93862 nr_q_93857 nr_a__93861 nr_a__93862 
  have eq40_1 := (X_93872.2 40 1 (by decide)).trans eq40_1
  have eq41_1 := (X_93872.2 41 1 (by decide)).trans eq41_1
  have eq10_31 := (X_93872.2 10 31 (by decide)).trans eq10_31
  have eq20_5 := (X_93872.2 20 5 (by decide)).trans eq20_5
  have eq20_6 := (X_93872.2 20 6 (by decide)).trans eq20_6
  have eq20_7 := (X_93872.2 20 7 (by decide)).trans eq20_7
  have eq20_8 := (X_93872.2 20 8 (by decide)).trans eq20_8
  have eq20_9 := (X_93872.2 20 9 (by decide)).trans eq20_9
  have fam_sc := fam_x fam_sc X_93872 (by decide)
  have fam_pa := fam_x fam_pa X_93872 (by decide)
  have nr_h := Z_93874 _ nr_h (p_h.neK p_q_93857 (by decide)) (p_h.neA p_a__93861) (p_h.neA p_a__93862)
  have nr_q_93458 := Z_93874 _ nr_q_93458 (p_q_93458.neB p_q_93857) (p_q_93458.neN p_a__93861 (by decide)) (p_q_93458.neN p_a__93862 (by decide))
  have nr_q_93480 := Z_93874 _ nr_q_93480 (p_q_93480.neB p_q_93857) (p_q_93480.neN p_a__93861 (by decide)) (p_q_93480.neN p_a__93862 (by decide))
  have hout : ∀ x, x ∈ L → NRg gl_50 ad x → NRg gl_76 ad25 x := fun x hx hn => Z_93874 x (hout x hx hn) (fun e => whkq_93857 (by rw [← e]; exact hx)) (fun e => w_93868 (by rw [← e]; exact hx)) (fun e => w_93870 (by rw [← e]; exact hx))
  have hext := hext.tr X_93872
  have eq10_39 := Y_93873
  have hkI : kp L_93859 f_93860 L_93859 f_93860 [h, q_93458, q_93480] := kp.rf
  refine pg_aast S Y (k := 3) p_q_93480 rfl p_q_93857 ok_X4.1 (by unfold vp_in; decide) dX10_init_164 (fun f_93876 H locs ef_93876 Y => ?_)
  obtain ⟨g_93875, eg_93875⟩ : ∃ z, z = va_up (g_93855) (7 : Int32).toNatClampNeg (some q_93857) := ⟨_, rfl⟩
  rw [← eg_93875] at ef_93876
  have p_h := p_h.up ef_93876 ((p_h.neA p_q_93480))
  have p_q_93458 := p_q_93458.up ef_93876 ((p_q_93458.neN p_q_93480 (by decide)))
  have p_q_93857 := p_q_93857.up ef_93876 ((p_q_93857.neA p_q_93480))
  have p_q_93480 := p_q_93480.me ef_93876
  have hk := hk.upN ef_93876 whkq_93480
  have hkI := hkI.up ef_93876 (by simp)
  have fam_pa := fam_s (i := 7) fam_pa eq10_39 eg_93875
  refine lv_iinc (v := 8) (lv' := [(1, .int 8), (0, .ref h)]) hx hb dX10_init_165 hl (k := 0) rfl (by decide) (by decide) rfl (fun ls hl => ?_)
  refine lv_goto (tgt := 146) hx hb dX10_init_168 (by decide) ?_
  refine lv_iload_n hx hb dX10_init_146 rfl (lv_at hl 0 rfl) ?_
  refine lv_bipush (v := 30) hx hb dX10_init_147 (by decide) ?_
  refine lv_icmp_ge (tgt := 171) hx hb dX10_init_149 (by decide) (fun h => absurd h (by decide)) (fun _ => ?_)
  refine lv_aload_n hx hb dX10_init_152 rfl (lv_at hl 1 rfl) ?_
  refine pg_get S Y ok_X10 4 (by decide) kf10_31 (v := .ref q_93480) p_h rfl dX10_init_153 ?_
  refine lv_iload_n hx hb dX10_init_156 rfl (lv_at hl 0 rfl) ?_
  refine pg_new S Y ok_X4 kc10_24 kn4 ki4 (fs := [.null, .null, .int 0, .int 0, .int 0, .int 0, .int 0]) (by decide) (by decide) (by decide) dX10_init_157 (fun q_93877 f_93878 H nq_93877 ef_93878 Y => ?_)
  have whkq_93877 := hk.notin nq_93877
  have hk := hk.push ef_93878 nq_93877
  have whkIq_93877 := hkI.notin nq_93877
  have hkI := hkI.push ef_93878 nq_93877
  have p_h := p_h.push ef_93878 nq_93877
  have p_q_93458 := p_q_93458.push ef_93878 nq_93877
  have p_q_93480 := p_q_93480.push ef_93878 nq_93877
  have p_q_93877 := pt.new (L := L_93859) ef_93878
  refine lv_dup hx hb dX10_init_160 rfl ?_
  refine cINv (b := q_93877) (As := []) (rest := [.ref q_93877, .int 8, .ref q_93480]) S Y (c_X4_init (l := l) p_q_93877) cw_X4_init km10_26 rfl ⟨Nat.le_of_ble_eq_true rfl, Nat.le_of_ble_eq_true rfl⟩ hl.1 rfl (Nat.le_of_ble_eq_true rfl) ⟨Nat.le_of_ble_eq_true rfl, Nat.le_of_ble_eq_true rfl⟩ dX10_init_161 (fun L_93879 f_93880 H locs hf_93880 Y => ?_)
  obtain ⟨a__93881, a__93882, kf_93880, z_z_93883, z_z_93884, z_z_93885, v_93886, v_93887⟩ := hf_93880
  have w_93888 := hk.notin v_93886
  have w_93889 := hkI.notin v_93886
  have w_93890 := hk.notin v_93887
  have w_93891 := hkI.notin v_93887
  have p_h := kf_93880.1 h _ (nmc (p_h.neK p_q_93877 (by decide)) nm0) p_h
  have p_q_93458 := kf_93880.1 q_93458 _ (nmc (p_q_93458.neB p_q_93877) nm0) p_q_93458
  have p_q_93480 := kf_93880.1 q_93480 _ (nmc (p_q_93480.neB p_q_93877) nm0) p_q_93480
  have p_q_93877 := z_z_93883
  have p_a__93881 := z_z_93884
  have p_a__93882 := z_z_93885
  have hk := hk.call kf_93880 (fun b hb hp => (nmc (neL hp whkq_93877) nm0))
  have hkI := hkI.call kf_93880 (fun b hb hp => (nmc (neL hp whkIq_93877) nm0))
  have nr_q_93877 : NRg gl_76 ad25 q_93877 := (SHC.nr I whkIq_93877)
  have nr_a__93881 : NRg gl_76 ad25 a__93881 := (SHC.nr I w_93889)
  have nr_a__93882 : NRg gl_76 ad25 a__93882 := (SHC.nr I w_93891)
  have I := I.kp hkI (allc nr_h (allc nr_q_93458 (allc nr_q_93480 all0)))
  have hkI : kp L_93879 f_93880 L_93879 f_93880 [h, q_93458, q_93480] := kp.rf
  obtain ⟨ad26, I, X_93892, Y_93893, Z_93894⟩ := SHC.led (l2 := gl_77) (n := 40) I rfl rfl rfl (by decide) rfl p_q_93877 p_a__93881 p_a__93882 nr_q_93877 nr_a__93881 nr_a__93882 
  have eq40_1 := (X_93892.2 40 1 (by decide)).trans eq40_1
  have eq41_1 := (X_93892.2 41 1 (by decide)).trans eq41_1
  have eq10_31 := (X_93892.2 10 31 (by decide)).trans eq10_31
  have eq20_5 := (X_93892.2 20 5 (by decide)).trans eq20_5
  have eq20_6 := (X_93892.2 20 6 (by decide)).trans eq20_6
  have eq20_7 := (X_93892.2 20 7 (by decide)).trans eq20_7
  have eq20_8 := (X_93892.2 20 8 (by decide)).trans eq20_8
  have eq20_9 := (X_93892.2 20 9 (by decide)).trans eq20_9
  have fam_sc := fam_x fam_sc X_93892 (by decide)
  have fam_pa := fam_x fam_pa X_93892 (by decide)
  have nr_h := Z_93894 _ nr_h (p_h.neK p_q_93877 (by decide)) (p_h.neA p_a__93881) (p_h.neA p_a__93882)
  have nr_q_93458 := Z_93894 _ nr_q_93458 (p_q_93458.neB p_q_93877) (p_q_93458.neN p_a__93881 (by decide)) (p_q_93458.neN p_a__93882 (by decide))
  have nr_q_93480 := Z_93894 _ nr_q_93480 (p_q_93480.neB p_q_93877) (p_q_93480.neN p_a__93881 (by decide)) (p_q_93480.neN p_a__93882 (by decide))
  have hout : ∀ x, x ∈ L → NRg gl_50 ad x → NRg gl_77 ad26 x := fun x hx hn => Z_93894 x (hout x hx hn) (fun e => whkq_93877 (by rw [← e]; exact hx)) (fun e => w_93888 (by rw [← e]; exact hx)) (fun e => w_93890 (by rw [← e]; exact hx))
  have hext := hext.tr X_93892
  have eq10_40 := Y_93893
  have hkI : kp L_93879 f_93880 L_93879 f_93880 [h, q_93458, q_93480] := kp.rf
  refine pg_aast S Y (k := 3) p_q_93480 rfl p_q_93877 ok_X4.1 (by unfold vp_in; decide) dX10_init_164 (fun f_93896 H locs ef_93896 Y => ?_)
  obtain ⟨g_93895, eg_93895⟩ : ∃ z, z = va_up (g_93875) (8 : Int32).toNatClampNeg (some q_93877) := ⟨_, rfl⟩
  rw [← eg_93895] at ef_93896
  have p_h := p_h.up ef_93896 ((p_h.neA p_q_93480))
  have p_q_93458 := p_q_93458.up ef_93896 ((p_q_93458.neN p_q_93480 (by decide)))
  have p_q_93877 := p_q_93877.up ef_93896 ((p_q_93877.neA p_q_93480))
  have p_q_93480 := p_q_93480.me ef_93896
  have hk := hk.upN ef_93896 whkq_93480
  have hkI := hkI.up ef_93896 (by simp)
  have fam_pa := fam_s (i := 8) fam_pa eq10_40 eg_93895
  refine lv_iinc (v := 9) (lv' := [(1, .int 9), (0, .ref h)]) hx hb dX10_init_165 hl (k := 0) rfl (by decide) (by decide) rfl (fun ls hl => ?_)
  refine lv_goto (tgt := 146) hx hb dX10_init_168 (by decide) ?_
  refine lv_iload_n hx hb dX10_init_146 rfl (lv_at hl 0 rfl) ?_
  refine lv_bipush (v := 30) hx hb dX10_init_147 (by decide) ?_
  refine lv_icmp_ge (tgt := 171) hx hb dX10_init_149 (by decide) (fun h => absurd h (by decide)) (fun _ => ?_)
  refine lv_aload_n hx hb dX10_init_152 rfl (lv_at hl 1 rfl) ?_
  refine pg_get S Y ok_X10 4 (by decide) kf10_31 (v := .ref q_93480) p_h rfl dX10_init_153 ?_
  refine lv_iload_n hx hb dX10_init_156 rfl (lv_at hl 0 rfl) ?_
  refine pg_new S Y ok_X4 kc10_24 kn4 ki4 (fs := [.null, .null, .int 0, .int 0, .int 0, .int 0, .int 0]) (by decide) (by decide) (by decide) dX10_init_157 (fun q_93897 f_93898 H nq_93897 ef_93898 Y => ?_)
  have whkq_93897 := hk.notin nq_93897
  have hk := hk.push ef_93898 nq_93897
  have whkIq_93897 := hkI.notin nq_93897
  have hkI := hkI.push ef_93898 nq_93897
  have p_h := p_h.push ef_93898 nq_93897
  have p_q_93458 := p_q_93458.push ef_93898 nq_93897
  have p_q_93480 := p_q_93480.push ef_93898 nq_93897
  have p_q_93897 := pt.new (L := L_93879) ef_93898
  refine lv_dup hx hb dX10_init_160 rfl ?_
  refine cINv (b := q_93897) (As := []) (rest := [.ref q_93897, .int 9, .ref q_93480]) S Y (c_X4_init (l := l) p_q_93897) cw_X4_init km10_26 rfl ⟨Nat.le_of_ble_eq_true rfl, Nat.le_of_ble_eq_true rfl⟩ hl.1 rfl (Nat.le_of_ble_eq_true rfl) ⟨Nat.le_of_ble_eq_true rfl, Nat.le_of_ble_eq_true rfl⟩ dX10_init_161 (fun L_93899 f_93900 H locs hf_93900 Y => ?_)
  obtain ⟨a__93901, a__93902, kf_93900, z_z_93903, z_z_93904, z_z_93905, v_93906, v_93907⟩ := hf_93900
  have w_93908 := hk.notin v_93906
  have w_93909 := hkI.notin v_93906
  have w_93910 := hk.notin v_93907
  have w_93911 := hkI.notin v_93907
  have p_h := kf_93900.1 h _ (nmc (p_h.neK p_q_93897 (by decide)) nm0) p_h
  have p_q_93458 := kf_93900.1 q_93458 _ (nmc (p_q_93458.neB p_q_93897) nm0) p_q_93458
  have p_q_93480 := kf_93900.1 q_93480 _ (nmc (p_q_93480.neB p_q_93897) nm0) p_q_93480
  have p_q_93897 := z_z_93903
  have p_a__93901 := z_z_93904
  have p_a__93902 := z_z_93905
  have hk := hk.call kf_93900 (fun b hb hp => (nmc (neL hp whkq_93897) nm0))
  have hkI := hkI.call kf_93900 (fun b hb hp => (nmc (neL hp whkIq_93897) nm0))
  have nr_q_93897 : NRg gl_77 ad26 q_93897 := (SHC.nr I whkIq_93897)
  have nr_a__93901 : NRg gl_77 ad26 a__93901 := (SHC.nr I w_93909)
  have nr_a__93902 : NRg gl_77 ad26 a__93902 := (SHC.nr I w_93911)
  have I := I.kp hkI (allc nr_h (allc nr_q_93458 (allc nr_q_93480 all0)))
  have hkI : kp L_93899 f_93900 L_93899 f_93900 [h, q_93458, q_93480] := kp.rf
  obtain ⟨ad27, I, X_93912, Y_93913, Z_93914⟩ := SHC.led (l2 := gl_78) (n := 41) I rfl rfl rfl (by decide) rfl p_q_93897 p_a__93901 p_a__93902 nr_q_93897 nr_a__93901 nr_a__93902 
  have eq40_1 := (X_93912.2 40 1 (by decide)).trans eq40_1
  have eq41_1 := (X_93912.2 41 1 (by decide)).trans eq41_1
  have eq10_31 := (X_93912.2 10 31 (by decide)).trans eq10_31
  have eq20_5 := (X_93912.2 20 5 (by decide)).trans eq20_5
  have eq20_6 := (X_93912.2 20 6 (by decide)).trans eq20_6
  have eq20_7 := (X_93912.2 20 7 (by decide)).trans eq20_7
  have eq20_8 := (X_93912.2 20 8 (by decide)).trans eq20_8
  have eq20_9 := (X_93912.2 20 9 (by decide)).trans eq20_9
  have fam_sc := fam_x fam_sc X_93912 (by decide)
  have fam_pa := fam_x fam_pa X_93912 (by decide)
  have nr_h := Z_93914 _ nr_h (p_h.neK p_q_93897 (by decide)) (p_h.neA p_a__93901) (p_h.neA p_a__93902)
  have nr_q_93458 := Z_93914 _ nr_q_93458 (p_q_93458.neB p_q_93897) (p_q_93458.neN p_a__93901 (by decide)) (p_q_93458.neN p_a__93902 (by decide))
  have nr_q_93480 := Z_93914 _ nr_q_93480 (p_q_93480.neB p_q_93897) (p_q_93480.neN p_a__93901 (by decide)) (p_q_93480.neN p_a__93902 (by decide))
  have hout : ∀ x, x ∈ L → NRg gl_50 ad x → NRg gl_78 ad27 x := fun x hx hn => Z_93914 x (hout x hx hn) (fun e => whkq_93897 (by rw [← e]; exact hx)) (fun e => w_93908 (by rw [← e]; exact hx)) (fun e => w_93910 (by rw [← e]; exact hx))
  have hext := hext.tr X_93912
  have eq10_41 := Y_93913
  have hkI : kp L_93899 f_93900 L_93899 f_93900 [h, q_93458, q_93480] := kp.rf
  refine pg_aast S Y (k := 3) p_q_93480 rfl p_q_93897 ok_X4.1 (by unfold vp_in; decide) dX10_init_164 (fun f_93916 H locs ef_93916 Y => ?_)
  obtain ⟨g_93915, eg_93915⟩ : ∃ z, z = va_up (g_93895) (9 : Int32).toNatClampNeg (some q_93897) := ⟨_, rfl⟩
  rw [← eg_93915] at ef_93916
  have p_h := p_h.up ef_93916 ((p_h.neA p_q_93480))
  have p_q_93458 := p_q_93458.up ef_93916 ((p_q_93458.neN p_q_93480 (by decide)))
  have p_q_93897 := p_q_93897.up ef_93916 ((p_q_93897.neA p_q_93480))
  have p_q_93480 := p_q_93480.me ef_93916
  have hk := hk.upN ef_93916 whkq_93480
  have hkI := hkI.up ef_93916 (by simp)
  have fam_pa := fam_s (i := 9) fam_pa eq10_41 eg_93915
  refine lv_iinc (v := 10) (lv' := [(1, .int 10), (0, .ref h)]) hx hb dX10_init_165 hl (k := 0) rfl (by decide) (by decide) rfl (fun ls hl => ?_)
  refine lv_goto (tgt := 146) hx hb dX10_init_168 (by decide) ?_
  refine lv_iload_n hx hb dX10_init_146 rfl (lv_at hl 0 rfl) ?_
  refine lv_bipush (v := 30) hx hb dX10_init_147 (by decide) ?_
  refine lv_icmp_ge (tgt := 171) hx hb dX10_init_149 (by decide) (fun h => absurd h (by decide)) (fun _ => ?_)
  refine lv_aload_n hx hb dX10_init_152 rfl (lv_at hl 1 rfl) ?_
  refine pg_get S Y ok_X10 4 (by decide) kf10_31 (v := .ref q_93480) p_h rfl dX10_init_153 ?_
  refine lv_iload_n hx hb dX10_init_156 rfl (lv_at hl 0 rfl) ?_
  refine pg_new S Y ok_X4 kc10_24 kn4 ki4 (fs := [.null, .null, .int 0, .int 0, .int 0, .int 0, .int 0]) (by decide) (by decide) (by decide) dX10_init_157 (fun q_93917 f_93918 H nq_93917 ef_93918 Y => ?_)
  have whkq_93917 := hk.notin nq_93917
  have hk := hk.push ef_93918 nq_93917
  have whkIq_93917 := hkI.notin nq_93917
  have hkI := hkI.push ef_93918 nq_93917
  have p_h := p_h.push ef_93918 nq_93917
  have p_q_93458 := p_q_93458.push ef_93918 nq_93917
  have p_q_93480 := p_q_93480.push ef_93918 nq_93917
  have p_q_93917 := pt.new (L := L_93899) ef_93918
  refine lv_dup hx hb dX10_init_160 rfl ?_
  refine cINv (b := q_93917) (As := []) (rest := [.ref q_93917, .int 10, .ref q_93480]) S Y (c_X4_init (l := l) p_q_93917) cw_X4_init km10_26 rfl ⟨Nat.le_of_ble_eq_true rfl, Nat.le_of_ble_eq_true rfl⟩ hl.1 rfl (Nat.le_of_ble_eq_true rfl) ⟨Nat.le_of_ble_eq_true rfl, Nat.le_of_ble_eq_true rfl⟩ dX10_init_161 (fun L_93919 f_93920 H locs hf_93920 Y => ?_)
  obtain ⟨a__93921, a__93922, kf_93920, z_z_93923, z_z_93924, z_z_93925, v_93926, v_93927⟩ := hf_93920
  have w_93928 := hk.notin v_93926
  have w_93929 := hkI.notin v_93926
  have w_93930 := hk.notin v_93927
  have w_93931 := hkI.notin v_93927
  have p_h := kf_93920.1 h _ (nmc (p_h.neK p_q_93917 (by decide)) nm0) p_h
  have p_q_93458 := kf_93920.1 q_93458 _ (nmc (p_q_93458.neB p_q_93917) nm0) p_q_93458
  have p_q_93480 := kf_93920.1 q_93480 _ (nmc (p_q_93480.neB p_q_93917) nm0) p_q_93480
  have p_q_93917 := z_z_93923
  have p_a__93921 := z_z_93924
  have p_a__93922 := z_z_93925
  have hk := hk.call kf_93920 (fun b hb hp => (nmc (neL hp whkq_93917) nm0))
  have hkI := hkI.call kf_93920 (fun b hb hp => (nmc (neL hp whkIq_93917) nm0))
  have nr_q_93917 : NRg gl_78 ad27 q_93917 := (SHC.nr I whkIq_93917)
  have nr_a__93921 : NRg gl_78 ad27 a__93921 := (SHC.nr I w_93929)
  have nr_a__93922 : NRg gl_78 ad27 a__93922 := (SHC.nr I w_93931)
  have I := I.kp hkI (allc nr_h (allc nr_q_93458 (allc nr_q_93480 all0)))
  have hkI : kp L_93919 f_93920 L_93919 f_93920 [h, q_93458, q_93480] := kp.rf
  obtain ⟨ad28, I, X_93932, Y_93933, Z_93934⟩ := SHC.led (l2 := gl_79) (n := 42) I rfl rfl rfl (by decide) rfl p_q_93917 p_a__93921 p_a__93922 nr_q_93917 nr_a__93921 nr_a__93922 
  have eq40_1 := (X_93932.2 40 1 (by decide)).trans eq40_1
  have eq41_1 := (X_93932.2 41 1 (by decide)).trans eq41_1
  have eq10_31 := (X_93932.2 10 31 (by decide)).trans eq10_31
  have eq20_5 := (X_93932.2 20 5 (by decide)).trans eq20_5
  have eq20_6 := (X_93932.2 20 6 (by decide)).trans eq20_6
  have eq20_7 := (X_93932.2 20 7 (by decide)).trans eq20_7
  have eq20_8 := (X_93932.2 20 8 (by decide)).trans eq20_8
  have eq20_9 := (X_93932.2 20 9 (by decide)).trans eq20_9
  have fam_sc := fam_x fam_sc X_93932 (by decide)
  have fam_pa := fam_x fam_pa X_93932 (by decide)
  have nr_h := Z_93934 _ nr_h (p_h.neK p_q_93917 (by decide)) (p_h.neA p_a__93921) (p_h.neA p_a__93922)
  have nr_q_93458 := Z_93934 _ nr_q_93458 (p_q_93458.neB p_q_93917) (p_q_93458.neN p_a__93921 (by decide)) (p_q_93458.neN p_a__93922 (by decide))
  have nr_q_93480 := Z_93934 _ nr_q_93480 (p_q_93480.neB p_q_93917) (p_q_93480.neN p_a__93921 (by decide)) (p_q_93480.neN p_a__93922 (by decide))
  have hout : ∀ x, x ∈ L → NRg gl_50 ad x → NRg gl_79 ad28 x := fun x hx hn => Z_93934 x (hout x hx hn) (fun e => whkq_93917 (by rw [← e]; exact hx)) (fun e => w_93928 (by rw [← e]; exact hx)) (fun e => w_93930 (by rw [← e]; exact hx))
  have hext := hext.tr X_93932
  have eq10_42 := Y_93933
  have hkI : kp L_93919 f_93920 L_93919 f_93920 [h, q_93458, q_93480] := kp.rf
  refine pg_aast S Y (k := 3) p_q_93480 rfl p_q_93917 ok_X4.1 (by unfold vp_in; decide) dX10_init_164 (fun f_93936 H locs ef_93936 Y => ?_)
  obtain ⟨g_93935, eg_93935⟩ : ∃ z, z = va_up (g_93915) (10 : Int32).toNatClampNeg (some q_93917) := ⟨_, rfl⟩
  rw [← eg_93935] at ef_93936
  have p_h := p_h.up ef_93936 ((p_h.neA p_q_93480))
  have p_q_93458 := p_q_93458.up ef_93936 ((p_q_93458.neN p_q_93480 (by decide)))
  have p_q_93917 := p_q_93917.up ef_93936 ((p_q_93917.neA p_q_93480))
  have p_q_93480 := p_q_93480.me ef_93936
  have hk := hk.upN ef_93936 whkq_93480
  have hkI := hkI.up ef_93936 (by simp)
  have fam_pa := fam_s (i := 10) fam_pa eq10_42 eg_93935
  refine lv_iinc (v := 11) (lv' := [(1, .int 11), (0, .ref h)]) hx hb dX10_init_165 hl (k := 0) rfl (by decide) (by decide) rfl (fun ls hl => ?_)
  refine lv_goto (tgt := 146) hx hb dX10_init_168 (by decide) ?_
  refine lv_iload_n hx hb dX10_init_146 rfl (lv_at hl 0 rfl) ?_
  refine lv_bipush (v := 30) hx hb dX10_init_147 (by decide) ?_
  refine lv_icmp_ge (tgt := 171) hx hb dX10_init_149 (by decide) (fun h => absurd h (by decide)) (fun _ => ?_)
  refine lv_aload_n hx hb dX10_init_152 rfl (lv_at hl 1 rfl) ?_
  refine pg_get S Y ok_X10 4 (by decide) kf10_31 (v := .ref q_93480) p_h rfl dX10_init_153 ?_
  refine lv_iload_n hx hb dX10_init_156 rfl (lv_at hl 0 rfl) ?_
  refine pg_new S Y ok_X4 kc10_24 kn4 ki4 (fs := [.null, .null, .int 0, .int 0, .int 0, .int 0, .int 0]) (by decide) (by decide) (by decide) dX10_init_157 (fun q_93937 f_93938 H nq_93937 ef_93938 Y => ?_)
  have whkq_93937 := hk.notin nq_93937
  have hk := hk.push ef_93938 nq_93937
  have whkIq_93937 := hkI.notin nq_93937
  have hkI := hkI.push ef_93938 nq_93937
  have p_h := p_h.push ef_93938 nq_93937
  have p_q_93458 := p_q_93458.push ef_93938 nq_93937
  have p_q_93480 := p_q_93480.push ef_93938 nq_93937
  have p_q_93937 := pt.new (L := L_93919) ef_93938
  refine lv_dup hx hb dX10_init_160 rfl ?_
  refine cINv (b := q_93937) (As := []) (rest := [.ref q_93937, .int 11, .ref q_93480]) S Y (c_X4_init (l := l) p_q_93937) cw_X4_init km10_26 rfl ⟨Nat.le_of_ble_eq_true rfl, Nat.le_of_ble_eq_true rfl⟩ hl.1 rfl (Nat.le_of_ble_eq_true rfl) ⟨Nat.le_of_ble_eq_true rfl, Nat.le_of_ble_eq_true rfl⟩ dX10_init_161 (fun L_93939 f_93940 H locs hf_93940 Y => ?_)
  obtain ⟨a__93941, a__93942, kf_93940, z_z_93943, z_z_93944, z_z_93945, v_93946, v_93947⟩ := hf_93940
  have w_93948 := hk.notin v_93946
  have w_93949 := hkI.notin v_93946
  have w_93950 := hk.notin v_93947
  have w_93951 := hkI.notin v_93947
  have p_h := kf_93940.1 h _ (nmc (p_h.neK p_q_93937 (by decide)) nm0) p_h
  have p_q_93458 := kf_93940.1 q_93458 _ (nmc (p_q_93458.neB p_q_93937) nm0) p_q_93458
  have p_q_93480 := kf_93940.1 q_93480 _ (nmc (p_q_93480.neB p_q_93937) nm0) p_q_93480
  have p_q_93937 := z_z_93943
  have p_a__93941 := z_z_93944
  have p_a__93942 := z_z_93945
  have hk := hk.call kf_93940 (fun b hb hp => (nmc (neL hp whkq_93937) nm0))
  have hkI := hkI.call kf_93940 (fun b hb hp => (nmc (neL hp whkIq_93937) nm0))
  have nr_q_93937 : NRg gl_79 ad28 q_93937 := (SHC.nr I whkIq_93937)
  have nr_a__93941 : NRg gl_79 ad28 a__93941 := (SHC.nr I w_93949)
  have nr_a__93942 : NRg gl_79 ad28 a__93942 := (SHC.nr I w_93951)
  have I := I.kp hkI (allc nr_h (allc nr_q_93458 (allc nr_q_93480 all0)))
  have hkI : kp L_93939 f_93940 L_93939 f_93940 [h, q_93458, q_93480] := kp.rf
  obtain ⟨ad29, I, X_93952, Y_93953, Z_93954⟩ := SHC.led (l2 := gl_80) (n := 43) I rfl rfl rfl (by decide) rfl p_q_93937 p_a__93941 p_a__93942 nr_q_93937 nr_a__93941 nr_a__93942 
  have eq40_1 := (X_93952.2 40 1 (by decide)).trans eq40_1
  have eq41_1 := (X_93952.2 41 1 (by decide)).trans eq41_1
  have eq10_31 := (X_93952.2 10 31 (by decide)).trans eq10_31
  have eq20_5 := (X_93952.2 20 5 (by decide)).trans eq20_5
  have eq20_6 := (X_93952.2 20 6 (by decide)).trans eq20_6
  have eq20_7 := (X_93952.2 20 7 (by decide)).trans eq20_7
  have eq20_8 := (X_93952.2 20 8 (by decide)).trans eq20_8
  have eq20_9 := (X_93952.2 20 9 (by decide)).trans eq20_9
  have fam_sc := fam_x fam_sc X_93952 (by decide)
  have fam_pa := fam_x fam_pa X_93952 (by decide)
  have nr_h := Z_93954 _ nr_h (p_h.neK p_q_93937 (by decide)) (p_h.neA p_a__93941) (p_h.neA p_a__93942)
  have nr_q_93458 := Z_93954 _ nr_q_93458 (p_q_93458.neB p_q_93937) (p_q_93458.neN p_a__93941 (by decide)) (p_q_93458.neN p_a__93942 (by decide))
  have nr_q_93480 := Z_93954 _ nr_q_93480 (p_q_93480.neB p_q_93937) (p_q_93480.neN p_a__93941 (by decide)) (p_q_93480.neN p_a__93942 (by decide))
  have hout : ∀ x, x ∈ L → NRg gl_50 ad x → NRg gl_80 ad29 x := fun x hx hn => Z_93954 x (hout x hx hn) (fun e => whkq_93937 (by rw [← e]; exact hx)) (fun e => w_93948 (by rw [← e]; exact hx)) (fun e => w_93950 (by rw [← e]; exact hx))
  have hext := hext.tr X_93952
  have eq10_43 := Y_93953
  have hkI : kp L_93939 f_93940 L_93939 f_93940 [h, q_93458, q_93480] := kp.rf
  refine pg_aast S Y (k := 3) p_q_93480 rfl p_q_93937 ok_X4.1 (by unfold vp_in; decide) dX10_init_164 (fun f_93956 H locs ef_93956 Y => ?_)
  obtain ⟨g_93955, eg_93955⟩ : ∃ z, z = va_up (g_93935) (11 : Int32).toNatClampNeg (some q_93937) := ⟨_, rfl⟩
  rw [← eg_93955] at ef_93956
  have p_h := p_h.up ef_93956 ((p_h.neA p_q_93480))
  have p_q_93458 := p_q_93458.up ef_93956 ((p_q_93458.neN p_q_93480 (by decide)))
  have p_q_93937 := p_q_93937.up ef_93956 ((p_q_93937.neA p_q_93480))
  have p_q_93480 := p_q_93480.me ef_93956
  have hk := hk.upN ef_93956 whkq_93480
  have hkI := hkI.up ef_93956 (by simp)
  have fam_pa := fam_s (i := 11) fam_pa eq10_43 eg_93955
  refine lv_iinc (v := 12) (lv' := [(1, .int 12), (0, .ref h)]) hx hb dX10_init_165 hl (k := 0) rfl (by decide) (by decide) rfl (fun ls hl => ?_)
  refine lv_goto (tgt := 146) hx hb dX10_init_168 (by decide) ?_
  refine lv_iload_n hx hb dX10_init_146 rfl (lv_at hl 0 rfl) ?_
  refine lv_bipush (v := 30) hx hb dX10_init_147 (by decide) ?_
  refine lv_icmp_ge (tgt := 171) hx hb dX10_init_149 (by decide) (fun h => absurd h (by decide)) (fun _ => ?_)
  refine lv_aload_n hx hb dX10_init_152 rfl (lv_at hl 1 rfl) ?_
  refine pg_get S Y ok_X10 4 (by decide) kf10_31 (v := .ref q_93480) p_h rfl dX10_init_153 ?_
  refine lv_iload_n hx hb dX10_init_156 rfl (lv_at hl 0 rfl) ?_
  refine pg_new S Y ok_X4 kc10_24 kn4 ki4 (fs := [.null, .null, .int 0, .int 0, .int 0, .int 0, .int 0]) (by decide) (by decide) (by decide) dX10_init_157 (fun q_93957 f_93958 H nq_93957 ef_93958 Y => ?_)
  have whkq_93957 := hk.notin nq_93957
  have hk := hk.push ef_93958 nq_93957
  have whkIq_93957 := hkI.notin nq_93957
  have hkI := hkI.push ef_93958 nq_93957
  have p_h := p_h.push ef_93958 nq_93957
  have p_q_93458 := p_q_93458.push ef_93958 nq_93957
  have p_q_93480 := p_q_93480.push ef_93958 nq_93957
  have p_q_93957 := pt.new (L := L_93939) ef_93958
  refine lv_dup hx hb dX10_init_160 rfl ?_
  refine cINv (b := q_93957) (As := []) (rest := [.ref q_93957, .int 12, .ref q_93480]) S Y (c_X4_init (l := l) p_q_93957) cw_X4_init km10_26 rfl ⟨Nat.le_of_ble_eq_true rfl, Nat.le_of_ble_eq_true rfl⟩ hl.1 rfl (Nat.le_of_ble_eq_true rfl) ⟨Nat.le_of_ble_eq_true rfl, Nat.le_of_ble_eq_true rfl⟩ dX10_init_161 (fun L_93959 f_93960 H locs hf_93960 Y => ?_)
  obtain ⟨a__93961, a__93962, kf_93960, z_z_93963, z_z_93964, z_z_93965, v_93966, v_93967⟩ := hf_93960
  have w_93968 := hk.notin v_93966
  have w_93969 := hkI.notin v_93966
  have w_93970 := hk.notin v_93967
  have w_93971 := hkI.notin v_93967
  have p_h := kf_93960.1 h _ (nmc (p_h.neK p_q_93957 (by decide)) nm0) p_h
  have p_q_93458 := kf_93960.1 q_93458 _ (nmc (p_q_93458.neB p_q_93957) nm0) p_q_93458
  have p_q_93480 := kf_93960.1 q_93480 _ (nmc (p_q_93480.neB p_q_93957) nm0) p_q_93480
  have p_q_93957 := z_z_93963
  have p_a__93961 := z_z_93964
  have p_a__93962 := z_z_93965
  have hk := hk.call kf_93960 (fun b hb hp => (nmc (neL hp whkq_93957) nm0))
  have hkI := hkI.call kf_93960 (fun b hb hp => (nmc (neL hp whkIq_93957) nm0))
  have nr_q_93957 : NRg gl_80 ad29 q_93957 := (SHC.nr I whkIq_93957)
  have nr_a__93961 : NRg gl_80 ad29 a__93961 := (SHC.nr I w_93969)
  have nr_a__93962 : NRg gl_80 ad29 a__93962 := (SHC.nr I w_93971)
  have I := I.kp hkI (allc nr_h (allc nr_q_93458 (allc nr_q_93480 all0)))
  have hkI : kp L_93959 f_93960 L_93959 f_93960 [h, q_93458, q_93480] := kp.rf
  obtain ⟨ad30, I, X_93972, Y_93973, Z_93974⟩ := SHC.led (l2 := gl_81) (n := 44) I rfl rfl rfl (by decide) rfl p_q_93957 p_a__93961 p_a__93962 nr_q_93957 nr_a__93961 nr_a__93962 
  have eq40_1 := (X_93972.2 40 1 (by decide)).trans eq40_1
  have eq41_1 := (X_93972.2 41 1 (by decide)).trans eq41_1
  have eq10_31 := (X_93972.2 10 31 (by decide)).trans eq10_31
  have eq20_5 := (X_93972.2 20 5 (by decide)).trans eq20_5
  have eq20_6 := (X_93972.2 20 6 (by decide)).trans eq20_6
  have eq20_7 := (X_93972.2 20 7 (by decide)).trans eq20_7
  have eq20_8 := (X_93972.2 20 8 (by decide)).trans eq20_8
  have eq20_9 := (X_93972.2 20 9 (by decide)).trans eq20_9
  have fam_sc := fam_x fam_sc X_93972 (by decide)
  have fam_pa := fam_x fam_pa X_93972 (by decide)
  have nr_h := Z_93974 _ nr_h (p_h.neK p_q_93957 (by decide)) (p_h.neA p_a__93961) (p_h.neA p_a__93962)
  have nr_q_93458 := Z_93974 _ nr_q_93458 (p_q_93458.neB p_q_93957) (p_q_93458.neN p_a__93961 (by decide)) (p_q_93458.neN p_a__93962 (by decide))
  have nr_q_93480 := Z_93974 _ nr_q_93480 (p_q_93480.neB p_q_93957) (p_q_93480.neN p_a__93961 (by decide)) (p_q_93480.neN p_a__93962 (by decide))
  have hout : ∀ x, x ∈ L → NRg gl_50 ad x → NRg gl_81 ad30 x := fun x hx hn => Z_93974 x (hout x hx hn) (fun e => whkq_93957 (by rw [← e]; exact hx)) (fun e => w_93968 (by rw [← e]; exact hx)) (fun e => w_93970 (by rw [← e]; exact hx))
  have hext := hext.tr X_93972
  have eq10_44 := Y_93973
  have hkI : kp L_93959 f_93960 L_93959 f_93960 [h, q_93458, q_93480] := kp.rf
  refine pg_aast S Y (k := 3) p_q_93480 rfl p_q_93957 ok_X4.1 (by unfold vp_in; decide) dX10_init_164 (fun f_93976 H locs ef_93976 Y => ?_)
  obtain ⟨g_93975, eg_93975⟩ : ∃ z, z = va_up (g_93955) (12 : Int32).toNatClampNeg (some q_93957) := ⟨_, rfl⟩
  rw [← eg_93975] at ef_93976
  have p_h := p_h.up ef_93976 ((p_h.neA p_q_93480))
  have p_q_93458 := p_q_93458.up ef_93976 ((p_q_93458.neN p_q_93480 (by decide)))
  have p_q_93957 := p_q_93957.up ef_93976 ((p_q_93957.neA p_q_93480))
  have p_q_93480 := p_q_93480.me ef_93976
  have hk := hk.upN ef_93976 whkq_93480
  have hkI := hkI.up ef_93976 (by simp)
  have fam_pa := fam_s (i := 12) fam_pa eq10_44 eg_93975
  refine lv_iinc (v := 13) (lv' := [(1, .int 13), (0, .ref h)]) hx hb dX10_init_165 hl (k := 0) rfl (by decide) (by decide) rfl (fun ls hl => ?_)
  refine lv_goto (tgt := 146) hx hb dX10_init_168 (by decide) ?_
  refine lv_iload_n hx hb dX10_init_146 rfl (lv_at hl 0 rfl) ?_
  refine lv_bipush (v := 30) hx hb dX10_init_147 (by decide) ?_
  refine lv_icmp_ge (tgt := 171) hx hb dX10_init_149 (by decide) (fun h => absurd h (by decide)) (fun _ => ?_)
  refine lv_aload_n hx hb dX10_init_152 rfl (lv_at hl 1 rfl) ?_
  refine pg_get S Y ok_X10 4 (by decide) kf10_31 (v := .ref q_93480) p_h rfl dX10_init_153 ?_
  refine lv_iload_n hx hb dX10_init_156 rfl (lv_at hl 0 rfl) ?_
  refine pg_new S Y ok_X4 kc10_24 kn4 ki4 (fs := [.null, .null, .int 0, .int 0, .int 0, .int 0, .int 0]) (by decide) (by decide) (by decide) dX10_init_157 (fun q_93977 f_93978 H nq_93977 ef_93978 Y => ?_)
  have whkq_93977 := hk.notin nq_93977
  have hk := hk.push ef_93978 nq_93977
  have whkIq_93977 := hkI.notin nq_93977
  have hkI := hkI.push ef_93978 nq_93977
  have p_h := p_h.push ef_93978 nq_93977
  have p_q_93458 := p_q_93458.push ef_93978 nq_93977
  have p_q_93480 := p_q_93480.push ef_93978 nq_93977
  have p_q_93977 := pt.new (L := L_93959) ef_93978
  refine lv_dup hx hb dX10_init_160 rfl ?_
  refine cINv (b := q_93977) (As := []) (rest := [.ref q_93977, .int 13, .ref q_93480]) S Y (c_X4_init (l := l) p_q_93977) cw_X4_init km10_26 rfl ⟨Nat.le_of_ble_eq_true rfl, Nat.le_of_ble_eq_true rfl⟩ hl.1 rfl (Nat.le_of_ble_eq_true rfl) ⟨Nat.le_of_ble_eq_true rfl, Nat.le_of_ble_eq_true rfl⟩ dX10_init_161 (fun L_93979 f_93980 H locs hf_93980 Y => ?_)
  obtain ⟨a__93981, a__93982, kf_93980, z_z_93983, z_z_93984, z_z_93985, v_93986, v_93987⟩ := hf_93980
  have w_93988 := hk.notin v_93986
  have w_93989 := hkI.notin v_93986
  have w_93990 := hk.notin v_93987
  have w_93991 := hkI.notin v_93987
  have p_h := kf_93980.1 h _ (nmc (p_h.neK p_q_93977 (by decide)) nm0) p_h
  have p_q_93458 := kf_93980.1 q_93458 _ (nmc (p_q_93458.neB p_q_93977) nm0) p_q_93458
  have p_q_93480 := kf_93980.1 q_93480 _ (nmc (p_q_93480.neB p_q_93977) nm0) p_q_93480
  have p_q_93977 := z_z_93983
  have p_a__93981 := z_z_93984
  have p_a__93982 := z_z_93985
  have hk := hk.call kf_93980 (fun b hb hp => (nmc (neL hp whkq_93977) nm0))
  have hkI := hkI.call kf_93980 (fun b hb hp => (nmc (neL hp whkIq_93977) nm0))
  have nr_q_93977 : NRg gl_81 ad30 q_93977 := (SHC.nr I whkIq_93977)
  have nr_a__93981 : NRg gl_81 ad30 a__93981 := (SHC.nr I w_93989)
  have nr_a__93982 : NRg gl_81 ad30 a__93982 := (SHC.nr I w_93991)
  have I := I.kp hkI (allc nr_h (allc nr_q_93458 (allc nr_q_93480 all0)))
  have hkI : kp L_93979 f_93980 L_93979 f_93980 [h, q_93458, q_93480] := kp.rf
  obtain ⟨ad31, I, X_93992, Y_93993, Z_93994⟩ := SHC.led (l2 := gl_82) (n := 45) I rfl rfl rfl (by decide) rfl p_q_93977 p_a__93981 p_a__93982 nr_q_93977 nr_a__93981 nr_a__93982 
  have eq40_1 := (X_93992.2 40 1 (by decide)).trans eq40_1
  have eq41_1 := (X_93992.2 41 1 (by decide)).trans eq41_1
  have eq10_31 := (X_93992.2 10 31 (by decide)).trans eq10_31
  have eq20_5 := (X_93992.2 20 5 (by decide)).trans eq20_5
  have eq20_6 := (X_93992.2 20 6 (by decide)).trans eq20_6
  have eq20_7 := (X_93992.2 20 7 (by decide)).trans eq20_7
  have eq20_8 := (X_93992.2 20 8 (by decide)).trans eq20_8
  have eq20_9 := (X_93992.2 20 9 (by decide)).trans eq20_9
  have fam_sc := fam_x fam_sc X_93992 (by decide)
  have fam_pa := fam_x fam_pa X_93992 (by decide)
  have nr_h := Z_93994 _ nr_h (p_h.neK p_q_93977 (by decide)) (p_h.neA p_a__93981) (p_h.neA p_a__93982)
  have nr_q_93458 := Z_93994 _ nr_q_93458 (p_q_93458.neB p_q_93977) (p_q_93458.neN p_a__93981 (by decide)) (p_q_93458.neN p_a__93982 (by decide))
  have nr_q_93480 := Z_93994 _ nr_q_93480 (p_q_93480.neB p_q_93977) (p_q_93480.neN p_a__93981 (by decide)) (p_q_93480.neN p_a__93982 (by decide))
  have hout : ∀ x, x ∈ L → NRg gl_50 ad x → NRg gl_82 ad31 x := fun x hx hn => Z_93994 x (hout x hx hn) (fun e => whkq_93977 (by rw [← e]; exact hx)) (fun e => w_93988 (by rw [← e]; exact hx)) (fun e => w_93990 (by rw [← e]; exact hx))
  have hext := hext.tr X_93992
  have eq10_45 := Y_93993
  have hkI : kp L_93979 f_93980 L_93979 f_93980 [h, q_93458, q_93480] := kp.rf
  refine pg_aast S Y (k := 3) p_q_93480 rfl p_q_93977 ok_X4.1 (by unfold vp_in; decide) dX10_init_164 (fun f_93996 H locs ef_93996 Y => ?_)
  obtain ⟨g_93995, eg_93995⟩ : ∃ z, z = va_up (g_93975) (13 : Int32).toNatClampNeg (some q_93977) := ⟨_, rfl⟩
  rw [← eg_93995] at ef_93996
  have p_h := p_h.up ef_93996 ((p_h.neA p_q_93480))
  have p_q_93458 := p_q_93458.up ef_93996 ((p_q_93458.neN p_q_93480 (by decide)))
  have p_q_93977 := p_q_93977.up ef_93996 ((p_q_93977.neA p_q_93480))
  have p_q_93480 := p_q_93480.me ef_93996
  have hk := hk.upN ef_93996 whkq_93480
  have hkI := hkI.up ef_93996 (by simp)
  have fam_pa := fam_s (i := 13) fam_pa eq10_45 eg_93995
  refine lv_iinc (v := 14) (lv' := [(1, .int 14), (0, .ref h)]) hx hb dX10_init_165 hl (k := 0) rfl (by decide) (by decide) rfl (fun ls hl => ?_)
  refine lv_goto (tgt := 146) hx hb dX10_init_168 (by decide) ?_
  refine lv_iload_n hx hb dX10_init_146 rfl (lv_at hl 0 rfl) ?_
  refine lv_bipush (v := 30) hx hb dX10_init_147 (by decide) ?_
  refine lv_icmp_ge (tgt := 171) hx hb dX10_init_149 (by decide) (fun h => absurd h (by decide)) (fun _ => ?_)
  refine lv_aload_n hx hb dX10_init_152 rfl (lv_at hl 1 rfl) ?_
  refine pg_get S Y ok_X10 4 (by decide) kf10_31 (v := .ref q_93480) p_h rfl dX10_init_153 ?_
  refine lv_iload_n hx hb dX10_init_156 rfl (lv_at hl 0 rfl) ?_
  refine pg_new S Y ok_X4 kc10_24 kn4 ki4 (fs := [.null, .null, .int 0, .int 0, .int 0, .int 0, .int 0]) (by decide) (by decide) (by decide) dX10_init_157 (fun q_93997 f_93998 H nq_93997 ef_93998 Y => ?_)
  have whkq_93997 := hk.notin nq_93997
  have hk := hk.push ef_93998 nq_93997
  have whkIq_93997 := hkI.notin nq_93997
  have hkI := hkI.push ef_93998 nq_93997
  have p_h := p_h.push ef_93998 nq_93997
  have p_q_93458 := p_q_93458.push ef_93998 nq_93997
  have p_q_93480 := p_q_93480.push ef_93998 nq_93997
  have p_q_93997 := pt.new (L := L_93979) ef_93998
  refine lv_dup hx hb dX10_init_160 rfl ?_
  refine cINv (b := q_93997) (As := []) (rest := [.ref q_93997, .int 14, .ref q_93480]) S Y (c_X4_init (l := l) p_q_93997) cw_X4_init km10_26 rfl ⟨Nat.le_of_ble_eq_true rfl, Nat.le_of_ble_eq_true rfl⟩ hl.1 rfl (Nat.le_of_ble_eq_true rfl) ⟨Nat.le_of_ble_eq_true rfl, Nat.le_of_ble_eq_true rfl⟩ dX10_init_161 (fun L_93999 f_94000 H locs hf_94000 Y => ?_)
  obtain ⟨a__94001, a__94002, kf_94000, z_z_94003, z_z_94004, z_z_94005, v_94006, v_94007⟩ := hf_94000
  have w_94008 := hk.notin v_94006
  have w_94009 := hkI.notin v_94006
  have w_94010 := hk.notin v_94007
  have w_94011 := hkI.notin v_94007
  have p_h := kf_94000.1 h _ (nmc (p_h.neK p_q_93997 (by decide)) nm0) p_h
  have p_q_93458 := kf_94000.1 q_93458 _ (nmc (p_q_93458.neB p_q_93997) nm0) p_q_93458
  have p_q_93480 := kf_94000.1 q_93480 _ (nmc (p_q_93480.neB p_q_93997) nm0) p_q_93480
  have p_q_93997 := z_z_94003
  have p_a__94001 := z_z_94004
  have p_a__94002 := z_z_94005
  have hk := hk.call kf_94000 (fun b hb hp => (nmc (neL hp whkq_93997) nm0))
  have hkI := hkI.call kf_94000 (fun b hb hp => (nmc (neL hp whkIq_93997) nm0))
  have nr_q_93997 : NRg gl_82 ad31 q_93997 := (SHC.nr I whkIq_93997)
  have nr_a__94001 : NRg gl_82 ad31 a__94001 := (SHC.nr I w_94009)
  have nr_a__94002 : NRg gl_82 ad31 a__94002 := (SHC.nr I w_94011)
  have I := I.kp hkI (allc nr_h (allc nr_q_93458 (allc nr_q_93480 all0)))
  have hkI : kp L_93999 f_94000 L_93999 f_94000 [h, q_93458, q_93480] := kp.rf
  obtain ⟨ad32, I, X_94012, Y_94013, Z_94014⟩ := SHC.led (l2 := gl_83) (n := 46) I rfl rfl rfl (by decide) rfl p_q_93997 p_a__94001 p_a__94002 nr_q_93997 nr_a__94001 nr_a__94002 
  have eq40_1 := (X_94012.2 40 1 (by decide)).trans eq40_1
  have eq41_1 := (X_94012.2 41 1 (by decide)).trans eq41_1
  have eq10_31 := (X_94012.2 10 31 (by decide)).trans eq10_31
  have eq20_5 := (X_94012.2 20 5 (by decide)).trans eq20_5
  have eq20_6 := (X_94012.2 20 6 (by decide)).trans eq20_6
  have eq20_7 := (X_94012.2 20 7 (by decide)).trans eq20_7
  have eq20_8 := (X_94012.2 20 8 (by decide)).trans eq20_8
  have eq20_9 := (X_94012.2 20 9 (by decide)).trans eq20_9
  have fam_sc := fam_x fam_sc X_94012 (by decide)
  have fam_pa := fam_x fam_pa X_94012 (by decide)
  have nr_h := Z_94014 _ nr_h (p_h.neK p_q_93997 (by decide)) (p_h.neA p_a__94001) (p_h.neA p_a__94002)
  have nr_q_93458 := Z_94014 _ nr_q_93458 (p_q_93458.neB p_q_93997) (p_q_93458.neN p_a__94001 (by decide)) (p_q_93458.neN p_a__94002 (by decide))
  have nr_q_93480 := Z_94014 _ nr_q_93480 (p_q_93480.neB p_q_93997) (p_q_93480.neN p_a__94001 (by decide)) (p_q_93480.neN p_a__94002 (by decide))
  have hout : ∀ x, x ∈ L → NRg gl_50 ad x → NRg gl_83 ad32 x := fun x hx hn => Z_94014 x (hout x hx hn) (fun e => whkq_93997 (by rw [← e]; exact hx)) (fun e => w_94008 (by rw [← e]; exact hx)) (fun e => w_94010 (by rw [← e]; exact hx))
  have hext := hext.tr X_94012
  have eq10_46 := Y_94013
  have hkI : kp L_93999 f_94000 L_93999 f_94000 [h, q_93458, q_93480] := kp.rf
  refine pg_aast S Y (k := 3) p_q_93480 rfl p_q_93997 ok_X4.1 (by unfold vp_in; decide) dX10_init_164 (fun f_94016 H locs ef_94016 Y => ?_)
  obtain ⟨g_94015, eg_94015⟩ : ∃ z, z = va_up (g_93995) (14 : Int32).toNatClampNeg (some q_93997) := ⟨_, rfl⟩
  rw [← eg_94015] at ef_94016
  have p_h := p_h.up ef_94016 ((p_h.neA p_q_93480))
  have p_q_93458 := p_q_93458.up ef_94016 ((p_q_93458.neN p_q_93480 (by decide)))
  have p_q_93997 := p_q_93997.up ef_94016 ((p_q_93997.neA p_q_93480))
  have p_q_93480 := p_q_93480.me ef_94016
  have hk := hk.upN ef_94016 whkq_93480
  have hkI := hkI.up ef_94016 (by simp)
  have fam_pa := fam_s (i := 14) fam_pa eq10_46 eg_94015
  refine lv_iinc (v := 15) (lv' := [(1, .int 15), (0, .ref h)]) hx hb dX10_init_165 hl (k := 0) rfl (by decide) (by decide) rfl (fun ls hl => ?_)
  refine lv_goto (tgt := 146) hx hb dX10_init_168 (by decide) ?_
  refine lv_iload_n hx hb dX10_init_146 rfl (lv_at hl 0 rfl) ?_
  refine lv_bipush (v := 30) hx hb dX10_init_147 (by decide) ?_
  refine lv_icmp_ge (tgt := 171) hx hb dX10_init_149 (by decide) (fun h => absurd h (by decide)) (fun _ => ?_)
  refine lv_aload_n hx hb dX10_init_152 rfl (lv_at hl 1 rfl) ?_
  refine pg_get S Y ok_X10 4 (by decide) kf10_31 (v := .ref q_93480) p_h rfl dX10_init_153 ?_
  refine lv_iload_n hx hb dX10_init_156 rfl (lv_at hl 0 rfl) ?_
  refine pg_new S Y ok_X4 kc10_24 kn4 ki4 (fs := [.null, .null, .int 0, .int 0, .int 0, .int 0, .int 0]) (by decide) (by decide) (by decide) dX10_init_157 (fun q_94017 f_94018 H nq_94017 ef_94018 Y => ?_)
  have whkq_94017 := hk.notin nq_94017
  have hk := hk.push ef_94018 nq_94017
  have whkIq_94017 := hkI.notin nq_94017
  have hkI := hkI.push ef_94018 nq_94017
  have p_h := p_h.push ef_94018 nq_94017
  have p_q_93458 := p_q_93458.push ef_94018 nq_94017
  have p_q_93480 := p_q_93480.push ef_94018 nq_94017
  have p_q_94017 := pt.new (L := L_93999) ef_94018
  refine lv_dup hx hb dX10_init_160 rfl ?_
  refine cINv (b := q_94017) (As := []) (rest := [.ref q_94017, .int 15, .ref q_93480]) S Y (c_X4_init (l := l) p_q_94017) cw_X4_init km10_26 rfl ⟨Nat.le_of_ble_eq_true rfl, Nat.le_of_ble_eq_true rfl⟩ hl.1 rfl (Nat.le_of_ble_eq_true rfl) ⟨Nat.le_of_ble_eq_true rfl, Nat.le_of_ble_eq_true rfl⟩ dX10_init_161 (fun L_94019 f_94020 H locs hf_94020 Y => ?_)
  obtain ⟨a__94021, a__94022, kf_94020, z_z_94023, z_z_94024, z_z_94025, v_94026, v_94027⟩ := hf_94020
  have w_94028 := hk.notin v_94026
  have w_94029 := hkI.notin v_94026
  have w_94030 := hk.notin v_94027
  have w_94031 := hkI.notin v_94027
  have p_h := kf_94020.1 h _ (nmc (p_h.neK p_q_94017 (by decide)) nm0) p_h
  have p_q_93458 := kf_94020.1 q_93458 _ (nmc (p_q_93458.neB p_q_94017) nm0) p_q_93458
  have p_q_93480 := kf_94020.1 q_93480 _ (nmc (p_q_93480.neB p_q_94017) nm0) p_q_93480
  have p_q_94017 := z_z_94023
  have p_a__94021 := z_z_94024
  have p_a__94022 := z_z_94025
  have hk := hk.call kf_94020 (fun b hb hp => (nmc (neL hp whkq_94017) nm0))
  have hkI := hkI.call kf_94020 (fun b hb hp => (nmc (neL hp whkIq_94017) nm0))
  have nr_q_94017 : NRg gl_83 ad32 q_94017 := (SHC.nr I whkIq_94017)
  have nr_a__94021 : NRg gl_83 ad32 a__94021 := (SHC.nr I w_94029)
  have nr_a__94022 : NRg gl_83 ad32 a__94022 := (SHC.nr I w_94031)
  have I := I.kp hkI (allc nr_h (allc nr_q_93458 (allc nr_q_93480 all0)))
  have hkI : kp L_94019 f_94020 L_94019 f_94020 [h, q_93458, q_93480] := kp.rf
  obtain ⟨ad33, I, X_94032, Y_94033, Z_94034⟩ := SHC.led (l2 := gl_84) (n := 47) I rfl rfl rfl (by decide) rfl p_q_94017 p_a__94021 p_a__94022 nr_q_94017 nr_a__94021 nr_a__94022 
  have eq40_1 := (X_94032.2 40 1 (by decide)).trans eq40_1
  have eq41_1 := (X_94032.2 41 1 (by decide)).trans eq41_1
  have eq10_31 := (X_94032.2 10 31 (by decide)).trans eq10_31
  have eq20_5 := (X_94032.2 20 5 (by decide)).trans eq20_5
  have eq20_6 := (X_94032.2 20 6 (by decide)).trans eq20_6
  have eq20_7 := (X_94032.2 20 7 (by decide)).trans eq20_7
  have eq20_8 := (X_94032.2 20 8 (by decide)).trans eq20_8
  have eq20_9 := (X_94032.2 20 9 (by decide)).trans eq20_9
  have fam_sc := fam_x fam_sc X_94032 (by decide)
  have fam_pa := fam_x fam_pa X_94032 (by decide)
  have nr_h := Z_94034 _ nr_h (p_h.neK p_q_94017 (by decide)) (p_h.neA p_a__94021) (p_h.neA p_a__94022)
  have nr_q_93458 := Z_94034 _ nr_q_93458 (p_q_93458.neB p_q_94017) (p_q_93458.neN p_a__94021 (by decide)) (p_q_93458.neN p_a__94022 (by decide))
  have nr_q_93480 := Z_94034 _ nr_q_93480 (p_q_93480.neB p_q_94017) (p_q_93480.neN p_a__94021 (by decide)) (p_q_93480.neN p_a__94022 (by decide))
  have hout : ∀ x, x ∈ L → NRg gl_50 ad x → NRg gl_84 ad33 x := fun x hx hn => Z_94034 x (hout x hx hn) (fun e => whkq_94017 (by rw [← e]; exact hx)) (fun e => w_94028 (by rw [← e]; exact hx)) (fun e => w_94030 (by rw [← e]; exact hx))
  have hext := hext.tr X_94032
  have eq10_47 := Y_94033
  have hkI : kp L_94019 f_94020 L_94019 f_94020 [h, q_93458, q_93480] := kp.rf
  refine pg_aast S Y (k := 3) p_q_93480 rfl p_q_94017 ok_X4.1 (by unfold vp_in; decide) dX10_init_164 (fun f_94036 H locs ef_94036 Y => ?_)
  obtain ⟨g_94035, eg_94035⟩ : ∃ z, z = va_up (g_94015) (15 : Int32).toNatClampNeg (some q_94017) := ⟨_, rfl⟩
  rw [← eg_94035] at ef_94036
  have p_h := p_h.up ef_94036 ((p_h.neA p_q_93480))
  have p_q_93458 := p_q_93458.up ef_94036 ((p_q_93458.neN p_q_93480 (by decide)))
  have p_q_94017 := p_q_94017.up ef_94036 ((p_q_94017.neA p_q_93480))
  have p_q_93480 := p_q_93480.me ef_94036
  have hk := hk.upN ef_94036 whkq_93480
  have hkI := hkI.up ef_94036 (by simp)
  have fam_pa := fam_s (i := 15) fam_pa eq10_47 eg_94035
  refine lv_iinc (v := 16) (lv' := [(1, .int 16), (0, .ref h)]) hx hb dX10_init_165 hl (k := 0) rfl (by decide) (by decide) rfl (fun ls hl => ?_)
  refine lv_goto (tgt := 146) hx hb dX10_init_168 (by decide) ?_
  refine lv_iload_n hx hb dX10_init_146 rfl (lv_at hl 0 rfl) ?_
  refine lv_bipush (v := 30) hx hb dX10_init_147 (by decide) ?_
  refine lv_icmp_ge (tgt := 171) hx hb dX10_init_149 (by decide) (fun h => absurd h (by decide)) (fun _ => ?_)
  refine lv_aload_n hx hb dX10_init_152 rfl (lv_at hl 1 rfl) ?_
  refine pg_get S Y ok_X10 4 (by decide) kf10_31 (v := .ref q_93480) p_h rfl dX10_init_153 ?_
  refine lv_iload_n hx hb dX10_init_156 rfl (lv_at hl 0 rfl) ?_
  refine pg_new S Y ok_X4 kc10_24 kn4 ki4 (fs := [.null, .null, .int 0, .int 0, .int 0, .int 0, .int 0]) (by decide) (by decide) (by decide) dX10_init_157 (fun q_94037 f_94038 H nq_94037 ef_94038 Y => ?_)
  have whkq_94037 := hk.notin nq_94037
  have hk := hk.push ef_94038 nq_94037
  have whkIq_94037 := hkI.notin nq_94037
  have hkI := hkI.push ef_94038 nq_94037
  have p_h := p_h.push ef_94038 nq_94037
  have p_q_93458 := p_q_93458.push ef_94038 nq_94037
  have p_q_93480 := p_q_93480.push ef_94038 nq_94037
  have p_q_94037 := pt.new (L := L_94019) ef_94038
  refine lv_dup hx hb dX10_init_160 rfl ?_
  refine cINv (b := q_94037) (As := []) (rest := [.ref q_94037, .int 16, .ref q_93480]) S Y (c_X4_init (l := l) p_q_94037) cw_X4_init km10_26 rfl ⟨Nat.le_of_ble_eq_true rfl, Nat.le_of_ble_eq_true rfl⟩ hl.1 rfl (Nat.le_of_ble_eq_true rfl) ⟨Nat.le_of_ble_eq_true rfl, Nat.le_of_ble_eq_true rfl⟩ dX10_init_161 (fun L_94039 f_94040 H locs hf_94040 Y => ?_)
  obtain ⟨a__94041, a__94042, kf_94040, z_z_94043, z_z_94044, z_z_94045, v_94046, v_94047⟩ := hf_94040
  have w_94048 := hk.notin v_94046
  have w_94049 := hkI.notin v_94046
  have w_94050 := hk.notin v_94047
  have w_94051 := hkI.notin v_94047
  have p_h := kf_94040.1 h _ (nmc (p_h.neK p_q_94037 (by decide)) nm0) p_h
  have p_q_93458 := kf_94040.1 q_93458 _ (nmc (p_q_93458.neB p_q_94037) nm0) p_q_93458
  have p_q_93480 := kf_94040.1 q_93480 _ (nmc (p_q_93480.neB p_q_94037) nm0) p_q_93480
  have p_q_94037 := z_z_94043
  have p_a__94041 := z_z_94044
  have p_a__94042 := z_z_94045
  have hk := hk.call kf_94040 (fun b hb hp => (nmc (neL hp whkq_94037) nm0))
  have hkI := hkI.call kf_94040 (fun b hb hp => (nmc (neL hp whkIq_94037) nm0))
  have nr_q_94037 : NRg gl_84 ad33 q_94037 := (SHC.nr I whkIq_94037)
  have nr_a__94041 : NRg gl_84 ad33 a__94041 := (SHC.nr I w_94049)
  have nr_a__94042 : NRg gl_84 ad33 a__94042 := (SHC.nr I w_94051)
  have I := I.kp hkI (allc nr_h (allc nr_q_93458 (allc nr_q_93480 all0)))
  have hkI : kp L_94039 f_94040 L_94039 f_94040 [h, q_93458, q_93480] := kp.rf
  obtain ⟨ad34, I, X_94052, Y_94053, Z_94054⟩ := SHC.led (l2 := gl_85) (n := 48) I rfl rfl rfl (by decide) rfl p_q_94037 p_a__94041 p_a__94042 nr_q_94037 nr_a__94041 nr_a__94042 
  have eq40_1 := (X_94052.2 40 1 (by decide)).trans eq40_1
  have eq41_1 := (X_94052.2 41 1 (by decide)).trans eq41_1
  have eq10_31 := (X_94052.2 10 31 (by decide)).trans eq10_31
  have eq20_5 := (X_94052.2 20 5 (by decide)).trans eq20_5
  have eq20_6 := (X_94052.2 20 6 (by decide)).trans eq20_6
  have eq20_7 := (X_94052.2 20 7 (by decide)).trans eq20_7
  have eq20_8 := (X_94052.2 20 8 (by decide)).trans eq20_8
  have eq20_9 := (X_94052.2 20 9 (by decide)).trans eq20_9
  have fam_sc := fam_x fam_sc X_94052 (by decide)
  have fam_pa := fam_x fam_pa X_94052 (by decide)
  have nr_h := Z_94054 _ nr_h (p_h.neK p_q_94037 (by decide)) (p_h.neA p_a__94041) (p_h.neA p_a__94042)
  have nr_q_93458 := Z_94054 _ nr_q_93458 (p_q_93458.neB p_q_94037) (p_q_93458.neN p_a__94041 (by decide)) (p_q_93458.neN p_a__94042 (by decide))
  have nr_q_93480 := Z_94054 _ nr_q_93480 (p_q_93480.neB p_q_94037) (p_q_93480.neN p_a__94041 (by decide)) (p_q_93480.neN p_a__94042 (by decide))
  have hout : ∀ x, x ∈ L → NRg gl_50 ad x → NRg gl_85 ad34 x := fun x hx hn => Z_94054 x (hout x hx hn) (fun e => whkq_94037 (by rw [← e]; exact hx)) (fun e => w_94048 (by rw [← e]; exact hx)) (fun e => w_94050 (by rw [← e]; exact hx))
  have hext := hext.tr X_94052
  have eq10_48 := Y_94053
  have hkI : kp L_94039 f_94040 L_94039 f_94040 [h, q_93458, q_93480] := kp.rf
  refine pg_aast S Y (k := 3) p_q_93480 rfl p_q_94037 ok_X4.1 (by unfold vp_in; decide) dX10_init_164 (fun f_94056 H locs ef_94056 Y => ?_)
  obtain ⟨g_94055, eg_94055⟩ : ∃ z, z = va_up (g_94035) (16 : Int32).toNatClampNeg (some q_94037) := ⟨_, rfl⟩
  rw [← eg_94055] at ef_94056
  have p_h := p_h.up ef_94056 ((p_h.neA p_q_93480))
  have p_q_93458 := p_q_93458.up ef_94056 ((p_q_93458.neN p_q_93480 (by decide)))
  have p_q_94037 := p_q_94037.up ef_94056 ((p_q_94037.neA p_q_93480))
  have p_q_93480 := p_q_93480.me ef_94056
  have hk := hk.upN ef_94056 whkq_93480
  have hkI := hkI.up ef_94056 (by simp)
  have fam_pa := fam_s (i := 16) fam_pa eq10_48 eg_94055
  refine lv_iinc (v := 17) (lv' := [(1, .int 17), (0, .ref h)]) hx hb dX10_init_165 hl (k := 0) rfl (by decide) (by decide) rfl (fun ls hl => ?_)
  refine lv_goto (tgt := 146) hx hb dX10_init_168 (by decide) ?_
  refine lv_iload_n hx hb dX10_init_146 rfl (lv_at hl 0 rfl) ?_
  refine lv_bipush (v := 30) hx hb dX10_init_147 (by decide) ?_
  refine lv_icmp_ge (tgt := 171) hx hb dX10_init_149 (by decide) (fun h => absurd h (by decide)) (fun _ => ?_)
  refine lv_aload_n hx hb dX10_init_152 rfl (lv_at hl 1 rfl) ?_
  refine pg_get S Y ok_X10 4 (by decide) kf10_31 (v := .ref q_93480) p_h rfl dX10_init_153 ?_
  refine lv_iload_n hx hb dX10_init_156 rfl (lv_at hl 0 rfl) ?_
  refine pg_new S Y ok_X4 kc10_24 kn4 ki4 (fs := [.null, .null, .int 0, .int 0, .int 0, .int 0, .int 0]) (by decide) (by decide) (by decide) dX10_init_157 (fun q_94057 f_94058 H nq_94057 ef_94058 Y => ?_)
  have whkq_94057 := hk.notin nq_94057
  have hk := hk.push ef_94058 nq_94057
  have whkIq_94057 := hkI.notin nq_94057
  have hkI := hkI.push ef_94058 nq_94057
  have p_h := p_h.push ef_94058 nq_94057
  have p_q_93458 := p_q_93458.push ef_94058 nq_94057
  have p_q_93480 := p_q_93480.push ef_94058 nq_94057
  have p_q_94057 := pt.new (L := L_94039) ef_94058
  refine lv_dup hx hb dX10_init_160 rfl ?_
  refine cINv (b := q_94057) (As := []) (rest := [.ref q_94057, .int 17, .ref q_93480]) S Y (c_X4_init (l := l) p_q_94057) cw_X4_init km10_26 rfl ⟨Nat.le_of_ble_eq_true rfl, Nat.le_of_ble_eq_true rfl⟩ hl.1 rfl (Nat.le_of_ble_eq_true rfl) ⟨Nat.le_of_ble_eq_true rfl, Nat.le_of_ble_eq_true rfl⟩ dX10_init_161 (fun L_94059 f_94060 H locs hf_94060 Y => ?_)
  obtain ⟨a__94061, a__94062, kf_94060, z_z_94063, z_z_94064, z_z_94065, v_94066, v_94067⟩ := hf_94060
  have w_94068 := hk.notin v_94066
  have w_94069 := hkI.notin v_94066
  have w_94070 := hk.notin v_94067
  have w_94071 := hkI.notin v_94067
  have p_h := kf_94060.1 h _ (nmc (p_h.neK p_q_94057 (by decide)) nm0) p_h
  have p_q_93458 := kf_94060.1 q_93458 _ (nmc (p_q_93458.neB p_q_94057) nm0) p_q_93458
  have p_q_93480 := kf_94060.1 q_93480 _ (nmc (p_q_93480.neB p_q_94057) nm0) p_q_93480
  have p_q_94057 := z_z_94063
  have p_a__94061 := z_z_94064
  have p_a__94062 := z_z_94065
  have hk := hk.call kf_94060 (fun b hb hp => (nmc (neL hp whkq_94057) nm0))
  have hkI := hkI.call kf_94060 (fun b hb hp => (nmc (neL hp whkIq_94057) nm0))
  have nr_q_94057 : NRg gl_85 ad34 q_94057 := (SHC.nr I whkIq_94057)
  have nr_a__94061 : NRg gl_85 ad34 a__94061 := (SHC.nr I w_94069)
  have nr_a__94062 : NRg gl_85 ad34 a__94062 := (SHC.nr I w_94071)
  have I := I.kp hkI (allc nr_h (allc nr_q_93458 (allc nr_q_93480 all0)))
  have hkI : kp L_94059 f_94060 L_94059 f_94060 [h, q_93458, q_93480] := kp.rf
  obtain ⟨ad35, I, X_94072, Y_94073, Z_94074⟩ := SHC.led (l2 := gl_86) (n := 49) I rfl rfl rfl (by decide) rfl p_q_94057 p_a__94061 p_a__94062 nr_q_94057 nr_a__94061 nr_a__94062 
  have eq40_1 := (X_94072.2 40 1 (by decide)).trans eq40_1
  have eq41_1 := (X_94072.2 41 1 (by decide)).trans eq41_1
  have eq10_31 := (X_94072.2 10 31 (by decide)).trans eq10_31
  have eq20_5 := (X_94072.2 20 5 (by decide)).trans eq20_5
  have eq20_6 := (X_94072.2 20 6 (by decide)).trans eq20_6
  have eq20_7 := (X_94072.2 20 7 (by decide)).trans eq20_7
  have eq20_8 := (X_94072.2 20 8 (by decide)).trans eq20_8
  have eq20_9 := (X_94072.2 20 9 (by decide)).trans eq20_9
  have fam_sc := fam_x fam_sc X_94072 (by decide)
  have fam_pa := fam_x fam_pa X_94072 (by decide)
  have nr_h := Z_94074 _ nr_h (p_h.neK p_q_94057 (by decide)) (p_h.neA p_a__94061) (p_h.neA p_a__94062)
  have nr_q_93458 := Z_94074 _ nr_q_93458 (p_q_93458.neB p_q_94057) (p_q_93458.neN p_a__94061 (by decide)) (p_q_93458.neN p_a__94062 (by decide))
  have nr_q_93480 := Z_94074 _ nr_q_93480 (p_q_93480.neB p_q_94057) (p_q_93480.neN p_a__94061 (by decide)) (p_q_93480.neN p_a__94062 (by decide))
  have hout : ∀ x, x ∈ L → NRg gl_50 ad x → NRg gl_86 ad35 x := fun x hx hn => Z_94074 x (hout x hx hn) (fun e => whkq_94057 (by rw [← e]; exact hx)) (fun e => w_94068 (by rw [← e]; exact hx)) (fun e => w_94070 (by rw [← e]; exact hx))
  have hext := hext.tr X_94072
  have eq10_49 := Y_94073
  have hkI : kp L_94059 f_94060 L_94059 f_94060 [h, q_93458, q_93480] := kp.rf
  refine pg_aast S Y (k := 3) p_q_93480 rfl p_q_94057 ok_X4.1 (by unfold vp_in; decide) dX10_init_164 (fun f_94076 H locs ef_94076 Y => ?_)
  obtain ⟨g_94075, eg_94075⟩ : ∃ z, z = va_up (g_94055) (17 : Int32).toNatClampNeg (some q_94057) := ⟨_, rfl⟩
  rw [← eg_94075] at ef_94076
  have p_h := p_h.up ef_94076 ((p_h.neA p_q_93480))
  have p_q_93458 := p_q_93458.up ef_94076 ((p_q_93458.neN p_q_93480 (by decide)))
  have p_q_94057 := p_q_94057.up ef_94076 ((p_q_94057.neA p_q_93480))
  have p_q_93480 := p_q_93480.me ef_94076
  have hk := hk.upN ef_94076 whkq_93480
  have hkI := hkI.up ef_94076 (by simp)
  have fam_pa := fam_s (i := 17) fam_pa eq10_49 eg_94075
  refine lv_iinc (v := 18) (lv' := [(1, .int 18), (0, .ref h)]) hx hb dX10_init_165 hl (k := 0) rfl (by decide) (by decide) rfl (fun ls hl => ?_)
  refine lv_goto (tgt := 146) hx hb dX10_init_168 (by decide) ?_
  refine lv_iload_n hx hb dX10_init_146 rfl (lv_at hl 0 rfl) ?_
  refine lv_bipush (v := 30) hx hb dX10_init_147 (by decide) ?_
  refine lv_icmp_ge (tgt := 171) hx hb dX10_init_149 (by decide) (fun h => absurd h (by decide)) (fun _ => ?_)
  refine lv_aload_n hx hb dX10_init_152 rfl (lv_at hl 1 rfl) ?_
  refine pg_get S Y ok_X10 4 (by decide) kf10_31 (v := .ref q_93480) p_h rfl dX10_init_153 ?_
  refine lv_iload_n hx hb dX10_init_156 rfl (lv_at hl 0 rfl) ?_
  refine pg_new S Y ok_X4 kc10_24 kn4 ki4 (fs := [.null, .null, .int 0, .int 0, .int 0, .int 0, .int 0]) (by decide) (by decide) (by decide) dX10_init_157 (fun q_94077 f_94078 H nq_94077 ef_94078 Y => ?_)
  have whkq_94077 := hk.notin nq_94077
  have hk := hk.push ef_94078 nq_94077
  have whkIq_94077 := hkI.notin nq_94077
  have hkI := hkI.push ef_94078 nq_94077
  have p_h := p_h.push ef_94078 nq_94077
  have p_q_93458 := p_q_93458.push ef_94078 nq_94077
  have p_q_93480 := p_q_93480.push ef_94078 nq_94077
  have p_q_94077 := pt.new (L := L_94059) ef_94078
  refine lv_dup hx hb dX10_init_160 rfl ?_
  refine cINv (b := q_94077) (As := []) (rest := [.ref q_94077, .int 18, .ref q_93480]) S Y (c_X4_init (l := l) p_q_94077) cw_X4_init km10_26 rfl ⟨Nat.le_of_ble_eq_true rfl, Nat.le_of_ble_eq_true rfl⟩ hl.1 rfl (Nat.le_of_ble_eq_true rfl) ⟨Nat.le_of_ble_eq_true rfl, Nat.le_of_ble_eq_true rfl⟩ dX10_init_161 (fun L_94079 f_94080 H locs hf_94080 Y => ?_)
  obtain ⟨a__94081, a__94082, kf_94080, z_z_94083, z_z_94084, z_z_94085, v_94086, v_94087⟩ := hf_94080
  have w_94088 := hk.notin v_94086
  have w_94089 := hkI.notin v_94086
  have w_94090 := hk.notin v_94087
  have w_94091 := hkI.notin v_94087
  have p_h := kf_94080.1 h _ (nmc (p_h.neK p_q_94077 (by decide)) nm0) p_h
  have p_q_93458 := kf_94080.1 q_93458 _ (nmc (p_q_93458.neB p_q_94077) nm0) p_q_93458
  have p_q_93480 := kf_94080.1 q_93480 _ (nmc (p_q_93480.neB p_q_94077) nm0) p_q_93480
  have p_q_94077 := z_z_94083
  have p_a__94081 := z_z_94084
  have p_a__94082 := z_z_94085
  have hk := hk.call kf_94080 (fun b hb hp => (nmc (neL hp whkq_94077) nm0))
  have hkI := hkI.call kf_94080 (fun b hb hp => (nmc (neL hp whkIq_94077) nm0))
  have nr_q_94077 : NRg gl_86 ad35 q_94077 := (SHC.nr I whkIq_94077)
  have nr_a__94081 : NRg gl_86 ad35 a__94081 := (SHC.nr I w_94089)
  have nr_a__94082 : NRg gl_86 ad35 a__94082 := (SHC.nr I w_94091)
  have I := I.kp hkI (allc nr_h (allc nr_q_93458 (allc nr_q_93480 all0)))
  have hkI : kp L_94079 f_94080 L_94079 f_94080 [h, q_93458, q_93480] := kp.rf
  obtain ⟨ad36, I, X_94092, Y_94093, Z_94094⟩ := SHC.led (l2 := gl_87) (n := 50) I rfl rfl rfl (by decide) rfl p_q_94077 p_a__94081 p_a__94082 nr_q_94077 nr_a__94081 nr_a__94082 
  have eq40_1 := (X_94092.2 40 1 (by decide)).trans eq40_1
  have eq41_1 := (X_94092.2 41 1 (by decide)).trans eq41_1
  have eq10_31 := (X_94092.2 10 31 (by decide)).trans eq10_31
  have eq20_5 := (X_94092.2 20 5 (by decide)).trans eq20_5
  have eq20_6 := (X_94092.2 20 6 (by decide)).trans eq20_6
  have eq20_7 := (X_94092.2 20 7 (by decide)).trans eq20_7
  have eq20_8 := (X_94092.2 20 8 (by decide)).trans eq20_8
  have eq20_9 := (X_94092.2 20 9 (by decide)).trans eq20_9
  have fam_sc := fam_x fam_sc X_94092 (by decide)
  have fam_pa := fam_x fam_pa X_94092 (by decide)
  have nr_h := Z_94094 _ nr_h (p_h.neK p_q_94077 (by decide)) (p_h.neA p_a__94081) (p_h.neA p_a__94082)
  have nr_q_93458 := Z_94094 _ nr_q_93458 (p_q_93458.neB p_q_94077) (p_q_93458.neN p_a__94081 (by decide)) (p_q_93458.neN p_a__94082 (by decide))
  have nr_q_93480 := Z_94094 _ nr_q_93480 (p_q_93480.neB p_q_94077) (p_q_93480.neN p_a__94081 (by decide)) (p_q_93480.neN p_a__94082 (by decide))
  have hout : ∀ x, x ∈ L → NRg gl_50 ad x → NRg gl_87 ad36 x := fun x hx hn => Z_94094 x (hout x hx hn) (fun e => whkq_94077 (by rw [← e]; exact hx)) (fun e => w_94088 (by rw [← e]; exact hx)) (fun e => w_94090 (by rw [← e]; exact hx))
  have hext := hext.tr X_94092
  have eq10_50 := Y_94093
  have hkI : kp L_94079 f_94080 L_94079 f_94080 [h, q_93458, q_93480] := kp.rf
  refine pg_aast S Y (k := 3) p_q_93480 rfl p_q_94077 ok_X4.1 (by unfold vp_in; decide) dX10_init_164 (fun f_94096 H locs ef_94096 Y => ?_)
  obtain ⟨g_94095, eg_94095⟩ : ∃ z, z = va_up (g_94075) (18 : Int32).toNatClampNeg (some q_94077) := ⟨_, rfl⟩
  rw [← eg_94095] at ef_94096
  have p_h := p_h.up ef_94096 ((p_h.neA p_q_93480))
  have p_q_93458 := p_q_93458.up ef_94096 ((p_q_93458.neN p_q_93480 (by decide)))
  have p_q_94077 := p_q_94077.up ef_94096 ((p_q_94077.neA p_q_93480))
  have p_q_93480 := p_q_93480.me ef_94096
  have hk := hk.upN ef_94096 whkq_93480
  have hkI := hkI.up ef_94096 (by simp)
  have fam_pa := fam_s (i := 18) fam_pa eq10_50 eg_94095
  refine lv_iinc (v := 19) (lv' := [(1, .int 19), (0, .ref h)]) hx hb dX10_init_165 hl (k := 0) rfl (by decide) (by decide) rfl (fun ls hl => ?_)
  refine lv_goto (tgt := 146) hx hb dX10_init_168 (by decide) ?_
  refine lv_iload_n hx hb dX10_init_146 rfl (lv_at hl 0 rfl) ?_
  refine lv_bipush (v := 30) hx hb dX10_init_147 (by decide) ?_
  refine lv_icmp_ge (tgt := 171) hx hb dX10_init_149 (by decide) (fun h => absurd h (by decide)) (fun _ => ?_)
  refine lv_aload_n hx hb dX10_init_152 rfl (lv_at hl 1 rfl) ?_
  refine pg_get S Y ok_X10 4 (by decide) kf10_31 (v := .ref q_93480) p_h rfl dX10_init_153 ?_
  refine lv_iload_n hx hb dX10_init_156 rfl (lv_at hl 0 rfl) ?_
  refine pg_new S Y ok_X4 kc10_24 kn4 ki4 (fs := [.null, .null, .int 0, .int 0, .int 0, .int 0, .int 0]) (by decide) (by decide) (by decide) dX10_init_157 (fun q_94097 f_94098 H nq_94097 ef_94098 Y => ?_)
  have whkq_94097 := hk.notin nq_94097
  have hk := hk.push ef_94098 nq_94097
  have whkIq_94097 := hkI.notin nq_94097
  have hkI := hkI.push ef_94098 nq_94097
  have p_h := p_h.push ef_94098 nq_94097
  have p_q_93458 := p_q_93458.push ef_94098 nq_94097
  have p_q_93480 := p_q_93480.push ef_94098 nq_94097
  have p_q_94097 := pt.new (L := L_94079) ef_94098
  refine lv_dup hx hb dX10_init_160 rfl ?_
  refine cINv (b := q_94097) (As := []) (rest := [.ref q_94097, .int 19, .ref q_93480]) S Y (c_X4_init (l := l) p_q_94097) cw_X4_init km10_26 rfl ⟨Nat.le_of_ble_eq_true rfl, Nat.le_of_ble_eq_true rfl⟩ hl.1 rfl (Nat.le_of_ble_eq_true rfl) ⟨Nat.le_of_ble_eq_true rfl, Nat.le_of_ble_eq_true rfl⟩ dX10_init_161 (fun L_94099 f_94100 H locs hf_94100 Y => ?_)
  obtain ⟨a__94101, a__94102, kf_94100, z_z_94103, z_z_94104, z_z_94105, v_94106, v_94107⟩ := hf_94100
  have w_94108 := hk.notin v_94106
  have w_94109 := hkI.notin v_94106
  have w_94110 := hk.notin v_94107
  have w_94111 := hkI.notin v_94107
  have p_h := kf_94100.1 h _ (nmc (p_h.neK p_q_94097 (by decide)) nm0) p_h
  have p_q_93458 := kf_94100.1 q_93458 _ (nmc (p_q_93458.neB p_q_94097) nm0) p_q_93458
  have p_q_93480 := kf_94100.1 q_93480 _ (nmc (p_q_93480.neB p_q_94097) nm0) p_q_93480
  have p_q_94097 := z_z_94103
  have p_a__94101 := z_z_94104
  have p_a__94102 := z_z_94105
  have hk := hk.call kf_94100 (fun b hb hp => (nmc (neL hp whkq_94097) nm0))
  have hkI := hkI.call kf_94100 (fun b hb hp => (nmc (neL hp whkIq_94097) nm0))
  have nr_q_94097 : NRg gl_87 ad36 q_94097 := (SHC.nr I whkIq_94097)
  have nr_a__94101 : NRg gl_87 ad36 a__94101 := (SHC.nr I w_94109)
  have nr_a__94102 : NRg gl_87 ad36 a__94102 := (SHC.nr I w_94111)
  have I := I.kp hkI (allc nr_h (allc nr_q_93458 (allc nr_q_93480 all0)))
  have hkI : kp L_94099 f_94100 L_94099 f_94100 [h, q_93458, q_93480] := kp.rf
  obtain ⟨ad37, I, X_94112, Y_94113, Z_94114⟩ := SHC.led (l2 := gl_88) (n := 51) I rfl rfl rfl (by decide) rfl p_q_94097 p_a__94101 p_a__94102 nr_q_94097 nr_a__94101 nr_a__94102 
  have eq40_1 := (X_94112.2 40 1 (by decide)).trans eq40_1
  have eq41_1 := (X_94112.2 41 1 (by decide)).trans eq41_1
  have eq10_31 := (X_94112.2 10 31 (by decide)).trans eq10_31
  have eq20_5 := (X_94112.2 20 5 (by decide)).trans eq20_5
  have eq20_6 := (X_94112.2 20 6 (by decide)).trans eq20_6
  have eq20_7 := (X_94112.2 20 7 (by decide)).trans eq20_7
  have eq20_8 := (X_94112.2 20 8 (by decide)).trans eq20_8
  have eq20_9 := (X_94112.2 20 9 (by decide)).trans eq20_9
  have fam_sc := fam_x fam_sc X_94112 (by decide)
  have fam_pa := fam_x fam_pa X_94112 (by decide)
  have nr_h := Z_94114 _ nr_h (p_h.neK p_q_94097 (by decide)) (p_h.neA p_a__94101) (p_h.neA p_a__94102)
  have nr_q_93458 := Z_94114 _ nr_q_93458 (p_q_93458.neB p_q_94097) (p_q_93458.neN p_a__94101 (by decide)) (p_q_93458.neN p_a__94102 (by decide))
  have nr_q_93480 := Z_94114 _ nr_q_93480 (p_q_93480.neB p_q_94097) (p_q_93480.neN p_a__94101 (by decide)) (p_q_93480.neN p_a__94102 (by decide))
  have hout : ∀ x, x ∈ L → NRg gl_50 ad x → NRg gl_88 ad37 x := fun x hx hn => Z_94114 x (hout x hx hn) (fun e => whkq_94097 (by rw [← e]; exact hx)) (fun e => w_94108 (by rw [← e]; exact hx)) (fun e => w_94110 (by rw [← e]; exact hx))
  have hext := hext.tr X_94112
  have eq10_51 := Y_94113
  have hkI : kp L_94099 f_94100 L_94099 f_94100 [h, q_93458, q_93480] := kp.rf
  refine pg_aast S Y (k := 3) p_q_93480 rfl p_q_94097 ok_X4.1 (by unfold vp_in; decide) dX10_init_164 (fun f_94116 H locs ef_94116 Y => ?_)
  obtain ⟨g_94115, eg_94115⟩ : ∃ z, z = va_up (g_94095) (19 : Int32).toNatClampNeg (some q_94097) := ⟨_, rfl⟩
  rw [← eg_94115] at ef_94116
  have p_h := p_h.up ef_94116 ((p_h.neA p_q_93480))
  have p_q_93458 := p_q_93458.up ef_94116 ((p_q_93458.neN p_q_93480 (by decide)))
  have p_q_94097 := p_q_94097.up ef_94116 ((p_q_94097.neA p_q_93480))
  have p_q_93480 := p_q_93480.me ef_94116
  have hk := hk.upN ef_94116 whkq_93480
  have hkI := hkI.up ef_94116 (by simp)
  have fam_pa := fam_s (i := 19) fam_pa eq10_51 eg_94115
  refine lv_iinc (v := 20) (lv' := [(1, .int 20), (0, .ref h)]) hx hb dX10_init_165 hl (k := 0) rfl (by decide) (by decide) rfl (fun ls hl => ?_)
  refine lv_goto (tgt := 146) hx hb dX10_init_168 (by decide) ?_
  refine lv_iload_n hx hb dX10_init_146 rfl (lv_at hl 0 rfl) ?_
  refine lv_bipush (v := 30) hx hb dX10_init_147 (by decide) ?_
  refine lv_icmp_ge (tgt := 171) hx hb dX10_init_149 (by decide) (fun h => absurd h (by decide)) (fun _ => ?_)
  refine lv_aload_n hx hb dX10_init_152 rfl (lv_at hl 1 rfl) ?_
  refine pg_get S Y ok_X10 4 (by decide) kf10_31 (v := .ref q_93480) p_h rfl dX10_init_153 ?_
  refine lv_iload_n hx hb dX10_init_156 rfl (lv_at hl 0 rfl) ?_
  refine pg_new S Y ok_X4 kc10_24 kn4 ki4 (fs := [.null, .null, .int 0, .int 0, .int 0, .int 0, .int 0]) (by decide) (by decide) (by decide) dX10_init_157 (fun q_94117 f_94118 H nq_94117 ef_94118 Y => ?_)
  have whkq_94117 := hk.notin nq_94117
  have hk := hk.push ef_94118 nq_94117
  have whkIq_94117 := hkI.notin nq_94117
  have hkI := hkI.push ef_94118 nq_94117
  have p_h := p_h.push ef_94118 nq_94117
  have p_q_93458 := p_q_93458.push ef_94118 nq_94117
  have p_q_93480 := p_q_93480.push ef_94118 nq_94117
  have p_q_94117 := pt.new (L := L_94099) ef_94118
  refine lv_dup hx hb dX10_init_160 rfl ?_
  refine cINv (b := q_94117) (As := []) (rest := [.ref q_94117, .int 20, .ref q_93480]) S Y (c_X4_init (l := l) p_q_94117) cw_X4_init km10_26 rfl ⟨Nat.le_of_ble_eq_true rfl, Nat.le_of_ble_eq_true rfl⟩ hl.1 rfl (Nat.le_of_ble_eq_true rfl) ⟨Nat.le_of_ble_eq_true rfl, Nat.le_of_ble_eq_true rfl⟩ dX10_init_161 (fun L_94119 f_94120 H locs hf_94120 Y => ?_)
  obtain ⟨a__94121, a__94122, kf_94120, z_z_94123, z_z_94124, z_z_94125, v_94126, v_94127⟩ := hf_94120
  have w_94128 := hk.notin v_94126
  have w_94129 := hkI.notin v_94126
  have w_94130 := hk.notin v_94127
  have w_94131 := hkI.notin v_94127
  have p_h := kf_94120.1 h _ (nmc (p_h.neK p_q_94117 (by decide)) nm0) p_h
  have p_q_93458 := kf_94120.1 q_93458 _ (nmc (p_q_93458.neB p_q_94117) nm0) p_q_93458
  have p_q_93480 := kf_94120.1 q_93480 _ (nmc (p_q_93480.neB p_q_94117) nm0) p_q_93480
  have p_q_94117 := z_z_94123
  have p_a__94121 := z_z_94124
  have p_a__94122 := z_z_94125
  have hk := hk.call kf_94120 (fun b hb hp => (nmc (neL hp whkq_94117) nm0))
  have hkI := hkI.call kf_94120 (fun b hb hp => (nmc (neL hp whkIq_94117) nm0))
  have nr_q_94117 : NRg gl_88 ad37 q_94117 := (SHC.nr I whkIq_94117)
  have nr_a__94121 : NRg gl_88 ad37 a__94121 := (SHC.nr I w_94129)
  have nr_a__94122 : NRg gl_88 ad37 a__94122 := (SHC.nr I w_94131)
  have I := I.kp hkI (allc nr_h (allc nr_q_93458 (allc nr_q_93480 all0)))
  have hkI : kp L_94119 f_94120 L_94119 f_94120 [h, q_93458, q_93480] := kp.rf
  obtain ⟨ad38, I, X_94132, Y_94133, Z_94134⟩ := SHC.led (l2 := gl_89) (n := 52) I rfl rfl rfl (by decide) rfl p_q_94117 p_a__94121 p_a__94122 nr_q_94117 nr_a__94121 nr_a__94122 
  have eq40_1 := (X_94132.2 40 1 (by decide)).trans eq40_1
  have eq41_1 := (X_94132.2 41 1 (by decide)).trans eq41_1
  have eq10_31 := (X_94132.2 10 31 (by decide)).trans eq10_31
  have eq20_5 := (X_94132.2 20 5 (by decide)).trans eq20_5
  have eq20_6 := (X_94132.2 20 6 (by decide)).trans eq20_6
  have eq20_7 := (X_94132.2 20 7 (by decide)).trans eq20_7
  have eq20_8 := (X_94132.2 20 8 (by decide)).trans eq20_8
  have eq20_9 := (X_94132.2 20 9 (by decide)).trans eq20_9
  have fam_sc := fam_x fam_sc X_94132 (by decide)
  have fam_pa := fam_x fam_pa X_94132 (by decide)
  have nr_h := Z_94134 _ nr_h (p_h.neK p_q_94117 (by decide)) (p_h.neA p_a__94121) (p_h.neA p_a__94122)
  have nr_q_93458 := Z_94134 _ nr_q_93458 (p_q_93458.neB p_q_94117) (p_q_93458.neN p_a__94121 (by decide)) (p_q_93458.neN p_a__94122 (by decide))
  have nr_q_93480 := Z_94134 _ nr_q_93480 (p_q_93480.neB p_q_94117) (p_q_93480.neN p_a__94121 (by decide)) (p_q_93480.neN p_a__94122 (by decide))
  have hout : ∀ x, x ∈ L → NRg gl_50 ad x → NRg gl_89 ad38 x := fun x hx hn => Z_94134 x (hout x hx hn) (fun e => whkq_94117 (by rw [← e]; exact hx)) (fun e => w_94128 (by rw [← e]; exact hx)) (fun e => w_94130 (by rw [← e]; exact hx))
  have hext := hext.tr X_94132
  have eq10_52 := Y_94133
  have hkI : kp L_94119 f_94120 L_94119 f_94120 [h, q_93458, q_93480] := kp.rf
  refine pg_aast S Y (k := 3) p_q_93480 rfl p_q_94117 ok_X4.1 (by unfold vp_in; decide) dX10_init_164 (fun f_94136 H locs ef_94136 Y => ?_)
  obtain ⟨g_94135, eg_94135⟩ : ∃ z, z = va_up (g_94115) (20 : Int32).toNatClampNeg (some q_94117) := ⟨_, rfl⟩
  rw [← eg_94135] at ef_94136
  have p_h := p_h.up ef_94136 ((p_h.neA p_q_93480))
  have p_q_93458 := p_q_93458.up ef_94136 ((p_q_93458.neN p_q_93480 (by decide)))
  have p_q_94117 := p_q_94117.up ef_94136 ((p_q_94117.neA p_q_93480))
  have p_q_93480 := p_q_93480.me ef_94136
  have hk := hk.upN ef_94136 whkq_93480
  have hkI := hkI.up ef_94136 (by simp)
  have fam_pa := fam_s (i := 20) fam_pa eq10_52 eg_94135
  refine lv_iinc (v := 21) (lv' := [(1, .int 21), (0, .ref h)]) hx hb dX10_init_165 hl (k := 0) rfl (by decide) (by decide) rfl (fun ls hl => ?_)
  refine lv_goto (tgt := 146) hx hb dX10_init_168 (by decide) ?_
  refine lv_iload_n hx hb dX10_init_146 rfl (lv_at hl 0 rfl) ?_
  refine lv_bipush (v := 30) hx hb dX10_init_147 (by decide) ?_
  refine lv_icmp_ge (tgt := 171) hx hb dX10_init_149 (by decide) (fun h => absurd h (by decide)) (fun _ => ?_)
  refine lv_aload_n hx hb dX10_init_152 rfl (lv_at hl 1 rfl) ?_
  refine pg_get S Y ok_X10 4 (by decide) kf10_31 (v := .ref q_93480) p_h rfl dX10_init_153 ?_
  refine lv_iload_n hx hb dX10_init_156 rfl (lv_at hl 0 rfl) ?_
  refine pg_new S Y ok_X4 kc10_24 kn4 ki4 (fs := [.null, .null, .int 0, .int 0, .int 0, .int 0, .int 0]) (by decide) (by decide) (by decide) dX10_init_157 (fun q_94137 f_94138 H nq_94137 ef_94138 Y => ?_)
  have whkq_94137 := hk.notin nq_94137
  have hk := hk.push ef_94138 nq_94137
  have whkIq_94137 := hkI.notin nq_94137
  have hkI := hkI.push ef_94138 nq_94137
  have p_h := p_h.push ef_94138 nq_94137
  have p_q_93458 := p_q_93458.push ef_94138 nq_94137
  have p_q_93480 := p_q_93480.push ef_94138 nq_94137
  have p_q_94137 := pt.new (L := L_94119) ef_94138
  refine lv_dup hx hb dX10_init_160 rfl ?_
  refine cINv (b := q_94137) (As := []) (rest := [.ref q_94137, .int 21, .ref q_93480]) S Y (c_X4_init (l := l) p_q_94137) cw_X4_init km10_26 rfl ⟨Nat.le_of_ble_eq_true rfl, Nat.le_of_ble_eq_true rfl⟩ hl.1 rfl (Nat.le_of_ble_eq_true rfl) ⟨Nat.le_of_ble_eq_true rfl, Nat.le_of_ble_eq_true rfl⟩ dX10_init_161 (fun L_94139 f_94140 H locs hf_94140 Y => ?_)
  obtain ⟨a__94141, a__94142, kf_94140, z_z_94143, z_z_94144, z_z_94145, v_94146, v_94147⟩ := hf_94140
  have w_94148 := hk.notin v_94146
  have w_94149 := hkI.notin v_94146
  have w_94150 := hk.notin v_94147
  have w_94151 := hkI.notin v_94147
  have p_h := kf_94140.1 h _ (nmc (p_h.neK p_q_94137 (by decide)) nm0) p_h
  have p_q_93458 := kf_94140.1 q_93458 _ (nmc (p_q_93458.neB p_q_94137) nm0) p_q_93458
  have p_q_93480 := kf_94140.1 q_93480 _ (nmc (p_q_93480.neB p_q_94137) nm0) p_q_93480
  have p_q_94137 := z_z_94143
  have p_a__94141 := z_z_94144
  have p_a__94142 := z_z_94145
  have hk := hk.call kf_94140 (fun b hb hp => (nmc (neL hp whkq_94137) nm0))
  have hkI := hkI.call kf_94140 (fun b hb hp => (nmc (neL hp whkIq_94137) nm0))
  have nr_q_94137 : NRg gl_89 ad38 q_94137 := (SHC.nr I whkIq_94137)
  have nr_a__94141 : NRg gl_89 ad38 a__94141 := (SHC.nr I w_94149)
  have nr_a__94142 : NRg gl_89 ad38 a__94142 := (SHC.nr I w_94151)
  have I := I.kp hkI (allc nr_h (allc nr_q_93458 (allc nr_q_93480 all0)))
  have hkI : kp L_94139 f_94140 L_94139 f_94140 [h, q_93458, q_93480] := kp.rf
  obtain ⟨ad39, I, X_94152, Y_94153, Z_94154⟩ := SHC.led (l2 := gl_90) (n := 53) I rfl rfl rfl (by decide) rfl p_q_94137 p_a__94141 p_a__94142 nr_q_94137 nr_a__94141 nr_a__94142 
  have eq40_1 := (X_94152.2 40 1 (by decide)).trans eq40_1
  have eq41_1 := (X_94152.2 41 1 (by decide)).trans eq41_1
  have eq10_31 := (X_94152.2 10 31 (by decide)).trans eq10_31
  have eq20_5 := (X_94152.2 20 5 (by decide)).trans eq20_5
  have eq20_6 := (X_94152.2 20 6 (by decide)).trans eq20_6
  have eq20_7 := (X_94152.2 20 7 (by decide)).trans eq20_7
  have eq20_8 := (X_94152.2 20 8 (by decide)).trans eq20_8
  have eq20_9 := (X_94152.2 20 9 (by decide)).trans eq20_9
  have fam_sc := fam_x fam_sc X_94152 (by decide)
  have fam_pa := fam_x fam_pa X_94152 (by decide)
  have nr_h := Z_94154 _ nr_h (p_h.neK p_q_94137 (by decide)) (p_h.neA p_a__94141) (p_h.neA p_a__94142)
  have nr_q_93458 := Z_94154 _ nr_q_93458 (p_q_93458.neB p_q_94137) (p_q_93458.neN p_a__94141 (by decide)) (p_q_93458.neN p_a__94142 (by decide))
  have nr_q_93480 := Z_94154 _ nr_q_93480 (p_q_93480.neB p_q_94137) (p_q_93480.neN p_a__94141 (by decide)) (p_q_93480.neN p_a__94142 (by decide))
  have hout : ∀ x, x ∈ L → NRg gl_50 ad x → NRg gl_90 ad39 x := fun x hx hn => Z_94154 x (hout x hx hn) (fun e => whkq_94137 (by rw [← e]; exact hx)) (fun e => w_94148 (by rw [← e]; exact hx)) (fun e => w_94150 (by rw [← e]; exact hx))
  have hext := hext.tr X_94152
  have eq10_53 := Y_94153
  have hkI : kp L_94139 f_94140 L_94139 f_94140 [h, q_93458, q_93480] := kp.rf
  refine pg_aast S Y (k := 3) p_q_93480 rfl p_q_94137 ok_X4.1 (by unfold vp_in; decide) dX10_init_164 (fun f_94156 H locs ef_94156 Y => ?_)
  obtain ⟨g_94155, eg_94155⟩ : ∃ z, z = va_up (g_94135) (21 : Int32).toNatClampNeg (some q_94137) := ⟨_, rfl⟩
  rw [← eg_94155] at ef_94156
  have p_h := p_h.up ef_94156 ((p_h.neA p_q_93480))
  have p_q_93458 := p_q_93458.up ef_94156 ((p_q_93458.neN p_q_93480 (by decide)))
  have p_q_94137 := p_q_94137.up ef_94156 ((p_q_94137.neA p_q_93480))
  have p_q_93480 := p_q_93480.me ef_94156
  have hk := hk.upN ef_94156 whkq_93480
  have hkI := hkI.up ef_94156 (by simp)
  have fam_pa := fam_s (i := 21) fam_pa eq10_53 eg_94155
  refine lv_iinc (v := 22) (lv' := [(1, .int 22), (0, .ref h)]) hx hb dX10_init_165 hl (k := 0) rfl (by decide) (by decide) rfl (fun ls hl => ?_)
  refine lv_goto (tgt := 146) hx hb dX10_init_168 (by decide) ?_
  refine lv_iload_n hx hb dX10_init_146 rfl (lv_at hl 0 rfl) ?_
  refine lv_bipush (v := 30) hx hb dX10_init_147 (by decide) ?_
  refine lv_icmp_ge (tgt := 171) hx hb dX10_init_149 (by decide) (fun h => absurd h (by decide)) (fun _ => ?_)
  refine lv_aload_n hx hb dX10_init_152 rfl (lv_at hl 1 rfl) ?_
  refine pg_get S Y ok_X10 4 (by decide) kf10_31 (v := .ref q_93480) p_h rfl dX10_init_153 ?_
  refine lv_iload_n hx hb dX10_init_156 rfl (lv_at hl 0 rfl) ?_
  refine pg_new S Y ok_X4 kc10_24 kn4 ki4 (fs := [.null, .null, .int 0, .int 0, .int 0, .int 0, .int 0]) (by decide) (by decide) (by decide) dX10_init_157 (fun q_94157 f_94158 H nq_94157 ef_94158 Y => ?_)
  have whkq_94157 := hk.notin nq_94157
  have hk := hk.push ef_94158 nq_94157
  have whkIq_94157 := hkI.notin nq_94157
  have hkI := hkI.push ef_94158 nq_94157
  have p_h := p_h.push ef_94158 nq_94157
  have p_q_93458 := p_q_93458.push ef_94158 nq_94157
  have p_q_93480 := p_q_93480.push ef_94158 nq_94157
  have p_q_94157 := pt.new (L := L_94139) ef_94158
  refine lv_dup hx hb dX10_init_160 rfl ?_
  refine cINv (b := q_94157) (As := []) (rest := [.ref q_94157, .int 22, .ref q_93480]) S Y (c_X4_init (l := l) p_q_94157) cw_X4_init km10_26 rfl ⟨Nat.le_of_ble_eq_true rfl, Nat.le_of_ble_eq_true rfl⟩ hl.1 rfl (Nat.le_of_ble_eq_true rfl) ⟨Nat.le_of_ble_eq_true rfl, Nat.le_of_ble_eq_true rfl⟩ dX10_init_161 (fun L_94159 f_94160 H locs hf_94160 Y => ?_)
  obtain ⟨a__94161, a__94162, kf_94160, z_z_94163, z_z_94164, z_z_94165, v_94166, v_94167⟩ := hf_94160
  have w_94168 := hk.notin v_94166
  have w_94169 := hkI.notin v_94166
  have w_94170 := hk.notin v_94167
  have w_94171 := hkI.notin v_94167
  have p_h := kf_94160.1 h _ (nmc (p_h.neK p_q_94157 (by decide)) nm0) p_h
  have p_q_93458 := kf_94160.1 q_93458 _ (nmc (p_q_93458.neB p_q_94157) nm0) p_q_93458
  have p_q_93480 := kf_94160.1 q_93480 _ (nmc (p_q_93480.neB p_q_94157) nm0) p_q_93480
  have p_q_94157 := z_z_94163
  have p_a__94161 := z_z_94164
  have p_a__94162 := z_z_94165
  have hk := hk.call kf_94160 (fun b hb hp => (nmc (neL hp whkq_94157) nm0))
  have hkI := hkI.call kf_94160 (fun b hb hp => (nmc (neL hp whkIq_94157) nm0))
  have nr_q_94157 : NRg gl_90 ad39 q_94157 := (SHC.nr I whkIq_94157)
  have nr_a__94161 : NRg gl_90 ad39 a__94161 := (SHC.nr I w_94169)
  have nr_a__94162 : NRg gl_90 ad39 a__94162 := (SHC.nr I w_94171)
  have I := I.kp hkI (allc nr_h (allc nr_q_93458 (allc nr_q_93480 all0)))
  have hkI : kp L_94159 f_94160 L_94159 f_94160 [h, q_93458, q_93480] := kp.rf
  obtain ⟨ad40, I, X_94172, Y_94173, Z_94174⟩ := SHC.led (l2 := gl_91) (n := 54) I rfl rfl rfl (by decide) rfl p_q_94157 p_a__94161 p_a__94162 nr_q_94157 nr_a__94161 nr_a__94162 
  have eq40_1 := (X_94172.2 40 1 (by decide)).trans eq40_1
  have eq41_1 := (X_94172.2 41 1 (by decide)).trans eq41_1
  have eq10_31 := (X_94172.2 10 31 (by decide)).trans eq10_31
  have eq20_5 := (X_94172.2 20 5 (by decide)).trans eq20_5
  have eq20_6 := (X_94172.2 20 6 (by decide)).trans eq20_6
  have eq20_7 := (X_94172.2 20 7 (by decide)).trans eq20_7
  have eq20_8 := (X_94172.2 20 8 (by decide)).trans eq20_8
  have eq20_9 := (X_94172.2 20 9 (by decide)).trans eq20_9
  have fam_sc := fam_x fam_sc X_94172 (by decide)
  have fam_pa := fam_x fam_pa X_94172 (by decide)
  have nr_h := Z_94174 _ nr_h (p_h.neK p_q_94157 (by decide)) (p_h.neA p_a__94161) (p_h.neA p_a__94162)
  have nr_q_93458 := Z_94174 _ nr_q_93458 (p_q_93458.neB p_q_94157) (p_q_93458.neN p_a__94161 (by decide)) (p_q_93458.neN p_a__94162 (by decide))
  have nr_q_93480 := Z_94174 _ nr_q_93480 (p_q_93480.neB p_q_94157) (p_q_93480.neN p_a__94161 (by decide)) (p_q_93480.neN p_a__94162 (by decide))
  have hout : ∀ x, x ∈ L → NRg gl_50 ad x → NRg gl_91 ad40 x := fun x hx hn => Z_94174 x (hout x hx hn) (fun e => whkq_94157 (by rw [← e]; exact hx)) (fun e => w_94168 (by rw [← e]; exact hx)) (fun e => w_94170 (by rw [← e]; exact hx))
  have hext := hext.tr X_94172
  have eq10_54 := Y_94173
  have hkI : kp L_94159 f_94160 L_94159 f_94160 [h, q_93458, q_93480] := kp.rf
  refine pg_aast S Y (k := 3) p_q_93480 rfl p_q_94157 ok_X4.1 (by unfold vp_in; decide) dX10_init_164 (fun f_94176 H locs ef_94176 Y => ?_)
  obtain ⟨g_94175, eg_94175⟩ : ∃ z, z = va_up (g_94155) (22 : Int32).toNatClampNeg (some q_94157) := ⟨_, rfl⟩
  rw [← eg_94175] at ef_94176
  have p_h := p_h.up ef_94176 ((p_h.neA p_q_93480))
  have p_q_93458 := p_q_93458.up ef_94176 ((p_q_93458.neN p_q_93480 (by decide)))
  have p_q_94157 := p_q_94157.up ef_94176 ((p_q_94157.neA p_q_93480))
  have p_q_93480 := p_q_93480.me ef_94176
  have hk := hk.upN ef_94176 whkq_93480
  have hkI := hkI.up ef_94176 (by simp)
  have fam_pa := fam_s (i := 22) fam_pa eq10_54 eg_94175
  refine lv_iinc (v := 23) (lv' := [(1, .int 23), (0, .ref h)]) hx hb dX10_init_165 hl (k := 0) rfl (by decide) (by decide) rfl (fun ls hl => ?_)
  refine lv_goto (tgt := 146) hx hb dX10_init_168 (by decide) ?_
  refine lv_iload_n hx hb dX10_init_146 rfl (lv_at hl 0 rfl) ?_
  refine lv_bipush (v := 30) hx hb dX10_init_147 (by decide) ?_
  refine lv_icmp_ge (tgt := 171) hx hb dX10_init_149 (by decide) (fun h => absurd h (by decide)) (fun _ => ?_)
  refine lv_aload_n hx hb dX10_init_152 rfl (lv_at hl 1 rfl) ?_
  refine pg_get S Y ok_X10 4 (by decide) kf10_31 (v := .ref q_93480) p_h rfl dX10_init_153 ?_
  refine lv_iload_n hx hb dX10_init_156 rfl (lv_at hl 0 rfl) ?_
  refine pg_new S Y ok_X4 kc10_24 kn4 ki4 (fs := [.null, .null, .int 0, .int 0, .int 0, .int 0, .int 0]) (by decide) (by decide) (by decide) dX10_init_157 (fun q_94177 f_94178 H nq_94177 ef_94178 Y => ?_)
  have whkq_94177 := hk.notin nq_94177
  have hk := hk.push ef_94178 nq_94177
  have whkIq_94177 := hkI.notin nq_94177
  have hkI := hkI.push ef_94178 nq_94177
  have p_h := p_h.push ef_94178 nq_94177
  have p_q_93458 := p_q_93458.push ef_94178 nq_94177
  have p_q_93480 := p_q_93480.push ef_94178 nq_94177
  have p_q_94177 := pt.new (L := L_94159) ef_94178
  refine lv_dup hx hb dX10_init_160 rfl ?_
  refine cINv (b := q_94177) (As := []) (rest := [.ref q_94177, .int 23, .ref q_93480]) S Y (c_X4_init (l := l) p_q_94177) cw_X4_init km10_26 rfl ⟨Nat.le_of_ble_eq_true rfl, Nat.le_of_ble_eq_true rfl⟩ hl.1 rfl (Nat.le_of_ble_eq_true rfl) ⟨Nat.le_of_ble_eq_true rfl, Nat.le_of_ble_eq_true rfl⟩ dX10_init_161 (fun L_94179 f_94180 H locs hf_94180 Y => ?_)
  obtain ⟨a__94181, a__94182, kf_94180, z_z_94183, z_z_94184, z_z_94185, v_94186, v_94187⟩ := hf_94180
  have w_94188 := hk.notin v_94186
  have w_94189 := hkI.notin v_94186
  have w_94190 := hk.notin v_94187
  have w_94191 := hkI.notin v_94187
  have p_h := kf_94180.1 h _ (nmc (p_h.neK p_q_94177 (by decide)) nm0) p_h
  have p_q_93458 := kf_94180.1 q_93458 _ (nmc (p_q_93458.neB p_q_94177) nm0) p_q_93458
  have p_q_93480 := kf_94180.1 q_93480 _ (nmc (p_q_93480.neB p_q_94177) nm0) p_q_93480
  have p_q_94177 := z_z_94183
  have p_a__94181 := z_z_94184
  have p_a__94182 := z_z_94185
  have hk := hk.call kf_94180 (fun b hb hp => (nmc (neL hp whkq_94177) nm0))
  have hkI := hkI.call kf_94180 (fun b hb hp => (nmc (neL hp whkIq_94177) nm0))
  have nr_q_94177 : NRg gl_91 ad40 q_94177 := (SHC.nr I whkIq_94177)
  have nr_a__94181 : NRg gl_91 ad40 a__94181 := (SHC.nr I w_94189)
  have nr_a__94182 : NRg gl_91 ad40 a__94182 := (SHC.nr I w_94191)
  have I := I.kp hkI (allc nr_h (allc nr_q_93458 (allc nr_q_93480 all0)))
  have hkI : kp L_94179 f_94180 L_94179 f_94180 [h, q_93458, q_93480] := kp.rf
  obtain ⟨ad41, I, X_94192, Y_94193, Z_94194⟩ := SHC.led (l2 := gl_92) (n := 55) I rfl rfl rfl (by decide) rfl p_q_94177 p_a__94181 p_a__94182 nr_q_94177 nr_a__94181 nr_a__94182 
  have eq40_1 := (X_94192.2 40 1 (by decide)).trans eq40_1
  have eq41_1 := (X_94192.2 41 1 (by decide)).trans eq41_1
  have eq10_31 := (X_94192.2 10 31 (by decide)).trans eq10_31
  have eq20_5 := (X_94192.2 20 5 (by decide)).trans eq20_5
  have eq20_6 := (X_94192.2 20 6 (by decide)).trans eq20_6
  have eq20_7 := (X_94192.2 20 7 (by decide)).trans eq20_7
  have eq20_8 := (X_94192.2 20 8 (by decide)).trans eq20_8
  have eq20_9 := (X_94192.2 20 9 (by decide)).trans eq20_9
  have fam_sc := fam_x fam_sc X_94192 (by decide)
  have fam_pa := fam_x fam_pa X_94192 (by decide)
  have nr_h := Z_94194 _ nr_h (p_h.neK p_q_94177 (by decide)) (p_h.neA p_a__94181) (p_h.neA p_a__94182)
  have nr_q_93458 := Z_94194 _ nr_q_93458 (p_q_93458.neB p_q_94177) (p_q_93458.neN p_a__94181 (by decide)) (p_q_93458.neN p_a__94182 (by decide))
  have nr_q_93480 := Z_94194 _ nr_q_93480 (p_q_93480.neB p_q_94177) (p_q_93480.neN p_a__94181 (by decide)) (p_q_93480.neN p_a__94182 (by decide))
  have hout : ∀ x, x ∈ L → NRg gl_50 ad x → NRg gl_92 ad41 x := fun x hx hn => Z_94194 x (hout x hx hn) (fun e => whkq_94177 (by rw [← e]; exact hx)) (fun e => w_94188 (by rw [← e]; exact hx)) (fun e => w_94190 (by rw [← e]; exact hx))
  have hext := hext.tr X_94192
  have eq10_55 := Y_94193
  have hkI : kp L_94179 f_94180 L_94179 f_94180 [h, q_93458, q_93480] := kp.rf
  refine pg_aast S Y (k := 3) p_q_93480 rfl p_q_94177 ok_X4.1 (by unfold vp_in; decide) dX10_init_164 (fun f_94196 H locs ef_94196 Y => ?_)
  obtain ⟨g_94195, eg_94195⟩ : ∃ z, z = va_up (g_94175) (23 : Int32).toNatClampNeg (some q_94177) := ⟨_, rfl⟩
  rw [← eg_94195] at ef_94196
  have p_h := p_h.up ef_94196 ((p_h.neA p_q_93480))
  have p_q_93458 := p_q_93458.up ef_94196 ((p_q_93458.neN p_q_93480 (by decide)))
  have p_q_94177 := p_q_94177.up ef_94196 ((p_q_94177.neA p_q_93480))
  have p_q_93480 := p_q_93480.me ef_94196
  have hk := hk.upN ef_94196 whkq_93480
  have hkI := hkI.up ef_94196 (by simp)
  have fam_pa := fam_s (i := 23) fam_pa eq10_55 eg_94195
  refine lv_iinc (v := 24) (lv' := [(1, .int 24), (0, .ref h)]) hx hb dX10_init_165 hl (k := 0) rfl (by decide) (by decide) rfl (fun ls hl => ?_)
  refine lv_goto (tgt := 146) hx hb dX10_init_168 (by decide) ?_
  refine lv_iload_n hx hb dX10_init_146 rfl (lv_at hl 0 rfl) ?_
  refine lv_bipush (v := 30) hx hb dX10_init_147 (by decide) ?_
  refine lv_icmp_ge (tgt := 171) hx hb dX10_init_149 (by decide) (fun h => absurd h (by decide)) (fun _ => ?_)
  refine lv_aload_n hx hb dX10_init_152 rfl (lv_at hl 1 rfl) ?_
  refine pg_get S Y ok_X10 4 (by decide) kf10_31 (v := .ref q_93480) p_h rfl dX10_init_153 ?_
  refine lv_iload_n hx hb dX10_init_156 rfl (lv_at hl 0 rfl) ?_
  refine pg_new S Y ok_X4 kc10_24 kn4 ki4 (fs := [.null, .null, .int 0, .int 0, .int 0, .int 0, .int 0]) (by decide) (by decide) (by decide) dX10_init_157 (fun q_94197 f_94198 H nq_94197 ef_94198 Y => ?_)
  have whkq_94197 := hk.notin nq_94197
  have hk := hk.push ef_94198 nq_94197
  have whkIq_94197 := hkI.notin nq_94197
  have hkI := hkI.push ef_94198 nq_94197
  have p_h := p_h.push ef_94198 nq_94197
  have p_q_93458 := p_q_93458.push ef_94198 nq_94197
  have p_q_93480 := p_q_93480.push ef_94198 nq_94197
  have p_q_94197 := pt.new (L := L_94179) ef_94198
  refine lv_dup hx hb dX10_init_160 rfl ?_
  refine cINv (b := q_94197) (As := []) (rest := [.ref q_94197, .int 24, .ref q_93480]) S Y (c_X4_init (l := l) p_q_94197) cw_X4_init km10_26 rfl ⟨Nat.le_of_ble_eq_true rfl, Nat.le_of_ble_eq_true rfl⟩ hl.1 rfl (Nat.le_of_ble_eq_true rfl) ⟨Nat.le_of_ble_eq_true rfl, Nat.le_of_ble_eq_true rfl⟩ dX10_init_161 (fun L_94199 f_94200 H locs hf_94200 Y => ?_)
  obtain ⟨a__94201, a__94202, kf_94200, z_z_94203, z_z_94204, z_z_94205, v_94206, v_94207⟩ := hf_94200
  have w_94208 := hk.notin v_94206
  have w_94209 := hkI.notin v_94206
  have w_94210 := hk.notin v_94207
  have w_94211 := hkI.notin v_94207
  have p_h := kf_94200.1 h _ (nmc (p_h.neK p_q_94197 (by decide)) nm0) p_h
  have p_q_93458 := kf_94200.1 q_93458 _ (nmc (p_q_93458.neB p_q_94197) nm0) p_q_93458
  have p_q_93480 := kf_94200.1 q_93480 _ (nmc (p_q_93480.neB p_q_94197) nm0) p_q_93480
  have p_q_94197 := z_z_94203
  have p_a__94201 := z_z_94204
  have p_a__94202 := z_z_94205
  have hk := hk.call kf_94200 (fun b hb hp => (nmc (neL hp whkq_94197) nm0))
  have hkI := hkI.call kf_94200 (fun b hb hp => (nmc (neL hp whkIq_94197) nm0))
  have nr_q_94197 : NRg gl_92 ad41 q_94197 := (SHC.nr I whkIq_94197)
  have nr_a__94201 : NRg gl_92 ad41 a__94201 := (SHC.nr I w_94209)
  have nr_a__94202 : NRg gl_92 ad41 a__94202 := (SHC.nr I w_94211)
  have I := I.kp hkI (allc nr_h (allc nr_q_93458 (allc nr_q_93480 all0)))
  have hkI : kp L_94199 f_94200 L_94199 f_94200 [h, q_93458, q_93480] := kp.rf
  obtain ⟨ad42, I, X_94212, Y_94213, Z_94214⟩ := SHC.led (l2 := gl_93) (n := 56) I rfl rfl rfl (by decide) rfl p_q_94197 p_a__94201 p_a__94202 nr_q_94197 nr_a__94201 nr_a__94202 
  have eq40_1 := (X_94212.2 40 1 (by decide)).trans eq40_1
  have eq41_1 := (X_94212.2 41 1 (by decide)).trans eq41_1
  have eq10_31 := (X_94212.2 10 31 (by decide)).trans eq10_31
  have eq20_5 := (X_94212.2 20 5 (by decide)).trans eq20_5
  have eq20_6 := (X_94212.2 20 6 (by decide)).trans eq20_6
  have eq20_7 := (X_94212.2 20 7 (by decide)).trans eq20_7
  have eq20_8 := (X_94212.2 20 8 (by decide)).trans eq20_8
  have eq20_9 := (X_94212.2 20 9 (by decide)).trans eq20_9
  have fam_sc := fam_x fam_sc X_94212 (by decide)
  have fam_pa := fam_x fam_pa X_94212 (by decide)
  have nr_h := Z_94214 _ nr_h (p_h.neK p_q_94197 (by decide)) (p_h.neA p_a__94201) (p_h.neA p_a__94202)
  have nr_q_93458 := Z_94214 _ nr_q_93458 (p_q_93458.neB p_q_94197) (p_q_93458.neN p_a__94201 (by decide)) (p_q_93458.neN p_a__94202 (by decide))
  have nr_q_93480 := Z_94214 _ nr_q_93480 (p_q_93480.neB p_q_94197) (p_q_93480.neN p_a__94201 (by decide)) (p_q_93480.neN p_a__94202 (by decide))
  have hout : ∀ x, x ∈ L → NRg gl_50 ad x → NRg gl_93 ad42 x := fun x hx hn => Z_94214 x (hout x hx hn) (fun e => whkq_94197 (by rw [← e]; exact hx)) (fun e => w_94208 (by rw [← e]; exact hx)) (fun e => w_94210 (by rw [← e]; exact hx))
  have hext := hext.tr X_94212
  have eq10_56 := Y_94213
  have hkI : kp L_94199 f_94200 L_94199 f_94200 [h, q_93458, q_93480] := kp.rf
  refine pg_aast S Y (k := 3) p_q_93480 rfl p_q_94197 ok_X4.1 (by unfold vp_in; decide) dX10_init_164 (fun f_94216 H locs ef_94216 Y => ?_)
  obtain ⟨g_94215, eg_94215⟩ : ∃ z, z = va_up (g_94195) (24 : Int32).toNatClampNeg (some q_94197) := ⟨_, rfl⟩
  rw [← eg_94215] at ef_94216
  have p_h := p_h.up ef_94216 ((p_h.neA p_q_93480))
  have p_q_93458 := p_q_93458.up ef_94216 ((p_q_93458.neN p_q_93480 (by decide)))
  have p_q_94197 := p_q_94197.up ef_94216 ((p_q_94197.neA p_q_93480))
  have p_q_93480 := p_q_93480.me ef_94216
  have hk := hk.upN ef_94216 whkq_93480
  have hkI := hkI.up ef_94216 (by simp)
  have fam_pa := fam_s (i := 24) fam_pa eq10_56 eg_94215
  refine lv_iinc (v := 25) (lv' := [(1, .int 25), (0, .ref h)]) hx hb dX10_init_165 hl (k := 0) rfl (by decide) (by decide) rfl (fun ls hl => ?_)
  refine lv_goto (tgt := 146) hx hb dX10_init_168 (by decide) ?_
  refine lv_iload_n hx hb dX10_init_146 rfl (lv_at hl 0 rfl) ?_
  refine lv_bipush (v := 30) hx hb dX10_init_147 (by decide) ?_
  refine lv_icmp_ge (tgt := 171) hx hb dX10_init_149 (by decide) (fun h => absurd h (by decide)) (fun _ => ?_)
  refine lv_aload_n hx hb dX10_init_152 rfl (lv_at hl 1 rfl) ?_
  refine pg_get S Y ok_X10 4 (by decide) kf10_31 (v := .ref q_93480) p_h rfl dX10_init_153 ?_
  refine lv_iload_n hx hb dX10_init_156 rfl (lv_at hl 0 rfl) ?_
  refine pg_new S Y ok_X4 kc10_24 kn4 ki4 (fs := [.null, .null, .int 0, .int 0, .int 0, .int 0, .int 0]) (by decide) (by decide) (by decide) dX10_init_157 (fun q_94217 f_94218 H nq_94217 ef_94218 Y => ?_)
  have whkq_94217 := hk.notin nq_94217
  have hk := hk.push ef_94218 nq_94217
  have whkIq_94217 := hkI.notin nq_94217
  have hkI := hkI.push ef_94218 nq_94217
  have p_h := p_h.push ef_94218 nq_94217
  have p_q_93458 := p_q_93458.push ef_94218 nq_94217
  have p_q_93480 := p_q_93480.push ef_94218 nq_94217
  have p_q_94217 := pt.new (L := L_94199) ef_94218
  refine lv_dup hx hb dX10_init_160 rfl ?_
  refine cINv (b := q_94217) (As := []) (rest := [.ref q_94217, .int 25, .ref q_93480]) S Y (c_X4_init (l := l) p_q_94217) cw_X4_init km10_26 rfl ⟨Nat.le_of_ble_eq_true rfl, Nat.le_of_ble_eq_true rfl⟩ hl.1 rfl (Nat.le_of_ble_eq_true rfl) ⟨Nat.le_of_ble_eq_true rfl, Nat.le_of_ble_eq_true rfl⟩ dX10_init_161 (fun L_94219 f_94220 H locs hf_94220 Y => ?_)
  obtain ⟨a__94221, a__94222, kf_94220, z_z_94223, z_z_94224, z_z_94225, v_94226, v_94227⟩ := hf_94220
  have w_94228 := hk.notin v_94226
  have w_94229 := hkI.notin v_94226
  have w_94230 := hk.notin v_94227
  have w_94231 := hkI.notin v_94227
  have p_h := kf_94220.1 h _ (nmc (p_h.neK p_q_94217 (by decide)) nm0) p_h
  have p_q_93458 := kf_94220.1 q_93458 _ (nmc (p_q_93458.neB p_q_94217) nm0) p_q_93458
  have p_q_93480 := kf_94220.1 q_93480 _ (nmc (p_q_93480.neB p_q_94217) nm0) p_q_93480
  have p_q_94217 := z_z_94223
  have p_a__94221 := z_z_94224
  have p_a__94222 := z_z_94225
  have hk := hk.call kf_94220 (fun b hb hp => (nmc (neL hp whkq_94217) nm0))
  have hkI := hkI.call kf_94220 (fun b hb hp => (nmc (neL hp whkIq_94217) nm0))
  have nr_q_94217 : NRg gl_93 ad42 q_94217 := (SHC.nr I whkIq_94217)
  have nr_a__94221 : NRg gl_93 ad42 a__94221 := (SHC.nr I w_94229)
  have nr_a__94222 : NRg gl_93 ad42 a__94222 := (SHC.nr I w_94231)
  have I := I.kp hkI (allc nr_h (allc nr_q_93458 (allc nr_q_93480 all0)))
  have hkI : kp L_94219 f_94220 L_94219 f_94220 [h, q_93458, q_93480] := kp.rf
  obtain ⟨ad43, I, X_94232, Y_94233, Z_94234⟩ := SHC.led (l2 := gl_94) (n := 57) I rfl rfl rfl (by decide) rfl p_q_94217 p_a__94221 p_a__94222 nr_q_94217 nr_a__94221 nr_a__94222 
  have eq40_1 := (X_94232.2 40 1 (by decide)).trans eq40_1
  have eq41_1 := (X_94232.2 41 1 (by decide)).trans eq41_1
  have eq10_31 := (X_94232.2 10 31 (by decide)).trans eq10_31
  have eq20_5 := (X_94232.2 20 5 (by decide)).trans eq20_5
  have eq20_6 := (X_94232.2 20 6 (by decide)).trans eq20_6
  have eq20_7 := (X_94232.2 20 7 (by decide)).trans eq20_7
  have eq20_8 := (X_94232.2 20 8 (by decide)).trans eq20_8
  have eq20_9 := (X_94232.2 20 9 (by decide)).trans eq20_9
  have fam_sc := fam_x fam_sc X_94232 (by decide)
  have fam_pa := fam_x fam_pa X_94232 (by decide)
  have nr_h := Z_94234 _ nr_h (p_h.neK p_q_94217 (by decide)) (p_h.neA p_a__94221) (p_h.neA p_a__94222)
  have nr_q_93458 := Z_94234 _ nr_q_93458 (p_q_93458.neB p_q_94217) (p_q_93458.neN p_a__94221 (by decide)) (p_q_93458.neN p_a__94222 (by decide))
  have nr_q_93480 := Z_94234 _ nr_q_93480 (p_q_93480.neB p_q_94217) (p_q_93480.neN p_a__94221 (by decide)) (p_q_93480.neN p_a__94222 (by decide))
  have hout : ∀ x, x ∈ L → NRg gl_50 ad x → NRg gl_94 ad43 x := fun x hx hn => Z_94234 x (hout x hx hn) (fun e => whkq_94217 (by rw [← e]; exact hx)) (fun e => w_94228 (by rw [← e]; exact hx)) (fun e => w_94230 (by rw [← e]; exact hx))
  have hext := hext.tr X_94232
  have eq10_57 := Y_94233
  have hkI : kp L_94219 f_94220 L_94219 f_94220 [h, q_93458, q_93480] := kp.rf
  refine pg_aast S Y (k := 3) p_q_93480 rfl p_q_94217 ok_X4.1 (by unfold vp_in; decide) dX10_init_164 (fun f_94236 H locs ef_94236 Y => ?_)
  obtain ⟨g_94235, eg_94235⟩ : ∃ z, z = va_up (g_94215) (25 : Int32).toNatClampNeg (some q_94217) := ⟨_, rfl⟩
  rw [← eg_94235] at ef_94236
  have p_h := p_h.up ef_94236 ((p_h.neA p_q_93480))
  have p_q_93458 := p_q_93458.up ef_94236 ((p_q_93458.neN p_q_93480 (by decide)))
  have p_q_94217 := p_q_94217.up ef_94236 ((p_q_94217.neA p_q_93480))
  have p_q_93480 := p_q_93480.me ef_94236
  have hk := hk.upN ef_94236 whkq_93480
  have hkI := hkI.up ef_94236 (by simp)
  have fam_pa := fam_s (i := 25) fam_pa eq10_57 eg_94235
  refine lv_iinc (v := 26) (lv' := [(1, .int 26), (0, .ref h)]) hx hb dX10_init_165 hl (k := 0) rfl (by decide) (by decide) rfl (fun ls hl => ?_)
  refine lv_goto (tgt := 146) hx hb dX10_init_168 (by decide) ?_
  refine lv_iload_n hx hb dX10_init_146 rfl (lv_at hl 0 rfl) ?_
  refine lv_bipush (v := 30) hx hb dX10_init_147 (by decide) ?_
  refine lv_icmp_ge (tgt := 171) hx hb dX10_init_149 (by decide) (fun h => absurd h (by decide)) (fun _ => ?_)
  refine lv_aload_n hx hb dX10_init_152 rfl (lv_at hl 1 rfl) ?_
  refine pg_get S Y ok_X10 4 (by decide) kf10_31 (v := .ref q_93480) p_h rfl dX10_init_153 ?_
  refine lv_iload_n hx hb dX10_init_156 rfl (lv_at hl 0 rfl) ?_
  refine pg_new S Y ok_X4 kc10_24 kn4 ki4 (fs := [.null, .null, .int 0, .int 0, .int 0, .int 0, .int 0]) (by decide) (by decide) (by decide) dX10_init_157 (fun q_94237 f_94238 H nq_94237 ef_94238 Y => ?_)
  have whkq_94237 := hk.notin nq_94237
  have hk := hk.push ef_94238 nq_94237
  have whkIq_94237 := hkI.notin nq_94237
  have hkI := hkI.push ef_94238 nq_94237
  have p_h := p_h.push ef_94238 nq_94237
  have p_q_93458 := p_q_93458.push ef_94238 nq_94237
  have p_q_93480 := p_q_93480.push ef_94238 nq_94237
  have p_q_94237 := pt.new (L := L_94219) ef_94238
  refine lv_dup hx hb dX10_init_160 rfl ?_
  refine cINv (b := q_94237) (As := []) (rest := [.ref q_94237, .int 26, .ref q_93480]) S Y (c_X4_init (l := l) p_q_94237) cw_X4_init km10_26 rfl ⟨Nat.le_of_ble_eq_true rfl, Nat.le_of_ble_eq_true rfl⟩ hl.1 rfl (Nat.le_of_ble_eq_true rfl) ⟨Nat.le_of_ble_eq_true rfl, Nat.le_of_ble_eq_true rfl⟩ dX10_init_161 (fun L_94239 f_94240 H locs hf_94240 Y => ?_)
  obtain ⟨a__94241, a__94242, kf_94240, z_z_94243, z_z_94244, z_z_94245, v_94246, v_94247⟩ := hf_94240
  have w_94248 := hk.notin v_94246
  have w_94249 := hkI.notin v_94246
  have w_94250 := hk.notin v_94247
  have w_94251 := hkI.notin v_94247
  have p_h := kf_94240.1 h _ (nmc (p_h.neK p_q_94237 (by decide)) nm0) p_h
  have p_q_93458 := kf_94240.1 q_93458 _ (nmc (p_q_93458.neB p_q_94237) nm0) p_q_93458
  have p_q_93480 := kf_94240.1 q_93480 _ (nmc (p_q_93480.neB p_q_94237) nm0) p_q_93480
  have p_q_94237 := z_z_94243
  have p_a__94241 := z_z_94244
  have p_a__94242 := z_z_94245
  have hk := hk.call kf_94240 (fun b hb hp => (nmc (neL hp whkq_94237) nm0))
  have hkI := hkI.call kf_94240 (fun b hb hp => (nmc (neL hp whkIq_94237) nm0))
  have nr_q_94237 : NRg gl_94 ad43 q_94237 := (SHC.nr I whkIq_94237)
  have nr_a__94241 : NRg gl_94 ad43 a__94241 := (SHC.nr I w_94249)
  have nr_a__94242 : NRg gl_94 ad43 a__94242 := (SHC.nr I w_94251)
  have I := I.kp hkI (allc nr_h (allc nr_q_93458 (allc nr_q_93480 all0)))
  have hkI : kp L_94239 f_94240 L_94239 f_94240 [h, q_93458, q_93480] := kp.rf
  obtain ⟨ad44, I, X_94252, Y_94253, Z_94254⟩ := SHC.led (l2 := gl_95) (n := 58) I rfl rfl rfl (by decide) rfl p_q_94237 p_a__94241 p_a__94242 nr_q_94237 nr_a__94241 nr_a__94242 
  have eq40_1 := (X_94252.2 40 1 (by decide)).trans eq40_1
  have eq41_1 := (X_94252.2 41 1 (by decide)).trans eq41_1
  have eq10_31 := (X_94252.2 10 31 (by decide)).trans eq10_31
  have eq20_5 := (X_94252.2 20 5 (by decide)).trans eq20_5
  have eq20_6 := (X_94252.2 20 6 (by decide)).trans eq20_6
  have eq20_7 := (X_94252.2 20 7 (by decide)).trans eq20_7
  have eq20_8 := (X_94252.2 20 8 (by decide)).trans eq20_8
  have eq20_9 := (X_94252.2 20 9 (by decide)).trans eq20_9
  have fam_sc := fam_x fam_sc X_94252 (by decide)
  have fam_pa := fam_x fam_pa X_94252 (by decide)
  have nr_h := Z_94254 _ nr_h (p_h.neK p_q_94237 (by decide)) (p_h.neA p_a__94241) (p_h.neA p_a__94242)
  have nr_q_93458 := Z_94254 _ nr_q_93458 (p_q_93458.neB p_q_94237) (p_q_93458.neN p_a__94241 (by decide)) (p_q_93458.neN p_a__94242 (by decide))
  have nr_q_93480 := Z_94254 _ nr_q_93480 (p_q_93480.neB p_q_94237) (p_q_93480.neN p_a__94241 (by decide)) (p_q_93480.neN p_a__94242 (by decide))
  have hout : ∀ x, x ∈ L → NRg gl_50 ad x → NRg gl_95 ad44 x := fun x hx hn => Z_94254 x (hout x hx hn) (fun e => whkq_94237 (by rw [← e]; exact hx)) (fun e => w_94248 (by rw [← e]; exact hx)) (fun e => w_94250 (by rw [← e]; exact hx))
  have hext := hext.tr X_94252
  have eq10_58 := Y_94253
  have hkI : kp L_94239 f_94240 L_94239 f_94240 [h, q_93458, q_93480] := kp.rf
  refine pg_aast S Y (k := 3) p_q_93480 rfl p_q_94237 ok_X4.1 (by unfold vp_in; decide) dX10_init_164 (fun f_94256 H locs ef_94256 Y => ?_)
  obtain ⟨g_94255, eg_94255⟩ : ∃ z, z = va_up (g_94235) (26 : Int32).toNatClampNeg (some q_94237) := ⟨_, rfl⟩
  rw [← eg_94255] at ef_94256
  have p_h := p_h.up ef_94256 ((p_h.neA p_q_93480))
  have p_q_93458 := p_q_93458.up ef_94256 ((p_q_93458.neN p_q_93480 (by decide)))
  have p_q_94237 := p_q_94237.up ef_94256 ((p_q_94237.neA p_q_93480))
  have p_q_93480 := p_q_93480.me ef_94256
  have hk := hk.upN ef_94256 whkq_93480
  have hkI := hkI.up ef_94256 (by simp)
  have fam_pa := fam_s (i := 26) fam_pa eq10_58 eg_94255
  refine lv_iinc (v := 27) (lv' := [(1, .int 27), (0, .ref h)]) hx hb dX10_init_165 hl (k := 0) rfl (by decide) (by decide) rfl (fun ls hl => ?_)
  refine lv_goto (tgt := 146) hx hb dX10_init_168 (by decide) ?_
  refine lv_iload_n hx hb dX10_init_146 rfl (lv_at hl 0 rfl) ?_
  refine lv_bipush (v := 30) hx hb dX10_init_147 (by decide) ?_
  refine lv_icmp_ge (tgt := 171) hx hb dX10_init_149 (by decide) (fun h => absurd h (by decide)) (fun _ => ?_)
  refine lv_aload_n hx hb dX10_init_152 rfl (lv_at hl 1 rfl) ?_
  refine pg_get S Y ok_X10 4 (by decide) kf10_31 (v := .ref q_93480) p_h rfl dX10_init_153 ?_
  refine lv_iload_n hx hb dX10_init_156 rfl (lv_at hl 0 rfl) ?_
  refine pg_new S Y ok_X4 kc10_24 kn4 ki4 (fs := [.null, .null, .int 0, .int 0, .int 0, .int 0, .int 0]) (by decide) (by decide) (by decide) dX10_init_157 (fun q_94257 f_94258 H nq_94257 ef_94258 Y => ?_)
  have whkq_94257 := hk.notin nq_94257
  have hk := hk.push ef_94258 nq_94257
  have whkIq_94257 := hkI.notin nq_94257
  have hkI := hkI.push ef_94258 nq_94257
  have p_h := p_h.push ef_94258 nq_94257
  have p_q_93458 := p_q_93458.push ef_94258 nq_94257
  have p_q_93480 := p_q_93480.push ef_94258 nq_94257
  have p_q_94257 := pt.new (L := L_94239) ef_94258
  refine lv_dup hx hb dX10_init_160 rfl ?_
  refine cINv (b := q_94257) (As := []) (rest := [.ref q_94257, .int 27, .ref q_93480]) S Y (c_X4_init (l := l) p_q_94257) cw_X4_init km10_26 rfl ⟨Nat.le_of_ble_eq_true rfl, Nat.le_of_ble_eq_true rfl⟩ hl.1 rfl (Nat.le_of_ble_eq_true rfl) ⟨Nat.le_of_ble_eq_true rfl, Nat.le_of_ble_eq_true rfl⟩ dX10_init_161 (fun L_94259 f_94260 H locs hf_94260 Y => ?_)
  obtain ⟨a__94261, a__94262, kf_94260, z_z_94263, z_z_94264, z_z_94265, v_94266, v_94267⟩ := hf_94260
  have w_94268 := hk.notin v_94266
  have w_94269 := hkI.notin v_94266
  have w_94270 := hk.notin v_94267
  have w_94271 := hkI.notin v_94267
  have p_h := kf_94260.1 h _ (nmc (p_h.neK p_q_94257 (by decide)) nm0) p_h
  have p_q_93458 := kf_94260.1 q_93458 _ (nmc (p_q_93458.neB p_q_94257) nm0) p_q_93458
  have p_q_93480 := kf_94260.1 q_93480 _ (nmc (p_q_93480.neB p_q_94257) nm0) p_q_93480
  have p_q_94257 := z_z_94263
  have p_a__94261 := z_z_94264
  have p_a__94262 := z_z_94265
  have hk := hk.call kf_94260 (fun b hb hp => (nmc (neL hp whkq_94257) nm0))
  have hkI := hkI.call kf_94260 (fun b hb hp => (nmc (neL hp whkIq_94257) nm0))
  have nr_q_94257 : NRg gl_95 ad44 q_94257 := (SHC.nr I whkIq_94257)
  have nr_a__94261 : NRg gl_95 ad44 a__94261 := (SHC.nr I w_94269)
  have nr_a__94262 : NRg gl_95 ad44 a__94262 := (SHC.nr I w_94271)
  have I := I.kp hkI (allc nr_h (allc nr_q_93458 (allc nr_q_93480 all0)))
  have hkI : kp L_94259 f_94260 L_94259 f_94260 [h, q_93458, q_93480] := kp.rf
  obtain ⟨ad45, I, X_94272, Y_94273, Z_94274⟩ := SHC.led (l2 := gl_96) (n := 59) I rfl rfl rfl (by decide) rfl p_q_94257 p_a__94261 p_a__94262 nr_q_94257 nr_a__94261 nr_a__94262 
  have eq40_1 := (X_94272.2 40 1 (by decide)).trans eq40_1
  have eq41_1 := (X_94272.2 41 1 (by decide)).trans eq41_1
  have eq10_31 := (X_94272.2 10 31 (by decide)).trans eq10_31
  have eq20_5 := (X_94272.2 20 5 (by decide)).trans eq20_5
  have eq20_6 := (X_94272.2 20 6 (by decide)).trans eq20_6
  have eq20_7 := (X_94272.2 20 7 (by decide)).trans eq20_7
  have eq20_8 := (X_94272.2 20 8 (by decide)).trans eq20_8
  have eq20_9 := (X_94272.2 20 9 (by decide)).trans eq20_9
  have fam_sc := fam_x fam_sc X_94272 (by decide)
  have fam_pa := fam_x fam_pa X_94272 (by decide)
  have nr_h := Z_94274 _ nr_h (p_h.neK p_q_94257 (by decide)) (p_h.neA p_a__94261) (p_h.neA p_a__94262)
  have nr_q_93458 := Z_94274 _ nr_q_93458 (p_q_93458.neB p_q_94257) (p_q_93458.neN p_a__94261 (by decide)) (p_q_93458.neN p_a__94262 (by decide))
  have nr_q_93480 := Z_94274 _ nr_q_93480 (p_q_93480.neB p_q_94257) (p_q_93480.neN p_a__94261 (by decide)) (p_q_93480.neN p_a__94262 (by decide))
  have hout : ∀ x, x ∈ L → NRg gl_50 ad x → NRg gl_96 ad45 x := fun x hx hn => Z_94274 x (hout x hx hn) (fun e => whkq_94257 (by rw [← e]; exact hx)) (fun e => w_94268 (by rw [← e]; exact hx)) (fun e => w_94270 (by rw [← e]; exact hx))
  have hext := hext.tr X_94272
  have eq10_59 := Y_94273
  have hkI : kp L_94259 f_94260 L_94259 f_94260 [h, q_93458, q_93480] := kp.rf
  refine pg_aast S Y (k := 3) p_q_93480 rfl p_q_94257 ok_X4.1 (by unfold vp_in; decide) dX10_init_164 (fun f_94276 H locs ef_94276 Y => ?_)
  obtain ⟨g_94275, eg_94275⟩ : ∃ z, z = va_up (g_94255) (27 : Int32).toNatClampNeg (some q_94257) := ⟨_, rfl⟩
  rw [← eg_94275] at ef_94276
  have p_h := p_h.up ef_94276 ((p_h.neA p_q_93480))
  have p_q_93458 := p_q_93458.up ef_94276 ((p_q_93458.neN p_q_93480 (by decide)))
  have p_q_94257 := p_q_94257.up ef_94276 ((p_q_94257.neA p_q_93480))
  have p_q_93480 := p_q_93480.me ef_94276
  have hk := hk.upN ef_94276 whkq_93480
  have hkI := hkI.up ef_94276 (by simp)
  have fam_pa := fam_s (i := 27) fam_pa eq10_59 eg_94275
  refine lv_iinc (v := 28) (lv' := [(1, .int 28), (0, .ref h)]) hx hb dX10_init_165 hl (k := 0) rfl (by decide) (by decide) rfl (fun ls hl => ?_)
  refine lv_goto (tgt := 146) hx hb dX10_init_168 (by decide) ?_
  refine lv_iload_n hx hb dX10_init_146 rfl (lv_at hl 0 rfl) ?_
  refine lv_bipush (v := 30) hx hb dX10_init_147 (by decide) ?_
  refine lv_icmp_ge (tgt := 171) hx hb dX10_init_149 (by decide) (fun h => absurd h (by decide)) (fun _ => ?_)
  refine lv_aload_n hx hb dX10_init_152 rfl (lv_at hl 1 rfl) ?_
  refine pg_get S Y ok_X10 4 (by decide) kf10_31 (v := .ref q_93480) p_h rfl dX10_init_153 ?_
  refine lv_iload_n hx hb dX10_init_156 rfl (lv_at hl 0 rfl) ?_
  refine pg_new S Y ok_X4 kc10_24 kn4 ki4 (fs := [.null, .null, .int 0, .int 0, .int 0, .int 0, .int 0]) (by decide) (by decide) (by decide) dX10_init_157 (fun q_94277 f_94278 H nq_94277 ef_94278 Y => ?_)
  have whkq_94277 := hk.notin nq_94277
  have hk := hk.push ef_94278 nq_94277
  have whkIq_94277 := hkI.notin nq_94277
  have hkI := hkI.push ef_94278 nq_94277
  have p_h := p_h.push ef_94278 nq_94277
  have p_q_93458 := p_q_93458.push ef_94278 nq_94277
  have p_q_93480 := p_q_93480.push ef_94278 nq_94277
  have p_q_94277 := pt.new (L := L_94259) ef_94278
  refine lv_dup hx hb dX10_init_160 rfl ?_
  refine cINv (b := q_94277) (As := []) (rest := [.ref q_94277, .int 28, .ref q_93480]) S Y (c_X4_init (l := l) p_q_94277) cw_X4_init km10_26 rfl ⟨Nat.le_of_ble_eq_true rfl, Nat.le_of_ble_eq_true rfl⟩ hl.1 rfl (Nat.le_of_ble_eq_true rfl) ⟨Nat.le_of_ble_eq_true rfl, Nat.le_of_ble_eq_true rfl⟩ dX10_init_161 (fun L_94279 f_94280 H locs hf_94280 Y => ?_)
  obtain ⟨a__94281, a__94282, kf_94280, z_z_94283, z_z_94284, z_z_94285, v_94286, v_94287⟩ := hf_94280
  have w_94288 := hk.notin v_94286
  have w_94289 := hkI.notin v_94286
  have w_94290 := hk.notin v_94287
  have w_94291 := hkI.notin v_94287
  have p_h := kf_94280.1 h _ (nmc (p_h.neK p_q_94277 (by decide)) nm0) p_h
  have p_q_93458 := kf_94280.1 q_93458 _ (nmc (p_q_93458.neB p_q_94277) nm0) p_q_93458
  have p_q_93480 := kf_94280.1 q_93480 _ (nmc (p_q_93480.neB p_q_94277) nm0) p_q_93480
  have p_q_94277 := z_z_94283
  have p_a__94281 := z_z_94284
  have p_a__94282 := z_z_94285
  have hk := hk.call kf_94280 (fun b hb hp => (nmc (neL hp whkq_94277) nm0))
  have hkI := hkI.call kf_94280 (fun b hb hp => (nmc (neL hp whkIq_94277) nm0))
  have nr_q_94277 : NRg gl_96 ad45 q_94277 := (SHC.nr I whkIq_94277)
  have nr_a__94281 : NRg gl_96 ad45 a__94281 := (SHC.nr I w_94289)
  have nr_a__94282 : NRg gl_96 ad45 a__94282 := (SHC.nr I w_94291)
  have I := I.kp hkI (allc nr_h (allc nr_q_93458 (allc nr_q_93480 all0)))
  have hkI : kp L_94279 f_94280 L_94279 f_94280 [h, q_93458, q_93480] := kp.rf
  obtain ⟨ad46, I, X_94292, Y_94293, Z_94294⟩ := SHC.led (l2 := gl_97) (n := 60) I rfl rfl rfl (by decide) rfl p_q_94277 p_a__94281 p_a__94282 nr_q_94277 nr_a__94281 nr_a__94282 
  have eq40_1 := (X_94292.2 40 1 (by decide)).trans eq40_1
  have eq41_1 := (X_94292.2 41 1 (by decide)).trans eq41_1
  have eq10_31 := (X_94292.2 10 31 (by decide)).trans eq10_31
  have eq20_5 := (X_94292.2 20 5 (by decide)).trans eq20_5
  have eq20_6 := (X_94292.2 20 6 (by decide)).trans eq20_6
  have eq20_7 := (X_94292.2 20 7 (by decide)).trans eq20_7
  have eq20_8 := (X_94292.2 20 8 (by decide)).trans eq20_8
  have eq20_9 := (X_94292.2 20 9 (by decide)).trans eq20_9
  have fam_sc := fam_x fam_sc X_94292 (by decide)
  have fam_pa := fam_x fam_pa X_94292 (by decide)
  have nr_h := Z_94294 _ nr_h (p_h.neK p_q_94277 (by decide)) (p_h.neA p_a__94281) (p_h.neA p_a__94282)
  have nr_q_93458 := Z_94294 _ nr_q_93458 (p_q_93458.neB p_q_94277) (p_q_93458.neN p_a__94281 (by decide)) (p_q_93458.neN p_a__94282 (by decide))
  have nr_q_93480 := Z_94294 _ nr_q_93480 (p_q_93480.neB p_q_94277) (p_q_93480.neN p_a__94281 (by decide)) (p_q_93480.neN p_a__94282 (by decide))
  have hout : ∀ x, x ∈ L → NRg gl_50 ad x → NRg gl_97 ad46 x := fun x hx hn => Z_94294 x (hout x hx hn) (fun e => whkq_94277 (by rw [← e]; exact hx)) (fun e => w_94288 (by rw [← e]; exact hx)) (fun e => w_94290 (by rw [← e]; exact hx))
  have hext := hext.tr X_94292
  have eq10_60 := Y_94293
  have hkI : kp L_94279 f_94280 L_94279 f_94280 [h, q_93458, q_93480] := kp.rf
  refine pg_aast S Y (k := 3) p_q_93480 rfl p_q_94277 ok_X4.1 (by unfold vp_in; decide) dX10_init_164 (fun f_94296 H locs ef_94296 Y => ?_)
  obtain ⟨g_94295, eg_94295⟩ : ∃ z, z = va_up (g_94275) (28 : Int32).toNatClampNeg (some q_94277) := ⟨_, rfl⟩
  rw [← eg_94295] at ef_94296
  have p_h := p_h.up ef_94296 ((p_h.neA p_q_93480))
  have p_q_93458 := p_q_93458.up ef_94296 ((p_q_93458.neN p_q_93480 (by decide)))
  have p_q_94277 := p_q_94277.up ef_94296 ((p_q_94277.neA p_q_93480))
  have p_q_93480 := p_q_93480.me ef_94296
  have hk := hk.upN ef_94296 whkq_93480
  have hkI := hkI.up ef_94296 (by simp)
  have fam_pa := fam_s (i := 28) fam_pa eq10_60 eg_94295
  refine lv_iinc (v := 29) (lv' := [(1, .int 29), (0, .ref h)]) hx hb dX10_init_165 hl (k := 0) rfl (by decide) (by decide) rfl (fun ls hl => ?_)
  refine lv_goto (tgt := 146) hx hb dX10_init_168 (by decide) ?_
  refine lv_iload_n hx hb dX10_init_146 rfl (lv_at hl 0 rfl) ?_
  refine lv_bipush (v := 30) hx hb dX10_init_147 (by decide) ?_
  refine lv_icmp_ge (tgt := 171) hx hb dX10_init_149 (by decide) (fun h => absurd h (by decide)) (fun _ => ?_)
  refine lv_aload_n hx hb dX10_init_152 rfl (lv_at hl 1 rfl) ?_
  refine pg_get S Y ok_X10 4 (by decide) kf10_31 (v := .ref q_93480) p_h rfl dX10_init_153 ?_
  refine lv_iload_n hx hb dX10_init_156 rfl (lv_at hl 0 rfl) ?_
  refine pg_new S Y ok_X4 kc10_24 kn4 ki4 (fs := [.null, .null, .int 0, .int 0, .int 0, .int 0, .int 0]) (by decide) (by decide) (by decide) dX10_init_157 (fun q_94297 f_94298 H nq_94297 ef_94298 Y => ?_)
  have whkq_94297 := hk.notin nq_94297
  have hk := hk.push ef_94298 nq_94297
  have whkIq_94297 := hkI.notin nq_94297
  have hkI := hkI.push ef_94298 nq_94297
  have p_h := p_h.push ef_94298 nq_94297
  have p_q_93458 := p_q_93458.push ef_94298 nq_94297
  have p_q_93480 := p_q_93480.push ef_94298 nq_94297
  have p_q_94297 := pt.new (L := L_94279) ef_94298
  refine lv_dup hx hb dX10_init_160 rfl ?_
  refine cINv (b := q_94297) (As := []) (rest := [.ref q_94297, .int 29, .ref q_93480]) S Y (c_X4_init (l := l) p_q_94297) cw_X4_init km10_26 rfl ⟨Nat.le_of_ble_eq_true rfl, Nat.le_of_ble_eq_true rfl⟩ hl.1 rfl (Nat.le_of_ble_eq_true rfl) ⟨Nat.le_of_ble_eq_true rfl, Nat.le_of_ble_eq_true rfl⟩ dX10_init_161 (fun L_94299 f_94300 H locs hf_94300 Y => ?_)
  obtain ⟨a__94301, a__94302, kf_94300, z_z_94303, z_z_94304, z_z_94305, v_94306, v_94307⟩ := hf_94300
  have w_94308 := hk.notin v_94306
  have w_94309 := hkI.notin v_94306
  have w_94310 := hk.notin v_94307
  have w_94311 := hkI.notin v_94307
  have p_h := kf_94300.1 h _ (nmc (p_h.neK p_q_94297 (by decide)) nm0) p_h
  have p_q_93458 := kf_94300.1 q_93458 _ (nmc (p_q_93458.neB p_q_94297) nm0) p_q_93458
  have p_q_93480 := kf_94300.1 q_93480 _ (nmc (p_q_93480.neB p_q_94297) nm0) p_q_93480
  have p_q_94297 := z_z_94303
  have p_a__94301 := z_z_94304
  have p_a__94302 := z_z_94305
  have hk := hk.call kf_94300 (fun b hb hp => (nmc (neL hp whkq_94297) nm0))
  have hkI := hkI.call kf_94300 (fun b hb hp => (nmc (neL hp whkIq_94297) nm0))
  have nr_q_94297 : NRg gl_97 ad46 q_94297 := (SHC.nr I whkIq_94297)
  have nr_a__94301 : NRg gl_97 ad46 a__94301 := (SHC.nr I w_94309)
  have nr_a__94302 : NRg gl_97 ad46 a__94302 := (SHC.nr I w_94311)
  have I := I.kp hkI (allc nr_h (allc nr_q_93458 (allc nr_q_93480 all0)))
  have hkI : kp L_94299 f_94300 L_94299 f_94300 [h, q_93458, q_93480] := kp.rf
  obtain ⟨ad47, I, X_94312, Y_94313, Z_94314⟩ := SHC.led (l2 := gl_98) (n := 61) I rfl rfl rfl (by decide) rfl p_q_94297 p_a__94301 p_a__94302 nr_q_94297 nr_a__94301 nr_a__94302 
  have eq40_1 := (X_94312.2 40 1 (by decide)).trans eq40_1
  have eq41_1 := (X_94312.2 41 1 (by decide)).trans eq41_1
  have eq10_31 := (X_94312.2 10 31 (by decide)).trans eq10_31
  have eq20_5 := (X_94312.2 20 5 (by decide)).trans eq20_5
  have eq20_6 := (X_94312.2 20 6 (by decide)).trans eq20_6
  have eq20_7 := (X_94312.2 20 7 (by decide)).trans eq20_7
  have eq20_8 := (X_94312.2 20 8 (by decide)).trans eq20_8
  have eq20_9 := (X_94312.2 20 9 (by decide)).trans eq20_9
  have fam_sc := fam_x fam_sc X_94312 (by decide)
  have fam_pa := fam_x fam_pa X_94312 (by decide)
  have nr_h := Z_94314 _ nr_h (p_h.neK p_q_94297 (by decide)) (p_h.neA p_a__94301) (p_h.neA p_a__94302)
  have nr_q_93458 := Z_94314 _ nr_q_93458 (p_q_93458.neB p_q_94297) (p_q_93458.neN p_a__94301 (by decide)) (p_q_93458.neN p_a__94302 (by decide))
  have nr_q_93480 := Z_94314 _ nr_q_93480 (p_q_93480.neB p_q_94297) (p_q_93480.neN p_a__94301 (by decide)) (p_q_93480.neN p_a__94302 (by decide))
  have hout : ∀ x, x ∈ L → NRg gl_50 ad x → NRg gl_98 ad47 x := fun x hx hn => Z_94314 x (hout x hx hn) (fun e => whkq_94297 (by rw [← e]; exact hx)) (fun e => w_94308 (by rw [← e]; exact hx)) (fun e => w_94310 (by rw [← e]; exact hx))
  have hext := hext.tr X_94312
  have eq10_61 := Y_94313
  have hkI : kp L_94299 f_94300 L_94299 f_94300 [h, q_93458, q_93480] := kp.rf
  refine pg_aast S Y (k := 3) p_q_93480 rfl p_q_94297 ok_X4.1 (by unfold vp_in; decide) dX10_init_164 (fun f_94316 H locs ef_94316 Y => ?_)
  obtain ⟨g_94315, eg_94315⟩ : ∃ z, z = va_up (g_94295) (29 : Int32).toNatClampNeg (some q_94297) := ⟨_, rfl⟩
  rw [← eg_94315] at ef_94316
  have p_h := p_h.up ef_94316 ((p_h.neA p_q_93480))
  have p_q_93458 := p_q_93458.up ef_94316 ((p_q_93458.neN p_q_93480 (by decide)))
  have p_q_94297 := p_q_94297.up ef_94316 ((p_q_94297.neA p_q_93480))
  have p_q_93480 := p_q_93480.me ef_94316
  have hk := hk.upN ef_94316 whkq_93480
  have hkI := hkI.up ef_94316 (by simp)
  have fam_pa := fam_s (i := 29) fam_pa eq10_61 eg_94315
  refine lv_iinc (v := 30) (lv' := [(1, .int 30), (0, .ref h)]) hx hb dX10_init_165 hl (k := 0) rfl (by decide) (by decide) rfl (fun ls hl => ?_)
  refine lv_goto (tgt := 146) hx hb dX10_init_168 (by decide) ?_
  refine lv_iload_n hx hb dX10_init_146 rfl (lv_at hl 0 rfl) ?_
  refine lv_bipush (v := 30) hx hb dX10_init_147 (by decide) ?_
  refine lv_icmp_ge (tgt := 171) hx hb dX10_init_149 (by decide) (fun _ => ?_) (fun h => absurd (by decide) h)
  have I := I.kp hkI (allc nr_h (allc nr_q_93458 (allc nr_q_93480 all0)))
  have hkI : kp L_94299 f_94316 L_94299 f_94316 [h, q_93458, q_93480] := kp.rf
  obtain ⟨ad48, I, X_94317, Y_94318, Z_94319⟩ := SHC.add (l2 := gl_99) I (k := 42) (n := 1) rfl (by decide) rfl p_q_93458 nr_q_93458 ⟨_, rfl, fam_sc⟩ (show ∀ t, t < 4 → 4 + t < 8 from fun t ht => by omega)
  have eq40_1 := (X_94317.2 40 1 (by decide)).trans eq40_1
  have eq41_1 := (X_94317.2 41 1 (by decide)).trans eq41_1
  have eq10_31 := (X_94317.2 10 31 (by decide)).trans eq10_31
  have eq20_5 := (X_94317.2 20 5 (by decide)).trans eq20_5
  have eq20_6 := (X_94317.2 20 6 (by decide)).trans eq20_6
  have eq20_7 := (X_94317.2 20 7 (by decide)).trans eq20_7
  have eq20_8 := (X_94317.2 20 8 (by decide)).trans eq20_8
  have eq20_9 := (X_94317.2 20 9 (by decide)).trans eq20_9
  have fam_sc := fam_x fam_sc X_94317 (by decide)
  have fam_pa := fam_x fam_pa X_94317 (by decide)
  have nr_h := Z_94319 _ nr_h (p_h.neA p_q_93458)
  have nr_q_93480 := Z_94319 _ nr_q_93480 (p_q_93480.neN p_q_93458 (by decide))
  have hout : ∀ x, x ∈ L → NRg gl_50 ad x → NRg gl_99 ad48 x := fun x hx hn => Z_94319 x (hout x hx hn) (fun e => whkq_93458 (by rw [← e]; exact hx))
  have hext := hext.tr X_94317
  have eq42_1 := Y_94318
  have hkI : kp L_94299 f_94316 L_94299 f_94316 [h, q_93480] := kp.rf
  have I := I.kp hkI (allc nr_h (allc nr_q_93480 all0))
  have hkI : kp L_94299 f_94316 L_94299 f_94316 [h, q_93480] := kp.rf
  obtain ⟨ad49, I, X_94320, Y_94321, Z_94322⟩ := SHC.add (l2 := gl_51) I (k := 43) (n := 1) rfl (by decide) rfl p_q_93480 nr_q_93480 ⟨_, rfl, fam_pa⟩ (show ∀ t, t < 30 → 32 + t < 62 from fun t ht => by omega)
  have eq40_1 := (X_94320.2 40 1 (by decide)).trans eq40_1
  have eq41_1 := (X_94320.2 41 1 (by decide)).trans eq41_1
  have eq10_31 := (X_94320.2 10 31 (by decide)).trans eq10_31
  have eq20_5 := (X_94320.2 20 5 (by decide)).trans eq20_5
  have eq20_6 := (X_94320.2 20 6 (by decide)).trans eq20_6
  have eq20_7 := (X_94320.2 20 7 (by decide)).trans eq20_7
  have eq20_8 := (X_94320.2 20 8 (by decide)).trans eq20_8
  have eq20_9 := (X_94320.2 20 9 (by decide)).trans eq20_9
  have eq42_1 := (X_94320.2 42 1 (by decide)).trans eq42_1
  have fam_sc := fam_x fam_sc X_94320 (by decide)
  have fam_pa := fam_x fam_pa X_94320 (by decide)
  have nr_h := Z_94322 _ nr_h (p_h.neA p_q_93480)
  have hout : ∀ x, x ∈ L → NRg gl_50 ad x → NRg gl_51 ad49 x := fun x hx hn => Z_94322 x (hout x hx hn) (fun e => whkq_93480 (by rw [← e]; exact hx))
  have hext := hext.tr X_94320
  have eq43_1 := Y_94321
  have hkI : kp L_94299 f_94316 L_94299 f_94316 [h] := kp.rf
  have p_h : pt L_94299 f_94316 h (.inr (10, [.ref (ad49 40 1), .ref (ad49 41 1), .ref (ad49 42 1), .ref (ad49 10 31), .ref (ad49 43 1), .ref (ad49 20 5), .ref (ad49 20 6), .ref (ad49 20 7), .ref (ad49 20 8), .ref (ad49 20 9), .int 0, .int 0, .int (-1), .int 0, .int 0])) := by rw [eq40_1, eq41_1, eq42_1, eq10_31, eq43_1, eq20_5, eq20_6, eq20_7, eq20_8, eq20_9]; exact p_h
  exact prV (post := fun L1 f1 => ∃ ad2 : Nat → Nat → Nat, kp L f L1 f1 [h] ∧ pt L1 f1 h (.inr (10, [.ref (ad2 40 1), .ref (ad2 41 1), .ref (ad2 42 1), .ref (ad2 10 31), .ref (ad2 43 1), .ref (ad2 20 5), .ref (ad2 20 6), .ref (ad2 20 7), .ref (ad2 20 8), .ref (ad2 20 9), .int 0, .int 0, .int (-1), .int 0, .int 0])) ∧ SHC gl_51 G ad2 L1 f1 ∧ EXT gl_50 ad gl_51 ad2 ∧ (∀ x, x ∈ L → NRg gl_50 ad x → NRg gl_51 ad2 x)) S Y (by decide) (by decide) hA1 ⟨ad49, hk, p_h, I, hext, hout⟩ dX10_init_171
