def wlX11_init_0 : List Nat := [42, 183, 0, 1, 42, 17, 0, 196, 188, 10, 181, 0, 7, 42, 16, 49, 188, 10, 181, 0, 13, 42, 17, 1, 64, 188, 10, 181, 0, 16, 42, 16, 11]
theorem whX11_init_0 : WLy cX11_init 0 wlX11_init_0 := by decide +kernel
theorem dX11_init_0 : decode cX11_init 0 = .ok (.aload_n 0, 1) := zD42 whX11_init_0 (p := 0) rfl
theorem dX11_init_1 : decode cX11_init 1 = .ok (.invokespecial 1, 3) := zD183 whX11_init_0 (p := 1) rfl rfl
theorem dX11_init_4 : decode cX11_init 4 = .ok (.aload_n 0, 1) := zD42 whX11_init_0 (p := 4) rfl
theorem dX11_init_5 : decode cX11_init 5 = .ok (.sipush 196, 3) := zD17p whX11_init_0 (p := 5) (v := 196) rfl rfl rfl
theorem dX11_init_10 : decode cX11_init 10 = .ok (.putfield 7, 3) := zD181 whX11_init_0 (p := 10) rfl rfl
theorem dX11_init_13 : decode cX11_init 13 = .ok (.aload_n 0, 1) := zD42 whX11_init_0 (p := 13) rfl
theorem dX11_init_14 : decode cX11_init 14 = .ok (.bipush 49, 2) := zD16p whX11_init_0 (p := 14) (v := 49) rfl rfl rfl
theorem dX11_init_18 : decode cX11_init 18 = .ok (.putfield 13, 3) := zD181 whX11_init_0 (p := 18) rfl rfl
theorem dX11_init_21 : decode cX11_init 21 = .ok (.aload_n 0, 1) := zD42 whX11_init_0 (p := 21) rfl
theorem dX11_init_22 : decode cX11_init 22 = .ok (.sipush 320, 3) := zD17p whX11_init_0 (p := 22) (v := 320) rfl rfl rfl
theorem dX11_init_27 : decode cX11_init 27 = .ok (.putfield 16, 3) := zD181 whX11_init_0 (p := 27) rfl rfl
theorem dX11_init_30 : decode cX11_init 30 = .ok (.aload_n 0, 1) := zD42 whX11_init_0 (p := 30) rfl
theorem dX11_init_31 : decode cX11_init 31 = .ok (.bipush 11, 2) := zD16p whX11_init_0 (p := 31) (v := 11) rfl rfl rfl
def wlX11_init_1 : List Nat := [188, 10, 89, 3, 3, 79, 89, 4, 8, 79, 89, 5, 16, 12, 79, 89, 6, 16, 18, 79, 89, 7, 16, 23, 79, 89, 8, 16, 28, 79, 89, 16, 6]
theorem whX11_init_1 : WLy cX11_init 33 wlX11_init_1 := by decide +kernel
theorem dX11_init_35 : decode cX11_init 35 = .ok (.dup, 1) := zD89 whX11_init_1 (p := 2) rfl
theorem dX11_init_36 : decode cX11_init 36 = .ok (.iconst 0, 1) := zD3 whX11_init_1 (p := 3) rfl
theorem dX11_init_37 : decode cX11_init 37 = .ok (.iconst 0, 1) := zD3 whX11_init_1 (p := 4) rfl
theorem dX11_init_38 : decode cX11_init 38 = .ok (.iastore, 1) := zD79 whX11_init_1 (p := 5) rfl
theorem dX11_init_39 : decode cX11_init 39 = .ok (.dup, 1) := zD89 whX11_init_1 (p := 6) rfl
theorem dX11_init_40 : decode cX11_init 40 = .ok (.iconst 1, 1) := zD4 whX11_init_1 (p := 7) rfl
theorem dX11_init_41 : decode cX11_init 41 = .ok (.iconst 5, 1) := zD8 whX11_init_1 (p := 8) rfl
theorem dX11_init_42 : decode cX11_init 42 = .ok (.iastore, 1) := zD79 whX11_init_1 (p := 9) rfl
theorem dX11_init_43 : decode cX11_init 43 = .ok (.dup, 1) := zD89 whX11_init_1 (p := 10) rfl
theorem dX11_init_44 : decode cX11_init 44 = .ok (.iconst 2, 1) := zD5 whX11_init_1 (p := 11) rfl
theorem dX11_init_45 : decode cX11_init 45 = .ok (.bipush 12, 2) := zD16p whX11_init_1 (p := 12) (v := 12) rfl rfl rfl
theorem dX11_init_47 : decode cX11_init 47 = .ok (.iastore, 1) := zD79 whX11_init_1 (p := 14) rfl
theorem dX11_init_48 : decode cX11_init 48 = .ok (.dup, 1) := zD89 whX11_init_1 (p := 15) rfl
theorem dX11_init_49 : decode cX11_init 49 = .ok (.iconst 3, 1) := zD6 whX11_init_1 (p := 16) rfl
theorem dX11_init_50 : decode cX11_init 50 = .ok (.bipush 18, 2) := zD16p whX11_init_1 (p := 17) (v := 18) rfl rfl rfl
theorem dX11_init_52 : decode cX11_init 52 = .ok (.iastore, 1) := zD79 whX11_init_1 (p := 19) rfl
theorem dX11_init_53 : decode cX11_init 53 = .ok (.dup, 1) := zD89 whX11_init_1 (p := 20) rfl
theorem dX11_init_54 : decode cX11_init 54 = .ok (.iconst 4, 1) := zD7 whX11_init_1 (p := 21) rfl
theorem dX11_init_55 : decode cX11_init 55 = .ok (.bipush 23, 2) := zD16p whX11_init_1 (p := 22) (v := 23) rfl rfl rfl
theorem dX11_init_57 : decode cX11_init 57 = .ok (.iastore, 1) := zD79 whX11_init_1 (p := 24) rfl
theorem dX11_init_58 : decode cX11_init 58 = .ok (.dup, 1) := zD89 whX11_init_1 (p := 25) rfl
theorem dX11_init_59 : decode cX11_init 59 = .ok (.iconst 5, 1) := zD8 whX11_init_1 (p := 26) rfl
theorem dX11_init_60 : decode cX11_init 60 = .ok (.bipush 28, 2) := zD16p whX11_init_1 (p := 27) (v := 28) rfl rfl rfl
theorem dX11_init_62 : decode cX11_init 62 = .ok (.iastore, 1) := zD79 whX11_init_1 (p := 29) rfl
theorem dX11_init_63 : decode cX11_init 63 = .ok (.dup, 1) := zD89 whX11_init_1 (p := 30) rfl
theorem dX11_init_64 : decode cX11_init 64 = .ok (.bipush 6, 2) := zD16p whX11_init_1 (p := 31) (v := 6) rfl rfl rfl
def wlX11_init_2 : List Nat := [16, 34, 79, 89, 16, 7, 16, 42, 79, 89, 16, 8, 16, 46, 79, 89, 16, 9, 16, 50, 79, 89, 16, 10, 16, 54, 79, 181, 0, 19, 42, 16, 54]
theorem whX11_init_2 : WLy cX11_init 66 wlX11_init_2 := by decide +kernel
theorem dX11_init_66 : decode cX11_init 66 = .ok (.bipush 34, 2) := zD16p whX11_init_2 (p := 0) (v := 34) rfl rfl rfl
theorem dX11_init_68 : decode cX11_init 68 = .ok (.iastore, 1) := zD79 whX11_init_2 (p := 2) rfl
theorem dX11_init_69 : decode cX11_init 69 = .ok (.dup, 1) := zD89 whX11_init_2 (p := 3) rfl
theorem dX11_init_70 : decode cX11_init 70 = .ok (.bipush 7, 2) := zD16p whX11_init_2 (p := 4) (v := 7) rfl rfl rfl
theorem dX11_init_72 : decode cX11_init 72 = .ok (.bipush 42, 2) := zD16p whX11_init_2 (p := 6) (v := 42) rfl rfl rfl
theorem dX11_init_74 : decode cX11_init 74 = .ok (.iastore, 1) := zD79 whX11_init_2 (p := 8) rfl
theorem dX11_init_75 : decode cX11_init 75 = .ok (.dup, 1) := zD89 whX11_init_2 (p := 9) rfl
theorem dX11_init_76 : decode cX11_init 76 = .ok (.bipush 8, 2) := zD16p whX11_init_2 (p := 10) (v := 8) rfl rfl rfl
theorem dX11_init_78 : decode cX11_init 78 = .ok (.bipush 46, 2) := zD16p whX11_init_2 (p := 12) (v := 46) rfl rfl rfl
theorem dX11_init_80 : decode cX11_init 80 = .ok (.iastore, 1) := zD79 whX11_init_2 (p := 14) rfl
theorem dX11_init_81 : decode cX11_init 81 = .ok (.dup, 1) := zD89 whX11_init_2 (p := 15) rfl
theorem dX11_init_82 : decode cX11_init 82 = .ok (.bipush 9, 2) := zD16p whX11_init_2 (p := 16) (v := 9) rfl rfl rfl
theorem dX11_init_84 : decode cX11_init 84 = .ok (.bipush 50, 2) := zD16p whX11_init_2 (p := 18) (v := 50) rfl rfl rfl
theorem dX11_init_86 : decode cX11_init 86 = .ok (.iastore, 1) := zD79 whX11_init_2 (p := 20) rfl
theorem dX11_init_87 : decode cX11_init 87 = .ok (.dup, 1) := zD89 whX11_init_2 (p := 21) rfl
theorem dX11_init_88 : decode cX11_init 88 = .ok (.bipush 10, 2) := zD16p whX11_init_2 (p := 22) (v := 10) rfl rfl rfl
theorem dX11_init_90 : decode cX11_init 90 = .ok (.bipush 54, 2) := zD16p whX11_init_2 (p := 24) (v := 54) rfl rfl rfl
theorem dX11_init_92 : decode cX11_init 92 = .ok (.iastore, 1) := zD79 whX11_init_2 (p := 26) rfl
theorem dX11_init_93 : decode cX11_init 93 = .ok (.putfield 19, 3) := zD181 whX11_init_2 (p := 27) rfl rfl
theorem dX11_init_96 : decode cX11_init 96 = .ok (.aload_n 0, 1) := zD42 whX11_init_2 (p := 30) rfl
theorem dX11_init_97 : decode cX11_init 97 = .ok (.bipush 54, 2) := zD16p whX11_init_2 (p := 31) (v := 54) rfl rfl rfl
def wlX11_init_3 : List Nat := [188, 10, 89, 3, 16, 115, 79, 89, 4, 16, 116, 79, 89, 5, 16, 97, 79, 89, 6, 16, 114, 79, 89, 7, 16, 116, 79, 89, 8, 16, 115, 79]
theorem whX11_init_3 : WLy cX11_init 99 wlX11_init_3 := by decide +kernel
theorem dX11_init_101 : decode cX11_init 101 = .ok (.dup, 1) := zD89 whX11_init_3 (p := 2) rfl
theorem dX11_init_102 : decode cX11_init 102 = .ok (.iconst 0, 1) := zD3 whX11_init_3 (p := 3) rfl
theorem dX11_init_103 : decode cX11_init 103 = .ok (.bipush 115, 2) := zD16p whX11_init_3 (p := 4) (v := 115) rfl rfl rfl
theorem dX11_init_105 : decode cX11_init 105 = .ok (.iastore, 1) := zD79 whX11_init_3 (p := 6) rfl
theorem dX11_init_106 : decode cX11_init 106 = .ok (.dup, 1) := zD89 whX11_init_3 (p := 7) rfl
theorem dX11_init_107 : decode cX11_init 107 = .ok (.iconst 1, 1) := zD4 whX11_init_3 (p := 8) rfl
theorem dX11_init_108 : decode cX11_init 108 = .ok (.bipush 116, 2) := zD16p whX11_init_3 (p := 9) (v := 116) rfl rfl rfl
theorem dX11_init_110 : decode cX11_init 110 = .ok (.iastore, 1) := zD79 whX11_init_3 (p := 11) rfl
theorem dX11_init_111 : decode cX11_init 111 = .ok (.dup, 1) := zD89 whX11_init_3 (p := 12) rfl
theorem dX11_init_112 : decode cX11_init 112 = .ok (.iconst 2, 1) := zD5 whX11_init_3 (p := 13) rfl
theorem dX11_init_113 : decode cX11_init 113 = .ok (.bipush 97, 2) := zD16p whX11_init_3 (p := 14) (v := 97) rfl rfl rfl
theorem dX11_init_115 : decode cX11_init 115 = .ok (.iastore, 1) := zD79 whX11_init_3 (p := 16) rfl
theorem dX11_init_116 : decode cX11_init 116 = .ok (.dup, 1) := zD89 whX11_init_3 (p := 17) rfl
theorem dX11_init_117 : decode cX11_init 117 = .ok (.iconst 3, 1) := zD6 whX11_init_3 (p := 18) rfl
theorem dX11_init_118 : decode cX11_init 118 = .ok (.bipush 114, 2) := zD16p whX11_init_3 (p := 19) (v := 114) rfl rfl rfl
theorem dX11_init_120 : decode cX11_init 120 = .ok (.iastore, 1) := zD79 whX11_init_3 (p := 21) rfl
theorem dX11_init_121 : decode cX11_init 121 = .ok (.dup, 1) := zD89 whX11_init_3 (p := 22) rfl
theorem dX11_init_122 : decode cX11_init 122 = .ok (.iconst 4, 1) := zD7 whX11_init_3 (p := 23) rfl
theorem dX11_init_123 : decode cX11_init 123 = .ok (.bipush 116, 2) := zD16p whX11_init_3 (p := 24) (v := 116) rfl rfl rfl
theorem dX11_init_125 : decode cX11_init 125 = .ok (.iastore, 1) := zD79 whX11_init_3 (p := 26) rfl
theorem dX11_init_126 : decode cX11_init 126 = .ok (.dup, 1) := zD89 whX11_init_3 (p := 27) rfl
theorem dX11_init_127 : decode cX11_init 127 = .ok (.iconst 5, 1) := zD8 whX11_init_3 (p := 28) rfl
theorem dX11_init_128 : decode cX11_init 128 = .ok (.bipush 115, 2) := zD16p whX11_init_3 (p := 29) (v := 115) rfl rfl rfl
theorem dX11_init_130 : decode cX11_init 130 = .ok (.iastore, 1) := zD79 whX11_init_3 (p := 31) rfl
def wlX11_init_4 : List Nat := [89, 16, 6, 16, 116, 79, 89, 16, 7, 16, 114, 79, 89, 16, 8, 16, 101, 79, 89, 16, 9, 16, 116, 79, 89, 16, 10, 16, 99, 79, 89, 16, 11]
theorem whX11_init_4 : WLy cX11_init 131 wlX11_init_4 := by decide +kernel
theorem dX11_init_131 : decode cX11_init 131 = .ok (.dup, 1) := zD89 whX11_init_4 (p := 0) rfl
theorem dX11_init_132 : decode cX11_init 132 = .ok (.bipush 6, 2) := zD16p whX11_init_4 (p := 1) (v := 6) rfl rfl rfl
theorem dX11_init_134 : decode cX11_init 134 = .ok (.bipush 116, 2) := zD16p whX11_init_4 (p := 3) (v := 116) rfl rfl rfl
theorem dX11_init_136 : decode cX11_init 136 = .ok (.iastore, 1) := zD79 whX11_init_4 (p := 5) rfl
theorem dX11_init_137 : decode cX11_init 137 = .ok (.dup, 1) := zD89 whX11_init_4 (p := 6) rfl
theorem dX11_init_138 : decode cX11_init 138 = .ok (.bipush 7, 2) := zD16p whX11_init_4 (p := 7) (v := 7) rfl rfl rfl
theorem dX11_init_140 : decode cX11_init 140 = .ok (.bipush 114, 2) := zD16p whX11_init_4 (p := 9) (v := 114) rfl rfl rfl
theorem dX11_init_142 : decode cX11_init 142 = .ok (.iastore, 1) := zD79 whX11_init_4 (p := 11) rfl
theorem dX11_init_143 : decode cX11_init 143 = .ok (.dup, 1) := zD89 whX11_init_4 (p := 12) rfl
theorem dX11_init_144 : decode cX11_init 144 = .ok (.bipush 8, 2) := zD16p whX11_init_4 (p := 13) (v := 8) rfl rfl rfl
theorem dX11_init_146 : decode cX11_init 146 = .ok (.bipush 101, 2) := zD16p whX11_init_4 (p := 15) (v := 101) rfl rfl rfl
theorem dX11_init_148 : decode cX11_init 148 = .ok (.iastore, 1) := zD79 whX11_init_4 (p := 17) rfl
theorem dX11_init_149 : decode cX11_init 149 = .ok (.dup, 1) := zD89 whX11_init_4 (p := 18) rfl
theorem dX11_init_150 : decode cX11_init 150 = .ok (.bipush 9, 2) := zD16p whX11_init_4 (p := 19) (v := 9) rfl rfl rfl
theorem dX11_init_152 : decode cX11_init 152 = .ok (.bipush 116, 2) := zD16p whX11_init_4 (p := 21) (v := 116) rfl rfl rfl
theorem dX11_init_154 : decode cX11_init 154 = .ok (.iastore, 1) := zD79 whX11_init_4 (p := 23) rfl
theorem dX11_init_155 : decode cX11_init 155 = .ok (.dup, 1) := zD89 whX11_init_4 (p := 24) rfl
theorem dX11_init_156 : decode cX11_init 156 = .ok (.bipush 10, 2) := zD16p whX11_init_4 (p := 25) (v := 10) rfl rfl rfl
theorem dX11_init_158 : decode cX11_init 158 = .ok (.bipush 99, 2) := zD16p whX11_init_4 (p := 27) (v := 99) rfl rfl rfl
theorem dX11_init_160 : decode cX11_init 160 = .ok (.iastore, 1) := zD79 whX11_init_4 (p := 29) rfl
theorem dX11_init_161 : decode cX11_init 161 = .ok (.dup, 1) := zD89 whX11_init_4 (p := 30) rfl
theorem dX11_init_162 : decode cX11_init 162 = .ok (.bipush 11, 2) := zD16p whX11_init_4 (p := 31) (v := 11) rfl rfl rfl
def wlX11_init_5 : List Nat := [16, 104, 79, 89, 16, 12, 16, 98, 79, 89, 16, 13, 16, 101, 79, 89, 16, 14, 16, 97, 79, 89, 16, 15, 16, 114, 79, 89, 16, 16, 16, 101]
theorem whX11_init_5 : WLy cX11_init 164 wlX11_init_5 := by decide +kernel
theorem dX11_init_164 : decode cX11_init 164 = .ok (.bipush 104, 2) := zD16p whX11_init_5 (p := 0) (v := 104) rfl rfl rfl
theorem dX11_init_166 : decode cX11_init 166 = .ok (.iastore, 1) := zD79 whX11_init_5 (p := 2) rfl
theorem dX11_init_167 : decode cX11_init 167 = .ok (.dup, 1) := zD89 whX11_init_5 (p := 3) rfl
theorem dX11_init_168 : decode cX11_init 168 = .ok (.bipush 12, 2) := zD16p whX11_init_5 (p := 4) (v := 12) rfl rfl rfl
theorem dX11_init_170 : decode cX11_init 170 = .ok (.bipush 98, 2) := zD16p whX11_init_5 (p := 6) (v := 98) rfl rfl rfl
theorem dX11_init_172 : decode cX11_init 172 = .ok (.iastore, 1) := zD79 whX11_init_5 (p := 8) rfl
theorem dX11_init_173 : decode cX11_init 173 = .ok (.dup, 1) := zD89 whX11_init_5 (p := 9) rfl
theorem dX11_init_174 : decode cX11_init 174 = .ok (.bipush 13, 2) := zD16p whX11_init_5 (p := 10) (v := 13) rfl rfl rfl
theorem dX11_init_176 : decode cX11_init 176 = .ok (.bipush 101, 2) := zD16p whX11_init_5 (p := 12) (v := 101) rfl rfl rfl
theorem dX11_init_178 : decode cX11_init 178 = .ok (.iastore, 1) := zD79 whX11_init_5 (p := 14) rfl
theorem dX11_init_179 : decode cX11_init 179 = .ok (.dup, 1) := zD89 whX11_init_5 (p := 15) rfl
theorem dX11_init_180 : decode cX11_init 180 = .ok (.bipush 14, 2) := zD16p whX11_init_5 (p := 16) (v := 14) rfl rfl rfl
theorem dX11_init_182 : decode cX11_init 182 = .ok (.bipush 97, 2) := zD16p whX11_init_5 (p := 18) (v := 97) rfl rfl rfl
theorem dX11_init_184 : decode cX11_init 184 = .ok (.iastore, 1) := zD79 whX11_init_5 (p := 20) rfl
theorem dX11_init_185 : decode cX11_init 185 = .ok (.dup, 1) := zD89 whX11_init_5 (p := 21) rfl
theorem dX11_init_186 : decode cX11_init 186 = .ok (.bipush 15, 2) := zD16p whX11_init_5 (p := 22) (v := 15) rfl rfl rfl
theorem dX11_init_188 : decode cX11_init 188 = .ok (.bipush 114, 2) := zD16p whX11_init_5 (p := 24) (v := 114) rfl rfl rfl
theorem dX11_init_190 : decode cX11_init 190 = .ok (.iastore, 1) := zD79 whX11_init_5 (p := 26) rfl
theorem dX11_init_191 : decode cX11_init 191 = .ok (.dup, 1) := zD89 whX11_init_5 (p := 27) rfl
theorem dX11_init_192 : decode cX11_init 192 = .ok (.bipush 16, 2) := zD16p whX11_init_5 (p := 28) (v := 16) rfl rfl rfl
theorem dX11_init_194 : decode cX11_init 194 = .ok (.bipush 101, 2) := zD16p whX11_init_5 (p := 30) (v := 101) rfl rfl rfl
def wlX11_init_6 : List Nat := [79, 89, 16, 17, 16, 114, 79, 89, 16, 18, 16, 99, 79, 89, 16, 19, 16, 97, 79, 89, 16, 20, 16, 114, 79, 89, 16, 21, 16, 114, 79, 89]
theorem whX11_init_6 : WLy cX11_init 196 wlX11_init_6 := by decide +kernel
theorem dX11_init_196 : decode cX11_init 196 = .ok (.iastore, 1) := zD79 whX11_init_6 (p := 0) rfl
theorem dX11_init_197 : decode cX11_init 197 = .ok (.dup, 1) := zD89 whX11_init_6 (p := 1) rfl
theorem dX11_init_198 : decode cX11_init 198 = .ok (.bipush 17, 2) := zD16p whX11_init_6 (p := 2) (v := 17) rfl rfl rfl
theorem dX11_init_200 : decode cX11_init 200 = .ok (.bipush 114, 2) := zD16p whX11_init_6 (p := 4) (v := 114) rfl rfl rfl
theorem dX11_init_202 : decode cX11_init 202 = .ok (.iastore, 1) := zD79 whX11_init_6 (p := 6) rfl
theorem dX11_init_203 : decode cX11_init 203 = .ok (.dup, 1) := zD89 whX11_init_6 (p := 7) rfl
theorem dX11_init_204 : decode cX11_init 204 = .ok (.bipush 18, 2) := zD16p whX11_init_6 (p := 8) (v := 18) rfl rfl rfl
theorem dX11_init_206 : decode cX11_init 206 = .ok (.bipush 99, 2) := zD16p whX11_init_6 (p := 10) (v := 99) rfl rfl rfl
theorem dX11_init_208 : decode cX11_init 208 = .ok (.iastore, 1) := zD79 whX11_init_6 (p := 12) rfl
theorem dX11_init_209 : decode cX11_init 209 = .ok (.dup, 1) := zD89 whX11_init_6 (p := 13) rfl
theorem dX11_init_210 : decode cX11_init 210 = .ok (.bipush 19, 2) := zD16p whX11_init_6 (p := 14) (v := 19) rfl rfl rfl
theorem dX11_init_212 : decode cX11_init 212 = .ok (.bipush 97, 2) := zD16p whX11_init_6 (p := 16) (v := 97) rfl rfl rfl
theorem dX11_init_214 : decode cX11_init 214 = .ok (.iastore, 1) := zD79 whX11_init_6 (p := 18) rfl
theorem dX11_init_215 : decode cX11_init 215 = .ok (.dup, 1) := zD89 whX11_init_6 (p := 19) rfl
theorem dX11_init_216 : decode cX11_init 216 = .ok (.bipush 20, 2) := zD16p whX11_init_6 (p := 20) (v := 20) rfl rfl rfl
theorem dX11_init_218 : decode cX11_init 218 = .ok (.bipush 114, 2) := zD16p whX11_init_6 (p := 22) (v := 114) rfl rfl rfl
theorem dX11_init_220 : decode cX11_init 220 = .ok (.iastore, 1) := zD79 whX11_init_6 (p := 24) rfl
theorem dX11_init_221 : decode cX11_init 221 = .ok (.dup, 1) := zD89 whX11_init_6 (p := 25) rfl
theorem dX11_init_222 : decode cX11_init 222 = .ok (.bipush 21, 2) := zD16p whX11_init_6 (p := 26) (v := 21) rfl rfl rfl
theorem dX11_init_224 : decode cX11_init 224 = .ok (.bipush 114, 2) := zD16p whX11_init_6 (p := 28) (v := 114) rfl rfl rfl
theorem dX11_init_226 : decode cX11_init 226 = .ok (.iastore, 1) := zD79 whX11_init_6 (p := 30) rfl
theorem dX11_init_227 : decode cX11_init 227 = .ok (.dup, 1) := zD89 whX11_init_6 (p := 31) rfl
def wlX11_init_7 : List Nat := [16, 22, 16, 121, 79, 89, 16, 23, 16, 112, 79, 89, 16, 24, 16, 108, 79, 89, 16, 25, 16, 97, 79, 89, 16, 26, 16, 105, 79, 89, 16, 27]
theorem whX11_init_7 : WLy cX11_init 228 wlX11_init_7 := by decide +kernel
theorem dX11_init_228 : decode cX11_init 228 = .ok (.bipush 22, 2) := zD16p whX11_init_7 (p := 0) (v := 22) rfl rfl rfl
theorem dX11_init_230 : decode cX11_init 230 = .ok (.bipush 121, 2) := zD16p whX11_init_7 (p := 2) (v := 121) rfl rfl rfl
theorem dX11_init_232 : decode cX11_init 232 = .ok (.iastore, 1) := zD79 whX11_init_7 (p := 4) rfl
theorem dX11_init_233 : decode cX11_init 233 = .ok (.dup, 1) := zD89 whX11_init_7 (p := 5) rfl
theorem dX11_init_234 : decode cX11_init 234 = .ok (.bipush 23, 2) := zD16p whX11_init_7 (p := 6) (v := 23) rfl rfl rfl
theorem dX11_init_236 : decode cX11_init 236 = .ok (.bipush 112, 2) := zD16p whX11_init_7 (p := 8) (v := 112) rfl rfl rfl
theorem dX11_init_238 : decode cX11_init 238 = .ok (.iastore, 1) := zD79 whX11_init_7 (p := 10) rfl
theorem dX11_init_239 : decode cX11_init 239 = .ok (.dup, 1) := zD89 whX11_init_7 (p := 11) rfl
theorem dX11_init_240 : decode cX11_init 240 = .ok (.bipush 24, 2) := zD16p whX11_init_7 (p := 12) (v := 24) rfl rfl rfl
theorem dX11_init_242 : decode cX11_init 242 = .ok (.bipush 108, 2) := zD16p whX11_init_7 (p := 14) (v := 108) rfl rfl rfl
theorem dX11_init_244 : decode cX11_init 244 = .ok (.iastore, 1) := zD79 whX11_init_7 (p := 16) rfl
theorem dX11_init_245 : decode cX11_init 245 = .ok (.dup, 1) := zD89 whX11_init_7 (p := 17) rfl
theorem dX11_init_246 : decode cX11_init 246 = .ok (.bipush 25, 2) := zD16p whX11_init_7 (p := 18) (v := 25) rfl rfl rfl
theorem dX11_init_248 : decode cX11_init 248 = .ok (.bipush 97, 2) := zD16p whX11_init_7 (p := 20) (v := 97) rfl rfl rfl
theorem dX11_init_250 : decode cX11_init 250 = .ok (.iastore, 1) := zD79 whX11_init_7 (p := 22) rfl
theorem dX11_init_251 : decode cX11_init 251 = .ok (.dup, 1) := zD89 whX11_init_7 (p := 23) rfl
theorem dX11_init_252 : decode cX11_init 252 = .ok (.bipush 26, 2) := zD16p whX11_init_7 (p := 24) (v := 26) rfl rfl rfl
theorem dX11_init_254 : decode cX11_init 254 = .ok (.bipush 105, 2) := zD16p whX11_init_7 (p := 26) (v := 105) rfl rfl rfl
theorem dX11_init_256 : decode cX11_init 256 = .ok (.iastore, 1) := zD79 whX11_init_7 (p := 28) rfl
theorem dX11_init_257 : decode cX11_init 257 = .ok (.dup, 1) := zD89 whX11_init_7 (p := 29) rfl
theorem dX11_init_258 : decode cX11_init 258 = .ok (.bipush 27, 2) := zD16p whX11_init_7 (p := 30) (v := 27) rfl rfl rfl
def wlX11_init_8 : List Nat := [16, 110, 79, 89, 16, 28, 16, 104, 79, 89, 16, 29, 16, 117, 79, 89, 16, 30, 16, 109, 79, 89, 16, 31, 16, 109, 79, 89, 16, 32, 16, 101]
theorem whX11_init_8 : WLy cX11_init 260 wlX11_init_8 := by decide +kernel
theorem dX11_init_260 : decode cX11_init 260 = .ok (.bipush 110, 2) := zD16p whX11_init_8 (p := 0) (v := 110) rfl rfl rfl
theorem dX11_init_262 : decode cX11_init 262 = .ok (.iastore, 1) := zD79 whX11_init_8 (p := 2) rfl
theorem dX11_init_263 : decode cX11_init 263 = .ok (.dup, 1) := zD89 whX11_init_8 (p := 3) rfl
theorem dX11_init_264 : decode cX11_init 264 = .ok (.bipush 28, 2) := zD16p whX11_init_8 (p := 4) (v := 28) rfl rfl rfl
theorem dX11_init_266 : decode cX11_init 266 = .ok (.bipush 104, 2) := zD16p whX11_init_8 (p := 6) (v := 104) rfl rfl rfl
theorem dX11_init_268 : decode cX11_init 268 = .ok (.iastore, 1) := zD79 whX11_init_8 (p := 8) rfl
theorem dX11_init_269 : decode cX11_init 269 = .ok (.dup, 1) := zD89 whX11_init_8 (p := 9) rfl
theorem dX11_init_270 : decode cX11_init 270 = .ok (.bipush 29, 2) := zD16p whX11_init_8 (p := 10) (v := 29) rfl rfl rfl
theorem dX11_init_272 : decode cX11_init 272 = .ok (.bipush 117, 2) := zD16p whX11_init_8 (p := 12) (v := 117) rfl rfl rfl
theorem dX11_init_274 : decode cX11_init 274 = .ok (.iastore, 1) := zD79 whX11_init_8 (p := 14) rfl
theorem dX11_init_275 : decode cX11_init 275 = .ok (.dup, 1) := zD89 whX11_init_8 (p := 15) rfl
theorem dX11_init_276 : decode cX11_init 276 = .ok (.bipush 30, 2) := zD16p whX11_init_8 (p := 16) (v := 30) rfl rfl rfl
theorem dX11_init_278 : decode cX11_init 278 = .ok (.bipush 109, 2) := zD16p whX11_init_8 (p := 18) (v := 109) rfl rfl rfl
theorem dX11_init_280 : decode cX11_init 280 = .ok (.iastore, 1) := zD79 whX11_init_8 (p := 20) rfl
theorem dX11_init_281 : decode cX11_init 281 = .ok (.dup, 1) := zD89 whX11_init_8 (p := 21) rfl
theorem dX11_init_282 : decode cX11_init 282 = .ok (.bipush 31, 2) := zD16p whX11_init_8 (p := 22) (v := 31) rfl rfl rfl
theorem dX11_init_284 : decode cX11_init 284 = .ok (.bipush 109, 2) := zD16p whX11_init_8 (p := 24) (v := 109) rfl rfl rfl
theorem dX11_init_286 : decode cX11_init 286 = .ok (.iastore, 1) := zD79 whX11_init_8 (p := 26) rfl
theorem dX11_init_287 : decode cX11_init 287 = .ok (.dup, 1) := zD89 whX11_init_8 (p := 27) rfl
theorem dX11_init_288 : decode cX11_init 288 = .ok (.bipush 32, 2) := zD16p whX11_init_8 (p := 28) (v := 32) rfl rfl rfl
theorem dX11_init_290 : decode cX11_init 290 = .ok (.bipush 101, 2) := zD16p whX11_init_8 (p := 30) (v := 101) rfl rfl rfl
def wlX11_init_9 : List Nat := [79, 89, 16, 33, 16, 114, 79, 89, 16, 34, 16, 116, 79, 89, 16, 35, 16, 114, 79, 89, 16, 36, 16, 101, 79, 89, 16, 37, 16, 109, 79, 89]
theorem whX11_init_9 : WLy cX11_init 292 wlX11_init_9 := by decide +kernel
theorem dX11_init_292 : decode cX11_init 292 = .ok (.iastore, 1) := zD79 whX11_init_9 (p := 0) rfl
theorem dX11_init_293 : decode cX11_init 293 = .ok (.dup, 1) := zD89 whX11_init_9 (p := 1) rfl
theorem dX11_init_294 : decode cX11_init 294 = .ok (.bipush 33, 2) := zD16p whX11_init_9 (p := 2) (v := 33) rfl rfl rfl
theorem dX11_init_296 : decode cX11_init 296 = .ok (.bipush 114, 2) := zD16p whX11_init_9 (p := 4) (v := 114) rfl rfl rfl
theorem dX11_init_298 : decode cX11_init 298 = .ok (.iastore, 1) := zD79 whX11_init_9 (p := 6) rfl
theorem dX11_init_299 : decode cX11_init 299 = .ok (.dup, 1) := zD89 whX11_init_9 (p := 7) rfl
theorem dX11_init_300 : decode cX11_init 300 = .ok (.bipush 34, 2) := zD16p whX11_init_9 (p := 8) (v := 34) rfl rfl rfl
theorem dX11_init_302 : decode cX11_init 302 = .ok (.bipush 116, 2) := zD16p whX11_init_9 (p := 10) (v := 116) rfl rfl rfl
theorem dX11_init_304 : decode cX11_init 304 = .ok (.iastore, 1) := zD79 whX11_init_9 (p := 12) rfl
theorem dX11_init_305 : decode cX11_init 305 = .ok (.dup, 1) := zD89 whX11_init_9 (p := 13) rfl
theorem dX11_init_306 : decode cX11_init 306 = .ok (.bipush 35, 2) := zD16p whX11_init_9 (p := 14) (v := 35) rfl rfl rfl
theorem dX11_init_308 : decode cX11_init 308 = .ok (.bipush 114, 2) := zD16p whX11_init_9 (p := 16) (v := 114) rfl rfl rfl
theorem dX11_init_310 : decode cX11_init 310 = .ok (.iastore, 1) := zD79 whX11_init_9 (p := 18) rfl
theorem dX11_init_311 : decode cX11_init 311 = .ok (.dup, 1) := zD89 whX11_init_9 (p := 19) rfl
theorem dX11_init_312 : decode cX11_init 312 = .ok (.bipush 36, 2) := zD16p whX11_init_9 (p := 20) (v := 36) rfl rfl rfl
theorem dX11_init_314 : decode cX11_init 314 = .ok (.bipush 101, 2) := zD16p whX11_init_9 (p := 22) (v := 101) rfl rfl rfl
theorem dX11_init_316 : decode cX11_init 316 = .ok (.iastore, 1) := zD79 whX11_init_9 (p := 24) rfl
theorem dX11_init_317 : decode cX11_init 317 = .ok (.dup, 1) := zD89 whX11_init_9 (p := 25) rfl
theorem dX11_init_318 : decode cX11_init 318 = .ok (.bipush 37, 2) := zD16p whX11_init_9 (p := 26) (v := 37) rfl rfl rfl
theorem dX11_init_320 : decode cX11_init 320 = .ok (.bipush 109, 2) := zD16p whX11_init_9 (p := 28) (v := 109) rfl rfl rfl
theorem dX11_init_322 : decode cX11_init 322 = .ok (.iastore, 1) := zD79 whX11_init_9 (p := 30) rfl
theorem dX11_init_323 : decode cX11_init 323 = .ok (.dup, 1) := zD89 whX11_init_9 (p := 31) rfl
def wlX11_init_10 : List Nat := [16, 38, 16, 98, 79, 89, 16, 39, 16, 108, 79, 89, 16, 40, 16, 101, 79, 89, 16, 41, 16, 114, 79, 89, 16, 42, 16, 116, 79, 89, 16, 43]
theorem whX11_init_10 : WLy cX11_init 324 wlX11_init_10 := by decide +kernel
theorem dX11_init_324 : decode cX11_init 324 = .ok (.bipush 38, 2) := zD16p whX11_init_10 (p := 0) (v := 38) rfl rfl rfl
theorem dX11_init_326 : decode cX11_init 326 = .ok (.bipush 98, 2) := zD16p whX11_init_10 (p := 2) (v := 98) rfl rfl rfl
theorem dX11_init_328 : decode cX11_init 328 = .ok (.iastore, 1) := zD79 whX11_init_10 (p := 4) rfl
theorem dX11_init_329 : decode cX11_init 329 = .ok (.dup, 1) := zD89 whX11_init_10 (p := 5) rfl
theorem dX11_init_330 : decode cX11_init 330 = .ok (.bipush 39, 2) := zD16p whX11_init_10 (p := 6) (v := 39) rfl rfl rfl
theorem dX11_init_332 : decode cX11_init 332 = .ok (.bipush 108, 2) := zD16p whX11_init_10 (p := 8) (v := 108) rfl rfl rfl
theorem dX11_init_334 : decode cX11_init 334 = .ok (.iastore, 1) := zD79 whX11_init_10 (p := 10) rfl
theorem dX11_init_335 : decode cX11_init 335 = .ok (.dup, 1) := zD89 whX11_init_10 (p := 11) rfl
theorem dX11_init_336 : decode cX11_init 336 = .ok (.bipush 40, 2) := zD16p whX11_init_10 (p := 12) (v := 40) rfl rfl rfl
theorem dX11_init_338 : decode cX11_init 338 = .ok (.bipush 101, 2) := zD16p whX11_init_10 (p := 14) (v := 101) rfl rfl rfl
theorem dX11_init_340 : decode cX11_init 340 = .ok (.iastore, 1) := zD79 whX11_init_10 (p := 16) rfl
theorem dX11_init_341 : decode cX11_init 341 = .ok (.dup, 1) := zD89 whX11_init_10 (p := 17) rfl
theorem dX11_init_342 : decode cX11_init 342 = .ok (.bipush 41, 2) := zD16p whX11_init_10 (p := 18) (v := 41) rfl rfl rfl
theorem dX11_init_344 : decode cX11_init 344 = .ok (.bipush 114, 2) := zD16p whX11_init_10 (p := 20) (v := 114) rfl rfl rfl
theorem dX11_init_346 : decode cX11_init 346 = .ok (.iastore, 1) := zD79 whX11_init_10 (p := 22) rfl
theorem dX11_init_347 : decode cX11_init 347 = .ok (.dup, 1) := zD89 whX11_init_10 (p := 23) rfl
theorem dX11_init_348 : decode cX11_init 348 = .ok (.bipush 42, 2) := zD16p whX11_init_10 (p := 24) (v := 42) rfl rfl rfl
theorem dX11_init_350 : decode cX11_init 350 = .ok (.bipush 116, 2) := zD16p whX11_init_10 (p := 26) (v := 116) rfl rfl rfl
theorem dX11_init_352 : decode cX11_init 352 = .ok (.iastore, 1) := zD79 whX11_init_10 (p := 28) rfl
theorem dX11_init_353 : decode cX11_init 353 = .ok (.dup, 1) := zD89 whX11_init_10 (p := 29) rfl
theorem dX11_init_354 : decode cX11_init 354 = .ok (.bipush 43, 2) := zD16p whX11_init_10 (p := 30) (v := 43) rfl rfl rfl
def wlX11_init_11 : List Nat := [16, 97, 79, 89, 16, 44, 16, 108, 79, 89, 16, 45, 16, 108, 79, 89, 16, 46, 16, 116, 79, 89, 16, 47, 16, 119, 79, 89, 16, 48, 16, 105]
theorem whX11_init_11 : WLy cX11_init 356 wlX11_init_11 := by decide +kernel
theorem dX11_init_356 : decode cX11_init 356 = .ok (.bipush 97, 2) := zD16p whX11_init_11 (p := 0) (v := 97) rfl rfl rfl
theorem dX11_init_358 : decode cX11_init 358 = .ok (.iastore, 1) := zD79 whX11_init_11 (p := 2) rfl
theorem dX11_init_359 : decode cX11_init 359 = .ok (.dup, 1) := zD89 whX11_init_11 (p := 3) rfl
theorem dX11_init_360 : decode cX11_init 360 = .ok (.bipush 44, 2) := zD16p whX11_init_11 (p := 4) (v := 44) rfl rfl rfl
theorem dX11_init_362 : decode cX11_init 362 = .ok (.bipush 108, 2) := zD16p whX11_init_11 (p := 6) (v := 108) rfl rfl rfl
theorem dX11_init_364 : decode cX11_init 364 = .ok (.iastore, 1) := zD79 whX11_init_11 (p := 8) rfl
theorem dX11_init_365 : decode cX11_init 365 = .ok (.dup, 1) := zD89 whX11_init_11 (p := 9) rfl
theorem dX11_init_366 : decode cX11_init 366 = .ok (.bipush 45, 2) := zD16p whX11_init_11 (p := 10) (v := 45) rfl rfl rfl
theorem dX11_init_368 : decode cX11_init 368 = .ok (.bipush 108, 2) := zD16p whX11_init_11 (p := 12) (v := 108) rfl rfl rfl
theorem dX11_init_370 : decode cX11_init 370 = .ok (.iastore, 1) := zD79 whX11_init_11 (p := 14) rfl
theorem dX11_init_371 : decode cX11_init 371 = .ok (.dup, 1) := zD89 whX11_init_11 (p := 15) rfl
theorem dX11_init_372 : decode cX11_init 372 = .ok (.bipush 46, 2) := zD16p whX11_init_11 (p := 16) (v := 46) rfl rfl rfl
theorem dX11_init_374 : decode cX11_init 374 = .ok (.bipush 116, 2) := zD16p whX11_init_11 (p := 18) (v := 116) rfl rfl rfl
theorem dX11_init_376 : decode cX11_init 376 = .ok (.iastore, 1) := zD79 whX11_init_11 (p := 20) rfl
theorem dX11_init_377 : decode cX11_init 377 = .ok (.dup, 1) := zD89 whX11_init_11 (p := 21) rfl
theorem dX11_init_378 : decode cX11_init 378 = .ok (.bipush 47, 2) := zD16p whX11_init_11 (p := 22) (v := 47) rfl rfl rfl
theorem dX11_init_380 : decode cX11_init 380 = .ok (.bipush 119, 2) := zD16p whX11_init_11 (p := 24) (v := 119) rfl rfl rfl
theorem dX11_init_382 : decode cX11_init 382 = .ok (.iastore, 1) := zD79 whX11_init_11 (p := 26) rfl
theorem dX11_init_383 : decode cX11_init 383 = .ok (.dup, 1) := zD89 whX11_init_11 (p := 27) rfl
theorem dX11_init_384 : decode cX11_init 384 = .ok (.bipush 48, 2) := zD16p whX11_init_11 (p := 28) (v := 48) rfl rfl rfl
theorem dX11_init_386 : decode cX11_init 386 = .ok (.bipush 105, 2) := zD16p whX11_init_11 (p := 30) (v := 105) rfl rfl rfl
def wlX11_init_12 : List Nat := [79, 89, 16, 49, 16, 110, 79, 89, 16, 50, 16, 112, 79, 89, 16, 51, 16, 97, 79, 89, 16, 52, 16, 105, 79, 89, 16, 53, 16, 100, 79, 181, 0, 22]
theorem whX11_init_12 : WLy cX11_init 388 wlX11_init_12 := by decide +kernel
theorem dX11_init_388 : decode cX11_init 388 = .ok (.iastore, 1) := zD79 whX11_init_12 (p := 0) rfl
theorem dX11_init_389 : decode cX11_init 389 = .ok (.dup, 1) := zD89 whX11_init_12 (p := 1) rfl
theorem dX11_init_390 : decode cX11_init 390 = .ok (.bipush 49, 2) := zD16p whX11_init_12 (p := 2) (v := 49) rfl rfl rfl
theorem dX11_init_392 : decode cX11_init 392 = .ok (.bipush 110, 2) := zD16p whX11_init_12 (p := 4) (v := 110) rfl rfl rfl
theorem dX11_init_394 : decode cX11_init 394 = .ok (.iastore, 1) := zD79 whX11_init_12 (p := 6) rfl
theorem dX11_init_395 : decode cX11_init 395 = .ok (.dup, 1) := zD89 whX11_init_12 (p := 7) rfl
theorem dX11_init_396 : decode cX11_init 396 = .ok (.bipush 50, 2) := zD16p whX11_init_12 (p := 8) (v := 50) rfl rfl rfl
theorem dX11_init_398 : decode cX11_init 398 = .ok (.bipush 112, 2) := zD16p whX11_init_12 (p := 10) (v := 112) rfl rfl rfl
theorem dX11_init_400 : decode cX11_init 400 = .ok (.iastore, 1) := zD79 whX11_init_12 (p := 12) rfl
theorem dX11_init_401 : decode cX11_init 401 = .ok (.dup, 1) := zD89 whX11_init_12 (p := 13) rfl
theorem dX11_init_402 : decode cX11_init 402 = .ok (.bipush 51, 2) := zD16p whX11_init_12 (p := 14) (v := 51) rfl rfl rfl
theorem dX11_init_404 : decode cX11_init 404 = .ok (.bipush 97, 2) := zD16p whX11_init_12 (p := 16) (v := 97) rfl rfl rfl
theorem dX11_init_406 : decode cX11_init 406 = .ok (.iastore, 1) := zD79 whX11_init_12 (p := 18) rfl
theorem dX11_init_407 : decode cX11_init 407 = .ok (.dup, 1) := zD89 whX11_init_12 (p := 19) rfl
theorem dX11_init_408 : decode cX11_init 408 = .ok (.bipush 52, 2) := zD16p whX11_init_12 (p := 20) (v := 52) rfl rfl rfl
theorem dX11_init_410 : decode cX11_init 410 = .ok (.bipush 105, 2) := zD16p whX11_init_12 (p := 22) (v := 105) rfl rfl rfl
theorem dX11_init_412 : decode cX11_init 412 = .ok (.iastore, 1) := zD79 whX11_init_12 (p := 24) rfl
theorem dX11_init_413 : decode cX11_init 413 = .ok (.dup, 1) := zD89 whX11_init_12 (p := 25) rfl
theorem dX11_init_414 : decode cX11_init 414 = .ok (.bipush 53, 2) := zD16p whX11_init_12 (p := 26) (v := 53) rfl rfl rfl
theorem dX11_init_416 : decode cX11_init 416 = .ok (.bipush 100, 2) := zD16p whX11_init_12 (p := 28) (v := 100) rfl rfl rfl
theorem dX11_init_418 : decode cX11_init 418 = .ok (.iastore, 1) := zD79 whX11_init_12 (p := 30) rfl
theorem dX11_init_419 : decode cX11_init 419 = .ok (.putfield 22, 3) := zD181 whX11_init_12 (p := 31) rfl rfl
def wlX11_init_13 : List Nat := [42, 16, 10, 188, 11, 181, 0, 25, 42, 16, 10, 188, 11, 181, 0, 29, 42, 17, 3, 2, 188, 11, 181, 0, 32, 42, 16, 32, 188, 10, 181, 0, 35]
theorem whX11_init_13 : WLy cX11_init 422 wlX11_init_13 := by decide +kernel
theorem dX11_init_422 : decode cX11_init 422 = .ok (.aload_n 0, 1) := zD42 whX11_init_13 (p := 0) rfl
theorem dX11_init_423 : decode cX11_init 423 = .ok (.bipush 10, 2) := zD16p whX11_init_13 (p := 1) (v := 10) rfl rfl rfl
theorem dX11_init_427 : decode cX11_init 427 = .ok (.putfield 25, 3) := zD181 whX11_init_13 (p := 5) rfl rfl
theorem dX11_init_430 : decode cX11_init 430 = .ok (.aload_n 0, 1) := zD42 whX11_init_13 (p := 8) rfl
theorem dX11_init_431 : decode cX11_init 431 = .ok (.bipush 10, 2) := zD16p whX11_init_13 (p := 9) (v := 10) rfl rfl rfl
theorem dX11_init_435 : decode cX11_init 435 = .ok (.putfield 29, 3) := zD181 whX11_init_13 (p := 13) rfl rfl
theorem dX11_init_438 : decode cX11_init 438 = .ok (.aload_n 0, 1) := zD42 whX11_init_13 (p := 16) rfl
theorem dX11_init_439 : decode cX11_init 439 = .ok (.sipush 770, 3) := zD17p whX11_init_13 (p := 17) (v := 770) rfl rfl rfl
theorem dX11_init_444 : decode cX11_init 444 = .ok (.putfield 32, 3) := zD181 whX11_init_13 (p := 22) rfl rfl
theorem dX11_init_447 : decode cX11_init 447 = .ok (.aload_n 0, 1) := zD42 whX11_init_13 (p := 25) rfl
theorem dX11_init_448 : decode cX11_init 448 = .ok (.bipush 32, 2) := zD16p whX11_init_13 (p := 26) (v := 32) rfl rfl rfl
theorem dX11_init_452 : decode cX11_init 452 = .ok (.putfield 35, 3) := zD181 whX11_init_13 (p := 30) rfl rfl
def wlX11_init_14 : List Nat := [42, 16, 12, 188, 10, 181, 0, 38, 42, 16, 110, 188, 10, 181, 0, 41, 42, 16, 110, 188, 10, 181, 0, 44, 42, 5, 188, 4, 181, 0, 47, 42]
theorem whX11_init_14 : WLy cX11_init 455 wlX11_init_14 := by decide +kernel
theorem dX11_init_455 : decode cX11_init 455 = .ok (.aload_n 0, 1) := zD42 whX11_init_14 (p := 0) rfl
theorem dX11_init_456 : decode cX11_init 456 = .ok (.bipush 12, 2) := zD16p whX11_init_14 (p := 1) (v := 12) rfl rfl rfl
theorem dX11_init_460 : decode cX11_init 460 = .ok (.putfield 38, 3) := zD181 whX11_init_14 (p := 5) rfl rfl
theorem dX11_init_463 : decode cX11_init 463 = .ok (.aload_n 0, 1) := zD42 whX11_init_14 (p := 8) rfl
theorem dX11_init_464 : decode cX11_init 464 = .ok (.bipush 110, 2) := zD16p whX11_init_14 (p := 9) (v := 110) rfl rfl rfl
theorem dX11_init_468 : decode cX11_init 468 = .ok (.putfield 41, 3) := zD181 whX11_init_14 (p := 13) rfl rfl
theorem dX11_init_471 : decode cX11_init 471 = .ok (.aload_n 0, 1) := zD42 whX11_init_14 (p := 16) rfl
theorem dX11_init_472 : decode cX11_init 472 = .ok (.bipush 110, 2) := zD16p whX11_init_14 (p := 17) (v := 110) rfl rfl rfl
theorem dX11_init_476 : decode cX11_init 476 = .ok (.putfield 44, 3) := zD181 whX11_init_14 (p := 21) rfl rfl
theorem dX11_init_479 : decode cX11_init 479 = .ok (.aload_n 0, 1) := zD42 whX11_init_14 (p := 24) rfl
theorem dX11_init_480 : decode cX11_init 480 = .ok (.iconst 2, 1) := zD5 whX11_init_14 (p := 25) rfl
theorem dX11_init_483 : decode cX11_init 483 = .ok (.putfield 47, 3) := zD181 whX11_init_14 (p := 28) rfl rfl
theorem dX11_init_486 : decode cX11_init 486 = .ok (.aload_n 0, 1) := zD42 whX11_init_14 (p := 31) rfl
def wlX11_init_15 : List Nat := [7, 188, 10, 89, 3, 16, 252, 79, 89, 4, 16, 252, 79, 89, 5, 16, 252, 79, 89, 6, 16, 252, 79, 181, 0, 51, 42, 7, 188, 10, 181, 0, 54]
theorem whX11_init_15 : WLy cX11_init 487 wlX11_init_15 := by decide +kernel
theorem dX11_init_487 : decode cX11_init 487 = .ok (.iconst 4, 1) := zD7 whX11_init_15 (p := 0) rfl
theorem dX11_init_490 : decode cX11_init 490 = .ok (.dup, 1) := zD89 whX11_init_15 (p := 3) rfl
theorem dX11_init_491 : decode cX11_init 491 = .ok (.iconst 0, 1) := zD3 whX11_init_15 (p := 4) rfl
theorem dX11_init_492 : decode cX11_init 492 = .ok (.bipush (-4), 2) := zD16n whX11_init_15 (p := 5) (v := 4) rfl rfl rfl
theorem dX11_init_494 : decode cX11_init 494 = .ok (.iastore, 1) := zD79 whX11_init_15 (p := 7) rfl
theorem dX11_init_495 : decode cX11_init 495 = .ok (.dup, 1) := zD89 whX11_init_15 (p := 8) rfl
theorem dX11_init_496 : decode cX11_init 496 = .ok (.iconst 1, 1) := zD4 whX11_init_15 (p := 9) rfl
theorem dX11_init_497 : decode cX11_init 497 = .ok (.bipush (-4), 2) := zD16n whX11_init_15 (p := 10) (v := 4) rfl rfl rfl
theorem dX11_init_499 : decode cX11_init 499 = .ok (.iastore, 1) := zD79 whX11_init_15 (p := 12) rfl
theorem dX11_init_500 : decode cX11_init 500 = .ok (.dup, 1) := zD89 whX11_init_15 (p := 13) rfl
theorem dX11_init_501 : decode cX11_init 501 = .ok (.iconst 2, 1) := zD5 whX11_init_15 (p := 14) rfl
theorem dX11_init_502 : decode cX11_init 502 = .ok (.bipush (-4), 2) := zD16n whX11_init_15 (p := 15) (v := 4) rfl rfl rfl
theorem dX11_init_504 : decode cX11_init 504 = .ok (.iastore, 1) := zD79 whX11_init_15 (p := 17) rfl
theorem dX11_init_505 : decode cX11_init 505 = .ok (.dup, 1) := zD89 whX11_init_15 (p := 18) rfl
theorem dX11_init_506 : decode cX11_init 506 = .ok (.iconst 3, 1) := zD6 whX11_init_15 (p := 19) rfl
theorem dX11_init_507 : decode cX11_init 507 = .ok (.bipush (-4), 2) := zD16n whX11_init_15 (p := 20) (v := 4) rfl rfl rfl
theorem dX11_init_509 : decode cX11_init 509 = .ok (.iastore, 1) := zD79 whX11_init_15 (p := 22) rfl
theorem dX11_init_510 : decode cX11_init 510 = .ok (.putfield 51, 3) := zD181 whX11_init_15 (p := 23) rfl rfl
theorem dX11_init_513 : decode cX11_init 513 = .ok (.aload_n 0, 1) := zD42 whX11_init_15 (p := 26) rfl
theorem dX11_init_514 : decode cX11_init 514 = .ok (.iconst 4, 1) := zD7 whX11_init_15 (p := 27) rfl
theorem dX11_init_517 : decode cX11_init 517 = .ok (.putfield 54, 3) := zD181 whX11_init_15 (p := 30) rfl rfl
def wlX11_init_16 : List Nat := [42, 17, 0, 160, 188, 10, 181, 0, 57, 177]
theorem whX11_init_16 : WLy cX11_init 520 wlX11_init_16 := by decide +kernel
theorem dX11_init_520 : decode cX11_init 520 = .ok (.aload_n 0, 1) := zD42 whX11_init_16 (p := 0) rfl
theorem dX11_init_521 : decode cX11_init 521 = .ok (.sipush 160, 3) := zD17p whX11_init_16 (p := 1) (v := 160) rfl rfl rfl
theorem dX11_init_526 : decode cX11_init 526 = .ok (.putfield 57, 3) := zD181 whX11_init_16 (p := 6) rfl rfl
theorem dX11_init_529 : decode cX11_init 529 = .ok (.return_, 1) := zD177 whX11_init_16 (p := 9) rfl
def wlX11_in_0 : List Nat := [30, 32, 148, 155, 0, 14, 30, 22, 4, 148, 157, 0, 7, 4, 167, 0, 4, 3, 172]
theorem whX11_in_0 : WLy cX11_in 0 wlX11_in_0 := by decide +kernel
theorem dX11_in_0 : decode cX11_in 0 = .ok (.lload_n 0, 1) := zD30 whX11_in_0 (p := 0) rfl
theorem dX11_in_1 : decode cX11_in 1 = .ok (.lload_n 2, 1) := zD32 whX11_in_0 (p := 1) rfl
theorem dX11_in_2 : decode cX11_in 2 = .ok (.lcmp, 1) := zD148 whX11_in_0 (p := 2) rfl
theorem dX11_in_3 : decode cX11_in 3 = .ok (.ifCond .lt 14, 3) := zD155p whX11_in_0 (p := 3) (v := 14) rfl rfl rfl
theorem dX11_in_6 : decode cX11_in 6 = .ok (.lload_n 0, 1) := zD30 whX11_in_0 (p := 6) rfl
theorem dX11_in_7 : decode cX11_in 7 = .ok (.lload 4, 2) := zD22 whX11_in_0 (p := 7) rfl
theorem dX11_in_9 : decode cX11_in 9 = .ok (.lcmp, 1) := zD148 whX11_in_0 (p := 9) rfl
theorem dX11_in_10 : decode cX11_in 10 = .ok (.ifCond .gt 7, 3) := zD157p whX11_in_0 (p := 10) (v := 7) rfl rfl rfl
theorem dX11_in_13 : decode cX11_in 13 = .ok (.iconst 1, 1) := zD4 whX11_in_0 (p := 13) rfl
theorem dX11_in_14 : decode cX11_in 14 = .ok (.goto 4, 3) := zD167p whX11_in_0 (p := 14) (v := 4) rfl rfl rfl
theorem dX11_in_17 : decode cX11_in 17 = .ok (.iconst 0, 1) := zD3 whX11_in_0 (p := 17) rfl
theorem dX11_in_18 : decode cX11_in 18 = .ok (.ireturn, 1) := zD172 whX11_in_0 (p := 18) rfl
def wlX11_feed_0 : List Nat := [42, 180, 0, 60, 16, 8, 96, 17, 1, 64, 164, 0, 6, 16, 253, 172, 16, 56, 62, 29, 155, 0, 36, 42, 180, 0, 16, 42, 180, 0, 60, 31]
theorem whX11_feed_0 : WLy cX11_feed 0 wlX11_feed_0 := by decide +kernel
theorem dX11_feed_0 : decode cX11_feed 0 = .ok (.aload_n 0, 1) := zD42 whX11_feed_0 (p := 0) rfl
theorem dX11_feed_1 : decode cX11_feed 1 = .ok (.getfield 60, 3) := zD180 whX11_feed_0 (p := 1) rfl rfl
theorem dX11_feed_4 : decode cX11_feed 4 = .ok (.bipush 8, 2) := zD16p whX11_feed_0 (p := 4) (v := 8) rfl rfl rfl
theorem dX11_feed_6 : decode cX11_feed 6 = .ok (.iadd, 1) := zD96 whX11_feed_0 (p := 6) rfl
theorem dX11_feed_7 : decode cX11_feed 7 = .ok (.sipush 320, 3) := zD17p whX11_feed_0 (p := 7) (v := 320) rfl rfl rfl
theorem dX11_feed_10 : decode cX11_feed 10 = .ok (.if_icmp .le 6, 3) := zD164p whX11_feed_0 (p := 10) (v := 6) rfl rfl rfl
theorem dX11_feed_13 : decode cX11_feed 13 = .ok (.bipush (-3), 2) := zD16n whX11_feed_0 (p := 13) (v := 3) rfl rfl rfl
theorem dX11_feed_15 : decode cX11_feed 15 = .ok (.ireturn, 1) := zD172 whX11_feed_0 (p := 15) rfl
theorem dX11_feed_16 : decode cX11_feed 16 = .ok (.bipush 56, 2) := zD16p whX11_feed_0 (p := 16) (v := 56) rfl rfl rfl
theorem dX11_feed_18 : decode cX11_feed 18 = .ok (.istore_n 3, 1) := zD62 whX11_feed_0 (p := 18) rfl
theorem dX11_feed_19 : decode cX11_feed 19 = .ok (.iload_n 3, 1) := zD29 whX11_feed_0 (p := 19) rfl
theorem dX11_feed_20 : decode cX11_feed 20 = .ok (.ifCond .lt 36, 3) := zD155p whX11_feed_0 (p := 20) (v := 36) rfl rfl rfl
theorem dX11_feed_23 : decode cX11_feed 23 = .ok (.aload_n 0, 1) := zD42 whX11_feed_0 (p := 23) rfl
theorem dX11_feed_24 : decode cX11_feed 24 = .ok (.getfield 16, 3) := zD180 whX11_feed_0 (p := 24) rfl rfl
theorem dX11_feed_27 : decode cX11_feed 27 = .ok (.aload_n 0, 1) := zD42 whX11_feed_0 (p := 27) rfl
theorem dX11_feed_28 : decode cX11_feed 28 = .ok (.getfield 60, 3) := zD180 whX11_feed_0 (p := 28) rfl rfl
theorem dX11_feed_31 : decode cX11_feed 31 = .ok (.lload_n 1, 1) := zD31 whX11_feed_0 (p := 31) rfl
def wlX11_feed_1 : List Nat := [29, 123, 136, 17, 0, 255, 126, 79, 42, 89, 180, 0, 60, 4, 96, 181, 0, 60, 132, 3, 248, 167, 255, 222, 42, 180, 0, 60, 172]
theorem whX11_feed_1 : WLy cX11_feed 32 wlX11_feed_1 := by decide +kernel
theorem dX11_feed_32 : decode cX11_feed 32 = .ok (.iload_n 3, 1) := zD29 whX11_feed_1 (p := 0) rfl
theorem dX11_feed_33 : decode cX11_feed 33 = .ok (.lshr, 1) := zD123 whX11_feed_1 (p := 1) rfl
theorem dX11_feed_34 : decode cX11_feed 34 = .ok (.l2i, 1) := zD136 whX11_feed_1 (p := 2) rfl
theorem dX11_feed_35 : decode cX11_feed 35 = .ok (.sipush 255, 3) := zD17p whX11_feed_1 (p := 3) (v := 255) rfl rfl rfl
theorem dX11_feed_38 : decode cX11_feed 38 = .ok (.iand, 1) := zD126 whX11_feed_1 (p := 6) rfl
theorem dX11_feed_39 : decode cX11_feed 39 = .ok (.iastore, 1) := zD79 whX11_feed_1 (p := 7) rfl
theorem dX11_feed_40 : decode cX11_feed 40 = .ok (.aload_n 0, 1) := zD42 whX11_feed_1 (p := 8) rfl
theorem dX11_feed_41 : decode cX11_feed 41 = .ok (.dup, 1) := zD89 whX11_feed_1 (p := 9) rfl
theorem dX11_feed_42 : decode cX11_feed 42 = .ok (.getfield 60, 3) := zD180 whX11_feed_1 (p := 10) rfl rfl
theorem dX11_feed_45 : decode cX11_feed 45 = .ok (.iconst 1, 1) := zD4 whX11_feed_1 (p := 13) rfl
theorem dX11_feed_46 : decode cX11_feed 46 = .ok (.iadd, 1) := zD96 whX11_feed_1 (p := 14) rfl
theorem dX11_feed_47 : decode cX11_feed 47 = .ok (.putfield 60, 3) := zD181 whX11_feed_1 (p := 15) rfl rfl
theorem dX11_feed_50 : decode cX11_feed 50 = .ok (.iinc 3 (-8), 3) := zD132n whX11_feed_1 (p := 18) (v := 8) rfl rfl rfl
theorem dX11_feed_53 : decode cX11_feed 53 = .ok (.goto (-34), 3) := zD167n whX11_feed_1 (p := 21) (v := 34) rfl rfl rfl
theorem dX11_feed_56 : decode cX11_feed 56 = .ok (.aload_n 0, 1) := zD42 whX11_feed_1 (p := 24) rfl
theorem dX11_feed_57 : decode cX11_feed 57 = .ok (.getfield 60, 3) := zD180 whX11_feed_1 (p := 25) rfl rfl
theorem dX11_feed_60 : decode cX11_feed 60 = .ok (.ireturn, 1) := zD172 whX11_feed_1 (p := 28) rfl
def wlX11_end_0 : List Nat := [27, 133, 9, 42, 180, 0, 60, 133, 184, 0, 64, 154, 0, 5, 2, 172, 42, 180, 0, 60, 61, 42, 27, 181, 0, 60, 28, 172]
theorem whX11_end_0 : WLy cX11_end 0 wlX11_end_0 := by decide +kernel
theorem dX11_end_0 : decode cX11_end 0 = .ok (.iload_n 1, 1) := zD27 whX11_end_0 (p := 0) rfl
theorem dX11_end_1 : decode cX11_end 1 = .ok (.i2l, 1) := zD133 whX11_end_0 (p := 1) rfl
theorem dX11_end_2 : decode cX11_end 2 = .ok (.lconst 0, 1) := zD9 whX11_end_0 (p := 2) rfl
theorem dX11_end_3 : decode cX11_end 3 = .ok (.aload_n 0, 1) := zD42 whX11_end_0 (p := 3) rfl
theorem dX11_end_4 : decode cX11_end 4 = .ok (.getfield 60, 3) := zD180 whX11_end_0 (p := 4) rfl rfl
theorem dX11_end_7 : decode cX11_end 7 = .ok (.i2l, 1) := zD133 whX11_end_0 (p := 7) rfl
theorem dX11_end_8 : decode cX11_end 8 = .ok (.invokestatic 64, 3) := zD184 whX11_end_0 (p := 8) rfl rfl
theorem dX11_end_11 : decode cX11_end 11 = .ok (.ifCond .ne 5, 3) := zD154p whX11_end_0 (p := 11) (v := 5) rfl rfl rfl
theorem dX11_end_14 : decode cX11_end 14 = .ok (.iconst (-1), 1) := zD2 whX11_end_0 (p := 14) rfl
theorem dX11_end_15 : decode cX11_end 15 = .ok (.ireturn, 1) := zD172 whX11_end_0 (p := 15) rfl
theorem dX11_end_16 : decode cX11_end 16 = .ok (.aload_n 0, 1) := zD42 whX11_end_0 (p := 16) rfl
theorem dX11_end_17 : decode cX11_end 17 = .ok (.getfield 60, 3) := zD180 whX11_end_0 (p := 17) rfl rfl
theorem dX11_end_20 : decode cX11_end 20 = .ok (.istore_n 2, 1) := zD61 whX11_end_0 (p := 20) rfl
theorem dX11_end_21 : decode cX11_end 21 = .ok (.aload_n 0, 1) := zD42 whX11_end_0 (p := 21) rfl
theorem dX11_end_22 : decode cX11_end 22 = .ok (.iload_n 1, 1) := zD27 whX11_end_0 (p := 22) rfl
theorem dX11_end_23 : decode cX11_end 23 = .ok (.putfield 60, 3) := zD181 whX11_end_0 (p := 23) rfl rfl
theorem dX11_end_26 : decode cX11_end 26 = .ok (.iload_n 2, 1) := zD28 whX11_end_0 (p := 26) rfl
theorem dX11_end_27 : decode cX11_end 27 = .ok (.ireturn, 1) := zD172 whX11_end_0 (p := 27) rfl
def wlX11_byteAt_0 : List Nat := [27, 42, 180, 0, 60, 162, 0, 12, 42, 180, 0, 16, 27, 46, 167, 0, 5, 16, 252, 172]
theorem whX11_byteAt_0 : WLy cX11_byteAt 0 wlX11_byteAt_0 := by decide +kernel
theorem dX11_byteAt_0 : decode cX11_byteAt 0 = .ok (.iload_n 1, 1) := zD27 whX11_byteAt_0 (p := 0) rfl
theorem dX11_byteAt_1 : decode cX11_byteAt 1 = .ok (.aload_n 0, 1) := zD42 whX11_byteAt_0 (p := 1) rfl
theorem dX11_byteAt_2 : decode cX11_byteAt 2 = .ok (.getfield 60, 3) := zD180 whX11_byteAt_0 (p := 2) rfl rfl
theorem dX11_byteAt_5 : decode cX11_byteAt 5 = .ok (.if_icmp .ge 12, 3) := zD162p whX11_byteAt_0 (p := 5) (v := 12) rfl rfl rfl
theorem dX11_byteAt_8 : decode cX11_byteAt 8 = .ok (.aload_n 0, 1) := zD42 whX11_byteAt_0 (p := 8) rfl
theorem dX11_byteAt_9 : decode cX11_byteAt 9 = .ok (.getfield 16, 3) := zD180 whX11_byteAt_0 (p := 9) rfl rfl
theorem dX11_byteAt_12 : decode cX11_byteAt 12 = .ok (.iload_n 1, 1) := zD27 whX11_byteAt_0 (p := 12) rfl
theorem dX11_byteAt_13 : decode cX11_byteAt 13 = .ok (.iaload, 1) := zD46 whX11_byteAt_0 (p := 13) rfl
theorem dX11_byteAt_14 : decode cX11_byteAt 14 = .ok (.goto 5, 3) := zD167p whX11_byteAt_0 (p := 14) (v := 5) rfl rfl rfl
theorem dX11_byteAt_17 : decode cX11_byteAt 17 = .ok (.bipush (-4), 2) := zD16n whX11_byteAt_0 (p := 17) (v := 4) rfl rfl rfl
theorem dX11_byteAt_19 : decode cX11_byteAt 19 = .ok (.ireturn, 1) := zD172 whX11_byteAt_0 (p := 19) rfl
def wlX11_fails_0 : List Nat := [42, 180, 0, 68, 154, 0, 16, 42, 27, 181, 0, 68, 42, 42, 180, 0, 71, 181, 0, 74, 177]
theorem whX11_fails_0 : WLy cX11_fails 0 wlX11_fails_0 := by decide +kernel
theorem dX11_fails_0 : decode cX11_fails 0 = .ok (.aload_n 0, 1) := zD42 whX11_fails_0 (p := 0) rfl
theorem dX11_fails_1 : decode cX11_fails 1 = .ok (.getfield 68, 3) := zD180 whX11_fails_0 (p := 1) rfl rfl
theorem dX11_fails_4 : decode cX11_fails 4 = .ok (.ifCond .ne 16, 3) := zD154p whX11_fails_0 (p := 4) (v := 16) rfl rfl rfl
theorem dX11_fails_7 : decode cX11_fails 7 = .ok (.aload_n 0, 1) := zD42 whX11_fails_0 (p := 7) rfl
theorem dX11_fails_8 : decode cX11_fails 8 = .ok (.iload_n 1, 1) := zD27 whX11_fails_0 (p := 8) rfl
theorem dX11_fails_9 : decode cX11_fails 9 = .ok (.putfield 68, 3) := zD181 whX11_fails_0 (p := 9) rfl rfl
theorem dX11_fails_12 : decode cX11_fails 12 = .ok (.aload_n 0, 1) := zD42 whX11_fails_0 (p := 12) rfl
theorem dX11_fails_13 : decode cX11_fails 13 = .ok (.aload_n 0, 1) := zD42 whX11_fails_0 (p := 13) rfl
theorem dX11_fails_14 : decode cX11_fails 14 = .ok (.getfield 71, 3) := zD180 whX11_fails_0 (p := 14) rfl rfl
theorem dX11_fails_17 : decode cX11_fails 17 = .ok (.putfield 74, 3) := zD181 whX11_fails_0 (p := 17) rfl rfl
theorem dX11_fails_20 : decode cX11_fails 20 = .ok (.return_, 1) := zD177 whX11_fails_0 (p := 20) rfl
def wlX11_nameHere_0 : List Nat := [3, 60, 27, 16, 10, 162, 0, 113, 42, 180, 0, 77, 4, 160, 0, 105, 42, 180, 0, 80, 42, 180, 0, 71, 100, 42, 180, 0, 19, 27, 4, 96]
theorem whX11_nameHere_0 : WLy cX11_nameHere 0 wlX11_nameHere_0 := by decide +kernel
theorem dX11_nameHere_0 : decode cX11_nameHere 0 = .ok (.iconst 0, 1) := zD3 whX11_nameHere_0 (p := 0) rfl
theorem dX11_nameHere_1 : decode cX11_nameHere 1 = .ok (.istore_n 1, 1) := zD60 whX11_nameHere_0 (p := 1) rfl
theorem dX11_nameHere_2 : decode cX11_nameHere 2 = .ok (.iload_n 1, 1) := zD27 whX11_nameHere_0 (p := 2) rfl
theorem dX11_nameHere_3 : decode cX11_nameHere 3 = .ok (.bipush 10, 2) := zD16p whX11_nameHere_0 (p := 3) (v := 10) rfl rfl rfl
theorem dX11_nameHere_5 : decode cX11_nameHere 5 = .ok (.if_icmp .ge 113, 3) := zD162p whX11_nameHere_0 (p := 5) (v := 113) rfl rfl rfl
theorem dX11_nameHere_8 : decode cX11_nameHere 8 = .ok (.aload_n 0, 1) := zD42 whX11_nameHere_0 (p := 8) rfl
theorem dX11_nameHere_9 : decode cX11_nameHere 9 = .ok (.getfield 77, 3) := zD180 whX11_nameHere_0 (p := 9) rfl rfl
theorem dX11_nameHere_12 : decode cX11_nameHere 12 = .ok (.iconst 1, 1) := zD4 whX11_nameHere_0 (p := 12) rfl
theorem dX11_nameHere_13 : decode cX11_nameHere 13 = .ok (.if_icmp .ne 105, 3) := zD160p whX11_nameHere_0 (p := 13) (v := 105) rfl rfl rfl
theorem dX11_nameHere_16 : decode cX11_nameHere 16 = .ok (.aload_n 0, 1) := zD42 whX11_nameHere_0 (p := 16) rfl
theorem dX11_nameHere_17 : decode cX11_nameHere 17 = .ok (.getfield 80, 3) := zD180 whX11_nameHere_0 (p := 17) rfl rfl
theorem dX11_nameHere_20 : decode cX11_nameHere 20 = .ok (.aload_n 0, 1) := zD42 whX11_nameHere_0 (p := 20) rfl
theorem dX11_nameHere_21 : decode cX11_nameHere 21 = .ok (.getfield 71, 3) := zD180 whX11_nameHere_0 (p := 21) rfl rfl
theorem dX11_nameHere_24 : decode cX11_nameHere 24 = .ok (.isub, 1) := zD100 whX11_nameHere_0 (p := 24) rfl
theorem dX11_nameHere_25 : decode cX11_nameHere 25 = .ok (.aload_n 0, 1) := zD42 whX11_nameHere_0 (p := 25) rfl
theorem dX11_nameHere_26 : decode cX11_nameHere 26 = .ok (.getfield 19, 3) := zD180 whX11_nameHere_0 (p := 26) rfl rfl
theorem dX11_nameHere_29 : decode cX11_nameHere 29 = .ok (.iload_n 1, 1) := zD27 whX11_nameHere_0 (p := 29) rfl
theorem dX11_nameHere_30 : decode cX11_nameHere 30 = .ok (.iconst 1, 1) := zD4 whX11_nameHere_0 (p := 30) rfl
theorem dX11_nameHere_31 : decode cX11_nameHere 31 = .ok (.iadd, 1) := zD96 whX11_nameHere_0 (p := 31) rfl
def wlX11_nameHere_1 : List Nat := [46, 42, 180, 0, 19, 27, 46, 100, 160, 0, 7, 4, 167, 0, 4, 3, 61, 3, 62, 28, 153, 0, 54, 29, 42, 180, 0, 80, 42, 180, 0, 71]
theorem whX11_nameHere_1 : WLy cX11_nameHere 32 wlX11_nameHere_1 := by decide +kernel
theorem dX11_nameHere_32 : decode cX11_nameHere 32 = .ok (.iaload, 1) := zD46 whX11_nameHere_1 (p := 0) rfl
theorem dX11_nameHere_33 : decode cX11_nameHere 33 = .ok (.aload_n 0, 1) := zD42 whX11_nameHere_1 (p := 1) rfl
theorem dX11_nameHere_34 : decode cX11_nameHere 34 = .ok (.getfield 19, 3) := zD180 whX11_nameHere_1 (p := 2) rfl rfl
theorem dX11_nameHere_37 : decode cX11_nameHere 37 = .ok (.iload_n 1, 1) := zD27 whX11_nameHere_1 (p := 5) rfl
theorem dX11_nameHere_38 : decode cX11_nameHere 38 = .ok (.iaload, 1) := zD46 whX11_nameHere_1 (p := 6) rfl
theorem dX11_nameHere_39 : decode cX11_nameHere 39 = .ok (.isub, 1) := zD100 whX11_nameHere_1 (p := 7) rfl
theorem dX11_nameHere_40 : decode cX11_nameHere 40 = .ok (.if_icmp .ne 7, 3) := zD160p whX11_nameHere_1 (p := 8) (v := 7) rfl rfl rfl
theorem dX11_nameHere_43 : decode cX11_nameHere 43 = .ok (.iconst 1, 1) := zD4 whX11_nameHere_1 (p := 11) rfl
theorem dX11_nameHere_44 : decode cX11_nameHere 44 = .ok (.goto 4, 3) := zD167p whX11_nameHere_1 (p := 12) (v := 4) rfl rfl rfl
theorem dX11_nameHere_47 : decode cX11_nameHere 47 = .ok (.iconst 0, 1) := zD3 whX11_nameHere_1 (p := 15) rfl
theorem dX11_nameHere_48 : decode cX11_nameHere 48 = .ok (.istore_n 2, 1) := zD61 whX11_nameHere_1 (p := 16) rfl
theorem dX11_nameHere_49 : decode cX11_nameHere 49 = .ok (.iconst 0, 1) := zD3 whX11_nameHere_1 (p := 17) rfl
theorem dX11_nameHere_50 : decode cX11_nameHere 50 = .ok (.istore_n 3, 1) := zD62 whX11_nameHere_1 (p := 18) rfl
theorem dX11_nameHere_51 : decode cX11_nameHere 51 = .ok (.iload_n 2, 1) := zD28 whX11_nameHere_1 (p := 19) rfl
theorem dX11_nameHere_52 : decode cX11_nameHere 52 = .ok (.ifCond .eq 54, 3) := zD153p whX11_nameHere_1 (p := 20) (v := 54) rfl rfl rfl
theorem dX11_nameHere_55 : decode cX11_nameHere 55 = .ok (.iload_n 3, 1) := zD29 whX11_nameHere_1 (p := 23) rfl
theorem dX11_nameHere_56 : decode cX11_nameHere 56 = .ok (.aload_n 0, 1) := zD42 whX11_nameHere_1 (p := 24) rfl
theorem dX11_nameHere_57 : decode cX11_nameHere 57 = .ok (.getfield 80, 3) := zD180 whX11_nameHere_1 (p := 25) rfl rfl
theorem dX11_nameHere_60 : decode cX11_nameHere 60 = .ok (.aload_n 0, 1) := zD42 whX11_nameHere_1 (p := 28) rfl
theorem dX11_nameHere_61 : decode cX11_nameHere 61 = .ok (.getfield 71, 3) := zD180 whX11_nameHere_1 (p := 29) rfl rfl
def wlX11_nameHere_2 : List Nat := [100, 162, 0, 41, 42, 42, 180, 0, 71, 29, 96, 182, 0, 83, 42, 180, 0, 22, 42, 180, 0, 19, 27, 46, 29, 96, 46, 160, 0, 7, 4, 167, 0, 4]
theorem whX11_nameHere_2 : WLy cX11_nameHere 64 wlX11_nameHere_2 := by decide +kernel
theorem dX11_nameHere_64 : decode cX11_nameHere 64 = .ok (.isub, 1) := zD100 whX11_nameHere_2 (p := 0) rfl
theorem dX11_nameHere_65 : decode cX11_nameHere 65 = .ok (.if_icmp .ge 41, 3) := zD162p whX11_nameHere_2 (p := 1) (v := 41) rfl rfl rfl
theorem dX11_nameHere_68 : decode cX11_nameHere 68 = .ok (.aload_n 0, 1) := zD42 whX11_nameHere_2 (p := 4) rfl
theorem dX11_nameHere_69 : decode cX11_nameHere 69 = .ok (.aload_n 0, 1) := zD42 whX11_nameHere_2 (p := 5) rfl
theorem dX11_nameHere_70 : decode cX11_nameHere 70 = .ok (.getfield 71, 3) := zD180 whX11_nameHere_2 (p := 6) rfl rfl
theorem dX11_nameHere_73 : decode cX11_nameHere 73 = .ok (.iload_n 3, 1) := zD29 whX11_nameHere_2 (p := 9) rfl
theorem dX11_nameHere_74 : decode cX11_nameHere 74 = .ok (.iadd, 1) := zD96 whX11_nameHere_2 (p := 10) rfl
theorem dX11_nameHere_75 : decode cX11_nameHere 75 = .ok (.invokevirtual 83, 3) := zD182 whX11_nameHere_2 (p := 11) rfl rfl
theorem dX11_nameHere_78 : decode cX11_nameHere 78 = .ok (.aload_n 0, 1) := zD42 whX11_nameHere_2 (p := 14) rfl
theorem dX11_nameHere_79 : decode cX11_nameHere 79 = .ok (.getfield 22, 3) := zD180 whX11_nameHere_2 (p := 15) rfl rfl
theorem dX11_nameHere_82 : decode cX11_nameHere 82 = .ok (.aload_n 0, 1) := zD42 whX11_nameHere_2 (p := 18) rfl
theorem dX11_nameHere_83 : decode cX11_nameHere 83 = .ok (.getfield 19, 3) := zD180 whX11_nameHere_2 (p := 19) rfl rfl
theorem dX11_nameHere_86 : decode cX11_nameHere 86 = .ok (.iload_n 1, 1) := zD27 whX11_nameHere_2 (p := 22) rfl
theorem dX11_nameHere_87 : decode cX11_nameHere 87 = .ok (.iaload, 1) := zD46 whX11_nameHere_2 (p := 23) rfl
theorem dX11_nameHere_88 : decode cX11_nameHere 88 = .ok (.iload_n 3, 1) := zD29 whX11_nameHere_2 (p := 24) rfl
theorem dX11_nameHere_89 : decode cX11_nameHere 89 = .ok (.iadd, 1) := zD96 whX11_nameHere_2 (p := 25) rfl
theorem dX11_nameHere_90 : decode cX11_nameHere 90 = .ok (.iaload, 1) := zD46 whX11_nameHere_2 (p := 26) rfl
theorem dX11_nameHere_91 : decode cX11_nameHere 91 = .ok (.if_icmp .ne 7, 3) := zD160p whX11_nameHere_2 (p := 27) (v := 7) rfl rfl rfl
theorem dX11_nameHere_94 : decode cX11_nameHere 94 = .ok (.iconst 1, 1) := zD4 whX11_nameHere_2 (p := 30) rfl
theorem dX11_nameHere_95 : decode cX11_nameHere 95 = .ok (.goto 4, 3) := zD167p whX11_nameHere_2 (p := 31) (v := 4) rfl rfl rfl
def wlX11_nameHere_3 : List Nat := [3, 61, 132, 3, 1, 167, 255, 204, 28, 153, 0, 5, 27, 172, 132, 1, 1, 167, 255, 143, 16, 252, 172]
theorem whX11_nameHere_3 : WLy cX11_nameHere 98 wlX11_nameHere_3 := by decide +kernel
theorem dX11_nameHere_98 : decode cX11_nameHere 98 = .ok (.iconst 0, 1) := zD3 whX11_nameHere_3 (p := 0) rfl
theorem dX11_nameHere_99 : decode cX11_nameHere 99 = .ok (.istore_n 2, 1) := zD61 whX11_nameHere_3 (p := 1) rfl
theorem dX11_nameHere_100 : decode cX11_nameHere 100 = .ok (.iinc 3 1, 3) := zD132p whX11_nameHere_3 (p := 2) (v := 1) rfl rfl rfl
theorem dX11_nameHere_103 : decode cX11_nameHere 103 = .ok (.goto (-52), 3) := zD167n whX11_nameHere_3 (p := 5) (v := 52) rfl rfl rfl
theorem dX11_nameHere_106 : decode cX11_nameHere 106 = .ok (.iload_n 2, 1) := zD28 whX11_nameHere_3 (p := 8) rfl
theorem dX11_nameHere_107 : decode cX11_nameHere 107 = .ok (.ifCond .eq 5, 3) := zD153p whX11_nameHere_3 (p := 9) (v := 5) rfl rfl rfl
theorem dX11_nameHere_110 : decode cX11_nameHere 110 = .ok (.iload_n 1, 1) := zD27 whX11_nameHere_3 (p := 12) rfl
theorem dX11_nameHere_111 : decode cX11_nameHere 111 = .ok (.ireturn, 1) := zD172 whX11_nameHere_3 (p := 13) rfl
theorem dX11_nameHere_112 : decode cX11_nameHere 112 = .ok (.iinc 1 1, 3) := zD132p whX11_nameHere_3 (p := 14) (v := 1) rfl rfl rfl
theorem dX11_nameHere_115 : decode cX11_nameHere 115 = .ok (.goto (-113), 3) := zD167n whX11_nameHere_3 (p := 17) (v := 113) rfl rfl rfl
theorem dX11_nameHere_118 : decode cX11_nameHere 118 = .ok (.bipush (-4), 2) := zD16n whX11_nameHere_3 (p := 20) (v := 4) rfl rfl rfl
theorem dX11_nameHere_120 : decode cX11_nameHere 120 = .ok (.ireturn, 1) := zD172 whX11_nameHere_3 (p := 22) rfl
def wlX11_goesOn_0 : List Nat := [42, 180, 0, 68, 158, 0, 4, 177, 42, 42, 180, 0, 80, 182, 0, 83, 16, 32, 160, 0, 16, 42, 89, 180, 0, 80, 4, 96, 181, 0, 80, 167, 255, 233]
theorem whX11_goesOn_0 : WLy cX11_goesOn 0 wlX11_goesOn_0 := by decide +kernel
theorem dX11_goesOn_0 : decode cX11_goesOn 0 = .ok (.aload_n 0, 1) := zD42 whX11_goesOn_0 (p := 0) rfl
theorem dX11_goesOn_1 : decode cX11_goesOn 1 = .ok (.getfield 68, 3) := zD180 whX11_goesOn_0 (p := 1) rfl rfl
theorem dX11_goesOn_4 : decode cX11_goesOn 4 = .ok (.ifCond .le 4, 3) := zD158p whX11_goesOn_0 (p := 4) (v := 4) rfl rfl rfl
theorem dX11_goesOn_7 : decode cX11_goesOn 7 = .ok (.return_, 1) := zD177 whX11_goesOn_0 (p := 7) rfl
theorem dX11_goesOn_8 : decode cX11_goesOn 8 = .ok (.aload_n 0, 1) := zD42 whX11_goesOn_0 (p := 8) rfl
theorem dX11_goesOn_9 : decode cX11_goesOn 9 = .ok (.aload_n 0, 1) := zD42 whX11_goesOn_0 (p := 9) rfl
theorem dX11_goesOn_10 : decode cX11_goesOn 10 = .ok (.getfield 80, 3) := zD180 whX11_goesOn_0 (p := 10) rfl rfl
theorem dX11_goesOn_13 : decode cX11_goesOn 13 = .ok (.invokevirtual 83, 3) := zD182 whX11_goesOn_0 (p := 13) rfl rfl
theorem dX11_goesOn_16 : decode cX11_goesOn 16 = .ok (.bipush 32, 2) := zD16p whX11_goesOn_0 (p := 16) (v := 32) rfl rfl rfl
theorem dX11_goesOn_18 : decode cX11_goesOn 18 = .ok (.if_icmp .ne 16, 3) := zD160p whX11_goesOn_0 (p := 18) (v := 16) rfl rfl rfl
theorem dX11_goesOn_21 : decode cX11_goesOn 21 = .ok (.aload_n 0, 1) := zD42 whX11_goesOn_0 (p := 21) rfl
theorem dX11_goesOn_22 : decode cX11_goesOn 22 = .ok (.dup, 1) := zD89 whX11_goesOn_0 (p := 22) rfl
theorem dX11_goesOn_23 : decode cX11_goesOn 23 = .ok (.getfield 80, 3) := zD180 whX11_goesOn_0 (p := 23) rfl rfl
theorem dX11_goesOn_26 : decode cX11_goesOn 26 = .ok (.iconst 1, 1) := zD4 whX11_goesOn_0 (p := 26) rfl
theorem dX11_goesOn_27 : decode cX11_goesOn 27 = .ok (.iadd, 1) := zD96 whX11_goesOn_0 (p := 27) rfl
theorem dX11_goesOn_28 : decode cX11_goesOn 28 = .ok (.putfield 80, 3) := zD181 whX11_goesOn_0 (p := 28) rfl rfl
theorem dX11_goesOn_31 : decode cX11_goesOn 31 = .ok (.goto (-23), 3) := zD167n whX11_goesOn_0 (p := 31) (v := 23) rfl rfl rfl
def wlX11_goesOn_1 : List Nat := [42, 42, 180, 0, 80, 181, 0, 71, 42, 42, 180, 0, 80, 182, 0, 83, 60, 42, 3, 181, 0, 87, 27, 16, 252, 160, 0, 11, 42, 3, 181, 0, 77]
theorem whX11_goesOn_1 : WLy cX11_goesOn 34 wlX11_goesOn_1 := by decide +kernel
theorem dX11_goesOn_34 : decode cX11_goesOn 34 = .ok (.aload_n 0, 1) := zD42 whX11_goesOn_1 (p := 0) rfl
theorem dX11_goesOn_35 : decode cX11_goesOn 35 = .ok (.aload_n 0, 1) := zD42 whX11_goesOn_1 (p := 1) rfl
theorem dX11_goesOn_36 : decode cX11_goesOn 36 = .ok (.getfield 80, 3) := zD180 whX11_goesOn_1 (p := 2) rfl rfl
theorem dX11_goesOn_39 : decode cX11_goesOn 39 = .ok (.putfield 71, 3) := zD181 whX11_goesOn_1 (p := 5) rfl rfl
theorem dX11_goesOn_42 : decode cX11_goesOn 42 = .ok (.aload_n 0, 1) := zD42 whX11_goesOn_1 (p := 8) rfl
theorem dX11_goesOn_43 : decode cX11_goesOn 43 = .ok (.aload_n 0, 1) := zD42 whX11_goesOn_1 (p := 9) rfl
theorem dX11_goesOn_44 : decode cX11_goesOn 44 = .ok (.getfield 80, 3) := zD180 whX11_goesOn_1 (p := 10) rfl rfl
theorem dX11_goesOn_47 : decode cX11_goesOn 47 = .ok (.invokevirtual 83, 3) := zD182 whX11_goesOn_1 (p := 13) rfl rfl
theorem dX11_goesOn_50 : decode cX11_goesOn 50 = .ok (.istore_n 1, 1) := zD60 whX11_goesOn_1 (p := 16) rfl
theorem dX11_goesOn_51 : decode cX11_goesOn 51 = .ok (.aload_n 0, 1) := zD42 whX11_goesOn_1 (p := 17) rfl
theorem dX11_goesOn_52 : decode cX11_goesOn 52 = .ok (.iconst 0, 1) := zD3 whX11_goesOn_1 (p := 18) rfl
theorem dX11_goesOn_53 : decode cX11_goesOn 53 = .ok (.putfield 87, 3) := zD181 whX11_goesOn_1 (p := 19) rfl rfl
theorem dX11_goesOn_56 : decode cX11_goesOn 56 = .ok (.iload_n 1, 1) := zD27 whX11_goesOn_1 (p := 22) rfl
theorem dX11_goesOn_57 : decode cX11_goesOn 57 = .ok (.bipush (-4), 2) := zD16n whX11_goesOn_1 (p := 23) (v := 4) rfl rfl rfl
theorem dX11_goesOn_59 : decode cX11_goesOn 59 = .ok (.if_icmp .ne 11, 3) := zD160p whX11_goesOn_1 (p := 25) (v := 11) rfl rfl rfl
theorem dX11_goesOn_62 : decode cX11_goesOn 62 = .ok (.aload_n 0, 1) := zD42 whX11_goesOn_1 (p := 28) rfl
theorem dX11_goesOn_63 : decode cX11_goesOn 63 = .ok (.iconst 0, 1) := zD3 whX11_goesOn_1 (p := 29) rfl
theorem dX11_goesOn_64 : decode cX11_goesOn 64 = .ok (.putfield 77, 3) := zD181 whX11_goesOn_1 (p := 30) rfl rfl
def wlX11_goesOn_2 : List Nat := [167, 0, 202, 27, 133, 20, 0, 90, 20, 0, 92, 184, 0, 64, 153, 0, 45, 42, 42, 180, 0, 80, 182, 0, 83, 133, 20, 0, 90, 20, 0, 92]
theorem whX11_goesOn_2 : WLy cX11_goesOn 67 wlX11_goesOn_2 := by decide +kernel
theorem dX11_goesOn_67 : decode cX11_goesOn 67 = .ok (.goto 202, 3) := zD167p whX11_goesOn_2 (p := 0) (v := 202) rfl rfl rfl
theorem dX11_goesOn_70 : decode cX11_goesOn 70 = .ok (.iload_n 1, 1) := zD27 whX11_goesOn_2 (p := 3) rfl
theorem dX11_goesOn_71 : decode cX11_goesOn 71 = .ok (.i2l, 1) := zD133 whX11_goesOn_2 (p := 4) rfl
theorem dX11_goesOn_72 : decode cX11_goesOn 72 = .ok (.ldc2_w 90, 3) := zD20 whX11_goesOn_2 (p := 5) rfl rfl
theorem dX11_goesOn_75 : decode cX11_goesOn 75 = .ok (.ldc2_w 92, 3) := zD20 whX11_goesOn_2 (p := 8) rfl rfl
theorem dX11_goesOn_78 : decode cX11_goesOn 78 = .ok (.invokestatic 64, 3) := zD184 whX11_goesOn_2 (p := 11) rfl rfl
theorem dX11_goesOn_81 : decode cX11_goesOn 81 = .ok (.ifCond .eq 45, 3) := zD153p whX11_goesOn_2 (p := 14) (v := 45) rfl rfl rfl
theorem dX11_goesOn_84 : decode cX11_goesOn 84 = .ok (.aload_n 0, 1) := zD42 whX11_goesOn_2 (p := 17) rfl
theorem dX11_goesOn_85 : decode cX11_goesOn 85 = .ok (.aload_n 0, 1) := zD42 whX11_goesOn_2 (p := 18) rfl
theorem dX11_goesOn_86 : decode cX11_goesOn 86 = .ok (.getfield 80, 3) := zD180 whX11_goesOn_2 (p := 19) rfl rfl
theorem dX11_goesOn_89 : decode cX11_goesOn 89 = .ok (.invokevirtual 83, 3) := zD182 whX11_goesOn_2 (p := 22) rfl rfl
theorem dX11_goesOn_92 : decode cX11_goesOn 92 = .ok (.i2l, 1) := zD133 whX11_goesOn_2 (p := 25) rfl
theorem dX11_goesOn_93 : decode cX11_goesOn 93 = .ok (.ldc2_w 90, 3) := zD20 whX11_goesOn_2 (p := 26) rfl rfl
theorem dX11_goesOn_96 : decode cX11_goesOn 96 = .ok (.ldc2_w 92, 3) := zD20 whX11_goesOn_2 (p := 29) rfl rfl
def wlX11_goesOn_3 : List Nat := [184, 0, 64, 153, 0, 16, 42, 89, 180, 0, 80, 4, 96, 181, 0, 80, 167, 255, 225, 42, 4, 181, 0, 77, 167, 0, 146, 27, 133, 20, 0, 94]
theorem whX11_goesOn_3 : WLy cX11_goesOn 99 wlX11_goesOn_3 := by decide +kernel
theorem dX11_goesOn_99 : decode cX11_goesOn 99 = .ok (.invokestatic 64, 3) := zD184 whX11_goesOn_3 (p := 0) rfl rfl
theorem dX11_goesOn_102 : decode cX11_goesOn 102 = .ok (.ifCond .eq 16, 3) := zD153p whX11_goesOn_3 (p := 3) (v := 16) rfl rfl rfl
theorem dX11_goesOn_105 : decode cX11_goesOn 105 = .ok (.aload_n 0, 1) := zD42 whX11_goesOn_3 (p := 6) rfl
theorem dX11_goesOn_106 : decode cX11_goesOn 106 = .ok (.dup, 1) := zD89 whX11_goesOn_3 (p := 7) rfl
theorem dX11_goesOn_107 : decode cX11_goesOn 107 = .ok (.getfield 80, 3) := zD180 whX11_goesOn_3 (p := 8) rfl rfl
theorem dX11_goesOn_110 : decode cX11_goesOn 110 = .ok (.iconst 1, 1) := zD4 whX11_goesOn_3 (p := 11) rfl
theorem dX11_goesOn_111 : decode cX11_goesOn 111 = .ok (.iadd, 1) := zD96 whX11_goesOn_3 (p := 12) rfl
theorem dX11_goesOn_112 : decode cX11_goesOn 112 = .ok (.putfield 80, 3) := zD181 whX11_goesOn_3 (p := 13) rfl rfl
theorem dX11_goesOn_115 : decode cX11_goesOn 115 = .ok (.goto (-31), 3) := zD167n whX11_goesOn_3 (p := 16) (v := 31) rfl rfl rfl
theorem dX11_goesOn_118 : decode cX11_goesOn 118 = .ok (.aload_n 0, 1) := zD42 whX11_goesOn_3 (p := 19) rfl
theorem dX11_goesOn_119 : decode cX11_goesOn 119 = .ok (.iconst 1, 1) := zD4 whX11_goesOn_3 (p := 20) rfl
theorem dX11_goesOn_120 : decode cX11_goesOn 120 = .ok (.putfield 77, 3) := zD181 whX11_goesOn_3 (p := 21) rfl rfl
theorem dX11_goesOn_123 : decode cX11_goesOn 123 = .ok (.goto 146, 3) := zD167p whX11_goesOn_3 (p := 24) (v := 146) rfl rfl rfl
theorem dX11_goesOn_126 : decode cX11_goesOn 126 = .ok (.iload_n 1, 1) := zD27 whX11_goesOn_3 (p := 27) rfl
theorem dX11_goesOn_127 : decode cX11_goesOn 127 = .ok (.i2l, 1) := zD133 whX11_goesOn_3 (p := 28) rfl
theorem dX11_goesOn_128 : decode cX11_goesOn 128 = .ok (.ldc2_w 94, 3) := zD20 whX11_goesOn_3 (p := 29) rfl rfl
def wlX11_goesOn_4 : List Nat := [20, 0, 96, 184, 0, 64, 153, 0, 106, 42, 42, 180, 0, 80, 182, 0, 83, 133, 20, 0, 94, 20, 0, 96, 184, 0, 64, 153, 0, 59, 42, 42]
theorem whX11_goesOn_4 : WLy cX11_goesOn 131 wlX11_goesOn_4 := by decide +kernel
theorem dX11_goesOn_131 : decode cX11_goesOn 131 = .ok (.ldc2_w 96, 3) := zD20 whX11_goesOn_4 (p := 0) rfl rfl
theorem dX11_goesOn_134 : decode cX11_goesOn 134 = .ok (.invokestatic 64, 3) := zD184 whX11_goesOn_4 (p := 3) rfl rfl
theorem dX11_goesOn_137 : decode cX11_goesOn 137 = .ok (.ifCond .eq 106, 3) := zD153p whX11_goesOn_4 (p := 6) (v := 106) rfl rfl rfl
theorem dX11_goesOn_140 : decode cX11_goesOn 140 = .ok (.aload_n 0, 1) := zD42 whX11_goesOn_4 (p := 9) rfl
theorem dX11_goesOn_141 : decode cX11_goesOn 141 = .ok (.aload_n 0, 1) := zD42 whX11_goesOn_4 (p := 10) rfl
theorem dX11_goesOn_142 : decode cX11_goesOn 142 = .ok (.getfield 80, 3) := zD180 whX11_goesOn_4 (p := 11) rfl rfl
theorem dX11_goesOn_145 : decode cX11_goesOn 145 = .ok (.invokevirtual 83, 3) := zD182 whX11_goesOn_4 (p := 14) rfl rfl
theorem dX11_goesOn_148 : decode cX11_goesOn 148 = .ok (.i2l, 1) := zD133 whX11_goesOn_4 (p := 17) rfl
theorem dX11_goesOn_149 : decode cX11_goesOn 149 = .ok (.ldc2_w 94, 3) := zD20 whX11_goesOn_4 (p := 18) rfl rfl
theorem dX11_goesOn_152 : decode cX11_goesOn 152 = .ok (.ldc2_w 96, 3) := zD20 whX11_goesOn_4 (p := 21) rfl rfl
theorem dX11_goesOn_155 : decode cX11_goesOn 155 = .ok (.invokestatic 64, 3) := zD184 whX11_goesOn_4 (p := 24) rfl rfl
theorem dX11_goesOn_158 : decode cX11_goesOn 158 = .ok (.ifCond .eq 59, 3) := zD153p whX11_goesOn_4 (p := 27) (v := 59) rfl rfl rfl
theorem dX11_goesOn_161 : decode cX11_goesOn 161 = .ok (.aload_n 0, 1) := zD42 whX11_goesOn_4 (p := 30) rfl
theorem dX11_goesOn_162 : decode cX11_goesOn 162 = .ok (.aload_n 0, 1) := zD42 whX11_goesOn_4 (p := 31) rfl
def wlX11_goesOn_5 : List Nat := [180, 0, 80, 42, 180, 0, 71, 100, 5, 162, 0, 25, 16, 10, 42, 180, 0, 87, 104, 42, 42, 180, 0, 80, 182, 0, 83, 96, 16, 48, 100, 167, 0, 7]
theorem whX11_goesOn_5 : WLy cX11_goesOn 163 wlX11_goesOn_5 := by decide +kernel
theorem dX11_goesOn_163 : decode cX11_goesOn 163 = .ok (.getfield 80, 3) := zD180 whX11_goesOn_5 (p := 0) rfl rfl
theorem dX11_goesOn_166 : decode cX11_goesOn 166 = .ok (.aload_n 0, 1) := zD42 whX11_goesOn_5 (p := 3) rfl
theorem dX11_goesOn_167 : decode cX11_goesOn 167 = .ok (.getfield 71, 3) := zD180 whX11_goesOn_5 (p := 4) rfl rfl
theorem dX11_goesOn_170 : decode cX11_goesOn 170 = .ok (.isub, 1) := zD100 whX11_goesOn_5 (p := 7) rfl
theorem dX11_goesOn_171 : decode cX11_goesOn 171 = .ok (.iconst 2, 1) := zD5 whX11_goesOn_5 (p := 8) rfl
theorem dX11_goesOn_172 : decode cX11_goesOn 172 = .ok (.if_icmp .ge 25, 3) := zD162p whX11_goesOn_5 (p := 9) (v := 25) rfl rfl rfl
theorem dX11_goesOn_175 : decode cX11_goesOn 175 = .ok (.bipush 10, 2) := zD16p whX11_goesOn_5 (p := 12) (v := 10) rfl rfl rfl
theorem dX11_goesOn_177 : decode cX11_goesOn 177 = .ok (.aload_n 0, 1) := zD42 whX11_goesOn_5 (p := 14) rfl
theorem dX11_goesOn_178 : decode cX11_goesOn 178 = .ok (.getfield 87, 3) := zD180 whX11_goesOn_5 (p := 15) rfl rfl
theorem dX11_goesOn_181 : decode cX11_goesOn 181 = .ok (.imul, 1) := zD104 whX11_goesOn_5 (p := 18) rfl
theorem dX11_goesOn_182 : decode cX11_goesOn 182 = .ok (.aload_n 0, 1) := zD42 whX11_goesOn_5 (p := 19) rfl
theorem dX11_goesOn_183 : decode cX11_goesOn 183 = .ok (.aload_n 0, 1) := zD42 whX11_goesOn_5 (p := 20) rfl
theorem dX11_goesOn_184 : decode cX11_goesOn 184 = .ok (.getfield 80, 3) := zD180 whX11_goesOn_5 (p := 21) rfl rfl
theorem dX11_goesOn_187 : decode cX11_goesOn 187 = .ok (.invokevirtual 83, 3) := zD182 whX11_goesOn_5 (p := 24) rfl rfl
theorem dX11_goesOn_190 : decode cX11_goesOn 190 = .ok (.iadd, 1) := zD96 whX11_goesOn_5 (p := 27) rfl
theorem dX11_goesOn_191 : decode cX11_goesOn 191 = .ok (.bipush 48, 2) := zD16p whX11_goesOn_5 (p := 28) (v := 48) rfl rfl rfl
theorem dX11_goesOn_193 : decode cX11_goesOn 193 = .ok (.isub, 1) := zD100 whX11_goesOn_5 (p := 30) rfl
theorem dX11_goesOn_194 : decode cX11_goesOn 194 = .ok (.goto 7, 3) := zD167p whX11_goesOn_5 (p := 31) (v := 7) rfl rfl rfl
def wlX11_goesOn_6 : List Nat := [42, 180, 0, 87, 181, 0, 87, 42, 89, 180, 0, 80, 4, 96, 181, 0, 80, 167, 255, 182, 42, 5, 181, 0, 77, 42, 180, 0, 80, 42, 180, 0, 71]
theorem whX11_goesOn_6 : WLy cX11_goesOn 197 wlX11_goesOn_6 := by decide +kernel
theorem dX11_goesOn_197 : decode cX11_goesOn 197 = .ok (.aload_n 0, 1) := zD42 whX11_goesOn_6 (p := 0) rfl
theorem dX11_goesOn_198 : decode cX11_goesOn 198 = .ok (.getfield 87, 3) := zD180 whX11_goesOn_6 (p := 1) rfl rfl
theorem dX11_goesOn_201 : decode cX11_goesOn 201 = .ok (.putfield 87, 3) := zD181 whX11_goesOn_6 (p := 4) rfl rfl
theorem dX11_goesOn_204 : decode cX11_goesOn 204 = .ok (.aload_n 0, 1) := zD42 whX11_goesOn_6 (p := 7) rfl
theorem dX11_goesOn_205 : decode cX11_goesOn 205 = .ok (.dup, 1) := zD89 whX11_goesOn_6 (p := 8) rfl
theorem dX11_goesOn_206 : decode cX11_goesOn 206 = .ok (.getfield 80, 3) := zD180 whX11_goesOn_6 (p := 9) rfl rfl
theorem dX11_goesOn_209 : decode cX11_goesOn 209 = .ok (.iconst 1, 1) := zD4 whX11_goesOn_6 (p := 12) rfl
theorem dX11_goesOn_210 : decode cX11_goesOn 210 = .ok (.iadd, 1) := zD96 whX11_goesOn_6 (p := 13) rfl
theorem dX11_goesOn_211 : decode cX11_goesOn 211 = .ok (.putfield 80, 3) := zD181 whX11_goesOn_6 (p := 14) rfl rfl
theorem dX11_goesOn_214 : decode cX11_goesOn 214 = .ok (.goto (-74), 3) := zD167n whX11_goesOn_6 (p := 17) (v := 74) rfl rfl rfl
theorem dX11_goesOn_217 : decode cX11_goesOn 217 = .ok (.aload_n 0, 1) := zD42 whX11_goesOn_6 (p := 20) rfl
theorem dX11_goesOn_218 : decode cX11_goesOn 218 = .ok (.iconst 2, 1) := zD5 whX11_goesOn_6 (p := 21) rfl
theorem dX11_goesOn_219 : decode cX11_goesOn 219 = .ok (.putfield 77, 3) := zD181 whX11_goesOn_6 (p := 22) rfl rfl
theorem dX11_goesOn_222 : decode cX11_goesOn 222 = .ok (.aload_n 0, 1) := zD42 whX11_goesOn_6 (p := 25) rfl
theorem dX11_goesOn_223 : decode cX11_goesOn 223 = .ok (.getfield 80, 3) := zD180 whX11_goesOn_6 (p := 26) rfl rfl
theorem dX11_goesOn_226 : decode cX11_goesOn 226 = .ok (.aload_n 0, 1) := zD42 whX11_goesOn_6 (p := 29) rfl
theorem dX11_goesOn_227 : decode cX11_goesOn 227 = .ok (.getfield 71, 3) := zD180 whX11_goesOn_6 (p := 30) rfl rfl
def wlX11_goesOn_7 : List Nat := [100, 5, 164, 0, 37, 42, 4, 182, 0, 98, 167, 0, 29, 42, 6, 181, 0, 77, 42, 89, 180, 0, 80, 4, 96, 181, 0, 80, 27, 16, 59, 159, 0, 8]
theorem whX11_goesOn_7 : WLy cX11_goesOn 230 wlX11_goesOn_7 := by decide +kernel
theorem dX11_goesOn_230 : decode cX11_goesOn 230 = .ok (.isub, 1) := zD100 whX11_goesOn_7 (p := 0) rfl
theorem dX11_goesOn_231 : decode cX11_goesOn 231 = .ok (.iconst 2, 1) := zD5 whX11_goesOn_7 (p := 1) rfl
theorem dX11_goesOn_232 : decode cX11_goesOn 232 = .ok (.if_icmp .le 37, 3) := zD164p whX11_goesOn_7 (p := 2) (v := 37) rfl rfl rfl
theorem dX11_goesOn_235 : decode cX11_goesOn 235 = .ok (.aload_n 0, 1) := zD42 whX11_goesOn_7 (p := 5) rfl
theorem dX11_goesOn_236 : decode cX11_goesOn 236 = .ok (.iconst 1, 1) := zD4 whX11_goesOn_7 (p := 6) rfl
theorem dX11_goesOn_237 : decode cX11_goesOn 237 = .ok (.invokevirtual 98, 3) := zD182 whX11_goesOn_7 (p := 7) rfl rfl
theorem dX11_goesOn_240 : decode cX11_goesOn 240 = .ok (.goto 29, 3) := zD167p whX11_goesOn_7 (p := 10) (v := 29) rfl rfl rfl
theorem dX11_goesOn_243 : decode cX11_goesOn 243 = .ok (.aload_n 0, 1) := zD42 whX11_goesOn_7 (p := 13) rfl
theorem dX11_goesOn_244 : decode cX11_goesOn 244 = .ok (.iconst 3, 1) := zD6 whX11_goesOn_7 (p := 14) rfl
theorem dX11_goesOn_245 : decode cX11_goesOn 245 = .ok (.putfield 77, 3) := zD181 whX11_goesOn_7 (p := 15) rfl rfl
theorem dX11_goesOn_248 : decode cX11_goesOn 248 = .ok (.aload_n 0, 1) := zD42 whX11_goesOn_7 (p := 18) rfl
theorem dX11_goesOn_249 : decode cX11_goesOn 249 = .ok (.dup, 1) := zD89 whX11_goesOn_7 (p := 19) rfl
theorem dX11_goesOn_250 : decode cX11_goesOn 250 = .ok (.getfield 80, 3) := zD180 whX11_goesOn_7 (p := 20) rfl rfl
theorem dX11_goesOn_253 : decode cX11_goesOn 253 = .ok (.iconst 1, 1) := zD4 whX11_goesOn_7 (p := 23) rfl
theorem dX11_goesOn_254 : decode cX11_goesOn 254 = .ok (.iadd, 1) := zD96 whX11_goesOn_7 (p := 24) rfl
theorem dX11_goesOn_255 : decode cX11_goesOn 255 = .ok (.putfield 80, 3) := zD181 whX11_goesOn_7 (p := 25) rfl rfl
theorem dX11_goesOn_258 : decode cX11_goesOn 258 = .ok (.iload_n 1, 1) := zD27 whX11_goesOn_7 (p := 28) rfl
theorem dX11_goesOn_259 : decode cX11_goesOn 259 = .ok (.bipush 59, 2) := zD16p whX11_goesOn_7 (p := 29) (v := 59) rfl rfl rfl
theorem dX11_goesOn_261 : decode cX11_goesOn 261 = .ok (.if_icmp .eq 8, 3) := zD159p whX11_goesOn_7 (p := 31) (v := 8) rfl rfl rfl
def wlX11_goesOn_8 : List Nat := [42, 4, 182, 0, 98, 177]
theorem whX11_goesOn_8 : WLy cX11_goesOn 264 wlX11_goesOn_8 := by decide +kernel
theorem dX11_goesOn_264 : decode cX11_goesOn 264 = .ok (.aload_n 0, 1) := zD42 whX11_goesOn_8 (p := 0) rfl
theorem dX11_goesOn_265 : decode cX11_goesOn 265 = .ok (.iconst 1, 1) := zD4 whX11_goesOn_8 (p := 1) rfl
theorem dX11_goesOn_266 : decode cX11_goesOn 266 = .ok (.invokevirtual 98, 3) := zD182 whX11_goesOn_8 (p := 2) rfl rfl
theorem dX11_goesOn_269 : decode cX11_goesOn 269 = .ok (.return_, 1) := zD177 whX11_goesOn_8 (p := 5) rfl
def wlX11_other_0 : List Nat := [42, 180, 0, 68, 154, 0, 16, 42, 180, 0, 77, 5, 159, 0, 8, 42, 5, 182, 0, 98, 42, 180, 0, 68, 154, 0, 23, 42, 180, 0, 87, 133]
theorem whX11_other_0 : WLy cX11_other 0 wlX11_other_0 := by decide +kernel
theorem dX11_other_0 : decode cX11_other 0 = .ok (.aload_n 0, 1) := zD42 whX11_other_0 (p := 0) rfl
theorem dX11_other_1 : decode cX11_other 1 = .ok (.getfield 68, 3) := zD180 whX11_other_0 (p := 1) rfl rfl
theorem dX11_other_4 : decode cX11_other 4 = .ok (.ifCond .ne 16, 3) := zD154p whX11_other_0 (p := 4) (v := 16) rfl rfl rfl
theorem dX11_other_7 : decode cX11_other 7 = .ok (.aload_n 0, 1) := zD42 whX11_other_0 (p := 7) rfl
theorem dX11_other_8 : decode cX11_other 8 = .ok (.getfield 77, 3) := zD180 whX11_other_0 (p := 8) rfl rfl
theorem dX11_other_11 : decode cX11_other 11 = .ok (.iconst 2, 1) := zD5 whX11_other_0 (p := 11) rfl
theorem dX11_other_12 : decode cX11_other 12 = .ok (.if_icmp .eq 8, 3) := zD159p whX11_other_0 (p := 12) (v := 8) rfl rfl rfl
theorem dX11_other_15 : decode cX11_other 15 = .ok (.aload_n 0, 1) := zD42 whX11_other_0 (p := 15) rfl
theorem dX11_other_16 : decode cX11_other 16 = .ok (.iconst 2, 1) := zD5 whX11_other_0 (p := 16) rfl
theorem dX11_other_17 : decode cX11_other 17 = .ok (.invokevirtual 98, 3) := zD182 whX11_other_0 (p := 17) rfl rfl
theorem dX11_other_20 : decode cX11_other 20 = .ok (.aload_n 0, 1) := zD42 whX11_other_0 (p := 20) rfl
theorem dX11_other_21 : decode cX11_other 21 = .ok (.getfield 68, 3) := zD180 whX11_other_0 (p := 21) rfl rfl
theorem dX11_other_24 : decode cX11_other 24 = .ok (.ifCond .ne 23, 3) := zD154p whX11_other_0 (p := 24) (v := 23) rfl rfl rfl
theorem dX11_other_27 : decode cX11_other 27 = .ok (.aload_n 0, 1) := zD42 whX11_other_0 (p := 27) rfl
theorem dX11_other_28 : decode cX11_other 28 = .ok (.getfield 87, 3) := zD180 whX11_other_0 (p := 28) rfl rfl
theorem dX11_other_31 : decode cX11_other 31 = .ok (.i2l, 1) := zD133 whX11_other_0 (p := 31) rfl
def wlX11_other_1 : List Nat := [27, 133, 28, 133, 184, 0, 64, 154, 0, 8, 42, 6, 182, 0, 98, 42, 180, 0, 68, 154, 0, 20, 29, 42, 180, 0, 87, 122, 4, 126, 4, 160, 0, 8]
theorem whX11_other_1 : WLy cX11_other 32 wlX11_other_1 := by decide +kernel
theorem dX11_other_32 : decode cX11_other 32 = .ok (.iload_n 1, 1) := zD27 whX11_other_1 (p := 0) rfl
theorem dX11_other_33 : decode cX11_other 33 = .ok (.i2l, 1) := zD133 whX11_other_1 (p := 1) rfl
theorem dX11_other_34 : decode cX11_other 34 = .ok (.iload_n 2, 1) := zD28 whX11_other_1 (p := 2) rfl
theorem dX11_other_35 : decode cX11_other 35 = .ok (.i2l, 1) := zD133 whX11_other_1 (p := 3) rfl
theorem dX11_other_36 : decode cX11_other 36 = .ok (.invokestatic 64, 3) := zD184 whX11_other_1 (p := 4) rfl rfl
theorem dX11_other_39 : decode cX11_other 39 = .ok (.ifCond .ne 8, 3) := zD154p whX11_other_1 (p := 7) (v := 8) rfl rfl rfl
theorem dX11_other_42 : decode cX11_other 42 = .ok (.aload_n 0, 1) := zD42 whX11_other_1 (p := 10) rfl
theorem dX11_other_43 : decode cX11_other 43 = .ok (.iconst 3, 1) := zD6 whX11_other_1 (p := 11) rfl
theorem dX11_other_44 : decode cX11_other 44 = .ok (.invokevirtual 98, 3) := zD182 whX11_other_1 (p := 12) rfl rfl
theorem dX11_other_47 : decode cX11_other 47 = .ok (.aload_n 0, 1) := zD42 whX11_other_1 (p := 15) rfl
theorem dX11_other_48 : decode cX11_other 48 = .ok (.getfield 68, 3) := zD180 whX11_other_1 (p := 16) rfl rfl
theorem dX11_other_51 : decode cX11_other 51 = .ok (.ifCond .ne 20, 3) := zD154p whX11_other_1 (p := 19) (v := 20) rfl rfl rfl
theorem dX11_other_54 : decode cX11_other 54 = .ok (.iload_n 3, 1) := zD29 whX11_other_1 (p := 22) rfl
theorem dX11_other_55 : decode cX11_other 55 = .ok (.aload_n 0, 1) := zD42 whX11_other_1 (p := 23) rfl
theorem dX11_other_56 : decode cX11_other 56 = .ok (.getfield 87, 3) := zD180 whX11_other_1 (p := 24) rfl rfl
theorem dX11_other_59 : decode cX11_other 59 = .ok (.ishr, 1) := zD122 whX11_other_1 (p := 27) rfl
theorem dX11_other_60 : decode cX11_other 60 = .ok (.iconst 1, 1) := zD4 whX11_other_1 (p := 28) rfl
theorem dX11_other_61 : decode cX11_other 61 = .ok (.iand, 1) := zD126 whX11_other_1 (p := 29) rfl
theorem dX11_other_62 : decode cX11_other 62 = .ok (.iconst 1, 1) := zD4 whX11_other_1 (p := 30) rfl
theorem dX11_other_63 : decode cX11_other 63 = .ok (.if_icmp .ne 8, 3) := zD160p whX11_other_1 (p := 31) (v := 8) rfl rfl rfl
def wlX11_other_2 : List Nat := [42, 7, 182, 0, 98, 42, 180, 0, 68, 154, 0, 10, 42, 180, 0, 87, 167, 0, 4, 27, 54, 4, 42, 182, 0, 102, 21, 4, 172]
theorem whX11_other_2 : WLy cX11_other 66 wlX11_other_2 := by decide +kernel
theorem dX11_other_66 : decode cX11_other 66 = .ok (.aload_n 0, 1) := zD42 whX11_other_2 (p := 0) rfl
theorem dX11_other_67 : decode cX11_other 67 = .ok (.iconst 4, 1) := zD7 whX11_other_2 (p := 1) rfl
theorem dX11_other_68 : decode cX11_other 68 = .ok (.invokevirtual 98, 3) := zD182 whX11_other_2 (p := 2) rfl rfl
theorem dX11_other_71 : decode cX11_other 71 = .ok (.aload_n 0, 1) := zD42 whX11_other_2 (p := 5) rfl
theorem dX11_other_72 : decode cX11_other 72 = .ok (.getfield 68, 3) := zD180 whX11_other_2 (p := 6) rfl rfl
theorem dX11_other_75 : decode cX11_other 75 = .ok (.ifCond .ne 10, 3) := zD154p whX11_other_2 (p := 9) (v := 10) rfl rfl rfl
theorem dX11_other_78 : decode cX11_other 78 = .ok (.aload_n 0, 1) := zD42 whX11_other_2 (p := 12) rfl
theorem dX11_other_79 : decode cX11_other 79 = .ok (.getfield 87, 3) := zD180 whX11_other_2 (p := 13) rfl rfl
theorem dX11_other_82 : decode cX11_other 82 = .ok (.goto 4, 3) := zD167p whX11_other_2 (p := 16) (v := 4) rfl rfl rfl
theorem dX11_other_85 : decode cX11_other 85 = .ok (.iload_n 1, 1) := zD27 whX11_other_2 (p := 19) rfl
theorem dX11_other_86 : decode cX11_other 86 = .ok (.istore 4, 2) := zD54 whX11_other_2 (p := 20) rfl
theorem dX11_other_88 : decode cX11_other 88 = .ok (.aload_n 0, 1) := zD42 whX11_other_2 (p := 22) rfl
theorem dX11_other_89 : decode cX11_other 89 = .ok (.invokevirtual 102, 3) := zD182 whX11_other_2 (p := 23) rfl rfl
theorem dX11_other_92 : decode cX11_other 92 = .ok (.iload 4, 2) := zD21 whX11_other_2 (p := 26) rfl
theorem dX11_other_94 : decode cX11_other 94 = .ok (.ireturn, 1) := zD172 whX11_other_2 (p := 28) rfl
def wlX11_readBearer_0 : List Nat := [42, 180, 0, 105, 60, 27, 16, 6, 160, 0, 9, 42, 8, 182, 0, 98, 177, 42, 182, 0, 102, 42, 182, 0, 108, 7, 100, 61, 28, 156, 0, 9]
theorem whX11_readBearer_0 : WLy cX11_readBearer 0 wlX11_readBearer_0 := by decide +kernel
theorem dX11_readBearer_0 : decode cX11_readBearer 0 = .ok (.aload_n 0, 1) := zD42 whX11_readBearer_0 (p := 0) rfl
theorem dX11_readBearer_1 : decode cX11_readBearer 1 = .ok (.getfield 105, 3) := zD180 whX11_readBearer_0 (p := 1) rfl rfl
theorem dX11_readBearer_4 : decode cX11_readBearer 4 = .ok (.istore_n 1, 1) := zD60 whX11_readBearer_0 (p := 4) rfl
theorem dX11_readBearer_5 : decode cX11_readBearer 5 = .ok (.iload_n 1, 1) := zD27 whX11_readBearer_0 (p := 5) rfl
theorem dX11_readBearer_6 : decode cX11_readBearer 6 = .ok (.bipush 6, 2) := zD16p whX11_readBearer_0 (p := 6) (v := 6) rfl rfl rfl
theorem dX11_readBearer_8 : decode cX11_readBearer 8 = .ok (.if_icmp .ne 9, 3) := zD160p whX11_readBearer_0 (p := 8) (v := 9) rfl rfl rfl
theorem dX11_readBearer_11 : decode cX11_readBearer 11 = .ok (.aload_n 0, 1) := zD42 whX11_readBearer_0 (p := 11) rfl
theorem dX11_readBearer_12 : decode cX11_readBearer 12 = .ok (.iconst 5, 1) := zD8 whX11_readBearer_0 (p := 12) rfl
theorem dX11_readBearer_13 : decode cX11_readBearer 13 = .ok (.invokevirtual 98, 3) := zD182 whX11_readBearer_0 (p := 13) rfl rfl
theorem dX11_readBearer_16 : decode cX11_readBearer 16 = .ok (.return_, 1) := zD177 whX11_readBearer_0 (p := 16) rfl
theorem dX11_readBearer_17 : decode cX11_readBearer 17 = .ok (.aload_n 0, 1) := zD42 whX11_readBearer_0 (p := 17) rfl
theorem dX11_readBearer_18 : decode cX11_readBearer 18 = .ok (.invokevirtual 102, 3) := zD182 whX11_readBearer_0 (p := 18) rfl rfl
theorem dX11_readBearer_21 : decode cX11_readBearer 21 = .ok (.aload_n 0, 1) := zD42 whX11_readBearer_0 (p := 21) rfl
theorem dX11_readBearer_22 : decode cX11_readBearer 22 = .ok (.invokevirtual 108, 3) := zD182 whX11_readBearer_0 (p := 22) rfl rfl
theorem dX11_readBearer_25 : decode cX11_readBearer 25 = .ok (.iconst 4, 1) := zD7 whX11_readBearer_0 (p := 25) rfl
theorem dX11_readBearer_26 : decode cX11_readBearer 26 = .ok (.isub, 1) := zD100 whX11_readBearer_0 (p := 26) rfl
theorem dX11_readBearer_27 : decode cX11_readBearer 27 = .ok (.istore_n 2, 1) := zD61 whX11_readBearer_0 (p := 27) rfl
theorem dX11_readBearer_28 : decode cX11_readBearer 28 = .ok (.iload_n 2, 1) := zD28 whX11_readBearer_0 (p := 28) rfl
theorem dX11_readBearer_29 : decode cX11_readBearer 29 = .ok (.ifCond .ge 9, 3) := zD156p whX11_readBearer_0 (p := 29) (v := 9) rfl rfl rfl
def wlX11_readBearer_1 : List Nat := [42, 5, 182, 0, 98, 177, 42, 182, 0, 102, 42, 180, 0, 13, 16, 20, 6, 27, 104, 96, 28, 79, 42, 180, 0, 13, 16, 20, 6, 27, 104, 96]
theorem whX11_readBearer_1 : WLy cX11_readBearer 32 wlX11_readBearer_1 := by decide +kernel
theorem dX11_readBearer_32 : decode cX11_readBearer 32 = .ok (.aload_n 0, 1) := zD42 whX11_readBearer_1 (p := 0) rfl
theorem dX11_readBearer_33 : decode cX11_readBearer 33 = .ok (.iconst 2, 1) := zD5 whX11_readBearer_1 (p := 1) rfl
theorem dX11_readBearer_34 : decode cX11_readBearer 34 = .ok (.invokevirtual 98, 3) := zD182 whX11_readBearer_1 (p := 2) rfl rfl
theorem dX11_readBearer_37 : decode cX11_readBearer 37 = .ok (.return_, 1) := zD177 whX11_readBearer_1 (p := 5) rfl
theorem dX11_readBearer_38 : decode cX11_readBearer 38 = .ok (.aload_n 0, 1) := zD42 whX11_readBearer_1 (p := 6) rfl
theorem dX11_readBearer_39 : decode cX11_readBearer 39 = .ok (.invokevirtual 102, 3) := zD182 whX11_readBearer_1 (p := 7) rfl rfl
theorem dX11_readBearer_42 : decode cX11_readBearer 42 = .ok (.aload_n 0, 1) := zD42 whX11_readBearer_1 (p := 10) rfl
theorem dX11_readBearer_43 : decode cX11_readBearer 43 = .ok (.getfield 13, 3) := zD180 whX11_readBearer_1 (p := 11) rfl rfl
theorem dX11_readBearer_46 : decode cX11_readBearer 46 = .ok (.bipush 20, 2) := zD16p whX11_readBearer_1 (p := 14) (v := 20) rfl rfl rfl
theorem dX11_readBearer_48 : decode cX11_readBearer 48 = .ok (.iconst 3, 1) := zD6 whX11_readBearer_1 (p := 16) rfl
theorem dX11_readBearer_49 : decode cX11_readBearer 49 = .ok (.iload_n 1, 1) := zD27 whX11_readBearer_1 (p := 17) rfl
theorem dX11_readBearer_50 : decode cX11_readBearer 50 = .ok (.imul, 1) := zD104 whX11_readBearer_1 (p := 18) rfl
theorem dX11_readBearer_51 : decode cX11_readBearer 51 = .ok (.iadd, 1) := zD96 whX11_readBearer_1 (p := 19) rfl
theorem dX11_readBearer_52 : decode cX11_readBearer 52 = .ok (.iload_n 2, 1) := zD28 whX11_readBearer_1 (p := 20) rfl
theorem dX11_readBearer_53 : decode cX11_readBearer 53 = .ok (.iastore, 1) := zD79 whX11_readBearer_1 (p := 21) rfl
theorem dX11_readBearer_54 : decode cX11_readBearer 54 = .ok (.aload_n 0, 1) := zD42 whX11_readBearer_1 (p := 22) rfl
theorem dX11_readBearer_55 : decode cX11_readBearer 55 = .ok (.getfield 13, 3) := zD180 whX11_readBearer_1 (p := 23) rfl rfl
theorem dX11_readBearer_58 : decode cX11_readBearer 58 = .ok (.bipush 20, 2) := zD16p whX11_readBearer_1 (p := 26) (v := 20) rfl rfl rfl
theorem dX11_readBearer_60 : decode cX11_readBearer 60 = .ok (.iconst 3, 1) := zD6 whX11_readBearer_1 (p := 28) rfl
theorem dX11_readBearer_61 : decode cX11_readBearer 61 = .ok (.iload_n 1, 1) := zD27 whX11_readBearer_1 (p := 29) rfl
theorem dX11_readBearer_62 : decode cX11_readBearer 62 = .ok (.imul, 1) := zD104 whX11_readBearer_1 (p := 30) rfl
theorem dX11_readBearer_63 : decode cX11_readBearer 63 = .ok (.iadd, 1) := zD96 whX11_readBearer_1 (p := 31) rfl
def wlX11_readBearer_2 : List Nat := [4, 96, 42, 3, 16, 9, 3, 182, 0, 112, 79, 42, 180, 0, 13, 16, 20, 6, 27, 104, 96, 5, 96, 42, 3, 16, 9, 3, 182, 0, 112, 79]
theorem whX11_readBearer_2 : WLy cX11_readBearer 64 wlX11_readBearer_2 := by decide +kernel
theorem dX11_readBearer_64 : decode cX11_readBearer 64 = .ok (.iconst 1, 1) := zD4 whX11_readBearer_2 (p := 0) rfl
theorem dX11_readBearer_65 : decode cX11_readBearer 65 = .ok (.iadd, 1) := zD96 whX11_readBearer_2 (p := 1) rfl
theorem dX11_readBearer_66 : decode cX11_readBearer 66 = .ok (.aload_n 0, 1) := zD42 whX11_readBearer_2 (p := 2) rfl
theorem dX11_readBearer_67 : decode cX11_readBearer 67 = .ok (.iconst 0, 1) := zD3 whX11_readBearer_2 (p := 3) rfl
theorem dX11_readBearer_68 : decode cX11_readBearer 68 = .ok (.bipush 9, 2) := zD16p whX11_readBearer_2 (p := 4) (v := 9) rfl rfl rfl
theorem dX11_readBearer_70 : decode cX11_readBearer 70 = .ok (.iconst 0, 1) := zD3 whX11_readBearer_2 (p := 6) rfl
theorem dX11_readBearer_71 : decode cX11_readBearer 71 = .ok (.invokevirtual 112, 3) := zD182 whX11_readBearer_2 (p := 7) rfl rfl
theorem dX11_readBearer_74 : decode cX11_readBearer 74 = .ok (.iastore, 1) := zD79 whX11_readBearer_2 (p := 10) rfl
theorem dX11_readBearer_75 : decode cX11_readBearer 75 = .ok (.aload_n 0, 1) := zD42 whX11_readBearer_2 (p := 11) rfl
theorem dX11_readBearer_76 : decode cX11_readBearer 76 = .ok (.getfield 13, 3) := zD180 whX11_readBearer_2 (p := 12) rfl rfl
theorem dX11_readBearer_79 : decode cX11_readBearer 79 = .ok (.bipush 20, 2) := zD16p whX11_readBearer_2 (p := 15) (v := 20) rfl rfl rfl
theorem dX11_readBearer_81 : decode cX11_readBearer 81 = .ok (.iconst 3, 1) := zD6 whX11_readBearer_2 (p := 17) rfl
theorem dX11_readBearer_82 : decode cX11_readBearer 82 = .ok (.iload_n 1, 1) := zD27 whX11_readBearer_2 (p := 18) rfl
theorem dX11_readBearer_83 : decode cX11_readBearer 83 = .ok (.imul, 1) := zD104 whX11_readBearer_2 (p := 19) rfl
theorem dX11_readBearer_84 : decode cX11_readBearer 84 = .ok (.iadd, 1) := zD96 whX11_readBearer_2 (p := 20) rfl
theorem dX11_readBearer_85 : decode cX11_readBearer 85 = .ok (.iconst 2, 1) := zD5 whX11_readBearer_2 (p := 21) rfl
theorem dX11_readBearer_86 : decode cX11_readBearer 86 = .ok (.iadd, 1) := zD96 whX11_readBearer_2 (p := 22) rfl
theorem dX11_readBearer_87 : decode cX11_readBearer 87 = .ok (.aload_n 0, 1) := zD42 whX11_readBearer_2 (p := 23) rfl
theorem dX11_readBearer_88 : decode cX11_readBearer 88 = .ok (.iconst 0, 1) := zD3 whX11_readBearer_2 (p := 24) rfl
theorem dX11_readBearer_89 : decode cX11_readBearer 89 = .ok (.bipush 9, 2) := zD16p whX11_readBearer_2 (p := 25) (v := 9) rfl rfl rfl
theorem dX11_readBearer_91 : decode cX11_readBearer 91 = .ok (.iconst 0, 1) := zD3 whX11_readBearer_2 (p := 27) rfl
theorem dX11_readBearer_92 : decode cX11_readBearer 92 = .ok (.invokevirtual 112, 3) := zD182 whX11_readBearer_2 (p := 28) rfl rfl
theorem dX11_readBearer_95 : decode cX11_readBearer 95 = .ok (.iastore, 1) := zD79 whX11_readBearer_2 (p := 31) rfl
def wlX11_readBearer_3 : List Nat := [42, 89, 180, 0, 105, 4, 96, 181, 0, 105, 177]
theorem whX11_readBearer_3 : WLy cX11_readBearer 96 wlX11_readBearer_3 := by decide +kernel
theorem dX11_readBearer_96 : decode cX11_readBearer 96 = .ok (.aload_n 0, 1) := zD42 whX11_readBearer_3 (p := 0) rfl
theorem dX11_readBearer_97 : decode cX11_readBearer 97 = .ok (.dup, 1) := zD89 whX11_readBearer_3 (p := 1) rfl
theorem dX11_readBearer_98 : decode cX11_readBearer 98 = .ok (.getfield 105, 3) := zD180 whX11_readBearer_3 (p := 2) rfl rfl
theorem dX11_readBearer_101 : decode cX11_readBearer 101 = .ok (.iconst 1, 1) := zD4 whX11_readBearer_3 (p := 5) rfl
theorem dX11_readBearer_102 : decode cX11_readBearer 102 = .ok (.iadd, 1) := zD96 whX11_readBearer_3 (p := 6) rfl
theorem dX11_readBearer_103 : decode cX11_readBearer 103 = .ok (.putfield 105, 3) := zD181 whX11_readBearer_3 (p := 7) rfl rfl
theorem dX11_readBearer_106 : decode cX11_readBearer 106 = .ok (.return_, 1) := zD177 whX11_readBearer_3 (p := 10) rfl
def wlX11_readMore_0 : List Nat := [27, 4, 160, 0, 17, 42, 180, 0, 116, 16, 10, 160, 0, 8, 42, 8, 182, 0, 98, 27, 154, 0, 15, 42, 180, 0, 119, 153, 0, 8, 42, 7]
theorem whX11_readMore_0 : WLy cX11_readMore 0 wlX11_readMore_0 := by decide +kernel
theorem dX11_readMore_0 : decode cX11_readMore 0 = .ok (.iload_n 1, 1) := zD27 whX11_readMore_0 (p := 0) rfl
theorem dX11_readMore_1 : decode cX11_readMore 1 = .ok (.iconst 1, 1) := zD4 whX11_readMore_0 (p := 1) rfl
theorem dX11_readMore_2 : decode cX11_readMore 2 = .ok (.if_icmp .ne 17, 3) := zD160p whX11_readMore_0 (p := 2) (v := 17) rfl rfl rfl
theorem dX11_readMore_5 : decode cX11_readMore 5 = .ok (.aload_n 0, 1) := zD42 whX11_readMore_0 (p := 5) rfl
theorem dX11_readMore_6 : decode cX11_readMore 6 = .ok (.getfield 116, 3) := zD180 whX11_readMore_0 (p := 6) rfl rfl
theorem dX11_readMore_9 : decode cX11_readMore 9 = .ok (.bipush 10, 2) := zD16p whX11_readMore_0 (p := 9) (v := 10) rfl rfl rfl
theorem dX11_readMore_11 : decode cX11_readMore 11 = .ok (.if_icmp .ne 8, 3) := zD160p whX11_readMore_0 (p := 11) (v := 8) rfl rfl rfl
theorem dX11_readMore_14 : decode cX11_readMore 14 = .ok (.aload_n 0, 1) := zD42 whX11_readMore_0 (p := 14) rfl
theorem dX11_readMore_15 : decode cX11_readMore 15 = .ok (.iconst 5, 1) := zD8 whX11_readMore_0 (p := 15) rfl
theorem dX11_readMore_16 : decode cX11_readMore 16 = .ok (.invokevirtual 98, 3) := zD182 whX11_readMore_0 (p := 16) rfl rfl
theorem dX11_readMore_19 : decode cX11_readMore 19 = .ok (.iload_n 1, 1) := zD27 whX11_readMore_0 (p := 19) rfl
theorem dX11_readMore_20 : decode cX11_readMore 20 = .ok (.ifCond .ne 15, 3) := zD154p whX11_readMore_0 (p := 20) (v := 15) rfl rfl rfl
theorem dX11_readMore_23 : decode cX11_readMore 23 = .ok (.aload_n 0, 1) := zD42 whX11_readMore_0 (p := 23) rfl
theorem dX11_readMore_24 : decode cX11_readMore 24 = .ok (.getfield 119, 3) := zD180 whX11_readMore_0 (p := 24) rfl rfl
theorem dX11_readMore_27 : decode cX11_readMore 27 = .ok (.ifCond .eq 8, 3) := zD153p whX11_readMore_0 (p := 27) (v := 8) rfl rfl rfl
theorem dX11_readMore_30 : decode cX11_readMore 30 = .ok (.aload_n 0, 1) := zD42 whX11_readMore_0 (p := 30) rfl
theorem dX11_readMore_31 : decode cX11_readMore 31 = .ok (.iconst 4, 1) := zD7 whX11_readMore_0 (p := 31) rfl
def wlX11_readMore_1 : List Nat := [182, 0, 98, 42, 182, 0, 102, 27, 154, 0, 28, 42, 4, 181, 0, 119, 42, 180, 0, 13, 16, 48, 42, 4, 16, 9, 3, 182, 0, 112, 8, 100]
theorem whX11_readMore_1 : WLy cX11_readMore 32 wlX11_readMore_1 := by decide +kernel
theorem dX11_readMore_32 : decode cX11_readMore 32 = .ok (.invokevirtual 98, 3) := zD182 whX11_readMore_1 (p := 0) rfl rfl
theorem dX11_readMore_35 : decode cX11_readMore 35 = .ok (.aload_n 0, 1) := zD42 whX11_readMore_1 (p := 3) rfl
theorem dX11_readMore_36 : decode cX11_readMore 36 = .ok (.invokevirtual 102, 3) := zD182 whX11_readMore_1 (p := 4) rfl rfl
theorem dX11_readMore_39 : decode cX11_readMore 39 = .ok (.iload_n 1, 1) := zD27 whX11_readMore_1 (p := 7) rfl
theorem dX11_readMore_40 : decode cX11_readMore 40 = .ok (.ifCond .ne 28, 3) := zD154p whX11_readMore_1 (p := 8) (v := 28) rfl rfl rfl
theorem dX11_readMore_43 : decode cX11_readMore 43 = .ok (.aload_n 0, 1) := zD42 whX11_readMore_1 (p := 11) rfl
theorem dX11_readMore_44 : decode cX11_readMore 44 = .ok (.iconst 1, 1) := zD4 whX11_readMore_1 (p := 12) rfl
theorem dX11_readMore_45 : decode cX11_readMore 45 = .ok (.putfield 119, 3) := zD181 whX11_readMore_1 (p := 13) rfl rfl
theorem dX11_readMore_48 : decode cX11_readMore 48 = .ok (.aload_n 0, 1) := zD42 whX11_readMore_1 (p := 16) rfl
theorem dX11_readMore_49 : decode cX11_readMore 49 = .ok (.getfield 13, 3) := zD180 whX11_readMore_1 (p := 17) rfl rfl
theorem dX11_readMore_52 : decode cX11_readMore 52 = .ok (.bipush 48, 2) := zD16p whX11_readMore_1 (p := 20) (v := 48) rfl rfl rfl
theorem dX11_readMore_54 : decode cX11_readMore 54 = .ok (.aload_n 0, 1) := zD42 whX11_readMore_1 (p := 22) rfl
theorem dX11_readMore_55 : decode cX11_readMore 55 = .ok (.iconst 1, 1) := zD4 whX11_readMore_1 (p := 23) rfl
theorem dX11_readMore_56 : decode cX11_readMore 56 = .ok (.bipush 9, 2) := zD16p whX11_readMore_1 (p := 24) (v := 9) rfl rfl rfl
theorem dX11_readMore_58 : decode cX11_readMore 58 = .ok (.iconst 0, 1) := zD3 whX11_readMore_1 (p := 26) rfl
theorem dX11_readMore_59 : decode cX11_readMore 59 = .ok (.invokevirtual 112, 3) := zD182 whX11_readMore_1 (p := 27) rfl rfl
theorem dX11_readMore_62 : decode cX11_readMore 62 = .ok (.iconst 5, 1) := zD8 whX11_readMore_1 (p := 30) rfl
theorem dX11_readMore_63 : decode cX11_readMore 63 = .ok (.isub, 1) := zD100 whX11_readMore_1 (p := 31) rfl
def wlX11_readMore_2 : List Nat := [79, 167, 0, 153, 27, 4, 160, 0, 66, 42, 180, 0, 68, 154, 0, 10, 42, 180, 0, 116, 167, 0, 4, 3, 61, 42, 180, 0, 13, 5, 28, 104]
theorem whX11_readMore_2 : WLy cX11_readMore 64 wlX11_readMore_2 := by decide +kernel
theorem dX11_readMore_64 : decode cX11_readMore 64 = .ok (.iastore, 1) := zD79 whX11_readMore_2 (p := 0) rfl
theorem dX11_readMore_65 : decode cX11_readMore 65 = .ok (.goto 153, 3) := zD167p whX11_readMore_2 (p := 1) (v := 153) rfl rfl rfl
theorem dX11_readMore_68 : decode cX11_readMore 68 = .ok (.iload_n 1, 1) := zD27 whX11_readMore_2 (p := 4) rfl
theorem dX11_readMore_69 : decode cX11_readMore 69 = .ok (.iconst 1, 1) := zD4 whX11_readMore_2 (p := 5) rfl
theorem dX11_readMore_70 : decode cX11_readMore 70 = .ok (.if_icmp .ne 66, 3) := zD160p whX11_readMore_2 (p := 6) (v := 66) rfl rfl rfl
theorem dX11_readMore_73 : decode cX11_readMore 73 = .ok (.aload_n 0, 1) := zD42 whX11_readMore_2 (p := 9) rfl
theorem dX11_readMore_74 : decode cX11_readMore 74 = .ok (.getfield 68, 3) := zD180 whX11_readMore_2 (p := 10) rfl rfl
theorem dX11_readMore_77 : decode cX11_readMore 77 = .ok (.ifCond .ne 10, 3) := zD154p whX11_readMore_2 (p := 13) (v := 10) rfl rfl rfl
theorem dX11_readMore_80 : decode cX11_readMore 80 = .ok (.aload_n 0, 1) := zD42 whX11_readMore_2 (p := 16) rfl
theorem dX11_readMore_81 : decode cX11_readMore 81 = .ok (.getfield 116, 3) := zD180 whX11_readMore_2 (p := 17) rfl rfl
theorem dX11_readMore_84 : decode cX11_readMore 84 = .ok (.goto 4, 3) := zD167p whX11_readMore_2 (p := 20) (v := 4) rfl rfl rfl
theorem dX11_readMore_87 : decode cX11_readMore 87 = .ok (.iconst 0, 1) := zD3 whX11_readMore_2 (p := 23) rfl
theorem dX11_readMore_88 : decode cX11_readMore 88 = .ok (.istore_n 2, 1) := zD61 whX11_readMore_2 (p := 24) rfl
theorem dX11_readMore_89 : decode cX11_readMore 89 = .ok (.aload_n 0, 1) := zD42 whX11_readMore_2 (p := 25) rfl
theorem dX11_readMore_90 : decode cX11_readMore 90 = .ok (.getfield 13, 3) := zD180 whX11_readMore_2 (p := 26) rfl rfl
theorem dX11_readMore_93 : decode cX11_readMore 93 = .ok (.iconst 2, 1) := zD5 whX11_readMore_2 (p := 29) rfl
theorem dX11_readMore_94 : decode cX11_readMore 94 = .ok (.iload_n 2, 1) := zD28 whX11_readMore_2 (p := 30) rfl
theorem dX11_readMore_95 : decode cX11_readMore 95 = .ok (.imul, 1) := zD104 whX11_readMore_2 (p := 31) rfl
def wlX11_readMore_3 : List Nat := [42, 3, 16, 9, 3, 182, 0, 112, 79, 42, 180, 0, 13, 5, 28, 104, 4, 96, 42, 3, 16, 9, 3, 182, 0, 112, 79, 42, 89, 180, 0, 116]
theorem whX11_readMore_3 : WLy cX11_readMore 96 wlX11_readMore_3 := by decide +kernel
theorem dX11_readMore_96 : decode cX11_readMore 96 = .ok (.aload_n 0, 1) := zD42 whX11_readMore_3 (p := 0) rfl
theorem dX11_readMore_97 : decode cX11_readMore 97 = .ok (.iconst 0, 1) := zD3 whX11_readMore_3 (p := 1) rfl
theorem dX11_readMore_98 : decode cX11_readMore 98 = .ok (.bipush 9, 2) := zD16p whX11_readMore_3 (p := 2) (v := 9) rfl rfl rfl
theorem dX11_readMore_100 : decode cX11_readMore 100 = .ok (.iconst 0, 1) := zD3 whX11_readMore_3 (p := 4) rfl
theorem dX11_readMore_101 : decode cX11_readMore 101 = .ok (.invokevirtual 112, 3) := zD182 whX11_readMore_3 (p := 5) rfl rfl
theorem dX11_readMore_104 : decode cX11_readMore 104 = .ok (.iastore, 1) := zD79 whX11_readMore_3 (p := 8) rfl
theorem dX11_readMore_105 : decode cX11_readMore 105 = .ok (.aload_n 0, 1) := zD42 whX11_readMore_3 (p := 9) rfl
theorem dX11_readMore_106 : decode cX11_readMore 106 = .ok (.getfield 13, 3) := zD180 whX11_readMore_3 (p := 10) rfl rfl
theorem dX11_readMore_109 : decode cX11_readMore 109 = .ok (.iconst 2, 1) := zD5 whX11_readMore_3 (p := 13) rfl
theorem dX11_readMore_110 : decode cX11_readMore 110 = .ok (.iload_n 2, 1) := zD28 whX11_readMore_3 (p := 14) rfl
theorem dX11_readMore_111 : decode cX11_readMore 111 = .ok (.imul, 1) := zD104 whX11_readMore_3 (p := 15) rfl
theorem dX11_readMore_112 : decode cX11_readMore 112 = .ok (.iconst 1, 1) := zD4 whX11_readMore_3 (p := 16) rfl
theorem dX11_readMore_113 : decode cX11_readMore 113 = .ok (.iadd, 1) := zD96 whX11_readMore_3 (p := 17) rfl
theorem dX11_readMore_114 : decode cX11_readMore 114 = .ok (.aload_n 0, 1) := zD42 whX11_readMore_3 (p := 18) rfl
theorem dX11_readMore_115 : decode cX11_readMore 115 = .ok (.iconst 0, 1) := zD3 whX11_readMore_3 (p := 19) rfl
theorem dX11_readMore_116 : decode cX11_readMore 116 = .ok (.bipush 9, 2) := zD16p whX11_readMore_3 (p := 20) (v := 9) rfl rfl rfl
theorem dX11_readMore_118 : decode cX11_readMore 118 = .ok (.iconst 0, 1) := zD3 whX11_readMore_3 (p := 22) rfl
theorem dX11_readMore_119 : decode cX11_readMore 119 = .ok (.invokevirtual 112, 3) := zD182 whX11_readMore_3 (p := 23) rfl rfl
theorem dX11_readMore_122 : decode cX11_readMore 122 = .ok (.iastore, 1) := zD79 whX11_readMore_3 (p := 26) rfl
theorem dX11_readMore_123 : decode cX11_readMore 123 = .ok (.aload_n 0, 1) := zD42 whX11_readMore_3 (p := 27) rfl
theorem dX11_readMore_124 : decode cX11_readMore 124 = .ok (.dup, 1) := zD89 whX11_readMore_3 (p := 28) rfl
theorem dX11_readMore_125 : decode cX11_readMore 125 = .ok (.getfield 116, 3) := zD180 whX11_readMore_3 (p := 29) rfl rfl
def wlX11_readMore_4 : List Nat := [4, 96, 181, 0, 116, 167, 0, 85, 42, 3, 16, 9, 42, 180, 0, 123, 182, 0, 112, 61, 42, 89, 180, 0, 123, 4, 28, 120, 128, 181, 0, 123]
theorem whX11_readMore_4 : WLy cX11_readMore 128 wlX11_readMore_4 := by decide +kernel
theorem dX11_readMore_128 : decode cX11_readMore 128 = .ok (.iconst 1, 1) := zD4 whX11_readMore_4 (p := 0) rfl
theorem dX11_readMore_129 : decode cX11_readMore 129 = .ok (.iadd, 1) := zD96 whX11_readMore_4 (p := 1) rfl
theorem dX11_readMore_130 : decode cX11_readMore 130 = .ok (.putfield 116, 3) := zD181 whX11_readMore_4 (p := 2) rfl rfl
theorem dX11_readMore_133 : decode cX11_readMore 133 = .ok (.goto 85, 3) := zD167p whX11_readMore_4 (p := 5) (v := 85) rfl rfl rfl
theorem dX11_readMore_136 : decode cX11_readMore 136 = .ok (.aload_n 0, 1) := zD42 whX11_readMore_4 (p := 8) rfl
theorem dX11_readMore_137 : decode cX11_readMore 137 = .ok (.iconst 0, 1) := zD3 whX11_readMore_4 (p := 9) rfl
theorem dX11_readMore_138 : decode cX11_readMore 138 = .ok (.bipush 9, 2) := zD16p whX11_readMore_4 (p := 10) (v := 9) rfl rfl rfl
theorem dX11_readMore_140 : decode cX11_readMore 140 = .ok (.aload_n 0, 1) := zD42 whX11_readMore_4 (p := 12) rfl
theorem dX11_readMore_141 : decode cX11_readMore 141 = .ok (.getfield 123, 3) := zD180 whX11_readMore_4 (p := 13) rfl rfl
theorem dX11_readMore_144 : decode cX11_readMore 144 = .ok (.invokevirtual 112, 3) := zD182 whX11_readMore_4 (p := 16) rfl rfl
theorem dX11_readMore_147 : decode cX11_readMore 147 = .ok (.istore_n 2, 1) := zD61 whX11_readMore_4 (p := 19) rfl
theorem dX11_readMore_148 : decode cX11_readMore 148 = .ok (.aload_n 0, 1) := zD42 whX11_readMore_4 (p := 20) rfl
theorem dX11_readMore_149 : decode cX11_readMore 149 = .ok (.dup, 1) := zD89 whX11_readMore_4 (p := 21) rfl
theorem dX11_readMore_150 : decode cX11_readMore 150 = .ok (.getfield 123, 3) := zD180 whX11_readMore_4 (p := 22) rfl rfl
theorem dX11_readMore_153 : decode cX11_readMore 153 = .ok (.iconst 1, 1) := zD4 whX11_readMore_4 (p := 25) rfl
theorem dX11_readMore_154 : decode cX11_readMore 154 = .ok (.iload_n 2, 1) := zD28 whX11_readMore_4 (p := 26) rfl
theorem dX11_readMore_155 : decode cX11_readMore 155 = .ok (.ishl, 1) := zD120 whX11_readMore_4 (p := 27) rfl
theorem dX11_readMore_156 : decode cX11_readMore 156 = .ok (.ior, 1) := zD128 whX11_readMore_4 (p := 28) rfl
theorem dX11_readMore_157 : decode cX11_readMore 157 = .ok (.putfield 123, 3) := zD181 whX11_readMore_4 (p := 29) rfl rfl
def wlX11_readMore_5 : List Nat := [42, 28, 42, 180, 0, 126, 164, 0, 7, 28, 167, 0, 7, 42, 180, 0, 126, 181, 0, 126, 42, 3, 8, 3, 182, 0, 112, 62, 42, 29, 42, 180, 0, 129]
theorem whX11_readMore_5 : WLy cX11_readMore 160 wlX11_readMore_5 := by decide +kernel
theorem dX11_readMore_160 : decode cX11_readMore 160 = .ok (.aload_n 0, 1) := zD42 whX11_readMore_5 (p := 0) rfl
theorem dX11_readMore_161 : decode cX11_readMore 161 = .ok (.iload_n 2, 1) := zD28 whX11_readMore_5 (p := 1) rfl
theorem dX11_readMore_162 : decode cX11_readMore 162 = .ok (.aload_n 0, 1) := zD42 whX11_readMore_5 (p := 2) rfl
theorem dX11_readMore_163 : decode cX11_readMore 163 = .ok (.getfield 126, 3) := zD180 whX11_readMore_5 (p := 3) rfl rfl
theorem dX11_readMore_166 : decode cX11_readMore 166 = .ok (.if_icmp .le 7, 3) := zD164p whX11_readMore_5 (p := 6) (v := 7) rfl rfl rfl
theorem dX11_readMore_169 : decode cX11_readMore 169 = .ok (.iload_n 2, 1) := zD28 whX11_readMore_5 (p := 9) rfl
theorem dX11_readMore_170 : decode cX11_readMore 170 = .ok (.goto 7, 3) := zD167p whX11_readMore_5 (p := 10) (v := 7) rfl rfl rfl
theorem dX11_readMore_173 : decode cX11_readMore 173 = .ok (.aload_n 0, 1) := zD42 whX11_readMore_5 (p := 13) rfl
theorem dX11_readMore_174 : decode cX11_readMore 174 = .ok (.getfield 126, 3) := zD180 whX11_readMore_5 (p := 14) rfl rfl
theorem dX11_readMore_177 : decode cX11_readMore 177 = .ok (.putfield 126, 3) := zD181 whX11_readMore_5 (p := 17) rfl rfl
theorem dX11_readMore_180 : decode cX11_readMore 180 = .ok (.aload_n 0, 1) := zD42 whX11_readMore_5 (p := 20) rfl
theorem dX11_readMore_181 : decode cX11_readMore 181 = .ok (.iconst 0, 1) := zD3 whX11_readMore_5 (p := 21) rfl
theorem dX11_readMore_182 : decode cX11_readMore 182 = .ok (.iconst 5, 1) := zD8 whX11_readMore_5 (p := 22) rfl
theorem dX11_readMore_183 : decode cX11_readMore 183 = .ok (.iconst 0, 1) := zD3 whX11_readMore_5 (p := 23) rfl
theorem dX11_readMore_184 : decode cX11_readMore 184 = .ok (.invokevirtual 112, 3) := zD182 whX11_readMore_5 (p := 24) rfl rfl
theorem dX11_readMore_187 : decode cX11_readMore 187 = .ok (.istore_n 3, 1) := zD62 whX11_readMore_5 (p := 27) rfl
theorem dX11_readMore_188 : decode cX11_readMore 188 = .ok (.aload_n 0, 1) := zD42 whX11_readMore_5 (p := 28) rfl
theorem dX11_readMore_189 : decode cX11_readMore 189 = .ok (.iload_n 3, 1) := zD29 whX11_readMore_5 (p := 29) rfl
theorem dX11_readMore_190 : decode cX11_readMore 190 = .ok (.aload_n 0, 1) := zD42 whX11_readMore_5 (p := 30) rfl
theorem dX11_readMore_191 : decode cX11_readMore 191 = .ok (.getfield 129, 3) := zD180 whX11_readMore_5 (p := 31) rfl rfl
def wlX11_readMore_6 : List Nat := [164, 0, 7, 29, 167, 0, 7, 42, 180, 0, 129, 181, 0, 129, 42, 180, 0, 13, 16, 38, 28, 96, 29, 79, 177]
theorem whX11_readMore_6 : WLy cX11_readMore 194 wlX11_readMore_6 := by decide +kernel
theorem dX11_readMore_194 : decode cX11_readMore 194 = .ok (.if_icmp .le 7, 3) := zD164p whX11_readMore_6 (p := 0) (v := 7) rfl rfl rfl
theorem dX11_readMore_197 : decode cX11_readMore 197 = .ok (.iload_n 3, 1) := zD29 whX11_readMore_6 (p := 3) rfl
theorem dX11_readMore_198 : decode cX11_readMore 198 = .ok (.goto 7, 3) := zD167p whX11_readMore_6 (p := 4) (v := 7) rfl rfl rfl
theorem dX11_readMore_201 : decode cX11_readMore 201 = .ok (.aload_n 0, 1) := zD42 whX11_readMore_6 (p := 7) rfl
theorem dX11_readMore_202 : decode cX11_readMore 202 = .ok (.getfield 129, 3) := zD180 whX11_readMore_6 (p := 8) rfl rfl
theorem dX11_readMore_205 : decode cX11_readMore 205 = .ok (.putfield 129, 3) := zD181 whX11_readMore_6 (p := 11) rfl rfl
theorem dX11_readMore_208 : decode cX11_readMore 208 = .ok (.aload_n 0, 1) := zD42 whX11_readMore_6 (p := 14) rfl
theorem dX11_readMore_209 : decode cX11_readMore 209 = .ok (.getfield 13, 3) := zD180 whX11_readMore_6 (p := 15) rfl rfl
theorem dX11_readMore_212 : decode cX11_readMore 212 = .ok (.bipush 38, 2) := zD16p whX11_readMore_6 (p := 18) (v := 38) rfl rfl rfl
theorem dX11_readMore_214 : decode cX11_readMore 214 = .ok (.iload_n 2, 1) := zD28 whX11_readMore_6 (p := 20) rfl
theorem dX11_readMore_215 : decode cX11_readMore 215 = .ok (.iadd, 1) := zD96 whX11_readMore_6 (p := 21) rfl
theorem dX11_readMore_216 : decode cX11_readMore 216 = .ok (.iload_n 3, 1) := zD29 whX11_readMore_6 (p := 22) rfl
theorem dX11_readMore_217 : decode cX11_readMore 217 = .ok (.iastore, 1) := zD79 whX11_readMore_6 (p := 23) rfl
theorem dX11_readMore_218 : decode cX11_readMore 218 = .ok (.return_, 1) := zD177 whX11_readMore_6 (p := 24) rfl
def wlX11_readLine_0 : List Nat := [42, 182, 0, 108, 60, 27, 133, 9, 20, 0, 132, 184, 0, 64, 154, 0, 9, 42, 5, 182, 0, 98, 177, 27, 5, 160, 0, 10, 42, 182, 0, 134]
theorem whX11_readLine_0 : WLy cX11_readLine 0 wlX11_readLine_0 := by decide +kernel
theorem dX11_readLine_0 : decode cX11_readLine 0 = .ok (.aload_n 0, 1) := zD42 whX11_readLine_0 (p := 0) rfl
theorem dX11_readLine_1 : decode cX11_readLine 1 = .ok (.invokevirtual 108, 3) := zD182 whX11_readLine_0 (p := 1) rfl rfl
theorem dX11_readLine_4 : decode cX11_readLine 4 = .ok (.istore_n 1, 1) := zD60 whX11_readLine_0 (p := 4) rfl
theorem dX11_readLine_5 : decode cX11_readLine 5 = .ok (.iload_n 1, 1) := zD27 whX11_readLine_0 (p := 5) rfl
theorem dX11_readLine_6 : decode cX11_readLine 6 = .ok (.i2l, 1) := zD133 whX11_readLine_0 (p := 6) rfl
theorem dX11_readLine_7 : decode cX11_readLine 7 = .ok (.lconst 0, 1) := zD9 whX11_readLine_0 (p := 7) rfl
theorem dX11_readLine_8 : decode cX11_readLine 8 = .ok (.ldc2_w 132, 3) := zD20 whX11_readLine_0 (p := 8) rfl rfl
theorem dX11_readLine_11 : decode cX11_readLine 11 = .ok (.invokestatic 64, 3) := zD184 whX11_readLine_0 (p := 11) rfl rfl
theorem dX11_readLine_14 : decode cX11_readLine 14 = .ok (.ifCond .ne 9, 3) := zD154p whX11_readLine_0 (p := 14) (v := 9) rfl rfl rfl
theorem dX11_readLine_17 : decode cX11_readLine 17 = .ok (.aload_n 0, 1) := zD42 whX11_readLine_0 (p := 17) rfl
theorem dX11_readLine_18 : decode cX11_readLine 18 = .ok (.iconst 2, 1) := zD5 whX11_readLine_0 (p := 18) rfl
theorem dX11_readLine_19 : decode cX11_readLine 19 = .ok (.invokevirtual 98, 3) := zD182 whX11_readLine_0 (p := 19) rfl rfl
theorem dX11_readLine_22 : decode cX11_readLine 22 = .ok (.return_, 1) := zD177 whX11_readLine_0 (p := 22) rfl
theorem dX11_readLine_23 : decode cX11_readLine 23 = .ok (.iload_n 1, 1) := zD27 whX11_readLine_0 (p := 23) rfl
theorem dX11_readLine_24 : decode cX11_readLine 24 = .ok (.iconst 2, 1) := zD5 whX11_readLine_0 (p := 24) rfl
theorem dX11_readLine_25 : decode cX11_readLine 25 = .ok (.if_icmp .ne 10, 3) := zD160p whX11_readLine_0 (p := 25) (v := 10) rfl rfl rfl
theorem dX11_readLine_28 : decode cX11_readLine 28 = .ok (.aload_n 0, 1) := zD42 whX11_readLine_0 (p := 28) rfl
theorem dX11_readLine_29 : decode cX11_readLine 29 = .ok (.invokevirtual 134, 3) := zD182 whX11_readLine_0 (p := 29) rfl rfl
def wlX11_readLine_1 : List Nat := [167, 0, 8, 42, 27, 182, 0, 137, 42, 180, 0, 68, 154, 0, 16, 42, 180, 0, 77, 6, 159, 0, 8, 42, 5, 182, 0, 98, 42, 182, 0, 102]
theorem whX11_readLine_1 : WLy cX11_readLine 32 wlX11_readLine_1 := by decide +kernel
theorem dX11_readLine_32 : decode cX11_readLine 32 = .ok (.goto 8, 3) := zD167p whX11_readLine_1 (p := 0) (v := 8) rfl rfl rfl
theorem dX11_readLine_35 : decode cX11_readLine 35 = .ok (.aload_n 0, 1) := zD42 whX11_readLine_1 (p := 3) rfl
theorem dX11_readLine_36 : decode cX11_readLine 36 = .ok (.iload_n 1, 1) := zD27 whX11_readLine_1 (p := 4) rfl
theorem dX11_readLine_37 : decode cX11_readLine 37 = .ok (.invokevirtual 137, 3) := zD182 whX11_readLine_1 (p := 5) rfl rfl
theorem dX11_readLine_40 : decode cX11_readLine 40 = .ok (.aload_n 0, 1) := zD42 whX11_readLine_1 (p := 8) rfl
theorem dX11_readLine_41 : decode cX11_readLine 41 = .ok (.getfield 68, 3) := zD180 whX11_readLine_1 (p := 9) rfl rfl
theorem dX11_readLine_44 : decode cX11_readLine 44 = .ok (.ifCond .ne 16, 3) := zD154p whX11_readLine_1 (p := 12) (v := 16) rfl rfl rfl
theorem dX11_readLine_47 : decode cX11_readLine 47 = .ok (.aload_n 0, 1) := zD42 whX11_readLine_1 (p := 15) rfl
theorem dX11_readLine_48 : decode cX11_readLine 48 = .ok (.getfield 77, 3) := zD180 whX11_readLine_1 (p := 16) rfl rfl
theorem dX11_readLine_51 : decode cX11_readLine 51 = .ok (.iconst 3, 1) := zD6 whX11_readLine_1 (p := 19) rfl
theorem dX11_readLine_52 : decode cX11_readLine 52 = .ok (.if_icmp .eq 8, 3) := zD159p whX11_readLine_1 (p := 20) (v := 8) rfl rfl rfl
theorem dX11_readLine_55 : decode cX11_readLine 55 = .ok (.aload_n 0, 1) := zD42 whX11_readLine_1 (p := 23) rfl
theorem dX11_readLine_56 : decode cX11_readLine 56 = .ok (.iconst 2, 1) := zD5 whX11_readLine_1 (p := 24) rfl
theorem dX11_readLine_57 : decode cX11_readLine 57 = .ok (.invokevirtual 98, 3) := zD182 whX11_readLine_1 (p := 25) rfl rfl
theorem dX11_readLine_60 : decode cX11_readLine 60 = .ok (.aload_n 0, 1) := zD42 whX11_readLine_1 (p := 28) rfl
theorem dX11_readLine_61 : decode cX11_readLine 61 = .ok (.invokevirtual 102, 3) := zD182 whX11_readLine_1 (p := 29) rfl rfl
def wlX11_readLine_2 : List Nat := [177]
theorem whX11_readLine_2 : WLy cX11_readLine 64 wlX11_readLine_2 := by decide +kernel
theorem dX11_readLine_64 : decode cX11_readLine 64 = .ok (.return_, 1) := zD177 whX11_readLine_2 (p := 0) rfl
def wlX11_text_0 : List Nat := [42, 3, 181, 0, 68, 42, 3, 181, 0, 80, 42, 3, 181, 0, 116, 42, 3, 181, 0, 105, 42, 3, 181, 0, 119, 42, 3, 181, 0, 123, 42, 2]
theorem whX11_text_0 : WLy cX11_text 0 wlX11_text_0 := by decide +kernel
theorem dX11_text_0 : decode cX11_text 0 = .ok (.aload_n 0, 1) := zD42 whX11_text_0 (p := 0) rfl
theorem dX11_text_1 : decode cX11_text 1 = .ok (.iconst 0, 1) := zD3 whX11_text_0 (p := 1) rfl
theorem dX11_text_2 : decode cX11_text 2 = .ok (.putfield 68, 3) := zD181 whX11_text_0 (p := 2) rfl rfl
theorem dX11_text_5 : decode cX11_text 5 = .ok (.aload_n 0, 1) := zD42 whX11_text_0 (p := 5) rfl
theorem dX11_text_6 : decode cX11_text 6 = .ok (.iconst 0, 1) := zD3 whX11_text_0 (p := 6) rfl
theorem dX11_text_7 : decode cX11_text 7 = .ok (.putfield 80, 3) := zD181 whX11_text_0 (p := 7) rfl rfl
theorem dX11_text_10 : decode cX11_text 10 = .ok (.aload_n 0, 1) := zD42 whX11_text_0 (p := 10) rfl
theorem dX11_text_11 : decode cX11_text 11 = .ok (.iconst 0, 1) := zD3 whX11_text_0 (p := 11) rfl
theorem dX11_text_12 : decode cX11_text 12 = .ok (.putfield 116, 3) := zD181 whX11_text_0 (p := 12) rfl rfl
theorem dX11_text_15 : decode cX11_text 15 = .ok (.aload_n 0, 1) := zD42 whX11_text_0 (p := 15) rfl
theorem dX11_text_16 : decode cX11_text 16 = .ok (.iconst 0, 1) := zD3 whX11_text_0 (p := 16) rfl
theorem dX11_text_17 : decode cX11_text 17 = .ok (.putfield 105, 3) := zD181 whX11_text_0 (p := 17) rfl rfl
theorem dX11_text_20 : decode cX11_text 20 = .ok (.aload_n 0, 1) := zD42 whX11_text_0 (p := 20) rfl
theorem dX11_text_21 : decode cX11_text 21 = .ok (.iconst 0, 1) := zD3 whX11_text_0 (p := 21) rfl
theorem dX11_text_22 : decode cX11_text 22 = .ok (.putfield 119, 3) := zD181 whX11_text_0 (p := 22) rfl rfl
theorem dX11_text_25 : decode cX11_text 25 = .ok (.aload_n 0, 1) := zD42 whX11_text_0 (p := 25) rfl
theorem dX11_text_26 : decode cX11_text 26 = .ok (.iconst 0, 1) := zD3 whX11_text_0 (p := 26) rfl
theorem dX11_text_27 : decode cX11_text 27 = .ok (.putfield 123, 3) := zD181 whX11_text_0 (p := 27) rfl rfl
theorem dX11_text_30 : decode cX11_text 30 = .ok (.aload_n 0, 1) := zD42 whX11_text_0 (p := 30) rfl
theorem dX11_text_31 : decode cX11_text 31 = .ok (.iconst (-1), 1) := zD2 whX11_text_0 (p := 31) rfl
def wlX11_text_1 : List Nat := [181, 0, 126, 42, 2, 181, 0, 129, 3, 60, 3, 61, 28, 16, 49, 162, 0, 16, 42, 180, 0, 13, 28, 3, 79, 132, 2, 1, 167, 255, 240, 42]
theorem whX11_text_1 : WLy cX11_text 32 wlX11_text_1 := by decide +kernel
theorem dX11_text_32 : decode cX11_text 32 = .ok (.putfield 126, 3) := zD181 whX11_text_1 (p := 0) rfl rfl
theorem dX11_text_35 : decode cX11_text 35 = .ok (.aload_n 0, 1) := zD42 whX11_text_1 (p := 3) rfl
theorem dX11_text_36 : decode cX11_text 36 = .ok (.iconst (-1), 1) := zD2 whX11_text_1 (p := 4) rfl
theorem dX11_text_37 : decode cX11_text 37 = .ok (.putfield 129, 3) := zD181 whX11_text_1 (p := 5) rfl rfl
theorem dX11_text_40 : decode cX11_text 40 = .ok (.iconst 0, 1) := zD3 whX11_text_1 (p := 8) rfl
theorem dX11_text_41 : decode cX11_text 41 = .ok (.istore_n 1, 1) := zD60 whX11_text_1 (p := 9) rfl
theorem dX11_text_42 : decode cX11_text 42 = .ok (.iconst 0, 1) := zD3 whX11_text_1 (p := 10) rfl
theorem dX11_text_43 : decode cX11_text 43 = .ok (.istore_n 2, 1) := zD61 whX11_text_1 (p := 11) rfl
theorem dX11_text_44 : decode cX11_text 44 = .ok (.iload_n 2, 1) := zD28 whX11_text_1 (p := 12) rfl
theorem dX11_text_45 : decode cX11_text 45 = .ok (.bipush 49, 2) := zD16p whX11_text_1 (p := 13) (v := 49) rfl rfl rfl
theorem dX11_text_47 : decode cX11_text 47 = .ok (.if_icmp .ge 16, 3) := zD162p whX11_text_1 (p := 15) (v := 16) rfl rfl rfl
theorem dX11_text_50 : decode cX11_text 50 = .ok (.aload_n 0, 1) := zD42 whX11_text_1 (p := 18) rfl
theorem dX11_text_51 : decode cX11_text 51 = .ok (.getfield 13, 3) := zD180 whX11_text_1 (p := 19) rfl rfl
theorem dX11_text_54 : decode cX11_text 54 = .ok (.iload_n 2, 1) := zD28 whX11_text_1 (p := 22) rfl
theorem dX11_text_55 : decode cX11_text 55 = .ok (.iconst 0, 1) := zD3 whX11_text_1 (p := 23) rfl
theorem dX11_text_56 : decode cX11_text 56 = .ok (.iastore, 1) := zD79 whX11_text_1 (p := 24) rfl
theorem dX11_text_57 : decode cX11_text 57 = .ok (.iinc 2 1, 3) := zD132p whX11_text_1 (p := 25) (v := 1) rfl rfl rfl
theorem dX11_text_60 : decode cX11_text 60 = .ok (.goto (-16), 3) := zD167n whX11_text_1 (p := 28) (v := 16) rfl rfl rfl
theorem dX11_text_63 : decode cX11_text 63 = .ok (.aload_n 0, 1) := zD42 whX11_text_1 (p := 31) rfl
def wlX11_text_2 : List Nat := [182, 0, 102, 42, 180, 0, 68, 154, 0, 20, 42, 180, 0, 77, 153, 0, 13, 42, 182, 0, 140, 132, 1, 1, 167, 255, 235, 42, 180, 0, 68, 154, 0, 31]
theorem whX11_text_2 : WLy cX11_text 64 wlX11_text_2 := by decide +kernel
theorem dX11_text_64 : decode cX11_text 64 = .ok (.invokevirtual 102, 3) := zD182 whX11_text_2 (p := 0) rfl rfl
theorem dX11_text_67 : decode cX11_text 67 = .ok (.aload_n 0, 1) := zD42 whX11_text_2 (p := 3) rfl
theorem dX11_text_68 : decode cX11_text 68 = .ok (.getfield 68, 3) := zD180 whX11_text_2 (p := 4) rfl rfl
theorem dX11_text_71 : decode cX11_text 71 = .ok (.ifCond .ne 20, 3) := zD154p whX11_text_2 (p := 7) (v := 20) rfl rfl rfl
theorem dX11_text_74 : decode cX11_text 74 = .ok (.aload_n 0, 1) := zD42 whX11_text_2 (p := 10) rfl
theorem dX11_text_75 : decode cX11_text 75 = .ok (.getfield 77, 3) := zD180 whX11_text_2 (p := 11) rfl rfl
theorem dX11_text_78 : decode cX11_text 78 = .ok (.ifCond .eq 13, 3) := zD153p whX11_text_2 (p := 14) (v := 13) rfl rfl rfl
theorem dX11_text_81 : decode cX11_text 81 = .ok (.aload_n 0, 1) := zD42 whX11_text_2 (p := 17) rfl
theorem dX11_text_82 : decode cX11_text 82 = .ok (.invokevirtual 140, 3) := zD182 whX11_text_2 (p := 18) rfl rfl
theorem dX11_text_85 : decode cX11_text 85 = .ok (.iinc 1 1, 3) := zD132p whX11_text_2 (p := 21) (v := 1) rfl rfl rfl
theorem dX11_text_88 : decode cX11_text 88 = .ok (.goto (-21), 3) := zD167n whX11_text_2 (p := 24) (v := 21) rfl rfl rfl
theorem dX11_text_91 : decode cX11_text 91 = .ok (.aload_n 0, 1) := zD42 whX11_text_2 (p := 27) rfl
theorem dX11_text_92 : decode cX11_text 92 = .ok (.getfield 68, 3) := zD180 whX11_text_2 (p := 28) rfl rfl
theorem dX11_text_95 : decode cX11_text 95 = .ok (.ifCond .ne 31, 3) := zD154p whX11_text_2 (p := 31) (v := 31) rfl rfl rfl
def wlX11_text_3 : List Nat := [42, 180, 0, 126, 42, 180, 0, 116, 162, 0, 14, 42, 180, 0, 129, 42, 180, 0, 105, 161, 0, 9, 42, 16, 6, 182, 0, 98, 42, 180, 0, 68]
theorem whX11_text_3 : WLy cX11_text 98 wlX11_text_3 := by decide +kernel
theorem dX11_text_98 : decode cX11_text 98 = .ok (.aload_n 0, 1) := zD42 whX11_text_3 (p := 0) rfl
theorem dX11_text_99 : decode cX11_text 99 = .ok (.getfield 126, 3) := zD180 whX11_text_3 (p := 1) rfl rfl
theorem dX11_text_102 : decode cX11_text 102 = .ok (.aload_n 0, 1) := zD42 whX11_text_3 (p := 4) rfl
theorem dX11_text_103 : decode cX11_text 103 = .ok (.getfield 116, 3) := zD180 whX11_text_3 (p := 5) rfl rfl
theorem dX11_text_106 : decode cX11_text 106 = .ok (.if_icmp .ge 14, 3) := zD162p whX11_text_3 (p := 8) (v := 14) rfl rfl rfl
theorem dX11_text_109 : decode cX11_text 109 = .ok (.aload_n 0, 1) := zD42 whX11_text_3 (p := 11) rfl
theorem dX11_text_110 : decode cX11_text 110 = .ok (.getfield 129, 3) := zD180 whX11_text_3 (p := 12) rfl rfl
theorem dX11_text_113 : decode cX11_text 113 = .ok (.aload_n 0, 1) := zD42 whX11_text_3 (p := 15) rfl
theorem dX11_text_114 : decode cX11_text 114 = .ok (.getfield 105, 3) := zD180 whX11_text_3 (p := 16) rfl rfl
theorem dX11_text_117 : decode cX11_text 117 = .ok (.if_icmp .lt 9, 3) := zD161p whX11_text_3 (p := 19) (v := 9) rfl rfl rfl
theorem dX11_text_120 : decode cX11_text 120 = .ok (.aload_n 0, 1) := zD42 whX11_text_3 (p := 22) rfl
theorem dX11_text_121 : decode cX11_text 121 = .ok (.bipush 6, 2) := zD16p whX11_text_3 (p := 23) (v := 6) rfl rfl rfl
theorem dX11_text_123 : decode cX11_text 123 = .ok (.invokevirtual 98, 3) := zD182 whX11_text_3 (p := 25) rfl rfl
theorem dX11_text_126 : decode cX11_text 126 = .ok (.aload_n 0, 1) := zD42 whX11_text_3 (p := 28) rfl
theorem dX11_text_127 : decode cX11_text 127 = .ok (.getfield 68, 3) := zD180 whX11_text_3 (p := 29) rfl rfl
def wlX11_text_4 : List Nat := [154, 0, 23, 42, 180, 0, 116, 158, 0, 16, 42, 180, 0, 105, 154, 0, 9, 42, 16, 7, 182, 0, 98, 42, 3, 181, 0, 60, 42, 42, 180, 0, 68]
theorem whX11_text_4 : WLy cX11_text 130 wlX11_text_4 := by decide +kernel
theorem dX11_text_130 : decode cX11_text 130 = .ok (.ifCond .ne 23, 3) := zD154p whX11_text_4 (p := 0) (v := 23) rfl rfl rfl
theorem dX11_text_133 : decode cX11_text 133 = .ok (.aload_n 0, 1) := zD42 whX11_text_4 (p := 3) rfl
theorem dX11_text_134 : decode cX11_text 134 = .ok (.getfield 116, 3) := zD180 whX11_text_4 (p := 4) rfl rfl
theorem dX11_text_137 : decode cX11_text 137 = .ok (.ifCond .le 16, 3) := zD158p whX11_text_4 (p := 7) (v := 16) rfl rfl rfl
theorem dX11_text_140 : decode cX11_text 140 = .ok (.aload_n 0, 1) := zD42 whX11_text_4 (p := 10) rfl
theorem dX11_text_141 : decode cX11_text 141 = .ok (.getfield 105, 3) := zD180 whX11_text_4 (p := 11) rfl rfl
theorem dX11_text_144 : decode cX11_text 144 = .ok (.ifCond .ne 9, 3) := zD154p whX11_text_4 (p := 14) (v := 9) rfl rfl rfl
theorem dX11_text_147 : decode cX11_text 147 = .ok (.aload_n 0, 1) := zD42 whX11_text_4 (p := 17) rfl
theorem dX11_text_148 : decode cX11_text 148 = .ok (.bipush 7, 2) := zD16p whX11_text_4 (p := 18) (v := 7) rfl rfl rfl
theorem dX11_text_150 : decode cX11_text 150 = .ok (.invokevirtual 98, 3) := zD182 whX11_text_4 (p := 20) rfl rfl
theorem dX11_text_153 : decode cX11_text 153 = .ok (.aload_n 0, 1) := zD42 whX11_text_4 (p := 23) rfl
theorem dX11_text_154 : decode cX11_text 154 = .ok (.iconst 0, 1) := zD3 whX11_text_4 (p := 24) rfl
theorem dX11_text_155 : decode cX11_text 155 = .ok (.putfield 60, 3) := zD181 whX11_text_4 (p := 25) rfl rfl
theorem dX11_text_158 : decode cX11_text 158 = .ok (.aload_n 0, 1) := zD42 whX11_text_4 (p := 28) rfl
theorem dX11_text_159 : decode cX11_text 159 = .ok (.aload_n 0, 1) := zD42 whX11_text_4 (p := 29) rfl
theorem dX11_text_160 : decode cX11_text 160 = .ok (.getfield 68, 3) := zD180 whX11_text_4 (p := 30) rfl rfl
def wlX11_text_5 : List Nat := [181, 0, 143, 42, 180, 0, 68, 158, 0, 11, 16, 246, 42, 180, 0, 74, 100, 172, 3, 61, 28, 16, 49, 162, 0, 21, 42, 180, 0, 7, 28, 42]
theorem whX11_text_5 : WLy cX11_text 163 wlX11_text_5 := by decide +kernel
theorem dX11_text_163 : decode cX11_text 163 = .ok (.putfield 143, 3) := zD181 whX11_text_5 (p := 0) rfl rfl
theorem dX11_text_166 : decode cX11_text 166 = .ok (.aload_n 0, 1) := zD42 whX11_text_5 (p := 3) rfl
theorem dX11_text_167 : decode cX11_text 167 = .ok (.getfield 68, 3) := zD180 whX11_text_5 (p := 4) rfl rfl
theorem dX11_text_170 : decode cX11_text 170 = .ok (.ifCond .le 11, 3) := zD158p whX11_text_5 (p := 7) (v := 11) rfl rfl rfl
theorem dX11_text_173 : decode cX11_text 173 = .ok (.bipush (-10), 2) := zD16n whX11_text_5 (p := 10) (v := 10) rfl rfl rfl
theorem dX11_text_175 : decode cX11_text 175 = .ok (.aload_n 0, 1) := zD42 whX11_text_5 (p := 12) rfl
theorem dX11_text_176 : decode cX11_text 176 = .ok (.getfield 74, 3) := zD180 whX11_text_5 (p := 13) rfl rfl
theorem dX11_text_179 : decode cX11_text 179 = .ok (.isub, 1) := zD100 whX11_text_5 (p := 16) rfl
theorem dX11_text_180 : decode cX11_text 180 = .ok (.ireturn, 1) := zD172 whX11_text_5 (p := 17) rfl
theorem dX11_text_181 : decode cX11_text 181 = .ok (.iconst 0, 1) := zD3 whX11_text_5 (p := 18) rfl
theorem dX11_text_182 : decode cX11_text 182 = .ok (.istore_n 2, 1) := zD61 whX11_text_5 (p := 19) rfl
theorem dX11_text_183 : decode cX11_text 183 = .ok (.iload_n 2, 1) := zD28 whX11_text_5 (p := 20) rfl
theorem dX11_text_184 : decode cX11_text 184 = .ok (.bipush 49, 2) := zD16p whX11_text_5 (p := 21) (v := 49) rfl rfl rfl
theorem dX11_text_186 : decode cX11_text 186 = .ok (.if_icmp .ge 21, 3) := zD162p whX11_text_5 (p := 23) (v := 21) rfl rfl rfl
theorem dX11_text_189 : decode cX11_text 189 = .ok (.aload_n 0, 1) := zD42 whX11_text_5 (p := 26) rfl
theorem dX11_text_190 : decode cX11_text 190 = .ok (.getfield 7, 3) := zD180 whX11_text_5 (p := 27) rfl rfl
theorem dX11_text_193 : decode cX11_text 193 = .ok (.iload_n 2, 1) := zD28 whX11_text_5 (p := 30) rfl
theorem dX11_text_194 : decode cX11_text 194 = .ok (.aload_n 0, 1) := zD42 whX11_text_5 (p := 31) rfl
def wlX11_text_6 : List Nat := [180, 0, 13, 28, 46, 79, 132, 2, 1, 167, 255, 235, 42, 42, 180, 0, 116, 181, 0, 146, 42, 42, 180, 0, 105, 181, 0, 149, 42, 3, 181, 0, 152]
theorem whX11_text_6 : WLy cX11_text 195 wlX11_text_6 := by decide +kernel
theorem dX11_text_195 : decode cX11_text 195 = .ok (.getfield 13, 3) := zD180 whX11_text_6 (p := 0) rfl rfl
theorem dX11_text_198 : decode cX11_text 198 = .ok (.iload_n 2, 1) := zD28 whX11_text_6 (p := 3) rfl
theorem dX11_text_199 : decode cX11_text 199 = .ok (.iaload, 1) := zD46 whX11_text_6 (p := 4) rfl
theorem dX11_text_200 : decode cX11_text 200 = .ok (.iastore, 1) := zD79 whX11_text_6 (p := 5) rfl
theorem dX11_text_201 : decode cX11_text 201 = .ok (.iinc 2 1, 3) := zD132p whX11_text_6 (p := 6) (v := 1) rfl rfl rfl
theorem dX11_text_204 : decode cX11_text 204 = .ok (.goto (-21), 3) := zD167n whX11_text_6 (p := 9) (v := 21) rfl rfl rfl
theorem dX11_text_207 : decode cX11_text 207 = .ok (.aload_n 0, 1) := zD42 whX11_text_6 (p := 12) rfl
theorem dX11_text_208 : decode cX11_text 208 = .ok (.aload_n 0, 1) := zD42 whX11_text_6 (p := 13) rfl
theorem dX11_text_209 : decode cX11_text 209 = .ok (.getfield 116, 3) := zD180 whX11_text_6 (p := 14) rfl rfl
theorem dX11_text_212 : decode cX11_text 212 = .ok (.putfield 146, 3) := zD181 whX11_text_6 (p := 17) rfl rfl
theorem dX11_text_215 : decode cX11_text 215 = .ok (.aload_n 0, 1) := zD42 whX11_text_6 (p := 20) rfl
theorem dX11_text_216 : decode cX11_text 216 = .ok (.aload_n 0, 1) := zD42 whX11_text_6 (p := 21) rfl
theorem dX11_text_217 : decode cX11_text 217 = .ok (.getfield 105, 3) := zD180 whX11_text_6 (p := 22) rfl rfl
theorem dX11_text_220 : decode cX11_text 220 = .ok (.putfield 149, 3) := zD181 whX11_text_6 (p := 25) rfl rfl
theorem dX11_text_223 : decode cX11_text 223 = .ok (.aload_n 0, 1) := zD42 whX11_text_6 (p := 28) rfl
theorem dX11_text_224 : decode cX11_text 224 = .ok (.iconst 0, 1) := zD3 whX11_text_6 (p := 29) rfl
theorem dX11_text_225 : decode cX11_text 225 = .ok (.putfield 152, 3) := zD181 whX11_text_6 (p := 30) rfl rfl
def wlX11_text_7 : List Nat := [42, 3, 181, 0, 155, 42, 180, 0, 47, 3, 3, 84, 42, 180, 0, 47, 4, 3, 84, 27, 172]
theorem whX11_text_7 : WLy cX11_text 228 wlX11_text_7 := by decide +kernel
theorem dX11_text_228 : decode cX11_text 228 = .ok (.aload_n 0, 1) := zD42 whX11_text_7 (p := 0) rfl
theorem dX11_text_229 : decode cX11_text 229 = .ok (.iconst 0, 1) := zD3 whX11_text_7 (p := 1) rfl
theorem dX11_text_230 : decode cX11_text 230 = .ok (.putfield 155, 3) := zD181 whX11_text_7 (p := 2) rfl rfl
theorem dX11_text_233 : decode cX11_text 233 = .ok (.aload_n 0, 1) := zD42 whX11_text_7 (p := 5) rfl
theorem dX11_text_234 : decode cX11_text 234 = .ok (.getfield 47, 3) := zD180 whX11_text_7 (p := 6) rfl rfl
theorem dX11_text_237 : decode cX11_text 237 = .ok (.iconst 0, 1) := zD3 whX11_text_7 (p := 9) rfl
theorem dX11_text_238 : decode cX11_text 238 = .ok (.iconst 0, 1) := zD3 whX11_text_7 (p := 10) rfl
theorem dX11_text_239 : decode cX11_text 239 = .ok (.bastore, 1) := zD84 whX11_text_7 (p := 11) rfl
theorem dX11_text_240 : decode cX11_text 240 = .ok (.aload_n 0, 1) := zD42 whX11_text_7 (p := 12) rfl
theorem dX11_text_241 : decode cX11_text 241 = .ok (.getfield 47, 3) := zD180 whX11_text_7 (p := 13) rfl rfl
theorem dX11_text_244 : decode cX11_text 244 = .ok (.iconst 1, 1) := zD4 whX11_text_7 (p := 16) rfl
theorem dX11_text_245 : decode cX11_text 245 = .ok (.iconst 0, 1) := zD3 whX11_text_7 (p := 17) rfl
theorem dX11_text_246 : decode cX11_text 246 = .ok (.bastore, 1) := zD84 whX11_text_7 (p := 18) rfl
theorem dX11_text_247 : decode cX11_text 247 = .ok (.iload_n 1, 1) := zD27 whX11_text_7 (p := 19) rfl
theorem dX11_text_248 : decode cX11_text 248 = .ok (.ireturn, 1) := zD172 whX11_text_7 (p := 20) rfl
def wlX11_fault_0 : List Nat := [42, 180, 0, 143, 172]
theorem whX11_fault_0 : WLy cX11_fault 0 wlX11_fault_0 := by decide +kernel
theorem dX11_fault_0 : decode cX11_fault 0 = .ok (.aload_n 0, 1) := zD42 whX11_fault_0 (p := 0) rfl
theorem dX11_fault_1 : decode cX11_fault 1 = .ok (.getfield 143, 3) := zD180 whX11_fault_0 (p := 1) rfl rfl
theorem dX11_fault_4 : decode cX11_fault 4 = .ok (.ireturn, 1) := zD172 whX11_fault_0 (p := 4) rfl
def wlX11_isStretch_0 : List Nat := [27, 133, 9, 42, 180, 0, 146, 4, 100, 133, 184, 0, 64, 172]
theorem whX11_isStretch_0 : WLy cX11_isStretch 0 wlX11_isStretch_0 := by decide +kernel
theorem dX11_isStretch_0 : decode cX11_isStretch 0 = .ok (.iload_n 1, 1) := zD27 whX11_isStretch_0 (p := 0) rfl
theorem dX11_isStretch_1 : decode cX11_isStretch 1 = .ok (.i2l, 1) := zD133 whX11_isStretch_0 (p := 1) rfl
theorem dX11_isStretch_2 : decode cX11_isStretch 2 = .ok (.lconst 0, 1) := zD9 whX11_isStretch_0 (p := 2) rfl
theorem dX11_isStretch_3 : decode cX11_isStretch 3 = .ok (.aload_n 0, 1) := zD42 whX11_isStretch_0 (p := 3) rfl
theorem dX11_isStretch_4 : decode cX11_isStretch 4 = .ok (.getfield 146, 3) := zD180 whX11_isStretch_0 (p := 4) rfl rfl
theorem dX11_isStretch_7 : decode cX11_isStretch 7 = .ok (.iconst 1, 1) := zD4 whX11_isStretch_0 (p := 7) rfl
theorem dX11_isStretch_8 : decode cX11_isStretch 8 = .ok (.isub, 1) := zD100 whX11_isStretch_0 (p := 8) rfl
theorem dX11_isStretch_9 : decode cX11_isStretch 9 = .ok (.i2l, 1) := zD133 whX11_isStretch_0 (p := 9) rfl
theorem dX11_isStretch_10 : decode cX11_isStretch 10 = .ok (.invokestatic 64, 3) := zD184 whX11_isStretch_0 (p := 10) rfl rfl
theorem dX11_isStretch_13 : decode cX11_isStretch 13 = .ok (.ireturn, 1) := zD172 whX11_isStretch_0 (p := 13) rfl
def wlX11_isBearer_0 : List Nat := [27, 133, 9, 42, 180, 0, 149, 4, 100, 133, 184, 0, 64, 172]
theorem whX11_isBearer_0 : WLy cX11_isBearer 0 wlX11_isBearer_0 := by decide +kernel
theorem dX11_isBearer_0 : decode cX11_isBearer 0 = .ok (.iload_n 1, 1) := zD27 whX11_isBearer_0 (p := 0) rfl
theorem dX11_isBearer_1 : decode cX11_isBearer 1 = .ok (.i2l, 1) := zD133 whX11_isBearer_0 (p := 1) rfl
theorem dX11_isBearer_2 : decode cX11_isBearer 2 = .ok (.lconst 0, 1) := zD9 whX11_isBearer_0 (p := 2) rfl
theorem dX11_isBearer_3 : decode cX11_isBearer 3 = .ok (.aload_n 0, 1) := zD42 whX11_isBearer_0 (p := 3) rfl
theorem dX11_isBearer_4 : decode cX11_isBearer 4 = .ok (.getfield 149, 3) := zD180 whX11_isBearer_0 (p := 4) rfl rfl
theorem dX11_isBearer_7 : decode cX11_isBearer 7 = .ok (.iconst 1, 1) := zD4 whX11_isBearer_0 (p := 7) rfl
theorem dX11_isBearer_8 : decode cX11_isBearer 8 = .ok (.isub, 1) := zD100 whX11_isBearer_0 (p := 8) rfl
theorem dX11_isBearer_9 : decode cX11_isBearer 9 = .ok (.i2l, 1) := zD133 whX11_isBearer_0 (p := 9) rfl
theorem dX11_isBearer_10 : decode cX11_isBearer 10 = .ok (.invokestatic 64, 3) := zD184 whX11_isBearer_0 (p := 10) rfl rfl
theorem dX11_isBearer_13 : decode cX11_isBearer 13 = .ok (.ireturn, 1) := zD172 whX11_isBearer_0 (p := 13) rfl
def wlX11_startNow_0 : List Nat := [42, 180, 0, 7, 16, 48, 46, 8, 96, 172]
theorem whX11_startNow_0 : WLy cX11_startNow 0 wlX11_startNow_0 := by decide +kernel
theorem dX11_startNow_0 : decode cX11_startNow 0 = .ok (.aload_n 0, 1) := zD42 whX11_startNow_0 (p := 0) rfl
theorem dX11_startNow_1 : decode cX11_startNow 1 = .ok (.getfield 7, 3) := zD180 whX11_startNow_0 (p := 1) rfl rfl
theorem dX11_startNow_4 : decode cX11_startNow 4 = .ok (.bipush 48, 2) := zD16p whX11_startNow_0 (p := 4) (v := 48) rfl rfl rfl
theorem dX11_startNow_6 : decode cX11_startNow 6 = .ok (.iaload, 1) := zD46 whX11_startNow_0 (p := 6) rfl
theorem dX11_startNow_7 : decode cX11_startNow 7 = .ok (.iconst 5, 1) := zD8 whX11_startNow_0 (p := 7) rfl
theorem dX11_startNow_8 : decode cX11_startNow 8 = .ok (.iadd, 1) := zD96 whX11_startNow_0 (p := 8) rfl
theorem dX11_startNow_9 : decode cX11_startNow 9 = .ok (.ireturn, 1) := zD172 whX11_startNow_0 (p := 9) rfl
def wlX11_rule_0 : List Nat := [27, 154, 0, 10, 42, 180, 0, 146, 167, 0, 28, 27, 4, 160, 0, 10, 42, 180, 0, 149, 167, 0, 16, 27, 5, 160, 0, 10, 42, 182, 0, 158]
theorem whX11_rule_0 : WLy cX11_rule 0 wlX11_rule_0 := by decide +kernel
theorem dX11_rule_0 : decode cX11_rule 0 = .ok (.iload_n 1, 1) := zD27 whX11_rule_0 (p := 0) rfl
theorem dX11_rule_1 : decode cX11_rule 1 = .ok (.ifCond .ne 10, 3) := zD154p whX11_rule_0 (p := 1) (v := 10) rfl rfl rfl
theorem dX11_rule_4 : decode cX11_rule 4 = .ok (.aload_n 0, 1) := zD42 whX11_rule_0 (p := 4) rfl
theorem dX11_rule_5 : decode cX11_rule 5 = .ok (.getfield 146, 3) := zD180 whX11_rule_0 (p := 5) rfl rfl
theorem dX11_rule_8 : decode cX11_rule 8 = .ok (.goto 28, 3) := zD167p whX11_rule_0 (p := 8) (v := 28) rfl rfl rfl
theorem dX11_rule_11 : decode cX11_rule 11 = .ok (.iload_n 1, 1) := zD27 whX11_rule_0 (p := 11) rfl
theorem dX11_rule_12 : decode cX11_rule 12 = .ok (.iconst 1, 1) := zD4 whX11_rule_0 (p := 12) rfl
theorem dX11_rule_13 : decode cX11_rule 13 = .ok (.if_icmp .ne 10, 3) := zD160p whX11_rule_0 (p := 13) (v := 10) rfl rfl rfl
theorem dX11_rule_16 : decode cX11_rule 16 = .ok (.aload_n 0, 1) := zD42 whX11_rule_0 (p := 16) rfl
theorem dX11_rule_17 : decode cX11_rule 17 = .ok (.getfield 149, 3) := zD180 whX11_rule_0 (p := 17) rfl rfl
theorem dX11_rule_20 : decode cX11_rule 20 = .ok (.goto 16, 3) := zD167p whX11_rule_0 (p := 20) (v := 16) rfl rfl rfl
theorem dX11_rule_23 : decode cX11_rule 23 = .ok (.iload_n 1, 1) := zD27 whX11_rule_0 (p := 23) rfl
theorem dX11_rule_24 : decode cX11_rule 24 = .ok (.iconst 2, 1) := zD5 whX11_rule_0 (p := 24) rfl
theorem dX11_rule_25 : decode cX11_rule 25 = .ok (.if_icmp .ne 10, 3) := zD160p whX11_rule_0 (p := 25) (v := 10) rfl rfl rfl
theorem dX11_rule_28 : decode cX11_rule 28 = .ok (.aload_n 0, 1) := zD42 whX11_rule_0 (p := 28) rfl
theorem dX11_rule_29 : decode cX11_rule 29 = .ok (.invokevirtual 158, 3) := zD182 whX11_rule_0 (p := 29) rfl rfl
def wlX11_rule_1 : List Nat := [167, 0, 4, 2, 172]
theorem whX11_rule_1 : WLy cX11_rule 32 wlX11_rule_1 := by decide +kernel
theorem dX11_rule_32 : decode cX11_rule 32 = .ok (.goto 4, 3) := zD167p whX11_rule_1 (p := 0) (v := 4) rfl rfl rfl
theorem dX11_rule_35 : decode cX11_rule 35 = .ok (.iconst (-1), 1) := zD2 whX11_rule_1 (p := 3) rfl
theorem dX11_rule_36 : decode cX11_rule 36 = .ok (.ireturn, 1) := zD172 whX11_rule_1 (p := 4) rfl
def wlX11_stretch_0 : List Nat := [42, 27, 182, 0, 161, 153, 0, 15, 28, 133, 9, 20, 0, 165, 184, 0, 64, 154, 0, 5, 2, 172, 28, 5, 160, 0, 15, 42, 180, 0, 7, 16, 38]
theorem whX11_stretch_0 : WLy cX11_stretch 0 wlX11_stretch_0 := by decide +kernel
theorem dX11_stretch_0 : decode cX11_stretch 0 = .ok (.aload_n 0, 1) := zD42 whX11_stretch_0 (p := 0) rfl
theorem dX11_stretch_1 : decode cX11_stretch 1 = .ok (.iload_n 1, 1) := zD27 whX11_stretch_0 (p := 1) rfl
theorem dX11_stretch_2 : decode cX11_stretch 2 = .ok (.invokevirtual 161, 3) := zD182 whX11_stretch_0 (p := 2) rfl rfl
theorem dX11_stretch_5 : decode cX11_stretch 5 = .ok (.ifCond .eq 15, 3) := zD153p whX11_stretch_0 (p := 5) (v := 15) rfl rfl rfl
theorem dX11_stretch_8 : decode cX11_stretch 8 = .ok (.iload_n 2, 1) := zD28 whX11_stretch_0 (p := 8) rfl
theorem dX11_stretch_9 : decode cX11_stretch 9 = .ok (.i2l, 1) := zD133 whX11_stretch_0 (p := 9) rfl
theorem dX11_stretch_10 : decode cX11_stretch 10 = .ok (.lconst 0, 1) := zD9 whX11_stretch_0 (p := 10) rfl
theorem dX11_stretch_11 : decode cX11_stretch 11 = .ok (.ldc2_w 165, 3) := zD20 whX11_stretch_0 (p := 11) rfl rfl
theorem dX11_stretch_14 : decode cX11_stretch 14 = .ok (.invokestatic 64, 3) := zD184 whX11_stretch_0 (p := 14) rfl rfl
theorem dX11_stretch_17 : decode cX11_stretch 17 = .ok (.ifCond .ne 5, 3) := zD154p whX11_stretch_0 (p := 17) (v := 5) rfl rfl rfl
theorem dX11_stretch_20 : decode cX11_stretch 20 = .ok (.iconst (-1), 1) := zD2 whX11_stretch_0 (p := 20) rfl
theorem dX11_stretch_21 : decode cX11_stretch 21 = .ok (.ireturn, 1) := zD172 whX11_stretch_0 (p := 21) rfl
theorem dX11_stretch_22 : decode cX11_stretch 22 = .ok (.iload_n 2, 1) := zD28 whX11_stretch_0 (p := 22) rfl
theorem dX11_stretch_23 : decode cX11_stretch 23 = .ok (.iconst 2, 1) := zD5 whX11_stretch_0 (p := 23) rfl
theorem dX11_stretch_24 : decode cX11_stretch 24 = .ok (.if_icmp .ne 15, 3) := zD160p whX11_stretch_0 (p := 24) (v := 15) rfl rfl rfl
theorem dX11_stretch_27 : decode cX11_stretch 27 = .ok (.aload_n 0, 1) := zD42 whX11_stretch_0 (p := 27) rfl
theorem dX11_stretch_28 : decode cX11_stretch 28 = .ok (.getfield 7, 3) := zD180 whX11_stretch_0 (p := 28) rfl rfl
theorem dX11_stretch_31 : decode cX11_stretch 31 = .ok (.bipush 38, 2) := zD16p whX11_stretch_0 (p := 31) (v := 38) rfl rfl rfl
def wlX11_stretch_1 : List Nat := [27, 96, 46, 167, 0, 13, 42, 180, 0, 7, 5, 27, 104, 28, 96, 46, 172]
theorem whX11_stretch_1 : WLy cX11_stretch 33 wlX11_stretch_1 := by decide +kernel
theorem dX11_stretch_33 : decode cX11_stretch 33 = .ok (.iload_n 1, 1) := zD27 whX11_stretch_1 (p := 0) rfl
theorem dX11_stretch_34 : decode cX11_stretch 34 = .ok (.iadd, 1) := zD96 whX11_stretch_1 (p := 1) rfl
theorem dX11_stretch_35 : decode cX11_stretch 35 = .ok (.iaload, 1) := zD46 whX11_stretch_1 (p := 2) rfl
theorem dX11_stretch_36 : decode cX11_stretch 36 = .ok (.goto 13, 3) := zD167p whX11_stretch_1 (p := 3) (v := 13) rfl rfl rfl
theorem dX11_stretch_39 : decode cX11_stretch 39 = .ok (.aload_n 0, 1) := zD42 whX11_stretch_1 (p := 6) rfl
theorem dX11_stretch_40 : decode cX11_stretch 40 = .ok (.getfield 7, 3) := zD180 whX11_stretch_1 (p := 7) rfl rfl
theorem dX11_stretch_43 : decode cX11_stretch 43 = .ok (.iconst 2, 1) := zD5 whX11_stretch_1 (p := 10) rfl
theorem dX11_stretch_44 : decode cX11_stretch 44 = .ok (.iload_n 1, 1) := zD27 whX11_stretch_1 (p := 11) rfl
theorem dX11_stretch_45 : decode cX11_stretch 45 = .ok (.imul, 1) := zD104 whX11_stretch_1 (p := 12) rfl
theorem dX11_stretch_46 : decode cX11_stretch 46 = .ok (.iload_n 2, 1) := zD28 whX11_stretch_1 (p := 13) rfl
theorem dX11_stretch_47 : decode cX11_stretch 47 = .ok (.iadd, 1) := zD96 whX11_stretch_1 (p := 14) rfl
theorem dX11_stretch_48 : decode cX11_stretch 48 = .ok (.iaload, 1) := zD46 whX11_stretch_1 (p := 15) rfl
theorem dX11_stretch_49 : decode cX11_stretch 49 = .ok (.ireturn, 1) := zD172 whX11_stretch_1 (p := 16) rfl
def wlX11_bearer_0 : List Nat := [42, 27, 182, 0, 167, 153, 0, 31, 28, 133, 9, 20, 0, 165, 184, 0, 64, 153, 0, 19, 42, 180, 0, 7, 16, 20, 6, 27, 104, 96, 28, 96]
theorem whX11_bearer_0 : WLy cX11_bearer 0 wlX11_bearer_0 := by decide +kernel
theorem dX11_bearer_0 : decode cX11_bearer 0 = .ok (.aload_n 0, 1) := zD42 whX11_bearer_0 (p := 0) rfl
theorem dX11_bearer_1 : decode cX11_bearer 1 = .ok (.iload_n 1, 1) := zD27 whX11_bearer_0 (p := 1) rfl
theorem dX11_bearer_2 : decode cX11_bearer 2 = .ok (.invokevirtual 167, 3) := zD182 whX11_bearer_0 (p := 2) rfl rfl
theorem dX11_bearer_5 : decode cX11_bearer 5 = .ok (.ifCond .eq 31, 3) := zD153p whX11_bearer_0 (p := 5) (v := 31) rfl rfl rfl
theorem dX11_bearer_8 : decode cX11_bearer 8 = .ok (.iload_n 2, 1) := zD28 whX11_bearer_0 (p := 8) rfl
theorem dX11_bearer_9 : decode cX11_bearer 9 = .ok (.i2l, 1) := zD133 whX11_bearer_0 (p := 9) rfl
theorem dX11_bearer_10 : decode cX11_bearer 10 = .ok (.lconst 0, 1) := zD9 whX11_bearer_0 (p := 10) rfl
theorem dX11_bearer_11 : decode cX11_bearer 11 = .ok (.ldc2_w 165, 3) := zD20 whX11_bearer_0 (p := 11) rfl rfl
theorem dX11_bearer_14 : decode cX11_bearer 14 = .ok (.invokestatic 64, 3) := zD184 whX11_bearer_0 (p := 14) rfl rfl
theorem dX11_bearer_17 : decode cX11_bearer 17 = .ok (.ifCond .eq 19, 3) := zD153p whX11_bearer_0 (p := 17) (v := 19) rfl rfl rfl
theorem dX11_bearer_20 : decode cX11_bearer 20 = .ok (.aload_n 0, 1) := zD42 whX11_bearer_0 (p := 20) rfl
theorem dX11_bearer_21 : decode cX11_bearer 21 = .ok (.getfield 7, 3) := zD180 whX11_bearer_0 (p := 21) rfl rfl
theorem dX11_bearer_24 : decode cX11_bearer 24 = .ok (.bipush 20, 2) := zD16p whX11_bearer_0 (p := 24) (v := 20) rfl rfl rfl
theorem dX11_bearer_26 : decode cX11_bearer 26 = .ok (.iconst 3, 1) := zD6 whX11_bearer_0 (p := 26) rfl
theorem dX11_bearer_27 : decode cX11_bearer 27 = .ok (.iload_n 1, 1) := zD27 whX11_bearer_0 (p := 27) rfl
theorem dX11_bearer_28 : decode cX11_bearer 28 = .ok (.imul, 1) := zD104 whX11_bearer_0 (p := 28) rfl
theorem dX11_bearer_29 : decode cX11_bearer 29 = .ok (.iadd, 1) := zD96 whX11_bearer_0 (p := 29) rfl
theorem dX11_bearer_30 : decode cX11_bearer 30 = .ok (.iload_n 2, 1) := zD28 whX11_bearer_0 (p := 30) rfl
theorem dX11_bearer_31 : decode cX11_bearer 31 = .ok (.iadd, 1) := zD96 whX11_bearer_0 (p := 31) rfl
def wlX11_bearer_1 : List Nat := [46, 167, 0, 4, 2, 172]
theorem whX11_bearer_1 : WLy cX11_bearer 32 wlX11_bearer_1 := by decide +kernel
theorem dX11_bearer_32 : decode cX11_bearer 32 = .ok (.iaload, 1) := zD46 whX11_bearer_1 (p := 0) rfl
theorem dX11_bearer_33 : decode cX11_bearer 33 = .ok (.goto 4, 3) := zD167p whX11_bearer_1 (p := 1) (v := 4) rfl rfl rfl
theorem dX11_bearer_36 : decode cX11_bearer 36 = .ok (.iconst (-1), 1) := zD2 whX11_bearer_1 (p := 4) rfl
theorem dX11_bearer_37 : decode cX11_bearer 37 = .ok (.ireturn, 1) := zD172 whX11_bearer_1 (p := 5) rfl
def wlX11_sets_0 : List Nat := [27, 154, 0, 5, 2, 172, 42, 180, 0, 7, 28, 46, 54, 4, 42, 180, 0, 7, 28, 29, 79, 21, 4, 172]
theorem whX11_sets_0 : WLy cX11_sets 0 wlX11_sets_0 := by decide +kernel
theorem dX11_sets_0 : decode cX11_sets 0 = .ok (.iload_n 1, 1) := zD27 whX11_sets_0 (p := 0) rfl
theorem dX11_sets_1 : decode cX11_sets 1 = .ok (.ifCond .ne 5, 3) := zD154p whX11_sets_0 (p := 1) (v := 5) rfl rfl rfl
theorem dX11_sets_4 : decode cX11_sets 4 = .ok (.iconst (-1), 1) := zD2 whX11_sets_0 (p := 4) rfl
theorem dX11_sets_5 : decode cX11_sets 5 = .ok (.ireturn, 1) := zD172 whX11_sets_0 (p := 5) rfl
theorem dX11_sets_6 : decode cX11_sets 6 = .ok (.aload_n 0, 1) := zD42 whX11_sets_0 (p := 6) rfl
theorem dX11_sets_7 : decode cX11_sets 7 = .ok (.getfield 7, 3) := zD180 whX11_sets_0 (p := 7) rfl rfl
theorem dX11_sets_10 : decode cX11_sets 10 = .ok (.iload_n 2, 1) := zD28 whX11_sets_0 (p := 10) rfl
theorem dX11_sets_11 : decode cX11_sets 11 = .ok (.iaload, 1) := zD46 whX11_sets_0 (p := 11) rfl
theorem dX11_sets_12 : decode cX11_sets 12 = .ok (.istore 4, 2) := zD54 whX11_sets_0 (p := 12) rfl
theorem dX11_sets_14 : decode cX11_sets 14 = .ok (.aload_n 0, 1) := zD42 whX11_sets_0 (p := 14) rfl
theorem dX11_sets_15 : decode cX11_sets 15 = .ok (.getfield 7, 3) := zD180 whX11_sets_0 (p := 15) rfl rfl
theorem dX11_sets_18 : decode cX11_sets 18 = .ok (.iload_n 2, 1) := zD28 whX11_sets_0 (p := 18) rfl
theorem dX11_sets_19 : decode cX11_sets 19 = .ok (.iload_n 3, 1) := zD29 whX11_sets_0 (p := 19) rfl
theorem dX11_sets_20 : decode cX11_sets 20 = .ok (.iastore, 1) := zD79 whX11_sets_0 (p := 20) rfl
theorem dX11_sets_21 : decode cX11_sets 21 = .ok (.iload 4, 2) := zD21 whX11_sets_0 (p := 21) rfl
theorem dX11_sets_23 : decode cX11_sets 23 = .ok (.ireturn, 1) := zD172 whX11_sets_0 (p := 23) rfl
def wlX11_start_0 : List Nat := [27, 133, 10, 20, 0, 170, 184, 0, 64, 154, 0, 5, 2, 172, 8, 42, 4, 16, 48, 27, 8, 100, 182, 0, 172, 96, 172]
theorem whX11_start_0 : WLy cX11_start 0 wlX11_start_0 := by decide +kernel
theorem dX11_start_0 : decode cX11_start 0 = .ok (.iload_n 1, 1) := zD27 whX11_start_0 (p := 0) rfl
theorem dX11_start_1 : decode cX11_start 1 = .ok (.i2l, 1) := zD133 whX11_start_0 (p := 1) rfl
theorem dX11_start_2 : decode cX11_start 2 = .ok (.lconst 1, 1) := zD10 whX11_start_0 (p := 2) rfl
theorem dX11_start_3 : decode cX11_start 3 = .ok (.ldc2_w 170, 3) := zD20 whX11_start_0 (p := 3) rfl rfl
theorem dX11_start_6 : decode cX11_start 6 = .ok (.invokestatic 64, 3) := zD184 whX11_start_0 (p := 6) rfl rfl
theorem dX11_start_9 : decode cX11_start 9 = .ok (.ifCond .ne 5, 3) := zD154p whX11_start_0 (p := 9) (v := 5) rfl rfl rfl
theorem dX11_start_12 : decode cX11_start 12 = .ok (.iconst (-1), 1) := zD2 whX11_start_0 (p := 12) rfl
theorem dX11_start_13 : decode cX11_start 13 = .ok (.ireturn, 1) := zD172 whX11_start_0 (p := 13) rfl
theorem dX11_start_14 : decode cX11_start 14 = .ok (.iconst 5, 1) := zD8 whX11_start_0 (p := 14) rfl
theorem dX11_start_15 : decode cX11_start 15 = .ok (.aload_n 0, 1) := zD42 whX11_start_0 (p := 15) rfl
theorem dX11_start_16 : decode cX11_start 16 = .ok (.iconst 1, 1) := zD4 whX11_start_0 (p := 16) rfl
theorem dX11_start_17 : decode cX11_start 17 = .ok (.bipush 48, 2) := zD16p whX11_start_0 (p := 17) (v := 48) rfl rfl rfl
theorem dX11_start_19 : decode cX11_start 19 = .ok (.iload_n 1, 1) := zD27 whX11_start_0 (p := 19) rfl
theorem dX11_start_20 : decode cX11_start 20 = .ok (.iconst 5, 1) := zD8 whX11_start_0 (p := 20) rfl
theorem dX11_start_21 : decode cX11_start 21 = .ok (.isub, 1) := zD100 whX11_start_0 (p := 21) rfl
theorem dX11_start_22 : decode cX11_start 22 = .ok (.invokevirtual 172, 3) := zD182 whX11_start_0 (p := 22) rfl rfl
theorem dX11_start_25 : decode cX11_start 25 = .ok (.iadd, 1) := zD96 whX11_start_0 (p := 25) rfl
theorem dX11_start_26 : decode cX11_start 26 = .ok (.ireturn, 1) := zD172 whX11_start_0 (p := 26) rfl
def wlX11_noise_0 : List Nat := [42, 42, 27, 182, 0, 161, 153, 0, 19, 28, 133, 9, 20, 0, 170, 184, 0, 64, 153, 0, 7, 4, 167, 0, 4, 3, 5, 27, 104, 28, 182, 0, 172]
theorem whX11_noise_0 : WLy cX11_noise 0 wlX11_noise_0 := by decide +kernel
theorem dX11_noise_0 : decode cX11_noise 0 = .ok (.aload_n 0, 1) := zD42 whX11_noise_0 (p := 0) rfl
theorem dX11_noise_1 : decode cX11_noise 1 = .ok (.aload_n 0, 1) := zD42 whX11_noise_0 (p := 1) rfl
theorem dX11_noise_2 : decode cX11_noise 2 = .ok (.iload_n 1, 1) := zD27 whX11_noise_0 (p := 2) rfl
theorem dX11_noise_3 : decode cX11_noise 3 = .ok (.invokevirtual 161, 3) := zD182 whX11_noise_0 (p := 3) rfl rfl
theorem dX11_noise_6 : decode cX11_noise 6 = .ok (.ifCond .eq 19, 3) := zD153p whX11_noise_0 (p := 6) (v := 19) rfl rfl rfl
theorem dX11_noise_9 : decode cX11_noise 9 = .ok (.iload_n 2, 1) := zD28 whX11_noise_0 (p := 9) rfl
theorem dX11_noise_10 : decode cX11_noise 10 = .ok (.i2l, 1) := zD133 whX11_noise_0 (p := 10) rfl
theorem dX11_noise_11 : decode cX11_noise 11 = .ok (.lconst 0, 1) := zD9 whX11_noise_0 (p := 11) rfl
theorem dX11_noise_12 : decode cX11_noise 12 = .ok (.ldc2_w 170, 3) := zD20 whX11_noise_0 (p := 12) rfl rfl
theorem dX11_noise_15 : decode cX11_noise 15 = .ok (.invokestatic 64, 3) := zD184 whX11_noise_0 (p := 15) rfl rfl
theorem dX11_noise_18 : decode cX11_noise 18 = .ok (.ifCond .eq 7, 3) := zD153p whX11_noise_0 (p := 18) (v := 7) rfl rfl rfl
theorem dX11_noise_21 : decode cX11_noise 21 = .ok (.iconst 1, 1) := zD4 whX11_noise_0 (p := 21) rfl
theorem dX11_noise_22 : decode cX11_noise 22 = .ok (.goto 4, 3) := zD167p whX11_noise_0 (p := 22) (v := 4) rfl rfl rfl
theorem dX11_noise_25 : decode cX11_noise 25 = .ok (.iconst 0, 1) := zD3 whX11_noise_0 (p := 25) rfl
theorem dX11_noise_26 : decode cX11_noise 26 = .ok (.iconst 2, 1) := zD5 whX11_noise_0 (p := 26) rfl
theorem dX11_noise_27 : decode cX11_noise 27 = .ok (.iload_n 1, 1) := zD27 whX11_noise_0 (p := 27) rfl
theorem dX11_noise_28 : decode cX11_noise 28 = .ok (.imul, 1) := zD104 whX11_noise_0 (p := 28) rfl
theorem dX11_noise_29 : decode cX11_noise 29 = .ok (.iload_n 2, 1) := zD28 whX11_noise_0 (p := 29) rfl
theorem dX11_noise_30 : decode cX11_noise 30 = .ok (.invokevirtual 172, 3) := zD182 whX11_noise_0 (p := 30) rfl rfl
def wlX11_noise_1 : List Nat := [172]
theorem whX11_noise_1 : WLy cX11_noise 33 wlX11_noise_1 := by decide +kernel
theorem dX11_noise_33 : decode cX11_noise 33 = .ok (.ireturn, 1) := zD172 whX11_noise_1 (p := 0) rfl
def wlX11_cold_0 : List Nat := [42, 42, 27, 182, 0, 161, 153, 0, 19, 28, 133, 9, 20, 0, 170, 184, 0, 64, 153, 0, 7, 4, 167, 0, 4, 3, 5, 27, 104, 4, 96, 28]
theorem whX11_cold_0 : WLy cX11_cold 0 wlX11_cold_0 := by decide +kernel
theorem dX11_cold_0 : decode cX11_cold 0 = .ok (.aload_n 0, 1) := zD42 whX11_cold_0 (p := 0) rfl
theorem dX11_cold_1 : decode cX11_cold 1 = .ok (.aload_n 0, 1) := zD42 whX11_cold_0 (p := 1) rfl
theorem dX11_cold_2 : decode cX11_cold 2 = .ok (.iload_n 1, 1) := zD27 whX11_cold_0 (p := 2) rfl
theorem dX11_cold_3 : decode cX11_cold 3 = .ok (.invokevirtual 161, 3) := zD182 whX11_cold_0 (p := 3) rfl rfl
theorem dX11_cold_6 : decode cX11_cold 6 = .ok (.ifCond .eq 19, 3) := zD153p whX11_cold_0 (p := 6) (v := 19) rfl rfl rfl
theorem dX11_cold_9 : decode cX11_cold 9 = .ok (.iload_n 2, 1) := zD28 whX11_cold_0 (p := 9) rfl
theorem dX11_cold_10 : decode cX11_cold 10 = .ok (.i2l, 1) := zD133 whX11_cold_0 (p := 10) rfl
theorem dX11_cold_11 : decode cX11_cold 11 = .ok (.lconst 0, 1) := zD9 whX11_cold_0 (p := 11) rfl
theorem dX11_cold_12 : decode cX11_cold 12 = .ok (.ldc2_w 170, 3) := zD20 whX11_cold_0 (p := 12) rfl rfl
theorem dX11_cold_15 : decode cX11_cold 15 = .ok (.invokestatic 64, 3) := zD184 whX11_cold_0 (p := 15) rfl rfl
theorem dX11_cold_18 : decode cX11_cold 18 = .ok (.ifCond .eq 7, 3) := zD153p whX11_cold_0 (p := 18) (v := 7) rfl rfl rfl
theorem dX11_cold_21 : decode cX11_cold 21 = .ok (.iconst 1, 1) := zD4 whX11_cold_0 (p := 21) rfl
theorem dX11_cold_22 : decode cX11_cold 22 = .ok (.goto 4, 3) := zD167p whX11_cold_0 (p := 22) (v := 4) rfl rfl rfl
theorem dX11_cold_25 : decode cX11_cold 25 = .ok (.iconst 0, 1) := zD3 whX11_cold_0 (p := 25) rfl
theorem dX11_cold_26 : decode cX11_cold 26 = .ok (.iconst 2, 1) := zD5 whX11_cold_0 (p := 26) rfl
theorem dX11_cold_27 : decode cX11_cold 27 = .ok (.iload_n 1, 1) := zD27 whX11_cold_0 (p := 27) rfl
theorem dX11_cold_28 : decode cX11_cold 28 = .ok (.imul, 1) := zD104 whX11_cold_0 (p := 28) rfl
theorem dX11_cold_29 : decode cX11_cold 29 = .ok (.iconst 1, 1) := zD4 whX11_cold_0 (p := 29) rfl
theorem dX11_cold_30 : decode cX11_cold 30 = .ok (.iadd, 1) := zD96 whX11_cold_0 (p := 30) rfl
theorem dX11_cold_31 : decode cX11_cold 31 = .ok (.iload_n 2, 1) := zD28 whX11_cold_0 (p := 31) rfl
def wlX11_cold_1 : List Nat := [182, 0, 172, 172]
theorem whX11_cold_1 : WLy cX11_cold 32 wlX11_cold_1 := by decide +kernel
theorem dX11_cold_32 : decode cX11_cold 32 = .ok (.invokevirtual 172, 3) := zD182 whX11_cold_1 (p := 0) rfl rfl
theorem dX11_cold_35 : decode cX11_cold 35 = .ok (.ireturn, 1) := zD172 whX11_cold_1 (p := 3) rfl
def wlX11_step_0 : List Nat := [42, 42, 27, 182, 0, 167, 153, 0, 19, 28, 133, 9, 20, 0, 170, 184, 0, 64, 153, 0, 7, 4, 167, 0, 4, 3, 16, 20, 6, 27, 104, 96]
theorem whX11_step_0 : WLy cX11_step 0 wlX11_step_0 := by decide +kernel
theorem dX11_step_0 : decode cX11_step 0 = .ok (.aload_n 0, 1) := zD42 whX11_step_0 (p := 0) rfl
theorem dX11_step_1 : decode cX11_step 1 = .ok (.aload_n 0, 1) := zD42 whX11_step_0 (p := 1) rfl
theorem dX11_step_2 : decode cX11_step 2 = .ok (.iload_n 1, 1) := zD27 whX11_step_0 (p := 2) rfl
theorem dX11_step_3 : decode cX11_step 3 = .ok (.invokevirtual 167, 3) := zD182 whX11_step_0 (p := 3) rfl rfl
theorem dX11_step_6 : decode cX11_step 6 = .ok (.ifCond .eq 19, 3) := zD153p whX11_step_0 (p := 6) (v := 19) rfl rfl rfl
theorem dX11_step_9 : decode cX11_step 9 = .ok (.iload_n 2, 1) := zD28 whX11_step_0 (p := 9) rfl
theorem dX11_step_10 : decode cX11_step 10 = .ok (.i2l, 1) := zD133 whX11_step_0 (p := 10) rfl
theorem dX11_step_11 : decode cX11_step 11 = .ok (.lconst 0, 1) := zD9 whX11_step_0 (p := 11) rfl
theorem dX11_step_12 : decode cX11_step 12 = .ok (.ldc2_w 170, 3) := zD20 whX11_step_0 (p := 12) rfl rfl
theorem dX11_step_15 : decode cX11_step 15 = .ok (.invokestatic 64, 3) := zD184 whX11_step_0 (p := 15) rfl rfl
theorem dX11_step_18 : decode cX11_step 18 = .ok (.ifCond .eq 7, 3) := zD153p whX11_step_0 (p := 18) (v := 7) rfl rfl rfl
theorem dX11_step_21 : decode cX11_step 21 = .ok (.iconst 1, 1) := zD4 whX11_step_0 (p := 21) rfl
theorem dX11_step_22 : decode cX11_step 22 = .ok (.goto 4, 3) := zD167p whX11_step_0 (p := 22) (v := 4) rfl rfl rfl
theorem dX11_step_25 : decode cX11_step 25 = .ok (.iconst 0, 1) := zD3 whX11_step_0 (p := 25) rfl
theorem dX11_step_26 : decode cX11_step 26 = .ok (.bipush 20, 2) := zD16p whX11_step_0 (p := 26) (v := 20) rfl rfl rfl
theorem dX11_step_28 : decode cX11_step 28 = .ok (.iconst 3, 1) := zD6 whX11_step_0 (p := 28) rfl
theorem dX11_step_29 : decode cX11_step 29 = .ok (.iload_n 1, 1) := zD27 whX11_step_0 (p := 29) rfl
theorem dX11_step_30 : decode cX11_step 30 = .ok (.imul, 1) := zD104 whX11_step_0 (p := 30) rfl
theorem dX11_step_31 : decode cX11_step 31 = .ok (.iadd, 1) := zD96 whX11_step_0 (p := 31) rfl
def wlX11_step_1 : List Nat := [4, 96, 28, 182, 0, 172, 172]
theorem whX11_step_1 : WLy cX11_step 32 wlX11_step_1 := by decide +kernel
theorem dX11_step_32 : decode cX11_step 32 = .ok (.iconst 1, 1) := zD4 whX11_step_1 (p := 0) rfl
theorem dX11_step_33 : decode cX11_step 33 = .ok (.iadd, 1) := zD96 whX11_step_1 (p := 1) rfl
theorem dX11_step_34 : decode cX11_step 34 = .ok (.iload_n 2, 1) := zD28 whX11_step_1 (p := 2) rfl
theorem dX11_step_35 : decode cX11_step 35 = .ok (.invokevirtual 172, 3) := zD182 whX11_step_1 (p := 3) rfl rfl
theorem dX11_step_38 : decode cX11_step 38 = .ok (.ireturn, 1) := zD172 whX11_step_1 (p := 6) rfl
def wlX11_warm_0 : List Nat := [42, 42, 27, 182, 0, 167, 153, 0, 19, 28, 133, 9, 20, 0, 170, 184, 0, 64, 153, 0, 7, 4, 167, 0, 4, 3, 16, 20, 6, 27, 104, 96]
theorem whX11_warm_0 : WLy cX11_warm 0 wlX11_warm_0 := by decide +kernel
theorem dX11_warm_0 : decode cX11_warm 0 = .ok (.aload_n 0, 1) := zD42 whX11_warm_0 (p := 0) rfl
theorem dX11_warm_1 : decode cX11_warm 1 = .ok (.aload_n 0, 1) := zD42 whX11_warm_0 (p := 1) rfl
theorem dX11_warm_2 : decode cX11_warm 2 = .ok (.iload_n 1, 1) := zD27 whX11_warm_0 (p := 2) rfl
theorem dX11_warm_3 : decode cX11_warm 3 = .ok (.invokevirtual 167, 3) := zD182 whX11_warm_0 (p := 3) rfl rfl
theorem dX11_warm_6 : decode cX11_warm 6 = .ok (.ifCond .eq 19, 3) := zD153p whX11_warm_0 (p := 6) (v := 19) rfl rfl rfl
theorem dX11_warm_9 : decode cX11_warm 9 = .ok (.iload_n 2, 1) := zD28 whX11_warm_0 (p := 9) rfl
theorem dX11_warm_10 : decode cX11_warm 10 = .ok (.i2l, 1) := zD133 whX11_warm_0 (p := 10) rfl
theorem dX11_warm_11 : decode cX11_warm 11 = .ok (.lconst 0, 1) := zD9 whX11_warm_0 (p := 11) rfl
theorem dX11_warm_12 : decode cX11_warm 12 = .ok (.ldc2_w 170, 3) := zD20 whX11_warm_0 (p := 12) rfl rfl
theorem dX11_warm_15 : decode cX11_warm 15 = .ok (.invokestatic 64, 3) := zD184 whX11_warm_0 (p := 15) rfl rfl
theorem dX11_warm_18 : decode cX11_warm 18 = .ok (.ifCond .eq 7, 3) := zD153p whX11_warm_0 (p := 18) (v := 7) rfl rfl rfl
theorem dX11_warm_21 : decode cX11_warm 21 = .ok (.iconst 1, 1) := zD4 whX11_warm_0 (p := 21) rfl
theorem dX11_warm_22 : decode cX11_warm 22 = .ok (.goto 4, 3) := zD167p whX11_warm_0 (p := 22) (v := 4) rfl rfl rfl
theorem dX11_warm_25 : decode cX11_warm 25 = .ok (.iconst 0, 1) := zD3 whX11_warm_0 (p := 25) rfl
theorem dX11_warm_26 : decode cX11_warm 26 = .ok (.bipush 20, 2) := zD16p whX11_warm_0 (p := 26) (v := 20) rfl rfl rfl
theorem dX11_warm_28 : decode cX11_warm 28 = .ok (.iconst 3, 1) := zD6 whX11_warm_0 (p := 28) rfl
theorem dX11_warm_29 : decode cX11_warm 29 = .ok (.iload_n 1, 1) := zD27 whX11_warm_0 (p := 29) rfl
theorem dX11_warm_30 : decode cX11_warm 30 = .ok (.imul, 1) := zD104 whX11_warm_0 (p := 30) rfl
theorem dX11_warm_31 : decode cX11_warm 31 = .ok (.iadd, 1) := zD96 whX11_warm_0 (p := 31) rfl
def wlX11_warm_1 : List Nat := [5, 96, 28, 182, 0, 172, 172]
theorem whX11_warm_1 : WLy cX11_warm 32 wlX11_warm_1 := by decide +kernel
theorem dX11_warm_32 : decode cX11_warm 32 = .ok (.iconst 2, 1) := zD5 whX11_warm_1 (p := 0) rfl
theorem dX11_warm_33 : decode cX11_warm 33 = .ok (.iadd, 1) := zD96 whX11_warm_1 (p := 1) rfl
theorem dX11_warm_34 : decode cX11_warm 34 = .ok (.iload_n 2, 1) := zD28 whX11_warm_1 (p := 2) rfl
theorem dX11_warm_35 : decode cX11_warm 35 = .ok (.invokevirtual 172, 3) := zD182 whX11_warm_1 (p := 3) rfl rfl
theorem dX11_warm_38 : decode cX11_warm 38 = .ok (.ireturn, 1) := zD172 whX11_warm_1 (p := 6) rfl
def wlX11_puts_0 : List Nat := [42, 42, 27, 182, 0, 161, 153, 0, 15, 42, 28, 182, 0, 167, 153, 0, 7, 4, 167, 0, 4, 3, 16, 38, 27, 96, 28, 182, 0, 172, 172]
theorem whX11_puts_0 : WLy cX11_puts 0 wlX11_puts_0 := by decide +kernel
theorem dX11_puts_0 : decode cX11_puts 0 = .ok (.aload_n 0, 1) := zD42 whX11_puts_0 (p := 0) rfl
theorem dX11_puts_1 : decode cX11_puts 1 = .ok (.aload_n 0, 1) := zD42 whX11_puts_0 (p := 1) rfl
theorem dX11_puts_2 : decode cX11_puts 2 = .ok (.iload_n 1, 1) := zD27 whX11_puts_0 (p := 2) rfl
theorem dX11_puts_3 : decode cX11_puts 3 = .ok (.invokevirtual 161, 3) := zD182 whX11_puts_0 (p := 3) rfl rfl
theorem dX11_puts_6 : decode cX11_puts 6 = .ok (.ifCond .eq 15, 3) := zD153p whX11_puts_0 (p := 6) (v := 15) rfl rfl rfl
theorem dX11_puts_9 : decode cX11_puts 9 = .ok (.aload_n 0, 1) := zD42 whX11_puts_0 (p := 9) rfl
theorem dX11_puts_10 : decode cX11_puts 10 = .ok (.iload_n 2, 1) := zD28 whX11_puts_0 (p := 10) rfl
theorem dX11_puts_11 : decode cX11_puts 11 = .ok (.invokevirtual 167, 3) := zD182 whX11_puts_0 (p := 11) rfl rfl
theorem dX11_puts_14 : decode cX11_puts 14 = .ok (.ifCond .eq 7, 3) := zD153p whX11_puts_0 (p := 14) (v := 7) rfl rfl rfl
theorem dX11_puts_17 : decode cX11_puts 17 = .ok (.iconst 1, 1) := zD4 whX11_puts_0 (p := 17) rfl
theorem dX11_puts_18 : decode cX11_puts 18 = .ok (.goto 4, 3) := zD167p whX11_puts_0 (p := 18) (v := 4) rfl rfl rfl
theorem dX11_puts_21 : decode cX11_puts 21 = .ok (.iconst 0, 1) := zD3 whX11_puts_0 (p := 21) rfl
theorem dX11_puts_22 : decode cX11_puts 22 = .ok (.bipush 38, 2) := zD16p whX11_puts_0 (p := 22) (v := 38) rfl rfl rfl
theorem dX11_puts_24 : decode cX11_puts 24 = .ok (.iload_n 1, 1) := zD27 whX11_puts_0 (p := 24) rfl
theorem dX11_puts_25 : decode cX11_puts 25 = .ok (.iadd, 1) := zD96 whX11_puts_0 (p := 25) rfl
theorem dX11_puts_26 : decode cX11_puts 26 = .ok (.iload_n 2, 1) := zD28 whX11_puts_0 (p := 26) rfl
theorem dX11_puts_27 : decode cX11_puts 27 = .ok (.invokevirtual 172, 3) := zD182 whX11_puts_0 (p := 27) rfl rfl
theorem dX11_puts_30 : decode cX11_puts 30 = .ok (.ireturn, 1) := zD172 whX11_puts_0 (p := 30) rfl
def wlX11_put_0 : List Nat := [42, 27, 28, 182, 0, 176, 172]
theorem whX11_put_0 : WLy cX11_put 0 wlX11_put_0 := by decide +kernel
theorem dX11_put_0 : decode cX11_put 0 = .ok (.aload_n 0, 1) := zD42 whX11_put_0 (p := 0) rfl
theorem dX11_put_1 : decode cX11_put 1 = .ok (.iload_n 1, 1) := zD27 whX11_put_0 (p := 1) rfl
theorem dX11_put_2 : decode cX11_put 2 = .ok (.iload_n 2, 1) := zD28 whX11_put_0 (p := 2) rfl
theorem dX11_put_3 : decode cX11_put 3 = .ok (.invokevirtual 176, 3) := zD182 whX11_put_0 (p := 3) rfl rfl
theorem dX11_put_6 : decode cX11_put 6 = .ok (.ireturn, 1) := zD172 whX11_put_0 (p := 6) rfl
def wlX11_kindOf_0 : List Nat := [42, 180, 0, 7, 16, 20, 6, 27, 104, 96, 46, 172]
theorem whX11_kindOf_0 : WLy cX11_kindOf 0 wlX11_kindOf_0 := by decide +kernel
theorem dX11_kindOf_0 : decode cX11_kindOf 0 = .ok (.aload_n 0, 1) := zD42 whX11_kindOf_0 (p := 0) rfl
theorem dX11_kindOf_1 : decode cX11_kindOf 1 = .ok (.getfield 7, 3) := zD180 whX11_kindOf_0 (p := 1) rfl rfl
theorem dX11_kindOf_4 : decode cX11_kindOf 4 = .ok (.bipush 20, 2) := zD16p whX11_kindOf_0 (p := 4) (v := 20) rfl rfl rfl
theorem dX11_kindOf_6 : decode cX11_kindOf 6 = .ok (.iconst 3, 1) := zD6 whX11_kindOf_0 (p := 6) rfl
theorem dX11_kindOf_7 : decode cX11_kindOf 7 = .ok (.iload_n 1, 1) := zD27 whX11_kindOf_0 (p := 7) rfl
theorem dX11_kindOf_8 : decode cX11_kindOf 8 = .ok (.imul, 1) := zD104 whX11_kindOf_0 (p := 8) rfl
theorem dX11_kindOf_9 : decode cX11_kindOf 9 = .ok (.iadd, 1) := zD96 whX11_kindOf_0 (p := 9) rfl
theorem dX11_kindOf_10 : decode cX11_kindOf 10 = .ok (.iaload, 1) := zD46 whX11_kindOf_0 (p := 10) rfl
theorem dX11_kindOf_11 : decode cX11_kindOf 11 = .ok (.ireturn, 1) := zD172 whX11_kindOf_0 (p := 11) rfl
def wlX11_harmOf_0 : List Nat := [42, 29, 182, 0, 180, 54, 5, 21, 4, 153, 0, 7, 3, 167, 0, 11, 42, 180, 0, 7, 5, 27, 104, 46, 54, 6, 21, 6, 21, 5, 4, 160, 0, 7]
theorem whX11_harmOf_0 : WLy cX11_harmOf 0 wlX11_harmOf_0 := by decide +kernel
theorem dX11_harmOf_0 : decode cX11_harmOf 0 = .ok (.aload_n 0, 1) := zD42 whX11_harmOf_0 (p := 0) rfl
theorem dX11_harmOf_1 : decode cX11_harmOf 1 = .ok (.iload_n 3, 1) := zD29 whX11_harmOf_0 (p := 1) rfl
theorem dX11_harmOf_2 : decode cX11_harmOf 2 = .ok (.invokevirtual 180, 3) := zD182 whX11_harmOf_0 (p := 2) rfl rfl
theorem dX11_harmOf_5 : decode cX11_harmOf 5 = .ok (.istore 5, 2) := zD54 whX11_harmOf_0 (p := 5) rfl
theorem dX11_harmOf_7 : decode cX11_harmOf 7 = .ok (.iload 4, 2) := zD21 whX11_harmOf_0 (p := 7) rfl
theorem dX11_harmOf_9 : decode cX11_harmOf 9 = .ok (.ifCond .eq 7, 3) := zD153p whX11_harmOf_0 (p := 9) (v := 7) rfl rfl rfl
theorem dX11_harmOf_12 : decode cX11_harmOf 12 = .ok (.iconst 0, 1) := zD3 whX11_harmOf_0 (p := 12) rfl
theorem dX11_harmOf_13 : decode cX11_harmOf 13 = .ok (.goto 11, 3) := zD167p whX11_harmOf_0 (p := 13) (v := 11) rfl rfl rfl
theorem dX11_harmOf_16 : decode cX11_harmOf 16 = .ok (.aload_n 0, 1) := zD42 whX11_harmOf_0 (p := 16) rfl
theorem dX11_harmOf_17 : decode cX11_harmOf 17 = .ok (.getfield 7, 3) := zD180 whX11_harmOf_0 (p := 17) rfl rfl
theorem dX11_harmOf_20 : decode cX11_harmOf 20 = .ok (.iconst 2, 1) := zD5 whX11_harmOf_0 (p := 20) rfl
theorem dX11_harmOf_21 : decode cX11_harmOf 21 = .ok (.iload_n 1, 1) := zD27 whX11_harmOf_0 (p := 21) rfl
theorem dX11_harmOf_22 : decode cX11_harmOf 22 = .ok (.imul, 1) := zD104 whX11_harmOf_0 (p := 22) rfl
theorem dX11_harmOf_23 : decode cX11_harmOf 23 = .ok (.iaload, 1) := zD46 whX11_harmOf_0 (p := 23) rfl
theorem dX11_harmOf_24 : decode cX11_harmOf 24 = .ok (.istore 6, 2) := zD54 whX11_harmOf_0 (p := 24) rfl
theorem dX11_harmOf_26 : decode cX11_harmOf 26 = .ok (.iload 6, 2) := zD21 whX11_harmOf_0 (p := 26) rfl
theorem dX11_harmOf_28 : decode cX11_harmOf 28 = .ok (.iload 5, 2) := zD21 whX11_harmOf_0 (p := 28) rfl
theorem dX11_harmOf_30 : decode cX11_harmOf 30 = .ok (.iconst 1, 1) := zD4 whX11_harmOf_0 (p := 30) rfl
theorem dX11_harmOf_31 : decode cX11_harmOf 31 = .ok (.if_icmp .ne 7, 3) := zD160p whX11_harmOf_0 (p := 31) (v := 7) rfl rfl rfl
def wlX11_harmOf_1 : List Nat := [5, 167, 0, 14, 21, 5, 6, 160, 0, 7, 4, 167, 0, 4, 3, 100, 54, 6, 42, 180, 0, 7, 5, 27, 104, 4, 96, 46, 42, 180, 0, 7]
theorem whX11_harmOf_1 : WLy cX11_harmOf 34 wlX11_harmOf_1 := by decide +kernel
theorem dX11_harmOf_34 : decode cX11_harmOf 34 = .ok (.iconst 2, 1) := zD5 whX11_harmOf_1 (p := 0) rfl
theorem dX11_harmOf_35 : decode cX11_harmOf 35 = .ok (.goto 14, 3) := zD167p whX11_harmOf_1 (p := 1) (v := 14) rfl rfl rfl
theorem dX11_harmOf_38 : decode cX11_harmOf 38 = .ok (.iload 5, 2) := zD21 whX11_harmOf_1 (p := 4) rfl
theorem dX11_harmOf_40 : decode cX11_harmOf 40 = .ok (.iconst 3, 1) := zD6 whX11_harmOf_1 (p := 6) rfl
theorem dX11_harmOf_41 : decode cX11_harmOf 41 = .ok (.if_icmp .ne 7, 3) := zD160p whX11_harmOf_1 (p := 7) (v := 7) rfl rfl rfl
theorem dX11_harmOf_44 : decode cX11_harmOf 44 = .ok (.iconst 1, 1) := zD4 whX11_harmOf_1 (p := 10) rfl
theorem dX11_harmOf_45 : decode cX11_harmOf 45 = .ok (.goto 4, 3) := zD167p whX11_harmOf_1 (p := 11) (v := 4) rfl rfl rfl
theorem dX11_harmOf_48 : decode cX11_harmOf 48 = .ok (.iconst 0, 1) := zD3 whX11_harmOf_1 (p := 14) rfl
theorem dX11_harmOf_49 : decode cX11_harmOf 49 = .ok (.isub, 1) := zD100 whX11_harmOf_1 (p := 15) rfl
theorem dX11_harmOf_50 : decode cX11_harmOf 50 = .ok (.istore 6, 2) := zD54 whX11_harmOf_1 (p := 16) rfl
theorem dX11_harmOf_52 : decode cX11_harmOf 52 = .ok (.aload_n 0, 1) := zD42 whX11_harmOf_1 (p := 18) rfl
theorem dX11_harmOf_53 : decode cX11_harmOf 53 = .ok (.getfield 7, 3) := zD180 whX11_harmOf_1 (p := 19) rfl rfl
theorem dX11_harmOf_56 : decode cX11_harmOf 56 = .ok (.iconst 2, 1) := zD5 whX11_harmOf_1 (p := 22) rfl
theorem dX11_harmOf_57 : decode cX11_harmOf 57 = .ok (.iload_n 1, 1) := zD27 whX11_harmOf_1 (p := 23) rfl
theorem dX11_harmOf_58 : decode cX11_harmOf 58 = .ok (.imul, 1) := zD104 whX11_harmOf_1 (p := 24) rfl
theorem dX11_harmOf_59 : decode cX11_harmOf 59 = .ok (.iconst 1, 1) := zD4 whX11_harmOf_1 (p := 25) rfl
theorem dX11_harmOf_60 : decode cX11_harmOf 60 = .ok (.iadd, 1) := zD96 whX11_harmOf_1 (p := 26) rfl
theorem dX11_harmOf_61 : decode cX11_harmOf 61 = .ok (.iaload, 1) := zD46 whX11_harmOf_1 (p := 27) rfl
theorem dX11_harmOf_62 : decode cX11_harmOf 62 = .ok (.aload_n 0, 1) := zD42 whX11_harmOf_1 (p := 28) rfl
theorem dX11_harmOf_63 : decode cX11_harmOf 63 = .ok (.getfield 7, 3) := zD180 whX11_harmOf_1 (p := 29) rfl rfl
def wlX11_harmOf_2 : List Nat := [16, 20, 6, 29, 104, 96, 5, 96, 46, 100, 54, 7, 21, 6, 158, 0, 8, 21, 6, 167, 0, 4, 3, 21, 7, 158, 0, 8, 21, 7, 167, 0, 4]
theorem whX11_harmOf_2 : WLy cX11_harmOf 66 wlX11_harmOf_2 := by decide +kernel
theorem dX11_harmOf_66 : decode cX11_harmOf 66 = .ok (.bipush 20, 2) := zD16p whX11_harmOf_2 (p := 0) (v := 20) rfl rfl rfl
theorem dX11_harmOf_68 : decode cX11_harmOf 68 = .ok (.iconst 3, 1) := zD6 whX11_harmOf_2 (p := 2) rfl
theorem dX11_harmOf_69 : decode cX11_harmOf 69 = .ok (.iload_n 3, 1) := zD29 whX11_harmOf_2 (p := 3) rfl
theorem dX11_harmOf_70 : decode cX11_harmOf 70 = .ok (.imul, 1) := zD104 whX11_harmOf_2 (p := 4) rfl
theorem dX11_harmOf_71 : decode cX11_harmOf 71 = .ok (.iadd, 1) := zD96 whX11_harmOf_2 (p := 5) rfl
theorem dX11_harmOf_72 : decode cX11_harmOf 72 = .ok (.iconst 2, 1) := zD5 whX11_harmOf_2 (p := 6) rfl
theorem dX11_harmOf_73 : decode cX11_harmOf 73 = .ok (.iadd, 1) := zD96 whX11_harmOf_2 (p := 7) rfl
theorem dX11_harmOf_74 : decode cX11_harmOf 74 = .ok (.iaload, 1) := zD46 whX11_harmOf_2 (p := 8) rfl
theorem dX11_harmOf_75 : decode cX11_harmOf 75 = .ok (.isub, 1) := zD100 whX11_harmOf_2 (p := 9) rfl
theorem dX11_harmOf_76 : decode cX11_harmOf 76 = .ok (.istore 7, 2) := zD54 whX11_harmOf_2 (p := 10) rfl
theorem dX11_harmOf_78 : decode cX11_harmOf 78 = .ok (.iload 6, 2) := zD21 whX11_harmOf_2 (p := 12) rfl
theorem dX11_harmOf_80 : decode cX11_harmOf 80 = .ok (.ifCond .le 8, 3) := zD158p whX11_harmOf_2 (p := 14) (v := 8) rfl rfl rfl
theorem dX11_harmOf_83 : decode cX11_harmOf 83 = .ok (.iload 6, 2) := zD21 whX11_harmOf_2 (p := 17) rfl
theorem dX11_harmOf_85 : decode cX11_harmOf 85 = .ok (.goto 4, 3) := zD167p whX11_harmOf_2 (p := 19) (v := 4) rfl rfl rfl
theorem dX11_harmOf_88 : decode cX11_harmOf 88 = .ok (.iconst 0, 1) := zD3 whX11_harmOf_2 (p := 22) rfl
theorem dX11_harmOf_89 : decode cX11_harmOf 89 = .ok (.iload 7, 2) := zD21 whX11_harmOf_2 (p := 23) rfl
theorem dX11_harmOf_91 : decode cX11_harmOf 91 = .ok (.ifCond .le 8, 3) := zD158p whX11_harmOf_2 (p := 25) (v := 8) rfl rfl rfl
theorem dX11_harmOf_94 : decode cX11_harmOf 94 = .ok (.iload 7, 2) := zD21 whX11_harmOf_2 (p := 28) rfl
theorem dX11_harmOf_96 : decode cX11_harmOf 96 = .ok (.goto 4, 3) := zD167p whX11_harmOf_2 (p := 30) (v := 4) rfl rfl rfl
def wlX11_harmOf_3 : List Nat := [3, 96, 21, 5, 5, 160, 0, 21, 42, 180, 0, 7, 5, 27, 104, 4, 96, 46, 8, 161, 0, 7, 4, 167, 0, 4, 3, 96, 54, 8, 28, 16, 252]
theorem whX11_harmOf_3 : WLy cX11_harmOf 99 wlX11_harmOf_3 := by decide +kernel
theorem dX11_harmOf_99 : decode cX11_harmOf 99 = .ok (.iconst 0, 1) := zD3 whX11_harmOf_3 (p := 0) rfl
theorem dX11_harmOf_100 : decode cX11_harmOf 100 = .ok (.iadd, 1) := zD96 whX11_harmOf_3 (p := 1) rfl
theorem dX11_harmOf_101 : decode cX11_harmOf 101 = .ok (.iload 5, 2) := zD21 whX11_harmOf_3 (p := 2) rfl
theorem dX11_harmOf_103 : decode cX11_harmOf 103 = .ok (.iconst 2, 1) := zD5 whX11_harmOf_3 (p := 4) rfl
theorem dX11_harmOf_104 : decode cX11_harmOf 104 = .ok (.if_icmp .ne 21, 3) := zD160p whX11_harmOf_3 (p := 5) (v := 21) rfl rfl rfl
theorem dX11_harmOf_107 : decode cX11_harmOf 107 = .ok (.aload_n 0, 1) := zD42 whX11_harmOf_3 (p := 8) rfl
theorem dX11_harmOf_108 : decode cX11_harmOf 108 = .ok (.getfield 7, 3) := zD180 whX11_harmOf_3 (p := 9) rfl rfl
theorem dX11_harmOf_111 : decode cX11_harmOf 111 = .ok (.iconst 2, 1) := zD5 whX11_harmOf_3 (p := 12) rfl
theorem dX11_harmOf_112 : decode cX11_harmOf 112 = .ok (.iload_n 1, 1) := zD27 whX11_harmOf_3 (p := 13) rfl
theorem dX11_harmOf_113 : decode cX11_harmOf 113 = .ok (.imul, 1) := zD104 whX11_harmOf_3 (p := 14) rfl
theorem dX11_harmOf_114 : decode cX11_harmOf 114 = .ok (.iconst 1, 1) := zD4 whX11_harmOf_3 (p := 15) rfl
theorem dX11_harmOf_115 : decode cX11_harmOf 115 = .ok (.iadd, 1) := zD96 whX11_harmOf_3 (p := 16) rfl
theorem dX11_harmOf_116 : decode cX11_harmOf 116 = .ok (.iaload, 1) := zD46 whX11_harmOf_3 (p := 17) rfl
theorem dX11_harmOf_117 : decode cX11_harmOf 117 = .ok (.iconst 5, 1) := zD8 whX11_harmOf_3 (p := 18) rfl
theorem dX11_harmOf_118 : decode cX11_harmOf 118 = .ok (.if_icmp .lt 7, 3) := zD161p whX11_harmOf_3 (p := 19) (v := 7) rfl rfl rfl
theorem dX11_harmOf_121 : decode cX11_harmOf 121 = .ok (.iconst 1, 1) := zD4 whX11_harmOf_3 (p := 22) rfl
theorem dX11_harmOf_122 : decode cX11_harmOf 122 = .ok (.goto 4, 3) := zD167p whX11_harmOf_3 (p := 23) (v := 4) rfl rfl rfl
theorem dX11_harmOf_125 : decode cX11_harmOf 125 = .ok (.iconst 0, 1) := zD3 whX11_harmOf_3 (p := 26) rfl
theorem dX11_harmOf_126 : decode cX11_harmOf 126 = .ok (.iadd, 1) := zD96 whX11_harmOf_3 (p := 27) rfl
theorem dX11_harmOf_127 : decode cX11_harmOf 127 = .ok (.istore 8, 2) := zD54 whX11_harmOf_3 (p := 28) rfl
theorem dX11_harmOf_129 : decode cX11_harmOf 129 = .ok (.iload_n 2, 1) := zD28 whX11_harmOf_3 (p := 30) rfl
theorem dX11_harmOf_130 : decode cX11_harmOf 130 = .ok (.bipush (-4), 2) := zD16n whX11_harmOf_3 (p := 31) (v := 4) rfl rfl rfl
def wlX11_harmOf_4 : List Nat := [159, 0, 87, 28, 29, 159, 0, 82, 21, 5, 7, 160, 0, 12, 42, 28, 182, 0, 180, 7, 159, 0, 67, 42, 180, 0, 7, 16, 20, 6, 28, 104]
theorem whX11_harmOf_4 : WLy cX11_harmOf 132 wlX11_harmOf_4 := by decide +kernel
theorem dX11_harmOf_132 : decode cX11_harmOf 132 = .ok (.if_icmp .eq 87, 3) := zD159p whX11_harmOf_4 (p := 0) (v := 87) rfl rfl rfl
theorem dX11_harmOf_135 : decode cX11_harmOf 135 = .ok (.iload_n 2, 1) := zD28 whX11_harmOf_4 (p := 3) rfl
theorem dX11_harmOf_136 : decode cX11_harmOf 136 = .ok (.iload_n 3, 1) := zD29 whX11_harmOf_4 (p := 4) rfl
theorem dX11_harmOf_137 : decode cX11_harmOf 137 = .ok (.if_icmp .eq 82, 3) := zD159p whX11_harmOf_4 (p := 5) (v := 82) rfl rfl rfl
theorem dX11_harmOf_140 : decode cX11_harmOf 140 = .ok (.iload 5, 2) := zD21 whX11_harmOf_4 (p := 8) rfl
theorem dX11_harmOf_142 : decode cX11_harmOf 142 = .ok (.iconst 4, 1) := zD7 whX11_harmOf_4 (p := 10) rfl
theorem dX11_harmOf_143 : decode cX11_harmOf 143 = .ok (.if_icmp .ne 12, 3) := zD160p whX11_harmOf_4 (p := 11) (v := 12) rfl rfl rfl
theorem dX11_harmOf_146 : decode cX11_harmOf 146 = .ok (.aload_n 0, 1) := zD42 whX11_harmOf_4 (p := 14) rfl
theorem dX11_harmOf_147 : decode cX11_harmOf 147 = .ok (.iload_n 2, 1) := zD28 whX11_harmOf_4 (p := 15) rfl
theorem dX11_harmOf_148 : decode cX11_harmOf 148 = .ok (.invokevirtual 180, 3) := zD182 whX11_harmOf_4 (p := 16) rfl rfl
theorem dX11_harmOf_151 : decode cX11_harmOf 151 = .ok (.iconst 4, 1) := zD7 whX11_harmOf_4 (p := 19) rfl
theorem dX11_harmOf_152 : decode cX11_harmOf 152 = .ok (.if_icmp .eq 67, 3) := zD159p whX11_harmOf_4 (p := 20) (v := 67) rfl rfl rfl
theorem dX11_harmOf_155 : decode cX11_harmOf 155 = .ok (.aload_n 0, 1) := zD42 whX11_harmOf_4 (p := 23) rfl
theorem dX11_harmOf_156 : decode cX11_harmOf 156 = .ok (.getfield 7, 3) := zD180 whX11_harmOf_4 (p := 24) rfl rfl
theorem dX11_harmOf_159 : decode cX11_harmOf 159 = .ok (.bipush 20, 2) := zD16p whX11_harmOf_4 (p := 27) (v := 20) rfl rfl rfl
theorem dX11_harmOf_161 : decode cX11_harmOf 161 = .ok (.iconst 3, 1) := zD6 whX11_harmOf_4 (p := 29) rfl
theorem dX11_harmOf_162 : decode cX11_harmOf 162 = .ok (.iload_n 2, 1) := zD28 whX11_harmOf_4 (p := 30) rfl
theorem dX11_harmOf_163 : decode cX11_harmOf 163 = .ok (.imul, 1) := zD104 whX11_harmOf_4 (p := 31) rfl
def wlX11_harmOf_5 : List Nat := [96, 4, 96, 46, 42, 180, 0, 7, 16, 20, 6, 29, 104, 96, 4, 96, 46, 100, 54, 9, 21, 9, 156, 0, 9, 21, 9, 116, 167, 0, 5, 21, 9]
theorem whX11_harmOf_5 : WLy cX11_harmOf 164 wlX11_harmOf_5 := by decide +kernel
theorem dX11_harmOf_164 : decode cX11_harmOf 164 = .ok (.iadd, 1) := zD96 whX11_harmOf_5 (p := 0) rfl
theorem dX11_harmOf_165 : decode cX11_harmOf 165 = .ok (.iconst 1, 1) := zD4 whX11_harmOf_5 (p := 1) rfl
theorem dX11_harmOf_166 : decode cX11_harmOf 166 = .ok (.iadd, 1) := zD96 whX11_harmOf_5 (p := 2) rfl
theorem dX11_harmOf_167 : decode cX11_harmOf 167 = .ok (.iaload, 1) := zD46 whX11_harmOf_5 (p := 3) rfl
theorem dX11_harmOf_168 : decode cX11_harmOf 168 = .ok (.aload_n 0, 1) := zD42 whX11_harmOf_5 (p := 4) rfl
theorem dX11_harmOf_169 : decode cX11_harmOf 169 = .ok (.getfield 7, 3) := zD180 whX11_harmOf_5 (p := 5) rfl rfl
theorem dX11_harmOf_172 : decode cX11_harmOf 172 = .ok (.bipush 20, 2) := zD16p whX11_harmOf_5 (p := 8) (v := 20) rfl rfl rfl
theorem dX11_harmOf_174 : decode cX11_harmOf 174 = .ok (.iconst 3, 1) := zD6 whX11_harmOf_5 (p := 10) rfl
theorem dX11_harmOf_175 : decode cX11_harmOf 175 = .ok (.iload_n 3, 1) := zD29 whX11_harmOf_5 (p := 11) rfl
theorem dX11_harmOf_176 : decode cX11_harmOf 176 = .ok (.imul, 1) := zD104 whX11_harmOf_5 (p := 12) rfl
theorem dX11_harmOf_177 : decode cX11_harmOf 177 = .ok (.iadd, 1) := zD96 whX11_harmOf_5 (p := 13) rfl
theorem dX11_harmOf_178 : decode cX11_harmOf 178 = .ok (.iconst 1, 1) := zD4 whX11_harmOf_5 (p := 14) rfl
theorem dX11_harmOf_179 : decode cX11_harmOf 179 = .ok (.iadd, 1) := zD96 whX11_harmOf_5 (p := 15) rfl
theorem dX11_harmOf_180 : decode cX11_harmOf 180 = .ok (.iaload, 1) := zD46 whX11_harmOf_5 (p := 16) rfl
theorem dX11_harmOf_181 : decode cX11_harmOf 181 = .ok (.isub, 1) := zD100 whX11_harmOf_5 (p := 17) rfl
theorem dX11_harmOf_182 : decode cX11_harmOf 182 = .ok (.istore 9, 2) := zD54 whX11_harmOf_5 (p := 18) rfl
theorem dX11_harmOf_184 : decode cX11_harmOf 184 = .ok (.iload 9, 2) := zD21 whX11_harmOf_5 (p := 20) rfl
theorem dX11_harmOf_186 : decode cX11_harmOf 186 = .ok (.ifCond .ge 9, 3) := zD156p whX11_harmOf_5 (p := 22) (v := 9) rfl rfl rfl
theorem dX11_harmOf_189 : decode cX11_harmOf 189 = .ok (.iload 9, 2) := zD21 whX11_harmOf_5 (p := 25) rfl
theorem dX11_harmOf_191 : decode cX11_harmOf 191 = .ok (.ineg, 1) := zD116 whX11_harmOf_5 (p := 27) rfl
theorem dX11_harmOf_192 : decode cX11_harmOf 192 = .ok (.goto 5, 3) := zD167p whX11_harmOf_5 (p := 28) (v := 5) rfl rfl rfl
theorem dX11_harmOf_195 : decode cX11_harmOf 195 = .ok (.iload 9, 2) := zD21 whX11_harmOf_5 (p := 31) rfl
def wlX11_harmOf_6 : List Nat := [54, 9, 21, 8, 21, 5, 8, 160, 0, 10, 21, 9, 5, 108, 167, 0, 5, 21, 9, 96, 54, 8, 21, 8, 16, 20, 164, 0, 8, 16, 20, 167, 0, 5]
theorem whX11_harmOf_6 : WLy cX11_harmOf 197 wlX11_harmOf_6 := by decide +kernel
theorem dX11_harmOf_197 : decode cX11_harmOf 197 = .ok (.istore 9, 2) := zD54 whX11_harmOf_6 (p := 0) rfl
theorem dX11_harmOf_199 : decode cX11_harmOf 199 = .ok (.iload 8, 2) := zD21 whX11_harmOf_6 (p := 2) rfl
theorem dX11_harmOf_201 : decode cX11_harmOf 201 = .ok (.iload 5, 2) := zD21 whX11_harmOf_6 (p := 4) rfl
theorem dX11_harmOf_203 : decode cX11_harmOf 203 = .ok (.iconst 5, 1) := zD8 whX11_harmOf_6 (p := 6) rfl
theorem dX11_harmOf_204 : decode cX11_harmOf 204 = .ok (.if_icmp .ne 10, 3) := zD160p whX11_harmOf_6 (p := 7) (v := 10) rfl rfl rfl
theorem dX11_harmOf_207 : decode cX11_harmOf 207 = .ok (.iload 9, 2) := zD21 whX11_harmOf_6 (p := 10) rfl
theorem dX11_harmOf_209 : decode cX11_harmOf 209 = .ok (.iconst 2, 1) := zD5 whX11_harmOf_6 (p := 12) rfl
theorem dX11_harmOf_210 : decode cX11_harmOf 210 = .ok (.idiv, 1) := zD108 whX11_harmOf_6 (p := 13) rfl
theorem dX11_harmOf_211 : decode cX11_harmOf 211 = .ok (.goto 5, 3) := zD167p whX11_harmOf_6 (p := 14) (v := 5) rfl rfl rfl
theorem dX11_harmOf_214 : decode cX11_harmOf 214 = .ok (.iload 9, 2) := zD21 whX11_harmOf_6 (p := 17) rfl
theorem dX11_harmOf_216 : decode cX11_harmOf 216 = .ok (.iadd, 1) := zD96 whX11_harmOf_6 (p := 19) rfl
theorem dX11_harmOf_217 : decode cX11_harmOf 217 = .ok (.istore 8, 2) := zD54 whX11_harmOf_6 (p := 20) rfl
theorem dX11_harmOf_219 : decode cX11_harmOf 219 = .ok (.iload 8, 2) := zD21 whX11_harmOf_6 (p := 22) rfl
theorem dX11_harmOf_221 : decode cX11_harmOf 221 = .ok (.bipush 20, 2) := zD16p whX11_harmOf_6 (p := 24) (v := 20) rfl rfl rfl
theorem dX11_harmOf_223 : decode cX11_harmOf 223 = .ok (.if_icmp .le 8, 3) := zD164p whX11_harmOf_6 (p := 26) (v := 8) rfl rfl rfl
theorem dX11_harmOf_226 : decode cX11_harmOf 226 = .ok (.bipush 20, 2) := zD16p whX11_harmOf_6 (p := 29) (v := 20) rfl rfl rfl
theorem dX11_harmOf_228 : decode cX11_harmOf 228 = .ok (.goto 5, 3) := zD167p whX11_harmOf_6 (p := 31) (v := 5) rfl rfl rfl
def wlX11_harmOf_7 : List Nat := [21, 8, 172]
theorem whX11_harmOf_7 : WLy cX11_harmOf 231 wlX11_harmOf_7 := by decide +kernel
theorem dX11_harmOf_231 : decode cX11_harmOf 231 = .ok (.iload 8, 2) := zD21 whX11_harmOf_7 (p := 0) rfl
theorem dX11_harmOf_233 : decode cX11_harmOf 233 = .ok (.ireturn, 1) := zD172 whX11_harmOf_7 (p := 2) rfl
def wlX11_canHarm_0 : List Nat := [42, 27, 182, 0, 161, 153, 0, 29, 42, 29, 182, 0, 167, 153, 0, 21, 28, 16, 252, 159, 0, 11, 42, 28, 182, 0, 167, 153, 0, 7, 4, 167, 0, 4]
theorem whX11_canHarm_0 : WLy cX11_canHarm 0 wlX11_canHarm_0 := by decide +kernel
theorem dX11_canHarm_0 : decode cX11_canHarm 0 = .ok (.aload_n 0, 1) := zD42 whX11_canHarm_0 (p := 0) rfl
theorem dX11_canHarm_1 : decode cX11_canHarm 1 = .ok (.iload_n 1, 1) := zD27 whX11_canHarm_0 (p := 1) rfl
theorem dX11_canHarm_2 : decode cX11_canHarm 2 = .ok (.invokevirtual 161, 3) := zD182 whX11_canHarm_0 (p := 2) rfl rfl
theorem dX11_canHarm_5 : decode cX11_canHarm 5 = .ok (.ifCond .eq 29, 3) := zD153p whX11_canHarm_0 (p := 5) (v := 29) rfl rfl rfl
theorem dX11_canHarm_8 : decode cX11_canHarm 8 = .ok (.aload_n 0, 1) := zD42 whX11_canHarm_0 (p := 8) rfl
theorem dX11_canHarm_9 : decode cX11_canHarm 9 = .ok (.iload_n 3, 1) := zD29 whX11_canHarm_0 (p := 9) rfl
theorem dX11_canHarm_10 : decode cX11_canHarm 10 = .ok (.invokevirtual 167, 3) := zD182 whX11_canHarm_0 (p := 10) rfl rfl
theorem dX11_canHarm_13 : decode cX11_canHarm 13 = .ok (.ifCond .eq 21, 3) := zD153p whX11_canHarm_0 (p := 13) (v := 21) rfl rfl rfl
theorem dX11_canHarm_16 : decode cX11_canHarm 16 = .ok (.iload_n 2, 1) := zD28 whX11_canHarm_0 (p := 16) rfl
theorem dX11_canHarm_17 : decode cX11_canHarm 17 = .ok (.bipush (-4), 2) := zD16n whX11_canHarm_0 (p := 17) (v := 4) rfl rfl rfl
theorem dX11_canHarm_19 : decode cX11_canHarm 19 = .ok (.if_icmp .eq 11, 3) := zD159p whX11_canHarm_0 (p := 19) (v := 11) rfl rfl rfl
theorem dX11_canHarm_22 : decode cX11_canHarm 22 = .ok (.aload_n 0, 1) := zD42 whX11_canHarm_0 (p := 22) rfl
theorem dX11_canHarm_23 : decode cX11_canHarm 23 = .ok (.iload_n 2, 1) := zD28 whX11_canHarm_0 (p := 23) rfl
theorem dX11_canHarm_24 : decode cX11_canHarm 24 = .ok (.invokevirtual 167, 3) := zD182 whX11_canHarm_0 (p := 24) rfl rfl
theorem dX11_canHarm_27 : decode cX11_canHarm 27 = .ok (.ifCond .eq 7, 3) := zD153p whX11_canHarm_0 (p := 27) (v := 7) rfl rfl rfl
theorem dX11_canHarm_30 : decode cX11_canHarm 30 = .ok (.iconst 1, 1) := zD4 whX11_canHarm_0 (p := 30) rfl
theorem dX11_canHarm_31 : decode cX11_canHarm 31 = .ok (.goto 4, 3) := zD167p whX11_canHarm_0 (p := 31) (v := 4) rfl rfl rfl
def wlX11_canHarm_1 : List Nat := [3, 172]
theorem whX11_canHarm_1 : WLy cX11_canHarm 34 wlX11_canHarm_1 := by decide +kernel
theorem dX11_canHarm_34 : decode cX11_canHarm 34 = .ok (.iconst 0, 1) := zD3 whX11_canHarm_1 (p := 0) rfl
theorem dX11_canHarm_35 : decode cX11_canHarm 35 = .ok (.ireturn, 1) := zD172 whX11_canHarm_1 (p := 1) rfl
def wlX11_harm_0 : List Nat := [42, 27, 28, 29, 182, 0, 183, 153, 0, 14, 42, 27, 28, 29, 3, 182, 0, 187, 167, 0, 4, 2, 172]
theorem whX11_harm_0 : WLy cX11_harm 0 wlX11_harm_0 := by decide +kernel
theorem dX11_harm_0 : decode cX11_harm 0 = .ok (.aload_n 0, 1) := zD42 whX11_harm_0 (p := 0) rfl
theorem dX11_harm_1 : decode cX11_harm 1 = .ok (.iload_n 1, 1) := zD27 whX11_harm_0 (p := 1) rfl
theorem dX11_harm_2 : decode cX11_harm 2 = .ok (.iload_n 2, 1) := zD28 whX11_harm_0 (p := 2) rfl
theorem dX11_harm_3 : decode cX11_harm 3 = .ok (.iload_n 3, 1) := zD29 whX11_harm_0 (p := 3) rfl
theorem dX11_harm_4 : decode cX11_harm 4 = .ok (.invokevirtual 183, 3) := zD182 whX11_harm_0 (p := 4) rfl rfl
theorem dX11_harm_7 : decode cX11_harm 7 = .ok (.ifCond .eq 14, 3) := zD153p whX11_harm_0 (p := 7) (v := 14) rfl rfl rfl
theorem dX11_harm_10 : decode cX11_harm 10 = .ok (.aload_n 0, 1) := zD42 whX11_harm_0 (p := 10) rfl
theorem dX11_harm_11 : decode cX11_harm 11 = .ok (.iload_n 1, 1) := zD27 whX11_harm_0 (p := 11) rfl
theorem dX11_harm_12 : decode cX11_harm 12 = .ok (.iload_n 2, 1) := zD28 whX11_harm_0 (p := 12) rfl
theorem dX11_harm_13 : decode cX11_harm 13 = .ok (.iload_n 3, 1) := zD29 whX11_harm_0 (p := 13) rfl
theorem dX11_harm_14 : decode cX11_harm 14 = .ok (.iconst 0, 1) := zD3 whX11_harm_0 (p := 14) rfl
theorem dX11_harm_15 : decode cX11_harm 15 = .ok (.invokevirtual 187, 3) := zD182 whX11_harm_0 (p := 15) rfl rfl
theorem dX11_harm_18 : decode cX11_harm 18 = .ok (.goto 4, 3) := zD167p whX11_harm_0 (p := 18) (v := 4) rfl rfl rfl
theorem dX11_harm_21 : decode cX11_harm 21 = .ok (.iconst (-1), 1) := zD2 whX11_harm_0 (p := 21) rfl
theorem dX11_harm_22 : decode cX11_harm 22 = .ok (.ireturn, 1) := zD172 whX11_harm_0 (p := 22) rfl
def wlX11_orderedHarm_0 : List Nat := [42, 27, 27, 154, 0, 8, 16, 252, 167, 0, 14, 42, 180, 0, 7, 16, 38, 27, 96, 4, 100, 46, 42, 180, 0, 7, 16, 38, 27, 96, 46, 28]
theorem whX11_orderedHarm_0 : WLy cX11_orderedHarm 0 wlX11_orderedHarm_0 := by decide +kernel
theorem dX11_orderedHarm_0 : decode cX11_orderedHarm 0 = .ok (.aload_n 0, 1) := zD42 whX11_orderedHarm_0 (p := 0) rfl
theorem dX11_orderedHarm_1 : decode cX11_orderedHarm 1 = .ok (.iload_n 1, 1) := zD27 whX11_orderedHarm_0 (p := 1) rfl
theorem dX11_orderedHarm_2 : decode cX11_orderedHarm 2 = .ok (.iload_n 1, 1) := zD27 whX11_orderedHarm_0 (p := 2) rfl
theorem dX11_orderedHarm_3 : decode cX11_orderedHarm 3 = .ok (.ifCond .ne 8, 3) := zD154p whX11_orderedHarm_0 (p := 3) (v := 8) rfl rfl rfl
theorem dX11_orderedHarm_6 : decode cX11_orderedHarm 6 = .ok (.bipush (-4), 2) := zD16n whX11_orderedHarm_0 (p := 6) (v := 4) rfl rfl rfl
theorem dX11_orderedHarm_8 : decode cX11_orderedHarm 8 = .ok (.goto 14, 3) := zD167p whX11_orderedHarm_0 (p := 8) (v := 14) rfl rfl rfl
theorem dX11_orderedHarm_11 : decode cX11_orderedHarm 11 = .ok (.aload_n 0, 1) := zD42 whX11_orderedHarm_0 (p := 11) rfl
theorem dX11_orderedHarm_12 : decode cX11_orderedHarm 12 = .ok (.getfield 7, 3) := zD180 whX11_orderedHarm_0 (p := 12) rfl rfl
theorem dX11_orderedHarm_15 : decode cX11_orderedHarm 15 = .ok (.bipush 38, 2) := zD16p whX11_orderedHarm_0 (p := 15) (v := 38) rfl rfl rfl
theorem dX11_orderedHarm_17 : decode cX11_orderedHarm 17 = .ok (.iload_n 1, 1) := zD27 whX11_orderedHarm_0 (p := 17) rfl
theorem dX11_orderedHarm_18 : decode cX11_orderedHarm 18 = .ok (.iadd, 1) := zD96 whX11_orderedHarm_0 (p := 18) rfl
theorem dX11_orderedHarm_19 : decode cX11_orderedHarm 19 = .ok (.iconst 1, 1) := zD4 whX11_orderedHarm_0 (p := 19) rfl
theorem dX11_orderedHarm_20 : decode cX11_orderedHarm 20 = .ok (.isub, 1) := zD100 whX11_orderedHarm_0 (p := 20) rfl
theorem dX11_orderedHarm_21 : decode cX11_orderedHarm 21 = .ok (.iaload, 1) := zD46 whX11_orderedHarm_0 (p := 21) rfl
theorem dX11_orderedHarm_22 : decode cX11_orderedHarm 22 = .ok (.aload_n 0, 1) := zD42 whX11_orderedHarm_0 (p := 22) rfl
theorem dX11_orderedHarm_23 : decode cX11_orderedHarm 23 = .ok (.getfield 7, 3) := zD180 whX11_orderedHarm_0 (p := 23) rfl rfl
theorem dX11_orderedHarm_26 : decode cX11_orderedHarm 26 = .ok (.bipush 38, 2) := zD16p whX11_orderedHarm_0 (p := 26) (v := 38) rfl rfl rfl
theorem dX11_orderedHarm_28 : decode cX11_orderedHarm 28 = .ok (.iload_n 1, 1) := zD27 whX11_orderedHarm_0 (p := 28) rfl
theorem dX11_orderedHarm_29 : decode cX11_orderedHarm 29 = .ok (.iadd, 1) := zD96 whX11_orderedHarm_0 (p := 29) rfl
theorem dX11_orderedHarm_30 : decode cX11_orderedHarm 30 = .ok (.iaload, 1) := zD46 whX11_orderedHarm_0 (p := 30) rfl
theorem dX11_orderedHarm_31 : decode cX11_orderedHarm 31 = .ok (.iload_n 2, 1) := zD28 whX11_orderedHarm_0 (p := 31) rfl
def wlX11_orderedHarm_1 : List Nat := [182, 0, 187, 172]
theorem whX11_orderedHarm_1 : WLy cX11_orderedHarm 32 wlX11_orderedHarm_1 := by decide +kernel
theorem dX11_orderedHarm_32 : decode cX11_orderedHarm 32 = .ok (.invokevirtual 187, 3) := zD182 whX11_orderedHarm_1 (p := 0) rfl rfl
theorem dX11_orderedHarm_35 : decode cX11_orderedHarm 35 = .ok (.ireturn, 1) := zD172 whX11_orderedHarm_1 (p := 3) rfl
def wlX11_power_0 : List Nat := [10, 64, 3, 62, 29, 26, 162, 0, 15, 31, 20, 0, 191, 105, 64, 132, 3, 1, 167, 255, 242, 31, 173]
theorem whX11_power_0 : WLy cX11_power 0 wlX11_power_0 := by decide +kernel
theorem dX11_power_0 : decode cX11_power 0 = .ok (.lconst 1, 1) := zD10 whX11_power_0 (p := 0) rfl
theorem dX11_power_1 : decode cX11_power 1 = .ok (.lstore_n 1, 1) := zD64 whX11_power_0 (p := 1) rfl
theorem dX11_power_2 : decode cX11_power 2 = .ok (.iconst 0, 1) := zD3 whX11_power_0 (p := 2) rfl
theorem dX11_power_3 : decode cX11_power 3 = .ok (.istore_n 3, 1) := zD62 whX11_power_0 (p := 3) rfl
theorem dX11_power_4 : decode cX11_power 4 = .ok (.iload_n 3, 1) := zD29 whX11_power_0 (p := 4) rfl
theorem dX11_power_5 : decode cX11_power 5 = .ok (.iload_n 0, 1) := zD26 whX11_power_0 (p := 5) rfl
theorem dX11_power_6 : decode cX11_power 6 = .ok (.if_icmp .ge 15, 3) := zD162p whX11_power_0 (p := 6) (v := 15) rfl rfl rfl
theorem dX11_power_9 : decode cX11_power 9 = .ok (.lload_n 1, 1) := zD31 whX11_power_0 (p := 9) rfl
theorem dX11_power_10 : decode cX11_power 10 = .ok (.ldc2_w 191, 3) := zD20 whX11_power_0 (p := 10) rfl rfl
theorem dX11_power_13 : decode cX11_power 13 = .ok (.lmul, 1) := zD105 whX11_power_0 (p := 13) rfl
theorem dX11_power_14 : decode cX11_power 14 = .ok (.lstore_n 1, 1) := zD64 whX11_power_0 (p := 14) rfl
theorem dX11_power_15 : decode cX11_power 15 = .ok (.iinc 3 1, 3) := zD132p whX11_power_0 (p := 15) (v := 1) rfl rfl rfl
theorem dX11_power_18 : decode cX11_power 18 = .ok (.goto (-14), 3) := zD167n whX11_power_0 (p := 18) (v := 14) rfl rfl rfl
theorem dX11_power_21 : decode cX11_power 21 = .ok (.lload_n 1, 1) := zD31 whX11_power_0 (p := 21) rfl
theorem dX11_power_22 : decode cX11_power 22 = .ok (.lreturn, 1) := zD173 whX11_power_0 (p := 22) rfl
def wlX11_deeper_0 : List Nat := [26, 27, 96, 16, 9, 164, 0, 8, 16, 9, 167, 0, 6, 26, 27, 96, 172]
theorem whX11_deeper_0 : WLy cX11_deeper 0 wlX11_deeper_0 := by decide +kernel
theorem dX11_deeper_0 : decode cX11_deeper 0 = .ok (.iload_n 0, 1) := zD26 whX11_deeper_0 (p := 0) rfl
theorem dX11_deeper_1 : decode cX11_deeper 1 = .ok (.iload_n 1, 1) := zD27 whX11_deeper_0 (p := 1) rfl
theorem dX11_deeper_2 : decode cX11_deeper 2 = .ok (.iadd, 1) := zD96 whX11_deeper_0 (p := 2) rfl
theorem dX11_deeper_3 : decode cX11_deeper 3 = .ok (.bipush 9, 2) := zD16p whX11_deeper_0 (p := 3) (v := 9) rfl rfl rfl
theorem dX11_deeper_5 : decode cX11_deeper 5 = .ok (.if_icmp .le 8, 3) := zD164p whX11_deeper_0 (p := 5) (v := 8) rfl rfl rfl
theorem dX11_deeper_8 : decode cX11_deeper 8 = .ok (.bipush 9, 2) := zD16p whX11_deeper_0 (p := 8) (v := 9) rfl rfl rfl
theorem dX11_deeper_10 : decode cX11_deeper 10 = .ok (.goto 6, 3) := zD167p whX11_deeper_0 (p := 10) (v := 6) rfl rfl rfl
theorem dX11_deeper_13 : decode cX11_deeper 13 = .ok (.iload_n 0, 1) := zD26 whX11_deeper_0 (p := 13) rfl
theorem dX11_deeper_14 : decode cX11_deeper 14 = .ok (.iload_n 1, 1) := zD27 whX11_deeper_0 (p := 14) rfl
theorem dX11_deeper_15 : decode cX11_deeper 15 = .ok (.iadd, 1) := zD96 whX11_deeper_0 (p := 15) rfl
theorem dX11_deeper_16 : decode cX11_deeper 16 = .ok (.ireturn, 1) := zD172 whX11_deeper_0 (p := 16) rfl
def wlX11_layOdds_0 : List Nat := [3, 54, 4, 21, 4, 16, 10, 162, 0, 30, 42, 180, 0, 25, 21, 4, 21, 4, 42, 182, 0, 158, 160, 0, 7, 10, 167, 0, 4, 9, 80, 132, 4, 1]
theorem whX11_layOdds_0 : WLy cX11_layOdds 0 wlX11_layOdds_0 := by decide +kernel
theorem dX11_layOdds_0 : decode cX11_layOdds 0 = .ok (.iconst 0, 1) := zD3 whX11_layOdds_0 (p := 0) rfl
theorem dX11_layOdds_1 : decode cX11_layOdds 1 = .ok (.istore 4, 2) := zD54 whX11_layOdds_0 (p := 1) rfl
theorem dX11_layOdds_3 : decode cX11_layOdds 3 = .ok (.iload 4, 2) := zD21 whX11_layOdds_0 (p := 3) rfl
theorem dX11_layOdds_5 : decode cX11_layOdds 5 = .ok (.bipush 10, 2) := zD16p whX11_layOdds_0 (p := 5) (v := 10) rfl rfl rfl
theorem dX11_layOdds_7 : decode cX11_layOdds 7 = .ok (.if_icmp .ge 30, 3) := zD162p whX11_layOdds_0 (p := 7) (v := 30) rfl rfl rfl
theorem dX11_layOdds_10 : decode cX11_layOdds 10 = .ok (.aload_n 0, 1) := zD42 whX11_layOdds_0 (p := 10) rfl
theorem dX11_layOdds_11 : decode cX11_layOdds 11 = .ok (.getfield 25, 3) := zD180 whX11_layOdds_0 (p := 11) rfl rfl
theorem dX11_layOdds_14 : decode cX11_layOdds 14 = .ok (.iload 4, 2) := zD21 whX11_layOdds_0 (p := 14) rfl
theorem dX11_layOdds_16 : decode cX11_layOdds 16 = .ok (.iload 4, 2) := zD21 whX11_layOdds_0 (p := 16) rfl
theorem dX11_layOdds_18 : decode cX11_layOdds 18 = .ok (.aload_n 0, 1) := zD42 whX11_layOdds_0 (p := 18) rfl
theorem dX11_layOdds_19 : decode cX11_layOdds 19 = .ok (.invokevirtual 158, 3) := zD182 whX11_layOdds_0 (p := 19) rfl rfl
theorem dX11_layOdds_22 : decode cX11_layOdds 22 = .ok (.if_icmp .ne 7, 3) := zD160p whX11_layOdds_0 (p := 22) (v := 7) rfl rfl rfl
theorem dX11_layOdds_25 : decode cX11_layOdds 25 = .ok (.lconst 1, 1) := zD10 whX11_layOdds_0 (p := 25) rfl
theorem dX11_layOdds_26 : decode cX11_layOdds 26 = .ok (.goto 4, 3) := zD167p whX11_layOdds_0 (p := 26) (v := 4) rfl rfl rfl
theorem dX11_layOdds_29 : decode cX11_layOdds 29 = .ok (.lconst 0, 1) := zD9 whX11_layOdds_0 (p := 29) rfl
theorem dX11_layOdds_30 : decode cX11_layOdds 30 = .ok (.lastore, 1) := zD80 whX11_layOdds_0 (p := 30) rfl
theorem dX11_layOdds_31 : decode cX11_layOdds 31 = .ok (.iinc 4 1, 3) := zD132p whX11_layOdds_0 (p := 31) (v := 1) rfl rfl rfl
def wlX11_layOdds_1 : List Nat := [167, 255, 225, 3, 54, 4, 21, 4, 27, 162, 0, 188, 42, 21, 4, 28, 21, 4, 122, 4, 126, 4, 160, 0, 7, 4, 167, 0, 4, 3, 182, 0, 193]
theorem whX11_layOdds_1 : WLy cX11_layOdds 34 wlX11_layOdds_1 := by decide +kernel
theorem dX11_layOdds_34 : decode cX11_layOdds 34 = .ok (.goto (-31), 3) := zD167n whX11_layOdds_1 (p := 0) (v := 31) rfl rfl rfl
theorem dX11_layOdds_37 : decode cX11_layOdds 37 = .ok (.iconst 0, 1) := zD3 whX11_layOdds_1 (p := 3) rfl
theorem dX11_layOdds_38 : decode cX11_layOdds 38 = .ok (.istore 4, 2) := zD54 whX11_layOdds_1 (p := 4) rfl
theorem dX11_layOdds_40 : decode cX11_layOdds 40 = .ok (.iload 4, 2) := zD21 whX11_layOdds_1 (p := 6) rfl
theorem dX11_layOdds_42 : decode cX11_layOdds 42 = .ok (.iload_n 1, 1) := zD27 whX11_layOdds_1 (p := 8) rfl
theorem dX11_layOdds_43 : decode cX11_layOdds 43 = .ok (.if_icmp .ge 188, 3) := zD162p whX11_layOdds_1 (p := 9) (v := 188) rfl rfl rfl
theorem dX11_layOdds_46 : decode cX11_layOdds 46 = .ok (.aload_n 0, 1) := zD42 whX11_layOdds_1 (p := 12) rfl
theorem dX11_layOdds_47 : decode cX11_layOdds 47 = .ok (.iload 4, 2) := zD21 whX11_layOdds_1 (p := 13) rfl
theorem dX11_layOdds_49 : decode cX11_layOdds 49 = .ok (.iload_n 2, 1) := zD28 whX11_layOdds_1 (p := 15) rfl
theorem dX11_layOdds_50 : decode cX11_layOdds 50 = .ok (.iload 4, 2) := zD21 whX11_layOdds_1 (p := 16) rfl
theorem dX11_layOdds_52 : decode cX11_layOdds 52 = .ok (.ishr, 1) := zD122 whX11_layOdds_1 (p := 18) rfl
theorem dX11_layOdds_53 : decode cX11_layOdds 53 = .ok (.iconst 1, 1) := zD4 whX11_layOdds_1 (p := 19) rfl
theorem dX11_layOdds_54 : decode cX11_layOdds 54 = .ok (.iand, 1) := zD126 whX11_layOdds_1 (p := 20) rfl
theorem dX11_layOdds_55 : decode cX11_layOdds 55 = .ok (.iconst 1, 1) := zD4 whX11_layOdds_1 (p := 21) rfl
theorem dX11_layOdds_56 : decode cX11_layOdds 56 = .ok (.if_icmp .ne 7, 3) := zD160p whX11_layOdds_1 (p := 22) (v := 7) rfl rfl rfl
theorem dX11_layOdds_59 : decode cX11_layOdds 59 = .ok (.iconst 1, 1) := zD4 whX11_layOdds_1 (p := 25) rfl
theorem dX11_layOdds_60 : decode cX11_layOdds 60 = .ok (.goto 4, 3) := zD167p whX11_layOdds_1 (p := 26) (v := 4) rfl rfl rfl
theorem dX11_layOdds_63 : decode cX11_layOdds 63 = .ok (.iconst 0, 1) := zD3 whX11_layOdds_1 (p := 29) rfl
theorem dX11_layOdds_64 : decode cX11_layOdds 64 = .ok (.invokevirtual 193, 3) := zD182 whX11_layOdds_1 (p := 30) rfl rfl
def wlX11_layOdds_2 : List Nat := [54, 5, 3, 54, 6, 21, 6, 16, 10, 162, 0, 17, 42, 180, 0, 29, 21, 6, 9, 80, 132, 6, 1, 167, 255, 238, 42, 180, 0, 29, 3, 20, 0, 191]
theorem whX11_layOdds_2 : WLy cX11_layOdds 67 wlX11_layOdds_2 := by decide +kernel
theorem dX11_layOdds_67 : decode cX11_layOdds 67 = .ok (.istore 5, 2) := zD54 whX11_layOdds_2 (p := 0) rfl
theorem dX11_layOdds_69 : decode cX11_layOdds 69 = .ok (.iconst 0, 1) := zD3 whX11_layOdds_2 (p := 2) rfl
theorem dX11_layOdds_70 : decode cX11_layOdds 70 = .ok (.istore 6, 2) := zD54 whX11_layOdds_2 (p := 3) rfl
theorem dX11_layOdds_72 : decode cX11_layOdds 72 = .ok (.iload 6, 2) := zD21 whX11_layOdds_2 (p := 5) rfl
theorem dX11_layOdds_74 : decode cX11_layOdds 74 = .ok (.bipush 10, 2) := zD16p whX11_layOdds_2 (p := 7) (v := 10) rfl rfl rfl
theorem dX11_layOdds_76 : decode cX11_layOdds 76 = .ok (.if_icmp .ge 17, 3) := zD162p whX11_layOdds_2 (p := 9) (v := 17) rfl rfl rfl
theorem dX11_layOdds_79 : decode cX11_layOdds 79 = .ok (.aload_n 0, 1) := zD42 whX11_layOdds_2 (p := 12) rfl
theorem dX11_layOdds_80 : decode cX11_layOdds 80 = .ok (.getfield 29, 3) := zD180 whX11_layOdds_2 (p := 13) rfl rfl
theorem dX11_layOdds_83 : decode cX11_layOdds 83 = .ok (.iload 6, 2) := zD21 whX11_layOdds_2 (p := 16) rfl
theorem dX11_layOdds_85 : decode cX11_layOdds 85 = .ok (.lconst 0, 1) := zD9 whX11_layOdds_2 (p := 18) rfl
theorem dX11_layOdds_86 : decode cX11_layOdds 86 = .ok (.lastore, 1) := zD80 whX11_layOdds_2 (p := 19) rfl
theorem dX11_layOdds_87 : decode cX11_layOdds 87 = .ok (.iinc 6 1, 3) := zD132p whX11_layOdds_2 (p := 20) (v := 1) rfl rfl rfl
theorem dX11_layOdds_90 : decode cX11_layOdds 90 = .ok (.goto (-18), 3) := zD167n whX11_layOdds_2 (p := 23) (v := 18) rfl rfl rfl
theorem dX11_layOdds_93 : decode cX11_layOdds 93 = .ok (.aload_n 0, 1) := zD42 whX11_layOdds_2 (p := 26) rfl
theorem dX11_layOdds_94 : decode cX11_layOdds 94 = .ok (.getfield 29, 3) := zD180 whX11_layOdds_2 (p := 27) rfl rfl
theorem dX11_layOdds_97 : decode cX11_layOdds 97 = .ok (.iconst 0, 1) := zD3 whX11_layOdds_2 (p := 30) rfl
theorem dX11_layOdds_98 : decode cX11_layOdds 98 = .ok (.ldc2_w 191, 3) := zD20 whX11_layOdds_2 (p := 31) rfl rfl
def wlX11_layOdds_3 : List Nat := [42, 180, 0, 25, 3, 47, 105, 80, 4, 54, 6, 21, 6, 16, 10, 162, 0, 79, 21, 4, 29, 160, 0, 12, 21, 6, 5, 184, 0, 197, 167, 0, 5]
theorem whX11_layOdds_3 : WLy cX11_layOdds 101 wlX11_layOdds_3 := by decide +kernel
theorem dX11_layOdds_101 : decode cX11_layOdds 101 = .ok (.aload_n 0, 1) := zD42 whX11_layOdds_3 (p := 0) rfl
theorem dX11_layOdds_102 : decode cX11_layOdds 102 = .ok (.getfield 25, 3) := zD180 whX11_layOdds_3 (p := 1) rfl rfl
theorem dX11_layOdds_105 : decode cX11_layOdds 105 = .ok (.iconst 0, 1) := zD3 whX11_layOdds_3 (p := 4) rfl
theorem dX11_layOdds_106 : decode cX11_layOdds 106 = .ok (.laload, 1) := zD47 whX11_layOdds_3 (p := 5) rfl
theorem dX11_layOdds_107 : decode cX11_layOdds 107 = .ok (.lmul, 1) := zD105 whX11_layOdds_3 (p := 6) rfl
theorem dX11_layOdds_108 : decode cX11_layOdds 108 = .ok (.lastore, 1) := zD80 whX11_layOdds_3 (p := 7) rfl
theorem dX11_layOdds_109 : decode cX11_layOdds 109 = .ok (.iconst 1, 1) := zD4 whX11_layOdds_3 (p := 8) rfl
theorem dX11_layOdds_110 : decode cX11_layOdds 110 = .ok (.istore 6, 2) := zD54 whX11_layOdds_3 (p := 9) rfl
theorem dX11_layOdds_112 : decode cX11_layOdds 112 = .ok (.iload 6, 2) := zD21 whX11_layOdds_3 (p := 11) rfl
theorem dX11_layOdds_114 : decode cX11_layOdds 114 = .ok (.bipush 10, 2) := zD16p whX11_layOdds_3 (p := 13) (v := 10) rfl rfl rfl
theorem dX11_layOdds_116 : decode cX11_layOdds 116 = .ok (.if_icmp .ge 79, 3) := zD162p whX11_layOdds_3 (p := 15) (v := 79) rfl rfl rfl
theorem dX11_layOdds_119 : decode cX11_layOdds 119 = .ok (.iload 4, 2) := zD21 whX11_layOdds_3 (p := 18) rfl
theorem dX11_layOdds_121 : decode cX11_layOdds 121 = .ok (.iload_n 3, 1) := zD29 whX11_layOdds_3 (p := 20) rfl
theorem dX11_layOdds_122 : decode cX11_layOdds 122 = .ok (.if_icmp .ne 12, 3) := zD160p whX11_layOdds_3 (p := 21) (v := 12) rfl rfl rfl
theorem dX11_layOdds_125 : decode cX11_layOdds 125 = .ok (.iload 6, 2) := zD21 whX11_layOdds_3 (p := 24) rfl
theorem dX11_layOdds_127 : decode cX11_layOdds 127 = .ok (.iconst 2, 1) := zD5 whX11_layOdds_3 (p := 26) rfl
theorem dX11_layOdds_128 : decode cX11_layOdds 128 = .ok (.invokestatic 197, 3) := zD184 whX11_layOdds_3 (p := 27) rfl rfl
theorem dX11_layOdds_131 : decode cX11_layOdds 131 = .ok (.goto 5, 3) := zD167p whX11_layOdds_3 (p := 30) (v := 5) rfl rfl rfl
def wlX11_layOdds_4 : List Nat := [21, 6, 54, 7, 42, 180, 0, 29, 21, 7, 4, 100, 92, 47, 21, 5, 133, 42, 180, 0, 25, 21, 6, 47, 105, 97, 80, 42, 180, 0, 29, 21, 7]
theorem whX11_layOdds_4 : WLy cX11_layOdds 134 wlX11_layOdds_4 := by decide +kernel
theorem dX11_layOdds_134 : decode cX11_layOdds 134 = .ok (.iload 6, 2) := zD21 whX11_layOdds_4 (p := 0) rfl
theorem dX11_layOdds_136 : decode cX11_layOdds 136 = .ok (.istore 7, 2) := zD54 whX11_layOdds_4 (p := 2) rfl
theorem dX11_layOdds_138 : decode cX11_layOdds 138 = .ok (.aload_n 0, 1) := zD42 whX11_layOdds_4 (p := 4) rfl
theorem dX11_layOdds_139 : decode cX11_layOdds 139 = .ok (.getfield 29, 3) := zD180 whX11_layOdds_4 (p := 5) rfl rfl
theorem dX11_layOdds_142 : decode cX11_layOdds 142 = .ok (.iload 7, 2) := zD21 whX11_layOdds_4 (p := 8) rfl
theorem dX11_layOdds_144 : decode cX11_layOdds 144 = .ok (.iconst 1, 1) := zD4 whX11_layOdds_4 (p := 10) rfl
theorem dX11_layOdds_145 : decode cX11_layOdds 145 = .ok (.isub, 1) := zD100 whX11_layOdds_4 (p := 11) rfl
theorem dX11_layOdds_146 : decode cX11_layOdds 146 = .ok (.dup2, 1) := zD92 whX11_layOdds_4 (p := 12) rfl
theorem dX11_layOdds_147 : decode cX11_layOdds 147 = .ok (.laload, 1) := zD47 whX11_layOdds_4 (p := 13) rfl
theorem dX11_layOdds_148 : decode cX11_layOdds 148 = .ok (.iload 5, 2) := zD21 whX11_layOdds_4 (p := 14) rfl
theorem dX11_layOdds_150 : decode cX11_layOdds 150 = .ok (.i2l, 1) := zD133 whX11_layOdds_4 (p := 16) rfl
theorem dX11_layOdds_151 : decode cX11_layOdds 151 = .ok (.aload_n 0, 1) := zD42 whX11_layOdds_4 (p := 17) rfl
theorem dX11_layOdds_152 : decode cX11_layOdds 152 = .ok (.getfield 25, 3) := zD180 whX11_layOdds_4 (p := 18) rfl rfl
theorem dX11_layOdds_155 : decode cX11_layOdds 155 = .ok (.iload 6, 2) := zD21 whX11_layOdds_4 (p := 21) rfl
theorem dX11_layOdds_157 : decode cX11_layOdds 157 = .ok (.laload, 1) := zD47 whX11_layOdds_4 (p := 23) rfl
theorem dX11_layOdds_158 : decode cX11_layOdds 158 = .ok (.lmul, 1) := zD105 whX11_layOdds_4 (p := 24) rfl
theorem dX11_layOdds_159 : decode cX11_layOdds 159 = .ok (.ladd, 1) := zD97 whX11_layOdds_4 (p := 25) rfl
theorem dX11_layOdds_160 : decode cX11_layOdds 160 = .ok (.lastore, 1) := zD80 whX11_layOdds_4 (p := 26) rfl
theorem dX11_layOdds_161 : decode cX11_layOdds 161 = .ok (.aload_n 0, 1) := zD42 whX11_layOdds_4 (p := 27) rfl
theorem dX11_layOdds_162 : decode cX11_layOdds 162 = .ok (.getfield 29, 3) := zD180 whX11_layOdds_4 (p := 28) rfl rfl
theorem dX11_layOdds_165 : decode cX11_layOdds 165 = .ok (.iload 7, 2) := zD21 whX11_layOdds_4 (p := 31) rfl
def wlX11_layOdds_5 : List Nat := [4, 184, 0, 197, 92, 47, 16, 20, 21, 5, 100, 133, 42, 180, 0, 25, 21, 6, 47, 105, 97, 80, 132, 6, 1, 167, 255, 176, 3, 54, 6, 21, 6]
theorem whX11_layOdds_5 : WLy cX11_layOdds 167 wlX11_layOdds_5 := by decide +kernel
theorem dX11_layOdds_167 : decode cX11_layOdds 167 = .ok (.iconst 1, 1) := zD4 whX11_layOdds_5 (p := 0) rfl
theorem dX11_layOdds_168 : decode cX11_layOdds 168 = .ok (.invokestatic 197, 3) := zD184 whX11_layOdds_5 (p := 1) rfl rfl
theorem dX11_layOdds_171 : decode cX11_layOdds 171 = .ok (.dup2, 1) := zD92 whX11_layOdds_5 (p := 4) rfl
theorem dX11_layOdds_172 : decode cX11_layOdds 172 = .ok (.laload, 1) := zD47 whX11_layOdds_5 (p := 5) rfl
theorem dX11_layOdds_173 : decode cX11_layOdds 173 = .ok (.bipush 20, 2) := zD16p whX11_layOdds_5 (p := 6) (v := 20) rfl rfl rfl
theorem dX11_layOdds_175 : decode cX11_layOdds 175 = .ok (.iload 5, 2) := zD21 whX11_layOdds_5 (p := 8) rfl
theorem dX11_layOdds_177 : decode cX11_layOdds 177 = .ok (.isub, 1) := zD100 whX11_layOdds_5 (p := 10) rfl
theorem dX11_layOdds_178 : decode cX11_layOdds 178 = .ok (.i2l, 1) := zD133 whX11_layOdds_5 (p := 11) rfl
theorem dX11_layOdds_179 : decode cX11_layOdds 179 = .ok (.aload_n 0, 1) := zD42 whX11_layOdds_5 (p := 12) rfl
theorem dX11_layOdds_180 : decode cX11_layOdds 180 = .ok (.getfield 25, 3) := zD180 whX11_layOdds_5 (p := 13) rfl rfl
theorem dX11_layOdds_183 : decode cX11_layOdds 183 = .ok (.iload 6, 2) := zD21 whX11_layOdds_5 (p := 16) rfl
theorem dX11_layOdds_185 : decode cX11_layOdds 185 = .ok (.laload, 1) := zD47 whX11_layOdds_5 (p := 18) rfl
theorem dX11_layOdds_186 : decode cX11_layOdds 186 = .ok (.lmul, 1) := zD105 whX11_layOdds_5 (p := 19) rfl
theorem dX11_layOdds_187 : decode cX11_layOdds 187 = .ok (.ladd, 1) := zD97 whX11_layOdds_5 (p := 20) rfl
theorem dX11_layOdds_188 : decode cX11_layOdds 188 = .ok (.lastore, 1) := zD80 whX11_layOdds_5 (p := 21) rfl
theorem dX11_layOdds_189 : decode cX11_layOdds 189 = .ok (.iinc 6 1, 3) := zD132p whX11_layOdds_5 (p := 22) (v := 1) rfl rfl rfl
theorem dX11_layOdds_192 : decode cX11_layOdds 192 = .ok (.goto (-80), 3) := zD167n whX11_layOdds_5 (p := 25) (v := 80) rfl rfl rfl
theorem dX11_layOdds_195 : decode cX11_layOdds 195 = .ok (.iconst 0, 1) := zD3 whX11_layOdds_5 (p := 28) rfl
theorem dX11_layOdds_196 : decode cX11_layOdds 196 = .ok (.istore 6, 2) := zD54 whX11_layOdds_5 (p := 29) rfl
theorem dX11_layOdds_198 : decode cX11_layOdds 198 = .ok (.iload 6, 2) := zD21 whX11_layOdds_5 (p := 31) rfl
def wlX11_layOdds_6 : List Nat := [16, 10, 162, 0, 23, 42, 180, 0, 25, 21, 6, 42, 180, 0, 29, 21, 6, 47, 80, 132, 6, 1, 167, 255, 232, 132, 4, 1, 167, 255, 68, 177]
theorem whX11_layOdds_6 : WLy cX11_layOdds 200 wlX11_layOdds_6 := by decide +kernel
theorem dX11_layOdds_200 : decode cX11_layOdds 200 = .ok (.bipush 10, 2) := zD16p whX11_layOdds_6 (p := 0) (v := 10) rfl rfl rfl
theorem dX11_layOdds_202 : decode cX11_layOdds 202 = .ok (.if_icmp .ge 23, 3) := zD162p whX11_layOdds_6 (p := 2) (v := 23) rfl rfl rfl
theorem dX11_layOdds_205 : decode cX11_layOdds 205 = .ok (.aload_n 0, 1) := zD42 whX11_layOdds_6 (p := 5) rfl
theorem dX11_layOdds_206 : decode cX11_layOdds 206 = .ok (.getfield 25, 3) := zD180 whX11_layOdds_6 (p := 6) rfl rfl
theorem dX11_layOdds_209 : decode cX11_layOdds 209 = .ok (.iload 6, 2) := zD21 whX11_layOdds_6 (p := 9) rfl
theorem dX11_layOdds_211 : decode cX11_layOdds 211 = .ok (.aload_n 0, 1) := zD42 whX11_layOdds_6 (p := 11) rfl
theorem dX11_layOdds_212 : decode cX11_layOdds 212 = .ok (.getfield 29, 3) := zD180 whX11_layOdds_6 (p := 12) rfl rfl
theorem dX11_layOdds_215 : decode cX11_layOdds 215 = .ok (.iload 6, 2) := zD21 whX11_layOdds_6 (p := 15) rfl
theorem dX11_layOdds_217 : decode cX11_layOdds 217 = .ok (.laload, 1) := zD47 whX11_layOdds_6 (p := 17) rfl
theorem dX11_layOdds_218 : decode cX11_layOdds 218 = .ok (.lastore, 1) := zD80 whX11_layOdds_6 (p := 18) rfl
theorem dX11_layOdds_219 : decode cX11_layOdds 219 = .ok (.iinc 6 1, 3) := zD132p whX11_layOdds_6 (p := 19) (v := 1) rfl rfl rfl
theorem dX11_layOdds_222 : decode cX11_layOdds 222 = .ok (.goto (-24), 3) := zD167n whX11_layOdds_6 (p := 22) (v := 24) rfl rfl rfl
theorem dX11_layOdds_225 : decode cX11_layOdds 225 = .ok (.iinc 4 1, 3) := zD132p whX11_layOdds_6 (p := 25) (v := 1) rfl rfl rfl
theorem dX11_layOdds_228 : decode cX11_layOdds 228 = .ok (.goto (-188), 3) := zD167n whX11_layOdds_6 (p := 28) (v := 188) rfl rfl rfl
theorem dX11_layOdds_231 : decode cX11_layOdds 231 = .ok (.return_, 1) := zD177 whX11_layOdds_6 (p := 31) rfl
def wlX11_lowest_0 : List Nat := [30, 55, 5, 32, 55, 7, 22, 7, 9, 148, 153, 0, 21, 22, 5, 22, 7, 113, 55, 9, 22, 7, 55, 5, 22, 9, 55, 7, 167, 255, 234, 21, 4]
theorem whX11_lowest_0 : WLy cX11_lowest 0 wlX11_lowest_0 := by decide +kernel
theorem dX11_lowest_0 : decode cX11_lowest 0 = .ok (.lload_n 0, 1) := zD30 whX11_lowest_0 (p := 0) rfl
theorem dX11_lowest_1 : decode cX11_lowest 1 = .ok (.lstore 5, 2) := zD55 whX11_lowest_0 (p := 1) rfl
theorem dX11_lowest_3 : decode cX11_lowest 3 = .ok (.lload_n 2, 1) := zD32 whX11_lowest_0 (p := 3) rfl
theorem dX11_lowest_4 : decode cX11_lowest 4 = .ok (.lstore 7, 2) := zD55 whX11_lowest_0 (p := 4) rfl
theorem dX11_lowest_6 : decode cX11_lowest 6 = .ok (.lload 7, 2) := zD22 whX11_lowest_0 (p := 6) rfl
theorem dX11_lowest_8 : decode cX11_lowest 8 = .ok (.lconst 0, 1) := zD9 whX11_lowest_0 (p := 8) rfl
theorem dX11_lowest_9 : decode cX11_lowest 9 = .ok (.lcmp, 1) := zD148 whX11_lowest_0 (p := 9) rfl
theorem dX11_lowest_10 : decode cX11_lowest 10 = .ok (.ifCond .eq 21, 3) := zD153p whX11_lowest_0 (p := 10) (v := 21) rfl rfl rfl
theorem dX11_lowest_13 : decode cX11_lowest 13 = .ok (.lload 5, 2) := zD22 whX11_lowest_0 (p := 13) rfl
theorem dX11_lowest_15 : decode cX11_lowest 15 = .ok (.lload 7, 2) := zD22 whX11_lowest_0 (p := 15) rfl
theorem dX11_lowest_17 : decode cX11_lowest 17 = .ok (.lrem, 1) := zD113 whX11_lowest_0 (p := 17) rfl
theorem dX11_lowest_18 : decode cX11_lowest 18 = .ok (.lstore 9, 2) := zD55 whX11_lowest_0 (p := 18) rfl
theorem dX11_lowest_20 : decode cX11_lowest 20 = .ok (.lload 7, 2) := zD22 whX11_lowest_0 (p := 20) rfl
theorem dX11_lowest_22 : decode cX11_lowest 22 = .ok (.lstore 5, 2) := zD55 whX11_lowest_0 (p := 22) rfl
theorem dX11_lowest_24 : decode cX11_lowest 24 = .ok (.lload 9, 2) := zD22 whX11_lowest_0 (p := 24) rfl
theorem dX11_lowest_26 : decode cX11_lowest 26 = .ok (.lstore 7, 2) := zD55 whX11_lowest_0 (p := 26) rfl
theorem dX11_lowest_28 : decode cX11_lowest 28 = .ok (.goto (-22), 3) := zD167n whX11_lowest_0 (p := 28) (v := 22) rfl rfl rfl
theorem dX11_lowest_31 : decode cX11_lowest 31 = .ok (.iload 4, 2) := zD21 whX11_lowest_0 (p := 31) rfl
def wlX11_lowest_1 : List Nat := [154, 0, 7, 30, 167, 0, 4, 32, 22, 5, 109, 173]
theorem whX11_lowest_1 : WLy cX11_lowest 33 wlX11_lowest_1 := by decide +kernel
theorem dX11_lowest_33 : decode cX11_lowest 33 = .ok (.ifCond .ne 7, 3) := zD154p whX11_lowest_1 (p := 0) (v := 7) rfl rfl rfl
theorem dX11_lowest_36 : decode cX11_lowest 36 = .ok (.lload_n 0, 1) := zD30 whX11_lowest_1 (p := 3) rfl
theorem dX11_lowest_37 : decode cX11_lowest 37 = .ok (.goto 4, 3) := zD167p whX11_lowest_1 (p := 4) (v := 4) rfl rfl rfl
theorem dX11_lowest_40 : decode cX11_lowest 40 = .ok (.lload_n 2, 1) := zD32 whX11_lowest_1 (p := 7) rfl
theorem dX11_lowest_41 : decode cX11_lowest 41 = .ok (.lload 5, 2) := zD22 whX11_lowest_1 (p := 8) rfl
theorem dX11_lowest_43 : decode cX11_lowest 43 = .ok (.ldiv, 1) := zD109 whX11_lowest_1 (p := 10) rfl
theorem dX11_lowest_44 : decode cX11_lowest 44 = .ok (.lreturn, 1) := zD173 whX11_lowest_1 (p := 11) rfl
def wlX11_wakes_0 : List Nat := [27, 133, 9, 10, 184, 0, 64, 154, 0, 7, 20, 0, 200, 173, 42, 42, 180, 0, 146, 3, 16, 252, 182, 0, 202, 42, 180, 0, 25, 3, 47, 42]
theorem whX11_wakes_0 : WLy cX11_wakes 0 wlX11_wakes_0 := by decide +kernel
theorem dX11_wakes_0 : decode cX11_wakes 0 = .ok (.iload_n 1, 1) := zD27 whX11_wakes_0 (p := 0) rfl
theorem dX11_wakes_1 : decode cX11_wakes 1 = .ok (.i2l, 1) := zD133 whX11_wakes_0 (p := 1) rfl
theorem dX11_wakes_2 : decode cX11_wakes 2 = .ok (.lconst 0, 1) := zD9 whX11_wakes_0 (p := 2) rfl
theorem dX11_wakes_3 : decode cX11_wakes 3 = .ok (.lconst 1, 1) := zD10 whX11_wakes_0 (p := 3) rfl
theorem dX11_wakes_4 : decode cX11_wakes 4 = .ok (.invokestatic 64, 3) := zD184 whX11_wakes_0 (p := 4) rfl rfl
theorem dX11_wakes_7 : decode cX11_wakes 7 = .ok (.ifCond .ne 7, 3) := zD154p whX11_wakes_0 (p := 7) (v := 7) rfl rfl rfl
theorem dX11_wakes_10 : decode cX11_wakes 10 = .ok (.ldc2_w 200, 3) := zD20 whX11_wakes_0 (p := 10) rfl rfl
theorem dX11_wakes_13 : decode cX11_wakes 13 = .ok (.lreturn, 1) := zD173 whX11_wakes_0 (p := 13) rfl
theorem dX11_wakes_14 : decode cX11_wakes 14 = .ok (.aload_n 0, 1) := zD42 whX11_wakes_0 (p := 14) rfl
theorem dX11_wakes_15 : decode cX11_wakes 15 = .ok (.aload_n 0, 1) := zD42 whX11_wakes_0 (p := 15) rfl
theorem dX11_wakes_16 : decode cX11_wakes 16 = .ok (.getfield 146, 3) := zD180 whX11_wakes_0 (p := 16) rfl rfl
theorem dX11_wakes_19 : decode cX11_wakes 19 = .ok (.iconst 0, 1) := zD3 whX11_wakes_0 (p := 19) rfl
theorem dX11_wakes_20 : decode cX11_wakes 20 = .ok (.bipush (-4), 2) := zD16n whX11_wakes_0 (p := 20) (v := 4) rfl rfl rfl
theorem dX11_wakes_22 : decode cX11_wakes 22 = .ok (.invokevirtual 202, 3) := zD182 whX11_wakes_0 (p := 22) rfl rfl
theorem dX11_wakes_25 : decode cX11_wakes 25 = .ok (.aload_n 0, 1) := zD42 whX11_wakes_0 (p := 25) rfl
theorem dX11_wakes_26 : decode cX11_wakes 26 = .ok (.getfield 25, 3) := zD180 whX11_wakes_0 (p := 26) rfl rfl
theorem dX11_wakes_29 : decode cX11_wakes 29 = .ok (.iconst 0, 1) := zD3 whX11_wakes_0 (p := 29) rfl
theorem dX11_wakes_30 : decode cX11_wakes 30 = .ok (.laload, 1) := zD47 whX11_wakes_0 (p := 30) rfl
theorem dX11_wakes_31 : decode cX11_wakes 31 = .ok (.aload_n 0, 1) := zD42 whX11_wakes_0 (p := 31) rfl
def wlX11_wakes_1 : List Nat := [180, 0, 146, 184, 0, 206, 27, 184, 0, 210, 173]
theorem whX11_wakes_1 : WLy cX11_wakes 32 wlX11_wakes_1 := by decide +kernel
theorem dX11_wakes_32 : decode cX11_wakes 32 = .ok (.getfield 146, 3) := zD180 whX11_wakes_1 (p := 0) rfl rfl
theorem dX11_wakes_35 : decode cX11_wakes 35 = .ok (.invokestatic 206, 3) := zD184 whX11_wakes_1 (p := 3) rfl rfl
theorem dX11_wakes_38 : decode cX11_wakes 38 = .ok (.iload_n 1, 1) := zD27 whX11_wakes_1 (p := 6) rfl
theorem dX11_wakes_39 : decode cX11_wakes 39 = .ok (.invokestatic 210, 3) := zD184 whX11_wakes_1 (p := 7) rfl rfl
theorem dX11_wakes_42 : decode cX11_wakes 42 = .ok (.lreturn, 1) := zD173 whX11_wakes_1 (p := 10) rfl
def wlX11_awake_0 : List Nat := [42, 27, 3, 28, 182, 0, 214, 173]
theorem whX11_awake_0 : WLy cX11_awake 0 wlX11_awake_0 := by decide +kernel
theorem dX11_awake_0 : decode cX11_awake 0 = .ok (.aload_n 0, 1) := zD42 whX11_awake_0 (p := 0) rfl
theorem dX11_awake_1 : decode cX11_awake 1 = .ok (.iload_n 1, 1) := zD27 whX11_awake_0 (p := 1) rfl
theorem dX11_awake_2 : decode cX11_awake 2 = .ok (.iconst 0, 1) := zD3 whX11_awake_0 (p := 2) rfl
theorem dX11_awake_3 : decode cX11_awake 3 = .ok (.iload_n 2, 1) := zD28 whX11_awake_0 (p := 3) rfl
theorem dX11_awake_4 : decode cX11_awake 4 = .ok (.invokevirtual 214, 3) := zD182 whX11_awake_0 (p := 4) rfl rfl
theorem dX11_awake_7 : decode cX11_awake 7 = .ok (.lreturn, 1) := zD173 whX11_awake_0 (p := 7) rfl
def wlX11_depth_0 : List Nat := [42, 27, 182, 0, 161, 153, 0, 25, 28, 133, 9, 20, 0, 170, 184, 0, 64, 153, 0, 13, 29, 133, 9, 10, 184, 0, 64, 154, 0, 7, 20, 0, 200]
theorem whX11_depth_0 : WLy cX11_depth 0 wlX11_depth_0 := by decide +kernel
theorem dX11_depth_0 : decode cX11_depth 0 = .ok (.aload_n 0, 1) := zD42 whX11_depth_0 (p := 0) rfl
theorem dX11_depth_1 : decode cX11_depth 1 = .ok (.iload_n 1, 1) := zD27 whX11_depth_0 (p := 1) rfl
theorem dX11_depth_2 : decode cX11_depth 2 = .ok (.invokevirtual 161, 3) := zD182 whX11_depth_0 (p := 2) rfl rfl
theorem dX11_depth_5 : decode cX11_depth 5 = .ok (.ifCond .eq 25, 3) := zD153p whX11_depth_0 (p := 5) (v := 25) rfl rfl rfl
theorem dX11_depth_8 : decode cX11_depth 8 = .ok (.iload_n 2, 1) := zD28 whX11_depth_0 (p := 8) rfl
theorem dX11_depth_9 : decode cX11_depth 9 = .ok (.i2l, 1) := zD133 whX11_depth_0 (p := 9) rfl
theorem dX11_depth_10 : decode cX11_depth 10 = .ok (.lconst 0, 1) := zD9 whX11_depth_0 (p := 10) rfl
theorem dX11_depth_11 : decode cX11_depth 11 = .ok (.ldc2_w 170, 3) := zD20 whX11_depth_0 (p := 11) rfl rfl
theorem dX11_depth_14 : decode cX11_depth 14 = .ok (.invokestatic 64, 3) := zD184 whX11_depth_0 (p := 14) rfl rfl
theorem dX11_depth_17 : decode cX11_depth 17 = .ok (.ifCond .eq 13, 3) := zD153p whX11_depth_0 (p := 17) (v := 13) rfl rfl rfl
theorem dX11_depth_20 : decode cX11_depth 20 = .ok (.iload_n 3, 1) := zD29 whX11_depth_0 (p := 20) rfl
theorem dX11_depth_21 : decode cX11_depth 21 = .ok (.i2l, 1) := zD133 whX11_depth_0 (p := 21) rfl
theorem dX11_depth_22 : decode cX11_depth 22 = .ok (.lconst 0, 1) := zD9 whX11_depth_0 (p := 22) rfl
theorem dX11_depth_23 : decode cX11_depth 23 = .ok (.lconst 1, 1) := zD10 whX11_depth_0 (p := 23) rfl
theorem dX11_depth_24 : decode cX11_depth 24 = .ok (.invokestatic 64, 3) := zD184 whX11_depth_0 (p := 24) rfl rfl
theorem dX11_depth_27 : decode cX11_depth 27 = .ok (.ifCond .ne 7, 3) := zD154p whX11_depth_0 (p := 27) (v := 7) rfl rfl rfl
theorem dX11_depth_30 : decode cX11_depth 30 = .ok (.ldc2_w 200, 3) := zD20 whX11_depth_0 (p := 30) rfl rfl
def wlX11_depth_1 : List Nat := [173, 42, 27, 4, 96, 3, 16, 252, 182, 0, 202, 42, 180, 0, 25, 28, 47, 27, 4, 96, 184, 0, 206, 29, 184, 0, 210, 173]
theorem whX11_depth_1 : WLy cX11_depth 33 wlX11_depth_1 := by decide +kernel
theorem dX11_depth_33 : decode cX11_depth 33 = .ok (.lreturn, 1) := zD173 whX11_depth_1 (p := 0) rfl
theorem dX11_depth_34 : decode cX11_depth 34 = .ok (.aload_n 0, 1) := zD42 whX11_depth_1 (p := 1) rfl
theorem dX11_depth_35 : decode cX11_depth 35 = .ok (.iload_n 1, 1) := zD27 whX11_depth_1 (p := 2) rfl
theorem dX11_depth_36 : decode cX11_depth 36 = .ok (.iconst 1, 1) := zD4 whX11_depth_1 (p := 3) rfl
theorem dX11_depth_37 : decode cX11_depth 37 = .ok (.iadd, 1) := zD96 whX11_depth_1 (p := 4) rfl
theorem dX11_depth_38 : decode cX11_depth 38 = .ok (.iconst 0, 1) := zD3 whX11_depth_1 (p := 5) rfl
theorem dX11_depth_39 : decode cX11_depth 39 = .ok (.bipush (-4), 2) := zD16n whX11_depth_1 (p := 6) (v := 4) rfl rfl rfl
theorem dX11_depth_41 : decode cX11_depth 41 = .ok (.invokevirtual 202, 3) := zD182 whX11_depth_1 (p := 8) rfl rfl
theorem dX11_depth_44 : decode cX11_depth 44 = .ok (.aload_n 0, 1) := zD42 whX11_depth_1 (p := 11) rfl
theorem dX11_depth_45 : decode cX11_depth 45 = .ok (.getfield 25, 3) := zD180 whX11_depth_1 (p := 12) rfl rfl
theorem dX11_depth_48 : decode cX11_depth 48 = .ok (.iload_n 2, 1) := zD28 whX11_depth_1 (p := 15) rfl
theorem dX11_depth_49 : decode cX11_depth 49 = .ok (.laload, 1) := zD47 whX11_depth_1 (p := 16) rfl
theorem dX11_depth_50 : decode cX11_depth 50 = .ok (.iload_n 1, 1) := zD27 whX11_depth_1 (p := 17) rfl
theorem dX11_depth_51 : decode cX11_depth 51 = .ok (.iconst 1, 1) := zD4 whX11_depth_1 (p := 18) rfl
theorem dX11_depth_52 : decode cX11_depth 52 = .ok (.iadd, 1) := zD96 whX11_depth_1 (p := 19) rfl
theorem dX11_depth_53 : decode cX11_depth 53 = .ok (.invokestatic 206, 3) := zD184 whX11_depth_1 (p := 20) rfl rfl
theorem dX11_depth_56 : decode cX11_depth 56 = .ok (.iload_n 3, 1) := zD29 whX11_depth_1 (p := 23) rfl
theorem dX11_depth_57 : decode cX11_depth 57 = .ok (.invokestatic 210, 3) := zD184 whX11_depth_1 (p := 24) rfl rfl
theorem dX11_depth_60 : decode cX11_depth 60 = .ok (.lreturn, 1) := zD173 whX11_depth_1 (p := 27) rfl
def wlX11_bestAt_0 : List Nat := [16, 70, 26, 104, 16, 10, 27, 16, 252, 160, 0, 7, 3, 167, 0, 6, 27, 4, 96, 104, 96, 28, 96, 172]
theorem whX11_bestAt_0 : WLy cX11_bestAt 0 wlX11_bestAt_0 := by decide +kernel
theorem dX11_bestAt_0 : decode cX11_bestAt 0 = .ok (.bipush 70, 2) := zD16p whX11_bestAt_0 (p := 0) (v := 70) rfl rfl rfl
theorem dX11_bestAt_2 : decode cX11_bestAt 2 = .ok (.iload_n 0, 1) := zD26 whX11_bestAt_0 (p := 2) rfl
theorem dX11_bestAt_3 : decode cX11_bestAt 3 = .ok (.imul, 1) := zD104 whX11_bestAt_0 (p := 3) rfl
theorem dX11_bestAt_4 : decode cX11_bestAt 4 = .ok (.bipush 10, 2) := zD16p whX11_bestAt_0 (p := 4) (v := 10) rfl rfl rfl
theorem dX11_bestAt_6 : decode cX11_bestAt 6 = .ok (.iload_n 1, 1) := zD27 whX11_bestAt_0 (p := 6) rfl
theorem dX11_bestAt_7 : decode cX11_bestAt 7 = .ok (.bipush (-4), 2) := zD16n whX11_bestAt_0 (p := 7) (v := 4) rfl rfl rfl
theorem dX11_bestAt_9 : decode cX11_bestAt 9 = .ok (.if_icmp .ne 7, 3) := zD160p whX11_bestAt_0 (p := 9) (v := 7) rfl rfl rfl
theorem dX11_bestAt_12 : decode cX11_bestAt 12 = .ok (.iconst 0, 1) := zD3 whX11_bestAt_0 (p := 12) rfl
theorem dX11_bestAt_13 : decode cX11_bestAt 13 = .ok (.goto 6, 3) := zD167p whX11_bestAt_0 (p := 13) (v := 6) rfl rfl rfl
theorem dX11_bestAt_16 : decode cX11_bestAt 16 = .ok (.iload_n 1, 1) := zD27 whX11_bestAt_0 (p := 16) rfl
theorem dX11_bestAt_17 : decode cX11_bestAt 17 = .ok (.iconst 1, 1) := zD4 whX11_bestAt_0 (p := 17) rfl
theorem dX11_bestAt_18 : decode cX11_bestAt 18 = .ok (.iadd, 1) := zD96 whX11_bestAt_0 (p := 18) rfl
theorem dX11_bestAt_19 : decode cX11_bestAt 19 = .ok (.imul, 1) := zD104 whX11_bestAt_0 (p := 19) rfl
theorem dX11_bestAt_20 : decode cX11_bestAt 20 = .ok (.iadd, 1) := zD96 whX11_bestAt_0 (p := 20) rfl
theorem dX11_bestAt_21 : decode cX11_bestAt 21 = .ok (.iload_n 2, 1) := zD28 whX11_bestAt_0 (p := 21) rfl
theorem dX11_bestAt_22 : decode cX11_bestAt 22 = .ok (.iadd, 1) := zD96 whX11_bestAt_0 (p := 22) rfl
theorem dX11_bestAt_23 : decode cX11_bestAt 23 = .ok (.ireturn, 1) := zD172 whX11_bestAt_0 (p := 23) rfl
def wlX11_byOne_0 : List Nat := [42, 27, 28, 21, 4, 3, 182, 0, 187, 54, 5, 21, 5, 133, 42, 180, 0, 32, 27, 4, 96, 21, 4, 29, 4, 100, 184, 0, 218, 47, 105, 16, 20]
theorem whX11_byOne_0 : WLy cX11_byOne 0 wlX11_byOne_0 := by decide +kernel
theorem dX11_byOne_0 : decode cX11_byOne 0 = .ok (.aload_n 0, 1) := zD42 whX11_byOne_0 (p := 0) rfl
theorem dX11_byOne_1 : decode cX11_byOne 1 = .ok (.iload_n 1, 1) := zD27 whX11_byOne_0 (p := 1) rfl
theorem dX11_byOne_2 : decode cX11_byOne 2 = .ok (.iload_n 2, 1) := zD28 whX11_byOne_0 (p := 2) rfl
theorem dX11_byOne_3 : decode cX11_byOne 3 = .ok (.iload 4, 2) := zD21 whX11_byOne_0 (p := 3) rfl
theorem dX11_byOne_5 : decode cX11_byOne 5 = .ok (.iconst 0, 1) := zD3 whX11_byOne_0 (p := 5) rfl
theorem dX11_byOne_6 : decode cX11_byOne 6 = .ok (.invokevirtual 187, 3) := zD182 whX11_byOne_0 (p := 6) rfl rfl
theorem dX11_byOne_9 : decode cX11_byOne 9 = .ok (.istore 5, 2) := zD54 whX11_byOne_0 (p := 9) rfl
theorem dX11_byOne_11 : decode cX11_byOne 11 = .ok (.iload 5, 2) := zD21 whX11_byOne_0 (p := 11) rfl
theorem dX11_byOne_13 : decode cX11_byOne 13 = .ok (.i2l, 1) := zD133 whX11_byOne_0 (p := 13) rfl
theorem dX11_byOne_14 : decode cX11_byOne 14 = .ok (.aload_n 0, 1) := zD42 whX11_byOne_0 (p := 14) rfl
theorem dX11_byOne_15 : decode cX11_byOne 15 = .ok (.getfield 32, 3) := zD180 whX11_byOne_0 (p := 15) rfl rfl
theorem dX11_byOne_18 : decode cX11_byOne 18 = .ok (.iload_n 1, 1) := zD27 whX11_byOne_0 (p := 18) rfl
theorem dX11_byOne_19 : decode cX11_byOne 19 = .ok (.iconst 1, 1) := zD4 whX11_byOne_0 (p := 19) rfl
theorem dX11_byOne_20 : decode cX11_byOne 20 = .ok (.iadd, 1) := zD96 whX11_byOne_0 (p := 20) rfl
theorem dX11_byOne_21 : decode cX11_byOne 21 = .ok (.iload 4, 2) := zD21 whX11_byOne_0 (p := 21) rfl
theorem dX11_byOne_23 : decode cX11_byOne 23 = .ok (.iload_n 3, 1) := zD29 whX11_byOne_0 (p := 23) rfl
theorem dX11_byOne_24 : decode cX11_byOne 24 = .ok (.iconst 1, 1) := zD4 whX11_byOne_0 (p := 24) rfl
theorem dX11_byOne_25 : decode cX11_byOne 25 = .ok (.isub, 1) := zD100 whX11_byOne_0 (p := 25) rfl
theorem dX11_byOne_26 : decode cX11_byOne 26 = .ok (.invokestatic 218, 3) := zD184 whX11_byOne_0 (p := 26) rfl rfl
theorem dX11_byOne_29 : decode cX11_byOne 29 = .ok (.laload, 1) := zD47 whX11_byOne_0 (p := 29) rfl
theorem dX11_byOne_30 : decode cX11_byOne 30 = .ok (.lmul, 1) := zD105 whX11_byOne_0 (p := 30) rfl
theorem dX11_byOne_31 : decode cX11_byOne 31 = .ok (.bipush 20, 2) := zD16p whX11_byOne_0 (p := 31) (v := 20) rfl rfl rfl
def wlX11_byOne_1 : List Nat := [21, 5, 100, 133, 42, 180, 0, 32, 27, 4, 96, 21, 4, 29, 4, 184, 0, 197, 184, 0, 218, 47, 105, 97, 173]
theorem whX11_byOne_1 : WLy cX11_byOne 33 wlX11_byOne_1 := by decide +kernel
theorem dX11_byOne_33 : decode cX11_byOne 33 = .ok (.iload 5, 2) := zD21 whX11_byOne_1 (p := 0) rfl
theorem dX11_byOne_35 : decode cX11_byOne 35 = .ok (.isub, 1) := zD100 whX11_byOne_1 (p := 2) rfl
theorem dX11_byOne_36 : decode cX11_byOne 36 = .ok (.i2l, 1) := zD133 whX11_byOne_1 (p := 3) rfl
theorem dX11_byOne_37 : decode cX11_byOne 37 = .ok (.aload_n 0, 1) := zD42 whX11_byOne_1 (p := 4) rfl
theorem dX11_byOne_38 : decode cX11_byOne 38 = .ok (.getfield 32, 3) := zD180 whX11_byOne_1 (p := 5) rfl rfl
theorem dX11_byOne_41 : decode cX11_byOne 41 = .ok (.iload_n 1, 1) := zD27 whX11_byOne_1 (p := 8) rfl
theorem dX11_byOne_42 : decode cX11_byOne 42 = .ok (.iconst 1, 1) := zD4 whX11_byOne_1 (p := 9) rfl
theorem dX11_byOne_43 : decode cX11_byOne 43 = .ok (.iadd, 1) := zD96 whX11_byOne_1 (p := 10) rfl
theorem dX11_byOne_44 : decode cX11_byOne 44 = .ok (.iload 4, 2) := zD21 whX11_byOne_1 (p := 11) rfl
theorem dX11_byOne_46 : decode cX11_byOne 46 = .ok (.iload_n 3, 1) := zD29 whX11_byOne_1 (p := 13) rfl
theorem dX11_byOne_47 : decode cX11_byOne 47 = .ok (.iconst 1, 1) := zD4 whX11_byOne_1 (p := 14) rfl
theorem dX11_byOne_48 : decode cX11_byOne 48 = .ok (.invokestatic 197, 3) := zD184 whX11_byOne_1 (p := 15) rfl rfl
theorem dX11_byOne_51 : decode cX11_byOne 51 = .ok (.invokestatic 218, 3) := zD184 whX11_byOne_1 (p := 18) rfl rfl
theorem dX11_byOne_54 : decode cX11_byOne 54 = .ok (.laload, 1) := zD47 whX11_byOne_1 (p := 21) rfl
theorem dX11_byOne_55 : decode cX11_byOne 55 = .ok (.lmul, 1) := zD105 whX11_byOne_1 (p := 22) rfl
theorem dX11_byOne_56 : decode cX11_byOne 56 = .ok (.ladd, 1) := zD97 whX11_byOne_1 (p := 23) rfl
theorem dX11_byOne_57 : decode cX11_byOne 57 = .ok (.lreturn, 1) := zD173 whX11_byOne_1 (p := 24) rfl
def wlX11_layBest_0 : List Nat := [3, 61, 28, 16, 70, 162, 0, 35, 42, 180, 0, 32, 16, 70, 42, 180, 0, 146, 104, 28, 96, 28, 16, 10, 112, 154, 0, 7, 10, 167, 0, 4]
theorem whX11_layBest_0 : WLy cX11_layBest 0 wlX11_layBest_0 := by decide +kernel
theorem dX11_layBest_0 : decode cX11_layBest 0 = .ok (.iconst 0, 1) := zD3 whX11_layBest_0 (p := 0) rfl
theorem dX11_layBest_1 : decode cX11_layBest 1 = .ok (.istore_n 2, 1) := zD61 whX11_layBest_0 (p := 1) rfl
theorem dX11_layBest_2 : decode cX11_layBest 2 = .ok (.iload_n 2, 1) := zD28 whX11_layBest_0 (p := 2) rfl
theorem dX11_layBest_3 : decode cX11_layBest 3 = .ok (.bipush 70, 2) := zD16p whX11_layBest_0 (p := 3) (v := 70) rfl rfl rfl
theorem dX11_layBest_5 : decode cX11_layBest 5 = .ok (.if_icmp .ge 35, 3) := zD162p whX11_layBest_0 (p := 5) (v := 35) rfl rfl rfl
theorem dX11_layBest_8 : decode cX11_layBest 8 = .ok (.aload_n 0, 1) := zD42 whX11_layBest_0 (p := 8) rfl
theorem dX11_layBest_9 : decode cX11_layBest 9 = .ok (.getfield 32, 3) := zD180 whX11_layBest_0 (p := 9) rfl rfl
theorem dX11_layBest_12 : decode cX11_layBest 12 = .ok (.bipush 70, 2) := zD16p whX11_layBest_0 (p := 12) (v := 70) rfl rfl rfl
theorem dX11_layBest_14 : decode cX11_layBest 14 = .ok (.aload_n 0, 1) := zD42 whX11_layBest_0 (p := 14) rfl
theorem dX11_layBest_15 : decode cX11_layBest 15 = .ok (.getfield 146, 3) := zD180 whX11_layBest_0 (p := 15) rfl rfl
theorem dX11_layBest_18 : decode cX11_layBest 18 = .ok (.imul, 1) := zD104 whX11_layBest_0 (p := 18) rfl
theorem dX11_layBest_19 : decode cX11_layBest 19 = .ok (.iload_n 2, 1) := zD28 whX11_layBest_0 (p := 19) rfl
theorem dX11_layBest_20 : decode cX11_layBest 20 = .ok (.iadd, 1) := zD96 whX11_layBest_0 (p := 20) rfl
theorem dX11_layBest_21 : decode cX11_layBest 21 = .ok (.iload_n 2, 1) := zD28 whX11_layBest_0 (p := 21) rfl
theorem dX11_layBest_22 : decode cX11_layBest 22 = .ok (.bipush 10, 2) := zD16p whX11_layBest_0 (p := 22) (v := 10) rfl rfl rfl
theorem dX11_layBest_24 : decode cX11_layBest 24 = .ok (.irem, 1) := zD112 whX11_layBest_0 (p := 24) rfl
theorem dX11_layBest_25 : decode cX11_layBest 25 = .ok (.ifCond .ne 7, 3) := zD154p whX11_layBest_0 (p := 25) (v := 7) rfl rfl rfl
theorem dX11_layBest_28 : decode cX11_layBest 28 = .ok (.lconst 1, 1) := zD10 whX11_layBest_0 (p := 28) rfl
theorem dX11_layBest_29 : decode cX11_layBest 29 = .ok (.goto 4, 3) := zD167p whX11_layBest_0 (p := 29) (v := 4) rfl rfl rfl
def wlX11_layBest_1 : List Nat := [9, 80, 132, 2, 1, 167, 255, 221, 42, 180, 0, 146, 4, 100, 61, 28, 155, 0, 187, 3, 62, 29, 16, 70, 162, 0, 173, 29, 16, 10, 162, 0, 8]
theorem whX11_layBest_1 : WLy cX11_layBest 32 wlX11_layBest_1 := by decide +kernel
theorem dX11_layBest_32 : decode cX11_layBest 32 = .ok (.lconst 0, 1) := zD9 whX11_layBest_1 (p := 0) rfl
theorem dX11_layBest_33 : decode cX11_layBest 33 = .ok (.lastore, 1) := zD80 whX11_layBest_1 (p := 1) rfl
theorem dX11_layBest_34 : decode cX11_layBest 34 = .ok (.iinc 2 1, 3) := zD132p whX11_layBest_1 (p := 2) (v := 1) rfl rfl rfl
theorem dX11_layBest_37 : decode cX11_layBest 37 = .ok (.goto (-35), 3) := zD167n whX11_layBest_1 (p := 5) (v := 35) rfl rfl rfl
theorem dX11_layBest_40 : decode cX11_layBest 40 = .ok (.aload_n 0, 1) := zD42 whX11_layBest_1 (p := 8) rfl
theorem dX11_layBest_41 : decode cX11_layBest 41 = .ok (.getfield 146, 3) := zD180 whX11_layBest_1 (p := 9) rfl rfl
theorem dX11_layBest_44 : decode cX11_layBest 44 = .ok (.iconst 1, 1) := zD4 whX11_layBest_1 (p := 12) rfl
theorem dX11_layBest_45 : decode cX11_layBest 45 = .ok (.isub, 1) := zD100 whX11_layBest_1 (p := 13) rfl
theorem dX11_layBest_46 : decode cX11_layBest 46 = .ok (.istore_n 2, 1) := zD61 whX11_layBest_1 (p := 14) rfl
theorem dX11_layBest_47 : decode cX11_layBest 47 = .ok (.iload_n 2, 1) := zD28 whX11_layBest_1 (p := 15) rfl
theorem dX11_layBest_48 : decode cX11_layBest 48 = .ok (.ifCond .lt 187, 3) := zD155p whX11_layBest_1 (p := 16) (v := 187) rfl rfl rfl
theorem dX11_layBest_51 : decode cX11_layBest 51 = .ok (.iconst 0, 1) := zD3 whX11_layBest_1 (p := 19) rfl
theorem dX11_layBest_52 : decode cX11_layBest 52 = .ok (.istore_n 3, 1) := zD62 whX11_layBest_1 (p := 20) rfl
theorem dX11_layBest_53 : decode cX11_layBest 53 = .ok (.iload_n 3, 1) := zD29 whX11_layBest_1 (p := 21) rfl
theorem dX11_layBest_54 : decode cX11_layBest 54 = .ok (.bipush 70, 2) := zD16p whX11_layBest_1 (p := 22) (v := 70) rfl rfl rfl
theorem dX11_layBest_56 : decode cX11_layBest 56 = .ok (.if_icmp .ge 173, 3) := zD162p whX11_layBest_1 (p := 24) (v := 173) rfl rfl rfl
theorem dX11_layBest_59 : decode cX11_layBest 59 = .ok (.iload_n 3, 1) := zD29 whX11_layBest_1 (p := 27) rfl
theorem dX11_layBest_60 : decode cX11_layBest 60 = .ok (.bipush 10, 2) := zD16p whX11_layBest_1 (p := 28) (v := 10) rfl rfl rfl
theorem dX11_layBest_62 : decode cX11_layBest 62 = .ok (.if_icmp .ge 8, 3) := zD162p whX11_layBest_1 (p := 30) (v := 8) rfl rfl rfl
def wlX11_layBest_2 : List Nat := [16, 252, 167, 0, 9, 29, 16, 10, 108, 4, 100, 54, 4, 42, 180, 0, 32, 16, 70, 28, 104, 29, 96, 29, 16, 10, 112, 154, 0, 15, 42, 180, 0, 146]
theorem whX11_layBest_2 : WLy cX11_layBest 65 wlX11_layBest_2 := by decide +kernel
theorem dX11_layBest_65 : decode cX11_layBest 65 = .ok (.bipush (-4), 2) := zD16n whX11_layBest_2 (p := 0) (v := 4) rfl rfl rfl
theorem dX11_layBest_67 : decode cX11_layBest 67 = .ok (.goto 9, 3) := zD167p whX11_layBest_2 (p := 2) (v := 9) rfl rfl rfl
theorem dX11_layBest_70 : decode cX11_layBest 70 = .ok (.iload_n 3, 1) := zD29 whX11_layBest_2 (p := 5) rfl
theorem dX11_layBest_71 : decode cX11_layBest 71 = .ok (.bipush 10, 2) := zD16p whX11_layBest_2 (p := 6) (v := 10) rfl rfl rfl
theorem dX11_layBest_73 : decode cX11_layBest 73 = .ok (.idiv, 1) := zD108 whX11_layBest_2 (p := 8) rfl
theorem dX11_layBest_74 : decode cX11_layBest 74 = .ok (.iconst 1, 1) := zD4 whX11_layBest_2 (p := 9) rfl
theorem dX11_layBest_75 : decode cX11_layBest 75 = .ok (.isub, 1) := zD100 whX11_layBest_2 (p := 10) rfl
theorem dX11_layBest_76 : decode cX11_layBest 76 = .ok (.istore 4, 2) := zD54 whX11_layBest_2 (p := 11) rfl
theorem dX11_layBest_78 : decode cX11_layBest 78 = .ok (.aload_n 0, 1) := zD42 whX11_layBest_2 (p := 13) rfl
theorem dX11_layBest_79 : decode cX11_layBest 79 = .ok (.getfield 32, 3) := zD180 whX11_layBest_2 (p := 14) rfl rfl
theorem dX11_layBest_82 : decode cX11_layBest 82 = .ok (.bipush 70, 2) := zD16p whX11_layBest_2 (p := 17) (v := 70) rfl rfl rfl
theorem dX11_layBest_84 : decode cX11_layBest 84 = .ok (.iload_n 2, 1) := zD28 whX11_layBest_2 (p := 19) rfl
theorem dX11_layBest_85 : decode cX11_layBest 85 = .ok (.imul, 1) := zD104 whX11_layBest_2 (p := 20) rfl
theorem dX11_layBest_86 : decode cX11_layBest 86 = .ok (.iload_n 3, 1) := zD29 whX11_layBest_2 (p := 21) rfl
theorem dX11_layBest_87 : decode cX11_layBest 87 = .ok (.iadd, 1) := zD96 whX11_layBest_2 (p := 22) rfl
theorem dX11_layBest_88 : decode cX11_layBest 88 = .ok (.iload_n 3, 1) := zD29 whX11_layBest_2 (p := 23) rfl
theorem dX11_layBest_89 : decode cX11_layBest 89 = .ok (.bipush 10, 2) := zD16p whX11_layBest_2 (p := 24) (v := 10) rfl rfl rfl
theorem dX11_layBest_91 : decode cX11_layBest 91 = .ok (.irem, 1) := zD112 whX11_layBest_2 (p := 26) rfl
theorem dX11_layBest_92 : decode cX11_layBest 92 = .ok (.ifCond .ne 15, 3) := zD154p whX11_layBest_2 (p := 27) (v := 15) rfl rfl rfl
theorem dX11_layBest_95 : decode cX11_layBest 95 = .ok (.aload_n 0, 1) := zD42 whX11_layBest_2 (p := 30) rfl
theorem dX11_layBest_96 : decode cX11_layBest 96 = .ok (.getfield 146, 3) := zD180 whX11_layBest_2 (p := 31) rfl rfl
def wlX11_layBest_3 : List Nat := [28, 100, 184, 0, 206, 167, 0, 6, 20, 0, 221, 80, 3, 54, 5, 21, 5, 42, 180, 0, 149, 162, 0, 103, 29, 16, 10, 112, 158, 0, 96, 21, 4]
theorem whX11_layBest_3 : WLy cX11_layBest 99 wlX11_layBest_3 := by decide +kernel
theorem dX11_layBest_99 : decode cX11_layBest 99 = .ok (.iload_n 2, 1) := zD28 whX11_layBest_3 (p := 0) rfl
theorem dX11_layBest_100 : decode cX11_layBest 100 = .ok (.isub, 1) := zD100 whX11_layBest_3 (p := 1) rfl
theorem dX11_layBest_101 : decode cX11_layBest 101 = .ok (.invokestatic 206, 3) := zD184 whX11_layBest_3 (p := 2) rfl rfl
theorem dX11_layBest_104 : decode cX11_layBest 104 = .ok (.goto 6, 3) := zD167p whX11_layBest_3 (p := 5) (v := 6) rfl rfl rfl
theorem dX11_layBest_107 : decode cX11_layBest 107 = .ok (.ldc2_w 221, 3) := zD20 whX11_layBest_3 (p := 8) rfl rfl
theorem dX11_layBest_110 : decode cX11_layBest 110 = .ok (.lastore, 1) := zD80 whX11_layBest_3 (p := 11) rfl
theorem dX11_layBest_111 : decode cX11_layBest 111 = .ok (.iconst 0, 1) := zD3 whX11_layBest_3 (p := 12) rfl
theorem dX11_layBest_112 : decode cX11_layBest 112 = .ok (.istore 5, 2) := zD54 whX11_layBest_3 (p := 13) rfl
theorem dX11_layBest_114 : decode cX11_layBest 114 = .ok (.iload 5, 2) := zD21 whX11_layBest_3 (p := 15) rfl
theorem dX11_layBest_116 : decode cX11_layBest 116 = .ok (.aload_n 0, 1) := zD42 whX11_layBest_3 (p := 17) rfl
theorem dX11_layBest_117 : decode cX11_layBest 117 = .ok (.getfield 149, 3) := zD180 whX11_layBest_3 (p := 18) rfl rfl
theorem dX11_layBest_120 : decode cX11_layBest 120 = .ok (.if_icmp .ge 103, 3) := zD162p whX11_layBest_3 (p := 21) (v := 103) rfl rfl rfl
theorem dX11_layBest_123 : decode cX11_layBest 123 = .ok (.iload_n 3, 1) := zD29 whX11_layBest_3 (p := 24) rfl
theorem dX11_layBest_124 : decode cX11_layBest 124 = .ok (.bipush 10, 2) := zD16p whX11_layBest_3 (p := 25) (v := 10) rfl rfl rfl
theorem dX11_layBest_126 : decode cX11_layBest 126 = .ok (.irem, 1) := zD112 whX11_layBest_3 (p := 27) rfl
theorem dX11_layBest_127 : decode cX11_layBest 127 = .ok (.ifCond .le 96, 3) := zD158p whX11_layBest_3 (p := 28) (v := 96) rfl rfl rfl
theorem dX11_layBest_130 : decode cX11_layBest 130 = .ok (.iload 4, 2) := zD21 whX11_layBest_3 (p := 31) rfl
def wlX11_layBest_4 : List Nat := [16, 252, 159, 0, 12, 42, 21, 4, 182, 0, 167, 153, 0, 80, 21, 5, 27, 160, 0, 9, 20, 0, 221, 167, 0, 16, 42, 28, 21, 4, 29, 16, 10]
theorem whX11_layBest_4 : WLy cX11_layBest 132 wlX11_layBest_4 := by decide +kernel
theorem dX11_layBest_132 : decode cX11_layBest 132 = .ok (.bipush (-4), 2) := zD16n whX11_layBest_4 (p := 0) (v := 4) rfl rfl rfl
theorem dX11_layBest_134 : decode cX11_layBest 134 = .ok (.if_icmp .eq 12, 3) := zD159p whX11_layBest_4 (p := 2) (v := 12) rfl rfl rfl
theorem dX11_layBest_137 : decode cX11_layBest 137 = .ok (.aload_n 0, 1) := zD42 whX11_layBest_4 (p := 5) rfl
theorem dX11_layBest_138 : decode cX11_layBest 138 = .ok (.iload 4, 2) := zD21 whX11_layBest_4 (p := 6) rfl
theorem dX11_layBest_140 : decode cX11_layBest 140 = .ok (.invokevirtual 167, 3) := zD182 whX11_layBest_4 (p := 8) rfl rfl
theorem dX11_layBest_143 : decode cX11_layBest 143 = .ok (.ifCond .eq 80, 3) := zD153p whX11_layBest_4 (p := 11) (v := 80) rfl rfl rfl
theorem dX11_layBest_146 : decode cX11_layBest 146 = .ok (.iload 5, 2) := zD21 whX11_layBest_4 (p := 14) rfl
theorem dX11_layBest_148 : decode cX11_layBest 148 = .ok (.iload_n 1, 1) := zD27 whX11_layBest_4 (p := 16) rfl
theorem dX11_layBest_149 : decode cX11_layBest 149 = .ok (.if_icmp .ne 9, 3) := zD160p whX11_layBest_4 (p := 17) (v := 9) rfl rfl rfl
theorem dX11_layBest_152 : decode cX11_layBest 152 = .ok (.ldc2_w 221, 3) := zD20 whX11_layBest_4 (p := 20) rfl rfl
theorem dX11_layBest_155 : decode cX11_layBest 155 = .ok (.goto 16, 3) := zD167p whX11_layBest_4 (p := 23) (v := 16) rfl rfl rfl
theorem dX11_layBest_158 : decode cX11_layBest 158 = .ok (.aload_n 0, 1) := zD42 whX11_layBest_4 (p := 26) rfl
theorem dX11_layBest_159 : decode cX11_layBest 159 = .ok (.iload_n 2, 1) := zD28 whX11_layBest_4 (p := 27) rfl
theorem dX11_layBest_160 : decode cX11_layBest 160 = .ok (.iload 4, 2) := zD21 whX11_layBest_4 (p := 28) rfl
theorem dX11_layBest_162 : decode cX11_layBest 162 = .ok (.iload_n 3, 1) := zD29 whX11_layBest_4 (p := 30) rfl
theorem dX11_layBest_163 : decode cX11_layBest 163 = .ok (.bipush 10, 2) := zD16p whX11_layBest_4 (p := 31) (v := 10) rfl rfl rfl
def wlX11_layBest_5 : List Nat := [112, 21, 5, 182, 0, 223, 55, 6, 42, 180, 0, 32, 16, 70, 28, 104, 29, 96, 22, 6, 42, 180, 0, 32, 16, 70, 28, 104, 29, 96, 47, 148]
theorem whX11_layBest_5 : WLy cX11_layBest 165 wlX11_layBest_5 := by decide +kernel
theorem dX11_layBest_165 : decode cX11_layBest 165 = .ok (.irem, 1) := zD112 whX11_layBest_5 (p := 0) rfl
theorem dX11_layBest_166 : decode cX11_layBest 166 = .ok (.iload 5, 2) := zD21 whX11_layBest_5 (p := 1) rfl
theorem dX11_layBest_168 : decode cX11_layBest 168 = .ok (.invokevirtual 223, 3) := zD182 whX11_layBest_5 (p := 3) rfl rfl
theorem dX11_layBest_171 : decode cX11_layBest 171 = .ok (.lstore 6, 2) := zD55 whX11_layBest_5 (p := 6) rfl
theorem dX11_layBest_173 : decode cX11_layBest 173 = .ok (.aload_n 0, 1) := zD42 whX11_layBest_5 (p := 8) rfl
theorem dX11_layBest_174 : decode cX11_layBest 174 = .ok (.getfield 32, 3) := zD180 whX11_layBest_5 (p := 9) rfl rfl
theorem dX11_layBest_177 : decode cX11_layBest 177 = .ok (.bipush 70, 2) := zD16p whX11_layBest_5 (p := 12) (v := 70) rfl rfl rfl
theorem dX11_layBest_179 : decode cX11_layBest 179 = .ok (.iload_n 2, 1) := zD28 whX11_layBest_5 (p := 14) rfl
theorem dX11_layBest_180 : decode cX11_layBest 180 = .ok (.imul, 1) := zD104 whX11_layBest_5 (p := 15) rfl
theorem dX11_layBest_181 : decode cX11_layBest 181 = .ok (.iload_n 3, 1) := zD29 whX11_layBest_5 (p := 16) rfl
theorem dX11_layBest_182 : decode cX11_layBest 182 = .ok (.iadd, 1) := zD96 whX11_layBest_5 (p := 17) rfl
theorem dX11_layBest_183 : decode cX11_layBest 183 = .ok (.lload 6, 2) := zD22 whX11_layBest_5 (p := 18) rfl
theorem dX11_layBest_185 : decode cX11_layBest 185 = .ok (.aload_n 0, 1) := zD42 whX11_layBest_5 (p := 20) rfl
theorem dX11_layBest_186 : decode cX11_layBest 186 = .ok (.getfield 32, 3) := zD180 whX11_layBest_5 (p := 21) rfl rfl
theorem dX11_layBest_189 : decode cX11_layBest 189 = .ok (.bipush 70, 2) := zD16p whX11_layBest_5 (p := 24) (v := 70) rfl rfl rfl
theorem dX11_layBest_191 : decode cX11_layBest 191 = .ok (.iload_n 2, 1) := zD28 whX11_layBest_5 (p := 26) rfl
theorem dX11_layBest_192 : decode cX11_layBest 192 = .ok (.imul, 1) := zD104 whX11_layBest_5 (p := 27) rfl
theorem dX11_layBest_193 : decode cX11_layBest 193 = .ok (.iload_n 3, 1) := zD29 whX11_layBest_5 (p := 28) rfl
theorem dX11_layBest_194 : decode cX11_layBest 194 = .ok (.iadd, 1) := zD96 whX11_layBest_5 (p := 29) rfl
theorem dX11_layBest_195 : decode cX11_layBest 195 = .ok (.laload, 1) := zD47 whX11_layBest_5 (p := 30) rfl
theorem dX11_layBest_196 : decode cX11_layBest 196 = .ok (.lcmp, 1) := zD148 whX11_layBest_5 (p := 31) rfl
def wlX11_layBest_6 : List Nat := [156, 0, 8, 22, 6, 167, 0, 14, 42, 180, 0, 32, 16, 70, 28, 104, 29, 96, 47, 80, 132, 5, 1, 167, 255, 150, 132, 3, 1, 167, 255, 83]
theorem whX11_layBest_6 : WLy cX11_layBest 197 wlX11_layBest_6 := by decide +kernel
theorem dX11_layBest_197 : decode cX11_layBest 197 = .ok (.ifCond .ge 8, 3) := zD156p whX11_layBest_6 (p := 0) (v := 8) rfl rfl rfl
theorem dX11_layBest_200 : decode cX11_layBest 200 = .ok (.lload 6, 2) := zD22 whX11_layBest_6 (p := 3) rfl
theorem dX11_layBest_202 : decode cX11_layBest 202 = .ok (.goto 14, 3) := zD167p whX11_layBest_6 (p := 5) (v := 14) rfl rfl rfl
theorem dX11_layBest_205 : decode cX11_layBest 205 = .ok (.aload_n 0, 1) := zD42 whX11_layBest_6 (p := 8) rfl
theorem dX11_layBest_206 : decode cX11_layBest 206 = .ok (.getfield 32, 3) := zD180 whX11_layBest_6 (p := 9) rfl rfl
theorem dX11_layBest_209 : decode cX11_layBest 209 = .ok (.bipush 70, 2) := zD16p whX11_layBest_6 (p := 12) (v := 70) rfl rfl rfl
theorem dX11_layBest_211 : decode cX11_layBest 211 = .ok (.iload_n 2, 1) := zD28 whX11_layBest_6 (p := 14) rfl
theorem dX11_layBest_212 : decode cX11_layBest 212 = .ok (.imul, 1) := zD104 whX11_layBest_6 (p := 15) rfl
theorem dX11_layBest_213 : decode cX11_layBest 213 = .ok (.iload_n 3, 1) := zD29 whX11_layBest_6 (p := 16) rfl
theorem dX11_layBest_214 : decode cX11_layBest 214 = .ok (.iadd, 1) := zD96 whX11_layBest_6 (p := 17) rfl
theorem dX11_layBest_215 : decode cX11_layBest 215 = .ok (.laload, 1) := zD47 whX11_layBest_6 (p := 18) rfl
theorem dX11_layBest_216 : decode cX11_layBest 216 = .ok (.lastore, 1) := zD80 whX11_layBest_6 (p := 19) rfl
theorem dX11_layBest_217 : decode cX11_layBest 217 = .ok (.iinc 5 1, 3) := zD132p whX11_layBest_6 (p := 20) (v := 1) rfl rfl rfl
theorem dX11_layBest_220 : decode cX11_layBest 220 = .ok (.goto (-106), 3) := zD167n whX11_layBest_6 (p := 23) (v := 106) rfl rfl rfl
theorem dX11_layBest_223 : decode cX11_layBest 223 = .ok (.iinc 3 1, 3) := zD132p whX11_layBest_6 (p := 26) (v := 1) rfl rfl rfl
theorem dX11_layBest_226 : decode cX11_layBest 226 = .ok (.goto (-173), 3) := zD167n whX11_layBest_6 (p := 29) (v := 173) rfl rfl rfl
def wlX11_layBest_7 : List Nat := [132, 2, 255, 167, 255, 71, 177]
theorem whX11_layBest_7 : WLy cX11_layBest 229 wlX11_layBest_7 := by decide +kernel
theorem dX11_layBest_229 : decode cX11_layBest 229 = .ok (.iinc 2 (-1), 3) := zD132n whX11_layBest_7 (p := 0) (v := 1) rfl rfl rfl
theorem dX11_layBest_232 : decode cX11_layBest 232 = .ok (.goto (-185), 3) := zD167n whX11_layBest_7 (p := 3) (v := 185) rfl rfl rfl
theorem dX11_layBest_235 : decode cX11_layBest 235 = .ok (.return_, 1) := zD177 whX11_layBest_7 (p := 6) rfl
def wlX11_best_0 : List Nat := [27, 133, 9, 10, 184, 0, 64, 154, 0, 7, 20, 0, 200, 173, 42, 16, 252, 182, 0, 227, 42, 180, 0, 32, 3, 16, 252, 42, 182, 0, 158, 184, 0, 218]
theorem whX11_best_0 : WLy cX11_best 0 wlX11_best_0 := by decide +kernel
theorem dX11_best_0 : decode cX11_best 0 = .ok (.iload_n 1, 1) := zD27 whX11_best_0 (p := 0) rfl
theorem dX11_best_1 : decode cX11_best 1 = .ok (.i2l, 1) := zD133 whX11_best_0 (p := 1) rfl
theorem dX11_best_2 : decode cX11_best 2 = .ok (.lconst 0, 1) := zD9 whX11_best_0 (p := 2) rfl
theorem dX11_best_3 : decode cX11_best 3 = .ok (.lconst 1, 1) := zD10 whX11_best_0 (p := 3) rfl
theorem dX11_best_4 : decode cX11_best 4 = .ok (.invokestatic 64, 3) := zD184 whX11_best_0 (p := 4) rfl rfl
theorem dX11_best_7 : decode cX11_best 7 = .ok (.ifCond .ne 7, 3) := zD154p whX11_best_0 (p := 7) (v := 7) rfl rfl rfl
theorem dX11_best_10 : decode cX11_best 10 = .ok (.ldc2_w 200, 3) := zD20 whX11_best_0 (p := 10) rfl rfl
theorem dX11_best_13 : decode cX11_best 13 = .ok (.lreturn, 1) := zD173 whX11_best_0 (p := 13) rfl
theorem dX11_best_14 : decode cX11_best 14 = .ok (.aload_n 0, 1) := zD42 whX11_best_0 (p := 14) rfl
theorem dX11_best_15 : decode cX11_best 15 = .ok (.bipush (-4), 2) := zD16n whX11_best_0 (p := 15) (v := 4) rfl rfl rfl
theorem dX11_best_17 : decode cX11_best 17 = .ok (.invokevirtual 227, 3) := zD182 whX11_best_0 (p := 17) rfl rfl
theorem dX11_best_20 : decode cX11_best 20 = .ok (.aload_n 0, 1) := zD42 whX11_best_0 (p := 20) rfl
theorem dX11_best_21 : decode cX11_best 21 = .ok (.getfield 32, 3) := zD180 whX11_best_0 (p := 21) rfl rfl
theorem dX11_best_24 : decode cX11_best 24 = .ok (.iconst 0, 1) := zD3 whX11_best_0 (p := 24) rfl
theorem dX11_best_25 : decode cX11_best 25 = .ok (.bipush (-4), 2) := zD16n whX11_best_0 (p := 25) (v := 4) rfl rfl rfl
theorem dX11_best_27 : decode cX11_best 27 = .ok (.aload_n 0, 1) := zD42 whX11_best_0 (p := 27) rfl
theorem dX11_best_28 : decode cX11_best 28 = .ok (.invokevirtual 158, 3) := zD182 whX11_best_0 (p := 28) rfl rfl
theorem dX11_best_31 : decode cX11_best 31 = .ok (.invokestatic 218, 3) := zD184 whX11_best_0 (p := 31) rfl rfl
def wlX11_best_1 : List Nat := [47, 42, 180, 0, 146, 184, 0, 206, 27, 184, 0, 210, 173]
theorem whX11_best_1 : WLy cX11_best 34 wlX11_best_1 := by decide +kernel
theorem dX11_best_34 : decode cX11_best 34 = .ok (.laload, 1) := zD47 whX11_best_1 (p := 0) rfl
theorem dX11_best_35 : decode cX11_best 35 = .ok (.aload_n 0, 1) := zD42 whX11_best_1 (p := 1) rfl
theorem dX11_best_36 : decode cX11_best 36 = .ok (.getfield 146, 3) := zD180 whX11_best_1 (p := 2) rfl rfl
theorem dX11_best_39 : decode cX11_best 39 = .ok (.invokestatic 206, 3) := zD184 whX11_best_1 (p := 5) rfl rfl
theorem dX11_best_42 : decode cX11_best 42 = .ok (.iload_n 1, 1) := zD27 whX11_best_1 (p := 8) rfl
theorem dX11_best_43 : decode cX11_best 43 = .ok (.invokestatic 210, 3) := zD184 whX11_best_1 (p := 9) rfl rfl
theorem dX11_best_46 : decode cX11_best 46 = .ok (.lreturn, 1) := zD173 whX11_best_1 (p := 12) rfl
def wlX11_next_0 : List Nat := [42, 27, 182, 0, 161, 153, 0, 33, 42, 28, 182, 0, 167, 154, 0, 13, 28, 16, 252, 160, 0, 19, 27, 154, 0, 15, 29, 133, 10, 20, 0, 170]
theorem whX11_next_0 : WLy cX11_next 0 wlX11_next_0 := by decide +kernel
theorem dX11_next_0 : decode cX11_next 0 = .ok (.aload_n 0, 1) := zD42 whX11_next_0 (p := 0) rfl
theorem dX11_next_1 : decode cX11_next 1 = .ok (.iload_n 1, 1) := zD27 whX11_next_0 (p := 1) rfl
theorem dX11_next_2 : decode cX11_next 2 = .ok (.invokevirtual 161, 3) := zD182 whX11_next_0 (p := 2) rfl rfl
theorem dX11_next_5 : decode cX11_next 5 = .ok (.ifCond .eq 33, 3) := zD153p whX11_next_0 (p := 5) (v := 33) rfl rfl rfl
theorem dX11_next_8 : decode cX11_next 8 = .ok (.aload_n 0, 1) := zD42 whX11_next_0 (p := 8) rfl
theorem dX11_next_9 : decode cX11_next 9 = .ok (.iload_n 2, 1) := zD28 whX11_next_0 (p := 9) rfl
theorem dX11_next_10 : decode cX11_next 10 = .ok (.invokevirtual 167, 3) := zD182 whX11_next_0 (p := 10) rfl rfl
theorem dX11_next_13 : decode cX11_next 13 = .ok (.ifCond .ne 13, 3) := zD154p whX11_next_0 (p := 13) (v := 13) rfl rfl rfl
theorem dX11_next_16 : decode cX11_next 16 = .ok (.iload_n 2, 1) := zD28 whX11_next_0 (p := 16) rfl
theorem dX11_next_17 : decode cX11_next 17 = .ok (.bipush (-4), 2) := zD16n whX11_next_0 (p := 17) (v := 4) rfl rfl rfl
theorem dX11_next_19 : decode cX11_next 19 = .ok (.if_icmp .ne 19, 3) := zD160p whX11_next_0 (p := 19) (v := 19) rfl rfl rfl
theorem dX11_next_22 : decode cX11_next 22 = .ok (.iload_n 1, 1) := zD27 whX11_next_0 (p := 22) rfl
theorem dX11_next_23 : decode cX11_next 23 = .ok (.ifCond .ne 15, 3) := zD154p whX11_next_0 (p := 23) (v := 15) rfl rfl rfl
theorem dX11_next_26 : decode cX11_next 26 = .ok (.iload_n 3, 1) := zD29 whX11_next_0 (p := 26) rfl
theorem dX11_next_27 : decode cX11_next 27 = .ok (.i2l, 1) := zD133 whX11_next_0 (p := 27) rfl
theorem dX11_next_28 : decode cX11_next 28 = .ok (.lconst 1, 1) := zD10 whX11_next_0 (p := 28) rfl
theorem dX11_next_29 : decode cX11_next 29 = .ok (.ldc2_w 170, 3) := zD20 whX11_next_0 (p := 29) rfl rfl
def wlX11_next_1 : List Nat := [184, 0, 64, 154, 0, 5, 2, 172, 42, 16, 252, 182, 0, 227, 3, 54, 4, 42, 27, 28, 29, 21, 4, 182, 0, 223, 42, 180, 0, 32, 27, 28]
theorem whX11_next_1 : WLy cX11_next 32 wlX11_next_1 := by decide +kernel
theorem dX11_next_32 : decode cX11_next 32 = .ok (.invokestatic 64, 3) := zD184 whX11_next_1 (p := 0) rfl rfl
theorem dX11_next_35 : decode cX11_next 35 = .ok (.ifCond .ne 5, 3) := zD154p whX11_next_1 (p := 3) (v := 5) rfl rfl rfl
theorem dX11_next_38 : decode cX11_next 38 = .ok (.iconst (-1), 1) := zD2 whX11_next_1 (p := 6) rfl
theorem dX11_next_39 : decode cX11_next 39 = .ok (.ireturn, 1) := zD172 whX11_next_1 (p := 7) rfl
theorem dX11_next_40 : decode cX11_next 40 = .ok (.aload_n 0, 1) := zD42 whX11_next_1 (p := 8) rfl
theorem dX11_next_41 : decode cX11_next 41 = .ok (.bipush (-4), 2) := zD16n whX11_next_1 (p := 9) (v := 4) rfl rfl rfl
theorem dX11_next_43 : decode cX11_next 43 = .ok (.invokevirtual 227, 3) := zD182 whX11_next_1 (p := 11) rfl rfl
theorem dX11_next_46 : decode cX11_next 46 = .ok (.iconst 0, 1) := zD3 whX11_next_1 (p := 14) rfl
theorem dX11_next_47 : decode cX11_next 47 = .ok (.istore 4, 2) := zD54 whX11_next_1 (p := 15) rfl
theorem dX11_next_49 : decode cX11_next 49 = .ok (.aload_n 0, 1) := zD42 whX11_next_1 (p := 17) rfl
theorem dX11_next_50 : decode cX11_next 50 = .ok (.iload_n 1, 1) := zD27 whX11_next_1 (p := 18) rfl
theorem dX11_next_51 : decode cX11_next 51 = .ok (.iload_n 2, 1) := zD28 whX11_next_1 (p := 19) rfl
theorem dX11_next_52 : decode cX11_next 52 = .ok (.iload_n 3, 1) := zD29 whX11_next_1 (p := 20) rfl
theorem dX11_next_53 : decode cX11_next 53 = .ok (.iload 4, 2) := zD21 whX11_next_1 (p := 21) rfl
theorem dX11_next_55 : decode cX11_next 55 = .ok (.invokevirtual 223, 3) := zD182 whX11_next_1 (p := 23) rfl rfl
theorem dX11_next_58 : decode cX11_next 58 = .ok (.aload_n 0, 1) := zD42 whX11_next_1 (p := 26) rfl
theorem dX11_next_59 : decode cX11_next 59 = .ok (.getfield 32, 3) := zD180 whX11_next_1 (p := 27) rfl rfl
theorem dX11_next_62 : decode cX11_next 62 = .ok (.iload_n 1, 1) := zD27 whX11_next_1 (p := 30) rfl
theorem dX11_next_63 : decode cX11_next 63 = .ok (.iload_n 2, 1) := zD28 whX11_next_1 (p := 31) rfl
def wlX11_next_2 : List Nat := [29, 184, 0, 218, 47, 148, 153, 0, 9, 132, 4, 1, 167, 255, 229, 21, 4, 172]
theorem whX11_next_2 : WLy cX11_next 64 wlX11_next_2 := by decide +kernel
theorem dX11_next_64 : decode cX11_next 64 = .ok (.iload_n 3, 1) := zD29 whX11_next_2 (p := 0) rfl
theorem dX11_next_65 : decode cX11_next 65 = .ok (.invokestatic 218, 3) := zD184 whX11_next_2 (p := 1) rfl rfl
theorem dX11_next_68 : decode cX11_next 68 = .ok (.laload, 1) := zD47 whX11_next_2 (p := 4) rfl
theorem dX11_next_69 : decode cX11_next 69 = .ok (.lcmp, 1) := zD148 whX11_next_2 (p := 5) rfl
theorem dX11_next_70 : decode cX11_next 70 = .ok (.ifCond .eq 9, 3) := zD153p whX11_next_2 (p := 6) (v := 9) rfl rfl rfl
theorem dX11_next_73 : decode cX11_next 73 = .ok (.iinc 4 1, 3) := zD132p whX11_next_2 (p := 9) (v := 1) rfl rfl rfl
theorem dX11_next_76 : decode cX11_next 76 = .ok (.goto (-27), 3) := zD167n whX11_next_2 (p := 12) (v := 27) rfl rfl rfl
theorem dX11_next_79 : decode cX11_next 79 = .ok (.iload 4, 2) := zD21 whX11_next_2 (p := 15) rfl
theorem dX11_next_81 : decode cX11_next 81 = .ok (.ireturn, 1) := zD172 whX11_next_2 (p := 17) rfl
def wlX11_without_0 : List Nat := [42, 27, 182, 0, 167, 153, 0, 13, 28, 133, 9, 10, 184, 0, 64, 154, 0, 7, 20, 0, 200, 173, 42, 180, 0, 149, 4, 160, 0, 7, 20, 0, 230]
theorem whX11_without_0 : WLy cX11_without 0 wlX11_without_0 := by decide +kernel
theorem dX11_without_0 : decode cX11_without 0 = .ok (.aload_n 0, 1) := zD42 whX11_without_0 (p := 0) rfl
theorem dX11_without_1 : decode cX11_without 1 = .ok (.iload_n 1, 1) := zD27 whX11_without_0 (p := 1) rfl
theorem dX11_without_2 : decode cX11_without 2 = .ok (.invokevirtual 167, 3) := zD182 whX11_without_0 (p := 2) rfl rfl
theorem dX11_without_5 : decode cX11_without 5 = .ok (.ifCond .eq 13, 3) := zD153p whX11_without_0 (p := 5) (v := 13) rfl rfl rfl
theorem dX11_without_8 : decode cX11_without 8 = .ok (.iload_n 2, 1) := zD28 whX11_without_0 (p := 8) rfl
theorem dX11_without_9 : decode cX11_without 9 = .ok (.i2l, 1) := zD133 whX11_without_0 (p := 9) rfl
theorem dX11_without_10 : decode cX11_without 10 = .ok (.lconst 0, 1) := zD9 whX11_without_0 (p := 10) rfl
theorem dX11_without_11 : decode cX11_without 11 = .ok (.lconst 1, 1) := zD10 whX11_without_0 (p := 11) rfl
theorem dX11_without_12 : decode cX11_without 12 = .ok (.invokestatic 64, 3) := zD184 whX11_without_0 (p := 12) rfl rfl
theorem dX11_without_15 : decode cX11_without 15 = .ok (.ifCond .ne 7, 3) := zD154p whX11_without_0 (p := 15) (v := 7) rfl rfl rfl
theorem dX11_without_18 : decode cX11_without 18 = .ok (.ldc2_w 200, 3) := zD20 whX11_without_0 (p := 18) rfl rfl
theorem dX11_without_21 : decode cX11_without 21 = .ok (.lreturn, 1) := zD173 whX11_without_0 (p := 21) rfl
theorem dX11_without_22 : decode cX11_without 22 = .ok (.aload_n 0, 1) := zD42 whX11_without_0 (p := 22) rfl
theorem dX11_without_23 : decode cX11_without 23 = .ok (.getfield 149, 3) := zD180 whX11_without_0 (p := 23) rfl rfl
theorem dX11_without_26 : decode cX11_without 26 = .ok (.iconst 1, 1) := zD4 whX11_without_0 (p := 26) rfl
theorem dX11_without_27 : decode cX11_without 27 = .ok (.if_icmp .ne 7, 3) := zD160p whX11_without_0 (p := 27) (v := 7) rfl rfl rfl
theorem dX11_without_30 : decode cX11_without 30 = .ok (.ldc2_w 230, 3) := zD20 whX11_without_0 (p := 30) rfl rfl
def wlX11_without_1 : List Nat := [173, 42, 27, 182, 0, 227, 42, 180, 0, 32, 3, 16, 252, 42, 182, 0, 158, 184, 0, 218, 47, 42, 180, 0, 146, 184, 0, 206, 28, 184, 0, 210]
theorem whX11_without_1 : WLy cX11_without 33 wlX11_without_1 := by decide +kernel
theorem dX11_without_33 : decode cX11_without 33 = .ok (.lreturn, 1) := zD173 whX11_without_1 (p := 0) rfl
theorem dX11_without_34 : decode cX11_without 34 = .ok (.aload_n 0, 1) := zD42 whX11_without_1 (p := 1) rfl
theorem dX11_without_35 : decode cX11_without 35 = .ok (.iload_n 1, 1) := zD27 whX11_without_1 (p := 2) rfl
theorem dX11_without_36 : decode cX11_without 36 = .ok (.invokevirtual 227, 3) := zD182 whX11_without_1 (p := 3) rfl rfl
theorem dX11_without_39 : decode cX11_without 39 = .ok (.aload_n 0, 1) := zD42 whX11_without_1 (p := 6) rfl
theorem dX11_without_40 : decode cX11_without 40 = .ok (.getfield 32, 3) := zD180 whX11_without_1 (p := 7) rfl rfl
theorem dX11_without_43 : decode cX11_without 43 = .ok (.iconst 0, 1) := zD3 whX11_without_1 (p := 10) rfl
theorem dX11_without_44 : decode cX11_without 44 = .ok (.bipush (-4), 2) := zD16n whX11_without_1 (p := 11) (v := 4) rfl rfl rfl
theorem dX11_without_46 : decode cX11_without 46 = .ok (.aload_n 0, 1) := zD42 whX11_without_1 (p := 13) rfl
theorem dX11_without_47 : decode cX11_without 47 = .ok (.invokevirtual 158, 3) := zD182 whX11_without_1 (p := 14) rfl rfl
theorem dX11_without_50 : decode cX11_without 50 = .ok (.invokestatic 218, 3) := zD184 whX11_without_1 (p := 17) rfl rfl
theorem dX11_without_53 : decode cX11_without 53 = .ok (.laload, 1) := zD47 whX11_without_1 (p := 20) rfl
theorem dX11_without_54 : decode cX11_without 54 = .ok (.aload_n 0, 1) := zD42 whX11_without_1 (p := 21) rfl
theorem dX11_without_55 : decode cX11_without 55 = .ok (.getfield 146, 3) := zD180 whX11_without_1 (p := 22) rfl rfl
theorem dX11_without_58 : decode cX11_without 58 = .ok (.invokestatic 206, 3) := zD184 whX11_without_1 (p := 25) rfl rfl
theorem dX11_without_61 : decode cX11_without 61 = .ok (.iload_n 2, 1) := zD28 whX11_without_1 (p := 28) rfl
theorem dX11_without_62 : decode cX11_without 62 = .ok (.invokestatic 210, 3) := zD184 whX11_without_1 (p := 29) rfl rfl
def wlX11_without_2 : List Nat := [173]
theorem whX11_without_2 : WLy cX11_without 65 wlX11_without_2 := by decide +kernel
theorem dX11_without_65 : decode cX11_without 65 = .ok (.lreturn, 1) := zD173 whX11_without_2 (p := 0) rfl
def wlX11_bitsOf_0 : List Nat := [3, 60, 3, 61, 28, 16, 10, 162, 0, 17, 27, 26, 28, 122, 4, 126, 96, 60, 132, 2, 1, 167, 255, 239, 27, 172]
theorem whX11_bitsOf_0 : WLy cX11_bitsOf 0 wlX11_bitsOf_0 := by decide +kernel
theorem dX11_bitsOf_0 : decode cX11_bitsOf 0 = .ok (.iconst 0, 1) := zD3 whX11_bitsOf_0 (p := 0) rfl
theorem dX11_bitsOf_1 : decode cX11_bitsOf 1 = .ok (.istore_n 1, 1) := zD60 whX11_bitsOf_0 (p := 1) rfl
theorem dX11_bitsOf_2 : decode cX11_bitsOf 2 = .ok (.iconst 0, 1) := zD3 whX11_bitsOf_0 (p := 2) rfl
theorem dX11_bitsOf_3 : decode cX11_bitsOf 3 = .ok (.istore_n 2, 1) := zD61 whX11_bitsOf_0 (p := 3) rfl
theorem dX11_bitsOf_4 : decode cX11_bitsOf 4 = .ok (.iload_n 2, 1) := zD28 whX11_bitsOf_0 (p := 4) rfl
theorem dX11_bitsOf_5 : decode cX11_bitsOf 5 = .ok (.bipush 10, 2) := zD16p whX11_bitsOf_0 (p := 5) (v := 10) rfl rfl rfl
theorem dX11_bitsOf_7 : decode cX11_bitsOf 7 = .ok (.if_icmp .ge 17, 3) := zD162p whX11_bitsOf_0 (p := 7) (v := 17) rfl rfl rfl
theorem dX11_bitsOf_10 : decode cX11_bitsOf 10 = .ok (.iload_n 1, 1) := zD27 whX11_bitsOf_0 (p := 10) rfl
theorem dX11_bitsOf_11 : decode cX11_bitsOf 11 = .ok (.iload_n 0, 1) := zD26 whX11_bitsOf_0 (p := 11) rfl
theorem dX11_bitsOf_12 : decode cX11_bitsOf 12 = .ok (.iload_n 2, 1) := zD28 whX11_bitsOf_0 (p := 12) rfl
theorem dX11_bitsOf_13 : decode cX11_bitsOf 13 = .ok (.ishr, 1) := zD122 whX11_bitsOf_0 (p := 13) rfl
theorem dX11_bitsOf_14 : decode cX11_bitsOf 14 = .ok (.iconst 1, 1) := zD4 whX11_bitsOf_0 (p := 14) rfl
theorem dX11_bitsOf_15 : decode cX11_bitsOf 15 = .ok (.iand, 1) := zD126 whX11_bitsOf_0 (p := 15) rfl
theorem dX11_bitsOf_16 : decode cX11_bitsOf 16 = .ok (.iadd, 1) := zD96 whX11_bitsOf_0 (p := 16) rfl
theorem dX11_bitsOf_17 : decode cX11_bitsOf 17 = .ok (.istore_n 1, 1) := zD60 whX11_bitsOf_0 (p := 17) rfl
theorem dX11_bitsOf_18 : decode cX11_bitsOf 18 = .ok (.iinc 2 1, 3) := zD132p whX11_bitsOf_0 (p := 18) (v := 1) rfl rfl rfl
theorem dX11_bitsOf_21 : decode cX11_bitsOf 21 = .ok (.goto (-17), 3) := zD167n whX11_bitsOf_0 (p := 21) (v := 17) rfl rfl rfl
theorem dX11_bitsOf_24 : decode cX11_bitsOf 24 = .ok (.iload_n 1, 1) := zD27 whX11_bitsOf_0 (p := 24) rfl
theorem dX11_bitsOf_25 : decode cX11_bitsOf 25 = .ok (.ireturn, 1) := zD172 whX11_bitsOf_0 (p := 25) rfl
def wlX11_quiet_0 : List Nat := [27, 133, 9, 20, 0, 232, 184, 0, 64, 153, 0, 15, 28, 133, 9, 20, 0, 165, 184, 0, 64, 154, 0, 7, 20, 0, 200, 173, 20, 0, 221, 66]
theorem whX11_quiet_0 : WLy cX11_quiet 0 wlX11_quiet_0 := by decide +kernel
theorem dX11_quiet_0 : decode cX11_quiet 0 = .ok (.iload_n 1, 1) := zD27 whX11_quiet_0 (p := 0) rfl
theorem dX11_quiet_1 : decode cX11_quiet 1 = .ok (.i2l, 1) := zD133 whX11_quiet_0 (p := 1) rfl
theorem dX11_quiet_2 : decode cX11_quiet 2 = .ok (.lconst 0, 1) := zD9 whX11_quiet_0 (p := 2) rfl
theorem dX11_quiet_3 : decode cX11_quiet 3 = .ok (.ldc2_w 232, 3) := zD20 whX11_quiet_0 (p := 3) rfl rfl
theorem dX11_quiet_6 : decode cX11_quiet 6 = .ok (.invokestatic 64, 3) := zD184 whX11_quiet_0 (p := 6) rfl rfl
theorem dX11_quiet_9 : decode cX11_quiet 9 = .ok (.ifCond .eq 15, 3) := zD153p whX11_quiet_0 (p := 9) (v := 15) rfl rfl rfl
theorem dX11_quiet_12 : decode cX11_quiet 12 = .ok (.iload_n 2, 1) := zD28 whX11_quiet_0 (p := 12) rfl
theorem dX11_quiet_13 : decode cX11_quiet 13 = .ok (.i2l, 1) := zD133 whX11_quiet_0 (p := 13) rfl
theorem dX11_quiet_14 : decode cX11_quiet 14 = .ok (.lconst 0, 1) := zD9 whX11_quiet_0 (p := 14) rfl
theorem dX11_quiet_15 : decode cX11_quiet 15 = .ok (.ldc2_w 165, 3) := zD20 whX11_quiet_0 (p := 15) rfl rfl
theorem dX11_quiet_18 : decode cX11_quiet 18 = .ok (.invokestatic 64, 3) := zD184 whX11_quiet_0 (p := 18) rfl rfl
theorem dX11_quiet_21 : decode cX11_quiet 21 = .ok (.ifCond .ne 7, 3) := zD154p whX11_quiet_0 (p := 21) (v := 7) rfl rfl rfl
theorem dX11_quiet_24 : decode cX11_quiet 24 = .ok (.ldc2_w 200, 3) := zD20 whX11_quiet_0 (p := 24) rfl rfl
theorem dX11_quiet_27 : decode cX11_quiet 27 = .ok (.lreturn, 1) := zD173 whX11_quiet_0 (p := 27) rfl
theorem dX11_quiet_28 : decode cX11_quiet 28 = .ok (.ldc2_w 221, 3) := zD20 whX11_quiet_0 (p := 28) rfl rfl
theorem dX11_quiet_31 : decode cX11_quiet 31 = .ok (.lstore_n 3, 1) := zD66 whX11_quiet_0 (p := 31) rfl
def wlX11_quiet_1 : List Nat := [3, 54, 5, 3, 54, 6, 21, 6, 4, 42, 180, 0, 146, 120, 162, 0, 76, 21, 6, 184, 0, 234, 27, 163, 0, 61, 42, 42, 180, 0, 146, 21, 6]
theorem whX11_quiet_1 : WLy cX11_quiet 32 wlX11_quiet_1 := by decide +kernel
theorem dX11_quiet_32 : decode cX11_quiet 32 = .ok (.iconst 0, 1) := zD3 whX11_quiet_1 (p := 0) rfl
theorem dX11_quiet_33 : decode cX11_quiet 33 = .ok (.istore 5, 2) := zD54 whX11_quiet_1 (p := 1) rfl
theorem dX11_quiet_35 : decode cX11_quiet 35 = .ok (.iconst 0, 1) := zD3 whX11_quiet_1 (p := 3) rfl
theorem dX11_quiet_36 : decode cX11_quiet 36 = .ok (.istore 6, 2) := zD54 whX11_quiet_1 (p := 4) rfl
theorem dX11_quiet_38 : decode cX11_quiet 38 = .ok (.iload 6, 2) := zD21 whX11_quiet_1 (p := 6) rfl
theorem dX11_quiet_40 : decode cX11_quiet 40 = .ok (.iconst 1, 1) := zD4 whX11_quiet_1 (p := 8) rfl
theorem dX11_quiet_41 : decode cX11_quiet 41 = .ok (.aload_n 0, 1) := zD42 whX11_quiet_1 (p := 9) rfl
theorem dX11_quiet_42 : decode cX11_quiet 42 = .ok (.getfield 146, 3) := zD180 whX11_quiet_1 (p := 10) rfl rfl
theorem dX11_quiet_45 : decode cX11_quiet 45 = .ok (.ishl, 1) := zD120 whX11_quiet_1 (p := 13) rfl
theorem dX11_quiet_46 : decode cX11_quiet 46 = .ok (.if_icmp .ge 76, 3) := zD162p whX11_quiet_1 (p := 14) (v := 76) rfl rfl rfl
theorem dX11_quiet_49 : decode cX11_quiet 49 = .ok (.iload 6, 2) := zD21 whX11_quiet_1 (p := 17) rfl
theorem dX11_quiet_51 : decode cX11_quiet 51 = .ok (.invokestatic 234, 3) := zD184 whX11_quiet_1 (p := 19) rfl rfl
theorem dX11_quiet_54 : decode cX11_quiet 54 = .ok (.iload_n 1, 1) := zD27 whX11_quiet_1 (p := 22) rfl
theorem dX11_quiet_55 : decode cX11_quiet 55 = .ok (.if_icmp .gt 61, 3) := zD163p whX11_quiet_1 (p := 23) (v := 61) rfl rfl rfl
theorem dX11_quiet_58 : decode cX11_quiet 58 = .ok (.aload_n 0, 1) := zD42 whX11_quiet_1 (p := 26) rfl
theorem dX11_quiet_59 : decode cX11_quiet 59 = .ok (.aload_n 0, 1) := zD42 whX11_quiet_1 (p := 27) rfl
theorem dX11_quiet_60 : decode cX11_quiet 60 = .ok (.getfield 146, 3) := zD180 whX11_quiet_1 (p := 28) rfl rfl
theorem dX11_quiet_63 : decode cX11_quiet 63 = .ok (.iload 6, 2) := zD21 whX11_quiet_1 (p := 31) rfl
def wlX11_quiet_2 : List Nat := [16, 252, 182, 0, 202, 42, 180, 0, 25, 3, 47, 33, 148, 155, 0, 27, 42, 180, 0, 25, 3, 47, 33, 148, 154, 0, 27, 21, 6, 184, 0, 234]
theorem whX11_quiet_2 : WLy cX11_quiet 65 wlX11_quiet_2 := by decide +kernel
theorem dX11_quiet_65 : decode cX11_quiet 65 = .ok (.bipush (-4), 2) := zD16n whX11_quiet_2 (p := 0) (v := 4) rfl rfl rfl
theorem dX11_quiet_67 : decode cX11_quiet 67 = .ok (.invokevirtual 202, 3) := zD182 whX11_quiet_2 (p := 2) rfl rfl
theorem dX11_quiet_70 : decode cX11_quiet 70 = .ok (.aload_n 0, 1) := zD42 whX11_quiet_2 (p := 5) rfl
theorem dX11_quiet_71 : decode cX11_quiet 71 = .ok (.getfield 25, 3) := zD180 whX11_quiet_2 (p := 6) rfl rfl
theorem dX11_quiet_74 : decode cX11_quiet 74 = .ok (.iconst 0, 1) := zD3 whX11_quiet_2 (p := 9) rfl
theorem dX11_quiet_75 : decode cX11_quiet 75 = .ok (.laload, 1) := zD47 whX11_quiet_2 (p := 10) rfl
theorem dX11_quiet_76 : decode cX11_quiet 76 = .ok (.lload_n 3, 1) := zD33 whX11_quiet_2 (p := 11) rfl
theorem dX11_quiet_77 : decode cX11_quiet 77 = .ok (.lcmp, 1) := zD148 whX11_quiet_2 (p := 12) rfl
theorem dX11_quiet_78 : decode cX11_quiet 78 = .ok (.ifCond .lt 27, 3) := zD155p whX11_quiet_2 (p := 13) (v := 27) rfl rfl rfl
theorem dX11_quiet_81 : decode cX11_quiet 81 = .ok (.aload_n 0, 1) := zD42 whX11_quiet_2 (p := 16) rfl
theorem dX11_quiet_82 : decode cX11_quiet 82 = .ok (.getfield 25, 3) := zD180 whX11_quiet_2 (p := 17) rfl rfl
theorem dX11_quiet_85 : decode cX11_quiet 85 = .ok (.iconst 0, 1) := zD3 whX11_quiet_2 (p := 20) rfl
theorem dX11_quiet_86 : decode cX11_quiet 86 = .ok (.laload, 1) := zD47 whX11_quiet_2 (p := 21) rfl
theorem dX11_quiet_87 : decode cX11_quiet 87 = .ok (.lload_n 3, 1) := zD33 whX11_quiet_2 (p := 22) rfl
theorem dX11_quiet_88 : decode cX11_quiet 88 = .ok (.lcmp, 1) := zD148 whX11_quiet_2 (p := 23) rfl
theorem dX11_quiet_89 : decode cX11_quiet 89 = .ok (.ifCond .ne 27, 3) := zD154p whX11_quiet_2 (p := 24) (v := 27) rfl rfl rfl
theorem dX11_quiet_92 : decode cX11_quiet 92 = .ok (.iload 6, 2) := zD21 whX11_quiet_2 (p := 27) rfl
theorem dX11_quiet_94 : decode cX11_quiet 94 = .ok (.invokestatic 234, 3) := zD184 whX11_quiet_2 (p := 29) rfl rfl
def wlX11_quiet_3 : List Nat := [21, 5, 184, 0, 234, 162, 0, 14, 42, 180, 0, 25, 3, 47, 66, 21, 6, 54, 5, 132, 6, 1, 167, 255, 175, 28, 5, 160, 0, 9, 21, 5]
theorem whX11_quiet_3 : WLy cX11_quiet 97 wlX11_quiet_3 := by decide +kernel
theorem dX11_quiet_97 : decode cX11_quiet 97 = .ok (.iload 5, 2) := zD21 whX11_quiet_3 (p := 0) rfl
theorem dX11_quiet_99 : decode cX11_quiet 99 = .ok (.invokestatic 234, 3) := zD184 whX11_quiet_3 (p := 2) rfl rfl
theorem dX11_quiet_102 : decode cX11_quiet 102 = .ok (.if_icmp .ge 14, 3) := zD162p whX11_quiet_3 (p := 5) (v := 14) rfl rfl rfl
theorem dX11_quiet_105 : decode cX11_quiet 105 = .ok (.aload_n 0, 1) := zD42 whX11_quiet_3 (p := 8) rfl
theorem dX11_quiet_106 : decode cX11_quiet 106 = .ok (.getfield 25, 3) := zD180 whX11_quiet_3 (p := 9) rfl rfl
theorem dX11_quiet_109 : decode cX11_quiet 109 = .ok (.iconst 0, 1) := zD3 whX11_quiet_3 (p := 12) rfl
theorem dX11_quiet_110 : decode cX11_quiet 110 = .ok (.laload, 1) := zD47 whX11_quiet_3 (p := 13) rfl
theorem dX11_quiet_111 : decode cX11_quiet 111 = .ok (.lstore_n 3, 1) := zD66 whX11_quiet_3 (p := 14) rfl
theorem dX11_quiet_112 : decode cX11_quiet 112 = .ok (.iload 6, 2) := zD21 whX11_quiet_3 (p := 15) rfl
theorem dX11_quiet_114 : decode cX11_quiet 114 = .ok (.istore 5, 2) := zD54 whX11_quiet_3 (p := 17) rfl
theorem dX11_quiet_116 : decode cX11_quiet 116 = .ok (.iinc 6 1, 3) := zD132p whX11_quiet_3 (p := 19) (v := 1) rfl rfl rfl
theorem dX11_quiet_119 : decode cX11_quiet 119 = .ok (.goto (-81), 3) := zD167n whX11_quiet_3 (p := 22) (v := 81) rfl rfl rfl
theorem dX11_quiet_122 : decode cX11_quiet 122 = .ok (.iload_n 2, 1) := zD28 whX11_quiet_3 (p := 25) rfl
theorem dX11_quiet_123 : decode cX11_quiet 123 = .ok (.iconst 2, 1) := zD5 whX11_quiet_3 (p := 26) rfl
theorem dX11_quiet_124 : decode cX11_quiet 124 = .ok (.if_icmp .ne 9, 3) := zD160p whX11_quiet_3 (p := 27) (v := 9) rfl rfl rfl
theorem dX11_quiet_127 : decode cX11_quiet 127 = .ok (.iload 5, 2) := zD21 whX11_quiet_3 (p := 30) rfl
def wlX11_quiet_4 : List Nat := [133, 167, 0, 15, 33, 42, 180, 0, 146, 184, 0, 206, 28, 184, 0, 210, 173]
theorem whX11_quiet_4 : WLy cX11_quiet 129 wlX11_quiet_4 := by decide +kernel
theorem dX11_quiet_129 : decode cX11_quiet 129 = .ok (.i2l, 1) := zD133 whX11_quiet_4 (p := 0) rfl
theorem dX11_quiet_130 : decode cX11_quiet 130 = .ok (.goto 15, 3) := zD167p whX11_quiet_4 (p := 1) (v := 15) rfl rfl rfl
theorem dX11_quiet_133 : decode cX11_quiet 133 = .ok (.lload_n 3, 1) := zD33 whX11_quiet_4 (p := 4) rfl
theorem dX11_quiet_134 : decode cX11_quiet 134 = .ok (.aload_n 0, 1) := zD42 whX11_quiet_4 (p := 5) rfl
theorem dX11_quiet_135 : decode cX11_quiet 135 = .ok (.getfield 146, 3) := zD180 whX11_quiet_4 (p := 6) rfl rfl
theorem dX11_quiet_138 : decode cX11_quiet 138 = .ok (.invokestatic 206, 3) := zD184 whX11_quiet_4 (p := 9) rfl rfl
theorem dX11_quiet_141 : decode cX11_quiet 141 = .ok (.iload_n 2, 1) := zD28 whX11_quiet_4 (p := 12) rfl
theorem dX11_quiet_142 : decode cX11_quiet 142 = .ok (.invokestatic 210, 3) := zD184 whX11_quiet_4 (p := 13) rfl rfl
theorem dX11_quiet_145 : decode cX11_quiet 145 = .ok (.lreturn, 1) := zD173 whX11_quiet_4 (p := 16) rfl
def wlX11_drop_0 : List Nat := [27, 133, 9, 20, 0, 165, 184, 0, 64, 154, 0, 7, 20, 0, 200, 173, 42, 180, 0, 146, 154, 0, 7, 20, 0, 230, 173, 20, 0, 221, 65, 3]
theorem whX11_drop_0 : WLy cX11_drop 0 wlX11_drop_0 := by decide +kernel
theorem dX11_drop_0 : decode cX11_drop 0 = .ok (.iload_n 1, 1) := zD27 whX11_drop_0 (p := 0) rfl
theorem dX11_drop_1 : decode cX11_drop 1 = .ok (.i2l, 1) := zD133 whX11_drop_0 (p := 1) rfl
theorem dX11_drop_2 : decode cX11_drop 2 = .ok (.lconst 0, 1) := zD9 whX11_drop_0 (p := 2) rfl
theorem dX11_drop_3 : decode cX11_drop 3 = .ok (.ldc2_w 165, 3) := zD20 whX11_drop_0 (p := 3) rfl rfl
theorem dX11_drop_6 : decode cX11_drop 6 = .ok (.invokestatic 64, 3) := zD184 whX11_drop_0 (p := 6) rfl rfl
theorem dX11_drop_9 : decode cX11_drop 9 = .ok (.ifCond .ne 7, 3) := zD154p whX11_drop_0 (p := 9) (v := 7) rfl rfl rfl
theorem dX11_drop_12 : decode cX11_drop 12 = .ok (.ldc2_w 200, 3) := zD20 whX11_drop_0 (p := 12) rfl rfl
theorem dX11_drop_15 : decode cX11_drop 15 = .ok (.lreturn, 1) := zD173 whX11_drop_0 (p := 15) rfl
theorem dX11_drop_16 : decode cX11_drop 16 = .ok (.aload_n 0, 1) := zD42 whX11_drop_0 (p := 16) rfl
theorem dX11_drop_17 : decode cX11_drop 17 = .ok (.getfield 146, 3) := zD180 whX11_drop_0 (p := 17) rfl rfl
theorem dX11_drop_20 : decode cX11_drop 20 = .ok (.ifCond .ne 7, 3) := zD154p whX11_drop_0 (p := 20) (v := 7) rfl rfl rfl
theorem dX11_drop_23 : decode cX11_drop 23 = .ok (.ldc2_w 230, 3) := zD20 whX11_drop_0 (p := 23) rfl rfl
theorem dX11_drop_26 : decode cX11_drop 26 = .ok (.lreturn, 1) := zD173 whX11_drop_0 (p := 26) rfl
theorem dX11_drop_27 : decode cX11_drop 27 = .ok (.ldc2_w 221, 3) := zD20 whX11_drop_0 (p := 27) rfl rfl
theorem dX11_drop_30 : decode cX11_drop 30 = .ok (.lstore_n 2, 1) := zD65 whX11_drop_0 (p := 30) rfl
theorem dX11_drop_31 : decode cX11_drop 31 = .ok (.iconst 0, 1) := zD3 whX11_drop_0 (p := 31) rfl
def wlX11_drop_1 : List Nat := [54, 4, 3, 54, 5, 21, 5, 42, 180, 0, 146, 162, 0, 62, 42, 42, 180, 0, 146, 3, 21, 5, 182, 0, 202, 42, 180, 0, 25, 3, 47, 32]
theorem whX11_drop_1 : WLy cX11_drop 32 wlX11_drop_1 := by decide +kernel
theorem dX11_drop_32 : decode cX11_drop 32 = .ok (.istore 4, 2) := zD54 whX11_drop_1 (p := 0) rfl
theorem dX11_drop_34 : decode cX11_drop 34 = .ok (.iconst 0, 1) := zD3 whX11_drop_1 (p := 2) rfl
theorem dX11_drop_35 : decode cX11_drop 35 = .ok (.istore 5, 2) := zD54 whX11_drop_1 (p := 3) rfl
theorem dX11_drop_37 : decode cX11_drop 37 = .ok (.iload 5, 2) := zD21 whX11_drop_1 (p := 5) rfl
theorem dX11_drop_39 : decode cX11_drop 39 = .ok (.aload_n 0, 1) := zD42 whX11_drop_1 (p := 7) rfl
theorem dX11_drop_40 : decode cX11_drop 40 = .ok (.getfield 146, 3) := zD180 whX11_drop_1 (p := 8) rfl rfl
theorem dX11_drop_43 : decode cX11_drop 43 = .ok (.if_icmp .ge 62, 3) := zD162p whX11_drop_1 (p := 11) (v := 62) rfl rfl rfl
theorem dX11_drop_46 : decode cX11_drop 46 = .ok (.aload_n 0, 1) := zD42 whX11_drop_1 (p := 14) rfl
theorem dX11_drop_47 : decode cX11_drop 47 = .ok (.aload_n 0, 1) := zD42 whX11_drop_1 (p := 15) rfl
theorem dX11_drop_48 : decode cX11_drop 48 = .ok (.getfield 146, 3) := zD180 whX11_drop_1 (p := 16) rfl rfl
theorem dX11_drop_51 : decode cX11_drop 51 = .ok (.iconst 0, 1) := zD3 whX11_drop_1 (p := 19) rfl
theorem dX11_drop_52 : decode cX11_drop 52 = .ok (.iload 5, 2) := zD21 whX11_drop_1 (p := 20) rfl
theorem dX11_drop_54 : decode cX11_drop 54 = .ok (.invokevirtual 202, 3) := zD182 whX11_drop_1 (p := 22) rfl rfl
theorem dX11_drop_57 : decode cX11_drop 57 = .ok (.aload_n 0, 1) := zD42 whX11_drop_1 (p := 25) rfl
theorem dX11_drop_58 : decode cX11_drop 58 = .ok (.getfield 25, 3) := zD180 whX11_drop_1 (p := 26) rfl rfl
theorem dX11_drop_61 : decode cX11_drop 61 = .ok (.iconst 0, 1) := zD3 whX11_drop_1 (p := 29) rfl
theorem dX11_drop_62 : decode cX11_drop 62 = .ok (.laload, 1) := zD47 whX11_drop_1 (p := 30) rfl
theorem dX11_drop_63 : decode cX11_drop 63 = .ok (.lload_n 2, 1) := zD32 whX11_drop_1 (p := 31) rfl
def wlX11_drop_2 : List Nat := [148, 156, 0, 8, 21, 5, 167, 0, 5, 21, 4, 54, 4, 42, 180, 0, 25, 3, 47, 32, 148, 156, 0, 12, 42, 180, 0, 25, 3, 47, 167, 0, 4]
theorem whX11_drop_2 : WLy cX11_drop 64 wlX11_drop_2 := by decide +kernel
theorem dX11_drop_64 : decode cX11_drop 64 = .ok (.lcmp, 1) := zD148 whX11_drop_2 (p := 0) rfl
theorem dX11_drop_65 : decode cX11_drop 65 = .ok (.ifCond .ge 8, 3) := zD156p whX11_drop_2 (p := 1) (v := 8) rfl rfl rfl
theorem dX11_drop_68 : decode cX11_drop 68 = .ok (.iload 5, 2) := zD21 whX11_drop_2 (p := 4) rfl
theorem dX11_drop_70 : decode cX11_drop 70 = .ok (.goto 5, 3) := zD167p whX11_drop_2 (p := 6) (v := 5) rfl rfl rfl
theorem dX11_drop_73 : decode cX11_drop 73 = .ok (.iload 4, 2) := zD21 whX11_drop_2 (p := 9) rfl
theorem dX11_drop_75 : decode cX11_drop 75 = .ok (.istore 4, 2) := zD54 whX11_drop_2 (p := 11) rfl
theorem dX11_drop_77 : decode cX11_drop 77 = .ok (.aload_n 0, 1) := zD42 whX11_drop_2 (p := 13) rfl
theorem dX11_drop_78 : decode cX11_drop 78 = .ok (.getfield 25, 3) := zD180 whX11_drop_2 (p := 14) rfl rfl
theorem dX11_drop_81 : decode cX11_drop 81 = .ok (.iconst 0, 1) := zD3 whX11_drop_2 (p := 17) rfl
theorem dX11_drop_82 : decode cX11_drop 82 = .ok (.laload, 1) := zD47 whX11_drop_2 (p := 18) rfl
theorem dX11_drop_83 : decode cX11_drop 83 = .ok (.lload_n 2, 1) := zD32 whX11_drop_2 (p := 19) rfl
theorem dX11_drop_84 : decode cX11_drop 84 = .ok (.lcmp, 1) := zD148 whX11_drop_2 (p := 20) rfl
theorem dX11_drop_85 : decode cX11_drop 85 = .ok (.ifCond .ge 12, 3) := zD156p whX11_drop_2 (p := 21) (v := 12) rfl rfl rfl
theorem dX11_drop_88 : decode cX11_drop 88 = .ok (.aload_n 0, 1) := zD42 whX11_drop_2 (p := 24) rfl
theorem dX11_drop_89 : decode cX11_drop 89 = .ok (.getfield 25, 3) := zD180 whX11_drop_2 (p := 25) rfl rfl
theorem dX11_drop_92 : decode cX11_drop 92 = .ok (.iconst 0, 1) := zD3 whX11_drop_2 (p := 28) rfl
theorem dX11_drop_93 : decode cX11_drop 93 = .ok (.laload, 1) := zD47 whX11_drop_2 (p := 29) rfl
theorem dX11_drop_94 : decode cX11_drop 94 = .ok (.goto 4, 3) := zD167p whX11_drop_2 (p := 30) (v := 4) rfl rfl rfl
def wlX11_drop_3 : List Nat := [32, 65, 132, 5, 1, 167, 255, 191, 27, 5, 160, 0, 9, 21, 4, 133, 167, 0, 15, 32, 42, 180, 0, 146, 184, 0, 206, 27, 184, 0, 210, 173]
theorem whX11_drop_3 : WLy cX11_drop 97 wlX11_drop_3 := by decide +kernel
theorem dX11_drop_97 : decode cX11_drop 97 = .ok (.lload_n 2, 1) := zD32 whX11_drop_3 (p := 0) rfl
theorem dX11_drop_98 : decode cX11_drop 98 = .ok (.lstore_n 2, 1) := zD65 whX11_drop_3 (p := 1) rfl
theorem dX11_drop_99 : decode cX11_drop 99 = .ok (.iinc 5 1, 3) := zD132p whX11_drop_3 (p := 2) (v := 1) rfl rfl rfl
theorem dX11_drop_102 : decode cX11_drop 102 = .ok (.goto (-65), 3) := zD167n whX11_drop_3 (p := 5) (v := 65) rfl rfl rfl
theorem dX11_drop_105 : decode cX11_drop 105 = .ok (.iload_n 1, 1) := zD27 whX11_drop_3 (p := 8) rfl
theorem dX11_drop_106 : decode cX11_drop 106 = .ok (.iconst 2, 1) := zD5 whX11_drop_3 (p := 9) rfl
theorem dX11_drop_107 : decode cX11_drop 107 = .ok (.if_icmp .ne 9, 3) := zD160p whX11_drop_3 (p := 10) (v := 9) rfl rfl rfl
theorem dX11_drop_110 : decode cX11_drop 110 = .ok (.iload 4, 2) := zD21 whX11_drop_3 (p := 13) rfl
theorem dX11_drop_112 : decode cX11_drop 112 = .ok (.i2l, 1) := zD133 whX11_drop_3 (p := 15) rfl
theorem dX11_drop_113 : decode cX11_drop 113 = .ok (.goto 15, 3) := zD167p whX11_drop_3 (p := 16) (v := 15) rfl rfl rfl
theorem dX11_drop_116 : decode cX11_drop 116 = .ok (.lload_n 2, 1) := zD32 whX11_drop_3 (p := 19) rfl
theorem dX11_drop_117 : decode cX11_drop 117 = .ok (.aload_n 0, 1) := zD42 whX11_drop_3 (p := 20) rfl
theorem dX11_drop_118 : decode cX11_drop 118 = .ok (.getfield 146, 3) := zD180 whX11_drop_3 (p := 21) rfl rfl
theorem dX11_drop_121 : decode cX11_drop 121 = .ok (.invokestatic 206, 3) := zD184 whX11_drop_3 (p := 24) rfl rfl
theorem dX11_drop_124 : decode cX11_drop 124 = .ok (.iload_n 1, 1) := zD27 whX11_drop_3 (p := 27) rfl
theorem dX11_drop_125 : decode cX11_drop 125 = .ok (.invokestatic 210, 3) := zD184 whX11_drop_3 (p := 28) rfl rfl
theorem dX11_drop_128 : decode cX11_drop 128 = .ok (.lreturn, 1) := zD173 whX11_drop_3 (p := 31) rfl
def wlX11_changes_0 : List Nat := [42, 180, 0, 7, 16, 38, 27, 96, 46, 62, 42, 180, 0, 7, 16, 38, 27, 96, 42, 180, 0, 7, 16, 38, 28, 96, 46, 79, 42, 180, 0, 7]
theorem whX11_changes_0 : WLy cX11_changes 0 wlX11_changes_0 := by decide +kernel
theorem dX11_changes_0 : decode cX11_changes 0 = .ok (.aload_n 0, 1) := zD42 whX11_changes_0 (p := 0) rfl
theorem dX11_changes_1 : decode cX11_changes 1 = .ok (.getfield 7, 3) := zD180 whX11_changes_0 (p := 1) rfl rfl
theorem dX11_changes_4 : decode cX11_changes 4 = .ok (.bipush 38, 2) := zD16p whX11_changes_0 (p := 4) (v := 38) rfl rfl rfl
theorem dX11_changes_6 : decode cX11_changes 6 = .ok (.iload_n 1, 1) := zD27 whX11_changes_0 (p := 6) rfl
theorem dX11_changes_7 : decode cX11_changes 7 = .ok (.iadd, 1) := zD96 whX11_changes_0 (p := 7) rfl
theorem dX11_changes_8 : decode cX11_changes 8 = .ok (.iaload, 1) := zD46 whX11_changes_0 (p := 8) rfl
theorem dX11_changes_9 : decode cX11_changes 9 = .ok (.istore_n 3, 1) := zD62 whX11_changes_0 (p := 9) rfl
theorem dX11_changes_10 : decode cX11_changes 10 = .ok (.aload_n 0, 1) := zD42 whX11_changes_0 (p := 10) rfl
theorem dX11_changes_11 : decode cX11_changes 11 = .ok (.getfield 7, 3) := zD180 whX11_changes_0 (p := 11) rfl rfl
theorem dX11_changes_14 : decode cX11_changes 14 = .ok (.bipush 38, 2) := zD16p whX11_changes_0 (p := 14) (v := 38) rfl rfl rfl
theorem dX11_changes_16 : decode cX11_changes 16 = .ok (.iload_n 1, 1) := zD27 whX11_changes_0 (p := 16) rfl
theorem dX11_changes_17 : decode cX11_changes 17 = .ok (.iadd, 1) := zD96 whX11_changes_0 (p := 17) rfl
theorem dX11_changes_18 : decode cX11_changes 18 = .ok (.aload_n 0, 1) := zD42 whX11_changes_0 (p := 18) rfl
theorem dX11_changes_19 : decode cX11_changes 19 = .ok (.getfield 7, 3) := zD180 whX11_changes_0 (p := 19) rfl rfl
theorem dX11_changes_22 : decode cX11_changes 22 = .ok (.bipush 38, 2) := zD16p whX11_changes_0 (p := 22) (v := 38) rfl rfl rfl
theorem dX11_changes_24 : decode cX11_changes 24 = .ok (.iload_n 2, 1) := zD28 whX11_changes_0 (p := 24) rfl
theorem dX11_changes_25 : decode cX11_changes 25 = .ok (.iadd, 1) := zD96 whX11_changes_0 (p := 25) rfl
theorem dX11_changes_26 : decode cX11_changes 26 = .ok (.iaload, 1) := zD46 whX11_changes_0 (p := 26) rfl
theorem dX11_changes_27 : decode cX11_changes 27 = .ok (.iastore, 1) := zD79 whX11_changes_0 (p := 27) rfl
theorem dX11_changes_28 : decode cX11_changes 28 = .ok (.aload_n 0, 1) := zD42 whX11_changes_0 (p := 28) rfl
theorem dX11_changes_29 : decode cX11_changes 29 = .ok (.getfield 7, 3) := zD180 whX11_changes_0 (p := 29) rfl rfl
def wlX11_changes_1 : List Nat := [16, 38, 28, 96, 29, 79, 177]
theorem whX11_changes_1 : WLy cX11_changes 32 wlX11_changes_1 := by decide +kernel
theorem dX11_changes_32 : decode cX11_changes 32 = .ok (.bipush 38, 2) := zD16p whX11_changes_1 (p := 0) (v := 38) rfl rfl rfl
theorem dX11_changes_34 : decode cX11_changes 34 = .ok (.iload_n 2, 1) := zD28 whX11_changes_1 (p := 2) rfl
theorem dX11_changes_35 : decode cX11_changes 35 = .ok (.iadd, 1) := zD96 whX11_changes_1 (p := 3) rfl
theorem dX11_changes_36 : decode cX11_changes 36 = .ok (.iload_n 3, 1) := zD29 whX11_changes_1 (p := 4) rfl
theorem dX11_changes_37 : decode cX11_changes 37 = .ok (.iastore, 1) := zD79 whX11_changes_1 (p := 5) rfl
theorem dX11_changes_38 : decode cX11_changes 38 = .ok (.return_, 1) := zD177 whX11_changes_1 (p := 6) rfl
def wlX11_swap_0 : List Nat := [27, 133, 9, 20, 0, 165, 184, 0, 64, 154, 0, 7, 20, 0, 200, 173, 42, 42, 180, 0, 146, 3, 16, 252, 182, 0, 202, 42, 180, 0, 25, 3]
theorem whX11_swap_0 : WLy cX11_swap 0 wlX11_swap_0 := by decide +kernel
theorem dX11_swap_0 : decode cX11_swap 0 = .ok (.iload_n 1, 1) := zD27 whX11_swap_0 (p := 0) rfl
theorem dX11_swap_1 : decode cX11_swap 1 = .ok (.i2l, 1) := zD133 whX11_swap_0 (p := 1) rfl
theorem dX11_swap_2 : decode cX11_swap 2 = .ok (.lconst 0, 1) := zD9 whX11_swap_0 (p := 2) rfl
theorem dX11_swap_3 : decode cX11_swap 3 = .ok (.ldc2_w 165, 3) := zD20 whX11_swap_0 (p := 3) rfl rfl
theorem dX11_swap_6 : decode cX11_swap 6 = .ok (.invokestatic 64, 3) := zD184 whX11_swap_0 (p := 6) rfl rfl
theorem dX11_swap_9 : decode cX11_swap 9 = .ok (.ifCond .ne 7, 3) := zD154p whX11_swap_0 (p := 9) (v := 7) rfl rfl rfl
theorem dX11_swap_12 : decode cX11_swap 12 = .ok (.ldc2_w 200, 3) := zD20 whX11_swap_0 (p := 12) rfl rfl
theorem dX11_swap_15 : decode cX11_swap 15 = .ok (.lreturn, 1) := zD173 whX11_swap_0 (p := 15) rfl
theorem dX11_swap_16 : decode cX11_swap 16 = .ok (.aload_n 0, 1) := zD42 whX11_swap_0 (p := 16) rfl
theorem dX11_swap_17 : decode cX11_swap 17 = .ok (.aload_n 0, 1) := zD42 whX11_swap_0 (p := 17) rfl
theorem dX11_swap_18 : decode cX11_swap 18 = .ok (.getfield 146, 3) := zD180 whX11_swap_0 (p := 18) rfl rfl
theorem dX11_swap_21 : decode cX11_swap 21 = .ok (.iconst 0, 1) := zD3 whX11_swap_0 (p := 21) rfl
theorem dX11_swap_22 : decode cX11_swap 22 = .ok (.bipush (-4), 2) := zD16n whX11_swap_0 (p := 22) (v := 4) rfl rfl rfl
theorem dX11_swap_24 : decode cX11_swap 24 = .ok (.invokevirtual 202, 3) := zD182 whX11_swap_0 (p := 24) rfl rfl
theorem dX11_swap_27 : decode cX11_swap 27 = .ok (.aload_n 0, 1) := zD42 whX11_swap_0 (p := 27) rfl
theorem dX11_swap_28 : decode cX11_swap 28 = .ok (.getfield 25, 3) := zD180 whX11_swap_0 (p := 28) rfl rfl
theorem dX11_swap_31 : decode cX11_swap 31 = .ok (.iconst 0, 1) := zD3 whX11_swap_0 (p := 31) rfl
def wlX11_swap_1 : List Nat := [47, 65, 16, 252, 54, 4, 3, 54, 5, 21, 5, 42, 180, 0, 146, 162, 0, 105, 21, 5, 4, 96, 54, 6, 21, 6, 42, 180, 0, 146, 162, 0, 84]
theorem whX11_swap_1 : WLy cX11_swap 32 wlX11_swap_1 := by decide +kernel
theorem dX11_swap_32 : decode cX11_swap 32 = .ok (.laload, 1) := zD47 whX11_swap_1 (p := 0) rfl
theorem dX11_swap_33 : decode cX11_swap 33 = .ok (.lstore_n 2, 1) := zD65 whX11_swap_1 (p := 1) rfl
theorem dX11_swap_34 : decode cX11_swap 34 = .ok (.bipush (-4), 2) := zD16n whX11_swap_1 (p := 2) (v := 4) rfl rfl rfl
theorem dX11_swap_36 : decode cX11_swap 36 = .ok (.istore 4, 2) := zD54 whX11_swap_1 (p := 4) rfl
theorem dX11_swap_38 : decode cX11_swap 38 = .ok (.iconst 0, 1) := zD3 whX11_swap_1 (p := 6) rfl
theorem dX11_swap_39 : decode cX11_swap 39 = .ok (.istore 5, 2) := zD54 whX11_swap_1 (p := 7) rfl
theorem dX11_swap_41 : decode cX11_swap 41 = .ok (.iload 5, 2) := zD21 whX11_swap_1 (p := 9) rfl
theorem dX11_swap_43 : decode cX11_swap 43 = .ok (.aload_n 0, 1) := zD42 whX11_swap_1 (p := 11) rfl
theorem dX11_swap_44 : decode cX11_swap 44 = .ok (.getfield 146, 3) := zD180 whX11_swap_1 (p := 12) rfl rfl
theorem dX11_swap_47 : decode cX11_swap 47 = .ok (.if_icmp .ge 105, 3) := zD162p whX11_swap_1 (p := 15) (v := 105) rfl rfl rfl
theorem dX11_swap_50 : decode cX11_swap 50 = .ok (.iload 5, 2) := zD21 whX11_swap_1 (p := 18) rfl
theorem dX11_swap_52 : decode cX11_swap 52 = .ok (.iconst 1, 1) := zD4 whX11_swap_1 (p := 20) rfl
theorem dX11_swap_53 : decode cX11_swap 53 = .ok (.iadd, 1) := zD96 whX11_swap_1 (p := 21) rfl
theorem dX11_swap_54 : decode cX11_swap 54 = .ok (.istore 6, 2) := zD54 whX11_swap_1 (p := 22) rfl
theorem dX11_swap_56 : decode cX11_swap 56 = .ok (.iload 6, 2) := zD21 whX11_swap_1 (p := 24) rfl
theorem dX11_swap_58 : decode cX11_swap 58 = .ok (.aload_n 0, 1) := zD42 whX11_swap_1 (p := 26) rfl
theorem dX11_swap_59 : decode cX11_swap 59 = .ok (.getfield 146, 3) := zD180 whX11_swap_1 (p := 27) rfl rfl
theorem dX11_swap_62 : decode cX11_swap 62 = .ok (.if_icmp .ge 84, 3) := zD162p whX11_swap_1 (p := 30) (v := 84) rfl rfl rfl
def wlX11_swap_2 : List Nat := [42, 21, 5, 21, 6, 182, 0, 237, 42, 42, 180, 0, 146, 3, 16, 252, 182, 0, 202, 42, 21, 5, 21, 6, 182, 0, 237, 42, 180, 0, 25, 3]
theorem whX11_swap_2 : WLy cX11_swap 65 wlX11_swap_2 := by decide +kernel
theorem dX11_swap_65 : decode cX11_swap 65 = .ok (.aload_n 0, 1) := zD42 whX11_swap_2 (p := 0) rfl
theorem dX11_swap_66 : decode cX11_swap 66 = .ok (.iload 5, 2) := zD21 whX11_swap_2 (p := 1) rfl
theorem dX11_swap_68 : decode cX11_swap 68 = .ok (.iload 6, 2) := zD21 whX11_swap_2 (p := 3) rfl
theorem dX11_swap_70 : decode cX11_swap 70 = .ok (.invokevirtual 237, 3) := zD182 whX11_swap_2 (p := 5) rfl rfl
theorem dX11_swap_73 : decode cX11_swap 73 = .ok (.aload_n 0, 1) := zD42 whX11_swap_2 (p := 8) rfl
theorem dX11_swap_74 : decode cX11_swap 74 = .ok (.aload_n 0, 1) := zD42 whX11_swap_2 (p := 9) rfl
theorem dX11_swap_75 : decode cX11_swap 75 = .ok (.getfield 146, 3) := zD180 whX11_swap_2 (p := 10) rfl rfl
theorem dX11_swap_78 : decode cX11_swap 78 = .ok (.iconst 0, 1) := zD3 whX11_swap_2 (p := 13) rfl
theorem dX11_swap_79 : decode cX11_swap 79 = .ok (.bipush (-4), 2) := zD16n whX11_swap_2 (p := 14) (v := 4) rfl rfl rfl
theorem dX11_swap_81 : decode cX11_swap 81 = .ok (.invokevirtual 202, 3) := zD182 whX11_swap_2 (p := 16) rfl rfl
theorem dX11_swap_84 : decode cX11_swap 84 = .ok (.aload_n 0, 1) := zD42 whX11_swap_2 (p := 19) rfl
theorem dX11_swap_85 : decode cX11_swap 85 = .ok (.iload 5, 2) := zD21 whX11_swap_2 (p := 20) rfl
theorem dX11_swap_87 : decode cX11_swap 87 = .ok (.iload 6, 2) := zD21 whX11_swap_2 (p := 22) rfl
theorem dX11_swap_89 : decode cX11_swap 89 = .ok (.invokevirtual 237, 3) := zD182 whX11_swap_2 (p := 24) rfl rfl
theorem dX11_swap_92 : decode cX11_swap 92 = .ok (.aload_n 0, 1) := zD42 whX11_swap_2 (p := 27) rfl
theorem dX11_swap_93 : decode cX11_swap 93 = .ok (.getfield 25, 3) := zD180 whX11_swap_2 (p := 28) rfl rfl
theorem dX11_swap_96 : decode cX11_swap 96 = .ok (.iconst 0, 1) := zD3 whX11_swap_2 (p := 31) rfl
def wlX11_swap_3 : List Nat := [47, 32, 148, 156, 0, 14, 16, 10, 21, 5, 104, 21, 6, 96, 167, 0, 5, 21, 4, 54, 4, 42, 180, 0, 25, 3, 47, 32, 148, 156, 0, 12]
theorem whX11_swap_3 : WLy cX11_swap 97 wlX11_swap_3 := by decide +kernel
theorem dX11_swap_97 : decode cX11_swap 97 = .ok (.laload, 1) := zD47 whX11_swap_3 (p := 0) rfl
theorem dX11_swap_98 : decode cX11_swap 98 = .ok (.lload_n 2, 1) := zD32 whX11_swap_3 (p := 1) rfl
theorem dX11_swap_99 : decode cX11_swap 99 = .ok (.lcmp, 1) := zD148 whX11_swap_3 (p := 2) rfl
theorem dX11_swap_100 : decode cX11_swap 100 = .ok (.ifCond .ge 14, 3) := zD156p whX11_swap_3 (p := 3) (v := 14) rfl rfl rfl
theorem dX11_swap_103 : decode cX11_swap 103 = .ok (.bipush 10, 2) := zD16p whX11_swap_3 (p := 6) (v := 10) rfl rfl rfl
theorem dX11_swap_105 : decode cX11_swap 105 = .ok (.iload 5, 2) := zD21 whX11_swap_3 (p := 8) rfl
theorem dX11_swap_107 : decode cX11_swap 107 = .ok (.imul, 1) := zD104 whX11_swap_3 (p := 10) rfl
theorem dX11_swap_108 : decode cX11_swap 108 = .ok (.iload 6, 2) := zD21 whX11_swap_3 (p := 11) rfl
theorem dX11_swap_110 : decode cX11_swap 110 = .ok (.iadd, 1) := zD96 whX11_swap_3 (p := 13) rfl
theorem dX11_swap_111 : decode cX11_swap 111 = .ok (.goto 5, 3) := zD167p whX11_swap_3 (p := 14) (v := 5) rfl rfl rfl
theorem dX11_swap_114 : decode cX11_swap 114 = .ok (.iload 4, 2) := zD21 whX11_swap_3 (p := 17) rfl
theorem dX11_swap_116 : decode cX11_swap 116 = .ok (.istore 4, 2) := zD54 whX11_swap_3 (p := 19) rfl
theorem dX11_swap_118 : decode cX11_swap 118 = .ok (.aload_n 0, 1) := zD42 whX11_swap_3 (p := 21) rfl
theorem dX11_swap_119 : decode cX11_swap 119 = .ok (.getfield 25, 3) := zD180 whX11_swap_3 (p := 22) rfl rfl
theorem dX11_swap_122 : decode cX11_swap 122 = .ok (.iconst 0, 1) := zD3 whX11_swap_3 (p := 25) rfl
theorem dX11_swap_123 : decode cX11_swap 123 = .ok (.laload, 1) := zD47 whX11_swap_3 (p := 26) rfl
theorem dX11_swap_124 : decode cX11_swap 124 = .ok (.lload_n 2, 1) := zD32 whX11_swap_3 (p := 27) rfl
theorem dX11_swap_125 : decode cX11_swap 125 = .ok (.lcmp, 1) := zD148 whX11_swap_3 (p := 28) rfl
theorem dX11_swap_126 : decode cX11_swap 126 = .ok (.ifCond .ge 12, 3) := zD156p whX11_swap_3 (p := 29) (v := 12) rfl rfl rfl
def wlX11_swap_4 : List Nat := [42, 180, 0, 25, 3, 47, 167, 0, 4, 32, 65, 132, 6, 1, 167, 255, 169, 132, 5, 1, 167, 255, 148, 21, 4, 16, 252, 159, 0, 8, 27, 5]
theorem whX11_swap_4 : WLy cX11_swap 129 wlX11_swap_4 := by decide +kernel
theorem dX11_swap_129 : decode cX11_swap 129 = .ok (.aload_n 0, 1) := zD42 whX11_swap_4 (p := 0) rfl
theorem dX11_swap_130 : decode cX11_swap 130 = .ok (.getfield 25, 3) := zD180 whX11_swap_4 (p := 1) rfl rfl
theorem dX11_swap_133 : decode cX11_swap 133 = .ok (.iconst 0, 1) := zD3 whX11_swap_4 (p := 4) rfl
theorem dX11_swap_134 : decode cX11_swap 134 = .ok (.laload, 1) := zD47 whX11_swap_4 (p := 5) rfl
theorem dX11_swap_135 : decode cX11_swap 135 = .ok (.goto 4, 3) := zD167p whX11_swap_4 (p := 6) (v := 4) rfl rfl rfl
theorem dX11_swap_138 : decode cX11_swap 138 = .ok (.lload_n 2, 1) := zD32 whX11_swap_4 (p := 9) rfl
theorem dX11_swap_139 : decode cX11_swap 139 = .ok (.lstore_n 2, 1) := zD65 whX11_swap_4 (p := 10) rfl
theorem dX11_swap_140 : decode cX11_swap 140 = .ok (.iinc 6 1, 3) := zD132p whX11_swap_4 (p := 11) (v := 1) rfl rfl rfl
theorem dX11_swap_143 : decode cX11_swap 143 = .ok (.goto (-87), 3) := zD167n whX11_swap_4 (p := 14) (v := 87) rfl rfl rfl
theorem dX11_swap_146 : decode cX11_swap 146 = .ok (.iinc 5 1, 3) := zD132p whX11_swap_4 (p := 17) (v := 1) rfl rfl rfl
theorem dX11_swap_149 : decode cX11_swap 149 = .ok (.goto (-108), 3) := zD167n whX11_swap_4 (p := 20) (v := 108) rfl rfl rfl
theorem dX11_swap_152 : decode cX11_swap 152 = .ok (.iload 4, 2) := zD21 whX11_swap_4 (p := 23) rfl
theorem dX11_swap_154 : decode cX11_swap 154 = .ok (.bipush (-4), 2) := zD16n whX11_swap_4 (p := 25) (v := 4) rfl rfl rfl
theorem dX11_swap_156 : decode cX11_swap 156 = .ok (.if_icmp .eq 8, 3) := zD159p whX11_swap_4 (p := 27) (v := 8) rfl rfl rfl
theorem dX11_swap_159 : decode cX11_swap 159 = .ok (.iload_n 1, 1) := zD27 whX11_swap_4 (p := 30) rfl
theorem dX11_swap_160 : decode cX11_swap 160 = .ok (.iconst 2, 1) := zD5 whX11_swap_4 (p := 31) rfl
def wlX11_swap_5 : List Nat := [160, 0, 9, 21, 4, 133, 167, 0, 15, 32, 42, 180, 0, 146, 184, 0, 206, 27, 184, 0, 210, 173]
theorem whX11_swap_5 : WLy cX11_swap 161 wlX11_swap_5 := by decide +kernel
theorem dX11_swap_161 : decode cX11_swap 161 = .ok (.if_icmp .ne 9, 3) := zD160p whX11_swap_5 (p := 0) (v := 9) rfl rfl rfl
theorem dX11_swap_164 : decode cX11_swap 164 = .ok (.iload 4, 2) := zD21 whX11_swap_5 (p := 3) rfl
theorem dX11_swap_166 : decode cX11_swap 166 = .ok (.i2l, 1) := zD133 whX11_swap_5 (p := 5) rfl
theorem dX11_swap_167 : decode cX11_swap 167 = .ok (.goto 15, 3) := zD167p whX11_swap_5 (p := 6) (v := 15) rfl rfl rfl
theorem dX11_swap_170 : decode cX11_swap 170 = .ok (.lload_n 2, 1) := zD32 whX11_swap_5 (p := 9) rfl
theorem dX11_swap_171 : decode cX11_swap 171 = .ok (.aload_n 0, 1) := zD42 whX11_swap_5 (p := 10) rfl
theorem dX11_swap_172 : decode cX11_swap 172 = .ok (.getfield 146, 3) := zD180 whX11_swap_5 (p := 11) rfl rfl
theorem dX11_swap_175 : decode cX11_swap 175 = .ok (.invokestatic 206, 3) := zD184 whX11_swap_5 (p := 14) rfl rfl
theorem dX11_swap_178 : decode cX11_swap 178 = .ok (.iload_n 1, 1) := zD27 whX11_swap_5 (p := 17) rfl
theorem dX11_swap_179 : decode cX11_swap 179 = .ok (.invokestatic 210, 3) := zD184 whX11_swap_5 (p := 18) rfl rfl
theorem dX11_swap_182 : decode cX11_swap 182 = .ok (.lreturn, 1) := zD173 whX11_swap_5 (p := 21) rfl
def wlX11_carry_0 : List Nat := [28, 133, 9, 20, 0, 165, 184, 0, 64, 154, 0, 5, 2, 172, 27, 62, 42, 182, 0, 158, 54, 4, 3, 54, 5, 16, 252, 54, 6, 3, 54, 7]
theorem whX11_carry_0 : WLy cX11_carry 0 wlX11_carry_0 := by decide +kernel
theorem dX11_carry_0 : decode cX11_carry 0 = .ok (.iload_n 2, 1) := zD28 whX11_carry_0 (p := 0) rfl
theorem dX11_carry_1 : decode cX11_carry 1 = .ok (.i2l, 1) := zD133 whX11_carry_0 (p := 1) rfl
theorem dX11_carry_2 : decode cX11_carry 2 = .ok (.lconst 0, 1) := zD9 whX11_carry_0 (p := 2) rfl
theorem dX11_carry_3 : decode cX11_carry 3 = .ok (.ldc2_w 165, 3) := zD20 whX11_carry_0 (p := 3) rfl rfl
theorem dX11_carry_6 : decode cX11_carry 6 = .ok (.invokestatic 64, 3) := zD184 whX11_carry_0 (p := 6) rfl rfl
theorem dX11_carry_9 : decode cX11_carry 9 = .ok (.ifCond .ne 5, 3) := zD154p whX11_carry_0 (p := 9) (v := 5) rfl rfl rfl
theorem dX11_carry_12 : decode cX11_carry 12 = .ok (.iconst (-1), 1) := zD2 whX11_carry_0 (p := 12) rfl
theorem dX11_carry_13 : decode cX11_carry 13 = .ok (.ireturn, 1) := zD172 whX11_carry_0 (p := 13) rfl
theorem dX11_carry_14 : decode cX11_carry 14 = .ok (.iload_n 1, 1) := zD27 whX11_carry_0 (p := 14) rfl
theorem dX11_carry_15 : decode cX11_carry 15 = .ok (.istore_n 3, 1) := zD62 whX11_carry_0 (p := 15) rfl
theorem dX11_carry_16 : decode cX11_carry 16 = .ok (.aload_n 0, 1) := zD42 whX11_carry_0 (p := 16) rfl
theorem dX11_carry_17 : decode cX11_carry 17 = .ok (.invokevirtual 158, 3) := zD182 whX11_carry_0 (p := 17) rfl rfl
theorem dX11_carry_20 : decode cX11_carry 20 = .ok (.istore 4, 2) := zD54 whX11_carry_0 (p := 20) rfl
theorem dX11_carry_22 : decode cX11_carry 22 = .ok (.iconst 0, 1) := zD3 whX11_carry_0 (p := 22) rfl
theorem dX11_carry_23 : decode cX11_carry 23 = .ok (.istore 5, 2) := zD54 whX11_carry_0 (p := 23) rfl
theorem dX11_carry_25 : decode cX11_carry 25 = .ok (.bipush (-4), 2) := zD16n whX11_carry_0 (p := 25) (v := 4) rfl rfl rfl
theorem dX11_carry_27 : decode cX11_carry 27 = .ok (.istore 6, 2) := zD54 whX11_carry_0 (p := 27) rfl
theorem dX11_carry_29 : decode cX11_carry 29 = .ok (.iconst 0, 1) := zD3 whX11_carry_0 (p := 29) rfl
theorem dX11_carry_30 : decode cX11_carry 30 = .ok (.istore 7, 2) := zD54 whX11_carry_0 (p := 30) rfl
def wlX11_carry_1 : List Nat := [21, 7, 42, 180, 0, 146, 162, 0, 100, 21, 4, 158, 0, 95, 29, 18, 241, 104, 17, 48, 57, 96, 62, 29, 16, 16, 122, 17, 127, 255, 126, 16, 20]
theorem whX11_carry_1 : WLy cX11_carry 32 wlX11_carry_1 := by decide +kernel
theorem dX11_carry_32 : decode cX11_carry 32 = .ok (.iload 7, 2) := zD21 whX11_carry_1 (p := 0) rfl
theorem dX11_carry_34 : decode cX11_carry 34 = .ok (.aload_n 0, 1) := zD42 whX11_carry_1 (p := 2) rfl
theorem dX11_carry_35 : decode cX11_carry 35 = .ok (.getfield 146, 3) := zD180 whX11_carry_1 (p := 3) rfl rfl
theorem dX11_carry_38 : decode cX11_carry 38 = .ok (.if_icmp .ge 100, 3) := zD162p whX11_carry_1 (p := 6) (v := 100) rfl rfl rfl
theorem dX11_carry_41 : decode cX11_carry 41 = .ok (.iload 4, 2) := zD21 whX11_carry_1 (p := 9) rfl
theorem dX11_carry_43 : decode cX11_carry 43 = .ok (.ifCond .le 95, 3) := zD158p whX11_carry_1 (p := 11) (v := 95) rfl rfl rfl
theorem dX11_carry_46 : decode cX11_carry 46 = .ok (.iload_n 3, 1) := zD29 whX11_carry_1 (p := 14) rfl
theorem dX11_carry_47 : decode cX11_carry 47 = .ok (.ldc 241, 2) := zD18 whX11_carry_1 (p := 15) rfl
theorem dX11_carry_49 : decode cX11_carry 49 = .ok (.imul, 1) := zD104 whX11_carry_1 (p := 17) rfl
theorem dX11_carry_50 : decode cX11_carry 50 = .ok (.sipush 12345, 3) := zD17p whX11_carry_1 (p := 18) (v := 12345) rfl rfl rfl
theorem dX11_carry_53 : decode cX11_carry 53 = .ok (.iadd, 1) := zD96 whX11_carry_1 (p := 21) rfl
theorem dX11_carry_54 : decode cX11_carry 54 = .ok (.istore_n 3, 1) := zD62 whX11_carry_1 (p := 22) rfl
theorem dX11_carry_55 : decode cX11_carry 55 = .ok (.iload_n 3, 1) := zD29 whX11_carry_1 (p := 23) rfl
theorem dX11_carry_56 : decode cX11_carry 56 = .ok (.bipush 16, 2) := zD16p whX11_carry_1 (p := 24) (v := 16) rfl rfl rfl
theorem dX11_carry_58 : decode cX11_carry 58 = .ok (.ishr, 1) := zD122 whX11_carry_1 (p := 26) rfl
theorem dX11_carry_59 : decode cX11_carry 59 = .ok (.sipush 32767, 3) := zD17p whX11_carry_1 (p := 27) (v := 32767) rfl rfl rfl
theorem dX11_carry_62 : decode cX11_carry 62 = .ok (.iand, 1) := zD126 whX11_carry_1 (p := 30) rfl
theorem dX11_carry_63 : decode cX11_carry 63 = .ok (.bipush 20, 2) := zD16p whX11_carry_1 (p := 31) (v := 20) rfl rfl rfl
def wlX11_carry_2 : List Nat := [112, 42, 21, 7, 3, 182, 0, 193, 162, 0, 7, 4, 167, 0, 4, 3, 54, 8, 21, 8, 153, 0, 10, 21, 4, 4, 100, 167, 0, 9, 21, 4]
theorem whX11_carry_2 : WLy cX11_carry 65 wlX11_carry_2 := by decide +kernel
theorem dX11_carry_65 : decode cX11_carry 65 = .ok (.irem, 1) := zD112 whX11_carry_2 (p := 0) rfl
theorem dX11_carry_66 : decode cX11_carry 66 = .ok (.aload_n 0, 1) := zD42 whX11_carry_2 (p := 1) rfl
theorem dX11_carry_67 : decode cX11_carry 67 = .ok (.iload 7, 2) := zD21 whX11_carry_2 (p := 2) rfl
theorem dX11_carry_69 : decode cX11_carry 69 = .ok (.iconst 0, 1) := zD3 whX11_carry_2 (p := 4) rfl
theorem dX11_carry_70 : decode cX11_carry 70 = .ok (.invokevirtual 193, 3) := zD182 whX11_carry_2 (p := 5) rfl rfl
theorem dX11_carry_73 : decode cX11_carry 73 = .ok (.if_icmp .ge 7, 3) := zD162p whX11_carry_2 (p := 8) (v := 7) rfl rfl rfl
theorem dX11_carry_76 : decode cX11_carry 76 = .ok (.iconst 1, 1) := zD4 whX11_carry_2 (p := 11) rfl
theorem dX11_carry_77 : decode cX11_carry 77 = .ok (.goto 4, 3) := zD167p whX11_carry_2 (p := 12) (v := 4) rfl rfl rfl
theorem dX11_carry_80 : decode cX11_carry 80 = .ok (.iconst 0, 1) := zD3 whX11_carry_2 (p := 15) rfl
theorem dX11_carry_81 : decode cX11_carry 81 = .ok (.istore 8, 2) := zD54 whX11_carry_2 (p := 16) rfl
theorem dX11_carry_83 : decode cX11_carry 83 = .ok (.iload 8, 2) := zD21 whX11_carry_2 (p := 18) rfl
theorem dX11_carry_85 : decode cX11_carry 85 = .ok (.ifCond .eq 10, 3) := zD153p whX11_carry_2 (p := 20) (v := 10) rfl rfl rfl
theorem dX11_carry_88 : decode cX11_carry 88 = .ok (.iload 4, 2) := zD21 whX11_carry_2 (p := 23) rfl
theorem dX11_carry_90 : decode cX11_carry 90 = .ok (.iconst 1, 1) := zD4 whX11_carry_2 (p := 25) rfl
theorem dX11_carry_91 : decode cX11_carry 91 = .ok (.isub, 1) := zD100 whX11_carry_2 (p := 26) rfl
theorem dX11_carry_92 : decode cX11_carry 92 = .ok (.goto 9, 3) := zD167p whX11_carry_2 (p := 27) (v := 9) rfl rfl rfl
theorem dX11_carry_95 : decode cX11_carry 95 = .ok (.iload 4, 2) := zD21 whX11_carry_2 (p := 30) rfl
def wlX11_carry_3 : List Nat := [4, 184, 0, 197, 54, 4, 21, 5, 21, 8, 153, 0, 7, 4, 167, 0, 4, 3, 96, 54, 5, 21, 4, 154, 0, 8, 21, 7, 167, 0, 5, 21, 6]
theorem whX11_carry_3 : WLy cX11_carry 97 wlX11_carry_3 := by decide +kernel
theorem dX11_carry_97 : decode cX11_carry 97 = .ok (.iconst 1, 1) := zD4 whX11_carry_3 (p := 0) rfl
theorem dX11_carry_98 : decode cX11_carry 98 = .ok (.invokestatic 197, 3) := zD184 whX11_carry_3 (p := 1) rfl rfl
theorem dX11_carry_101 : decode cX11_carry 101 = .ok (.istore 4, 2) := zD54 whX11_carry_3 (p := 4) rfl
theorem dX11_carry_103 : decode cX11_carry 103 = .ok (.iload 5, 2) := zD21 whX11_carry_3 (p := 6) rfl
theorem dX11_carry_105 : decode cX11_carry 105 = .ok (.iload 8, 2) := zD21 whX11_carry_3 (p := 8) rfl
theorem dX11_carry_107 : decode cX11_carry 107 = .ok (.ifCond .eq 7, 3) := zD153p whX11_carry_3 (p := 10) (v := 7) rfl rfl rfl
theorem dX11_carry_110 : decode cX11_carry 110 = .ok (.iconst 1, 1) := zD4 whX11_carry_3 (p := 13) rfl
theorem dX11_carry_111 : decode cX11_carry 111 = .ok (.goto 4, 3) := zD167p whX11_carry_3 (p := 14) (v := 4) rfl rfl rfl
theorem dX11_carry_114 : decode cX11_carry 114 = .ok (.iconst 0, 1) := zD3 whX11_carry_3 (p := 17) rfl
theorem dX11_carry_115 : decode cX11_carry 115 = .ok (.iadd, 1) := zD96 whX11_carry_3 (p := 18) rfl
theorem dX11_carry_116 : decode cX11_carry 116 = .ok (.istore 5, 2) := zD54 whX11_carry_3 (p := 19) rfl
theorem dX11_carry_118 : decode cX11_carry 118 = .ok (.iload 4, 2) := zD21 whX11_carry_3 (p := 21) rfl
theorem dX11_carry_120 : decode cX11_carry 120 = .ok (.ifCond .ne 8, 3) := zD154p whX11_carry_3 (p := 23) (v := 8) rfl rfl rfl
theorem dX11_carry_123 : decode cX11_carry 123 = .ok (.iload 7, 2) := zD21 whX11_carry_3 (p := 26) rfl
theorem dX11_carry_125 : decode cX11_carry 125 = .ok (.goto 5, 3) := zD167p whX11_carry_3 (p := 28) (v := 5) rfl rfl rfl
theorem dX11_carry_128 : decode cX11_carry 128 = .ok (.iload 6, 2) := zD21 whX11_carry_3 (p := 31) rfl
def wlX11_carry_4 : List Nat := [54, 6, 132, 7, 1, 167, 255, 153, 28, 154, 0, 8, 21, 4, 167, 0, 15, 28, 4, 160, 0, 8, 21, 5, 167, 0, 5, 21, 6, 172]
theorem whX11_carry_4 : WLy cX11_carry 130 wlX11_carry_4 := by decide +kernel
theorem dX11_carry_130 : decode cX11_carry 130 = .ok (.istore 6, 2) := zD54 whX11_carry_4 (p := 0) rfl
theorem dX11_carry_132 : decode cX11_carry 132 = .ok (.iinc 7 1, 3) := zD132p whX11_carry_4 (p := 2) (v := 1) rfl rfl rfl
theorem dX11_carry_135 : decode cX11_carry 135 = .ok (.goto (-103), 3) := zD167n whX11_carry_4 (p := 5) (v := 103) rfl rfl rfl
theorem dX11_carry_138 : decode cX11_carry 138 = .ok (.iload_n 2, 1) := zD28 whX11_carry_4 (p := 8) rfl
theorem dX11_carry_139 : decode cX11_carry 139 = .ok (.ifCond .ne 8, 3) := zD154p whX11_carry_4 (p := 9) (v := 8) rfl rfl rfl
theorem dX11_carry_142 : decode cX11_carry 142 = .ok (.iload 4, 2) := zD21 whX11_carry_4 (p := 12) rfl
theorem dX11_carry_144 : decode cX11_carry 144 = .ok (.goto 15, 3) := zD167p whX11_carry_4 (p := 14) (v := 15) rfl rfl rfl
theorem dX11_carry_147 : decode cX11_carry 147 = .ok (.iload_n 2, 1) := zD28 whX11_carry_4 (p := 17) rfl
theorem dX11_carry_148 : decode cX11_carry 148 = .ok (.iconst 1, 1) := zD4 whX11_carry_4 (p := 18) rfl
theorem dX11_carry_149 : decode cX11_carry 149 = .ok (.if_icmp .ne 8, 3) := zD160p whX11_carry_4 (p := 19) (v := 8) rfl rfl rfl
theorem dX11_carry_152 : decode cX11_carry 152 = .ok (.iload 5, 2) := zD21 whX11_carry_4 (p := 22) rfl
theorem dX11_carry_154 : decode cX11_carry 154 = .ok (.goto 5, 3) := zD167p whX11_carry_4 (p := 24) (v := 5) rfl rfl rfl
theorem dX11_carry_157 : decode cX11_carry 157 = .ok (.iload 6, 2) := zD21 whX11_carry_4 (p := 27) rfl
theorem dX11_carry_159 : decode cX11_carry 159 = .ok (.ireturn, 1) := zD172 whX11_carry_4 (p := 29) rfl
def wlX11_learn_0 : List Nat := [42, 27, 28, 29, 182, 0, 183, 153, 0, 16, 21, 4, 133, 9, 20, 0, 191, 184, 0, 64, 154, 0, 5, 2, 172, 42, 180, 0, 152, 16, 8, 160, 0, 6]
theorem whX11_learn_0 : WLy cX11_learn 0 wlX11_learn_0 := by decide +kernel
theorem dX11_learn_0 : decode cX11_learn 0 = .ok (.aload_n 0, 1) := zD42 whX11_learn_0 (p := 0) rfl
theorem dX11_learn_1 : decode cX11_learn 1 = .ok (.iload_n 1, 1) := zD27 whX11_learn_0 (p := 1) rfl
theorem dX11_learn_2 : decode cX11_learn 2 = .ok (.iload_n 2, 1) := zD28 whX11_learn_0 (p := 2) rfl
theorem dX11_learn_3 : decode cX11_learn 3 = .ok (.iload_n 3, 1) := zD29 whX11_learn_0 (p := 3) rfl
theorem dX11_learn_4 : decode cX11_learn 4 = .ok (.invokevirtual 183, 3) := zD182 whX11_learn_0 (p := 4) rfl rfl
theorem dX11_learn_7 : decode cX11_learn 7 = .ok (.ifCond .eq 16, 3) := zD153p whX11_learn_0 (p := 7) (v := 16) rfl rfl rfl
theorem dX11_learn_10 : decode cX11_learn 10 = .ok (.iload 4, 2) := zD21 whX11_learn_0 (p := 10) rfl
theorem dX11_learn_12 : decode cX11_learn 12 = .ok (.i2l, 1) := zD133 whX11_learn_0 (p := 12) rfl
theorem dX11_learn_13 : decode cX11_learn 13 = .ok (.lconst 0, 1) := zD9 whX11_learn_0 (p := 13) rfl
theorem dX11_learn_14 : decode cX11_learn 14 = .ok (.ldc2_w 191, 3) := zD20 whX11_learn_0 (p := 14) rfl rfl
theorem dX11_learn_17 : decode cX11_learn 17 = .ok (.invokestatic 64, 3) := zD184 whX11_learn_0 (p := 17) rfl rfl
theorem dX11_learn_20 : decode cX11_learn 20 = .ok (.ifCond .ne 5, 3) := zD154p whX11_learn_0 (p := 20) (v := 5) rfl rfl rfl
theorem dX11_learn_23 : decode cX11_learn 23 = .ok (.iconst (-1), 1) := zD2 whX11_learn_0 (p := 23) rfl
theorem dX11_learn_24 : decode cX11_learn 24 = .ok (.ireturn, 1) := zD172 whX11_learn_0 (p := 24) rfl
theorem dX11_learn_25 : decode cX11_learn 25 = .ok (.aload_n 0, 1) := zD42 whX11_learn_0 (p := 25) rfl
theorem dX11_learn_26 : decode cX11_learn 26 = .ok (.getfield 152, 3) := zD180 whX11_learn_0 (p := 26) rfl rfl
theorem dX11_learn_29 : decode cX11_learn 29 = .ok (.bipush 8, 2) := zD16p whX11_learn_0 (p := 29) (v := 8) rfl rfl rfl
theorem dX11_learn_31 : decode cX11_learn 31 = .ok (.if_icmp .ne 6, 3) := zD160p whX11_learn_0 (p := 31) (v := 6) rfl rfl rfl
def wlX11_learn_1 : List Nat := [16, 253, 172, 7, 42, 180, 0, 152, 104, 54, 5, 42, 180, 0, 35, 21, 5, 27, 79, 42, 180, 0, 35, 21, 5, 4, 96, 28, 79, 42, 180, 0, 35]
theorem whX11_learn_1 : WLy cX11_learn 34 wlX11_learn_1 := by decide +kernel
theorem dX11_learn_34 : decode cX11_learn 34 = .ok (.bipush (-3), 2) := zD16n whX11_learn_1 (p := 0) (v := 3) rfl rfl rfl
theorem dX11_learn_36 : decode cX11_learn 36 = .ok (.ireturn, 1) := zD172 whX11_learn_1 (p := 2) rfl
theorem dX11_learn_37 : decode cX11_learn 37 = .ok (.iconst 4, 1) := zD7 whX11_learn_1 (p := 3) rfl
theorem dX11_learn_38 : decode cX11_learn 38 = .ok (.aload_n 0, 1) := zD42 whX11_learn_1 (p := 4) rfl
theorem dX11_learn_39 : decode cX11_learn 39 = .ok (.getfield 152, 3) := zD180 whX11_learn_1 (p := 5) rfl rfl
theorem dX11_learn_42 : decode cX11_learn 42 = .ok (.imul, 1) := zD104 whX11_learn_1 (p := 8) rfl
theorem dX11_learn_43 : decode cX11_learn 43 = .ok (.istore 5, 2) := zD54 whX11_learn_1 (p := 9) rfl
theorem dX11_learn_45 : decode cX11_learn 45 = .ok (.aload_n 0, 1) := zD42 whX11_learn_1 (p := 11) rfl
theorem dX11_learn_46 : decode cX11_learn 46 = .ok (.getfield 35, 3) := zD180 whX11_learn_1 (p := 12) rfl rfl
theorem dX11_learn_49 : decode cX11_learn 49 = .ok (.iload 5, 2) := zD21 whX11_learn_1 (p := 15) rfl
theorem dX11_learn_51 : decode cX11_learn 51 = .ok (.iload_n 1, 1) := zD27 whX11_learn_1 (p := 17) rfl
theorem dX11_learn_52 : decode cX11_learn 52 = .ok (.iastore, 1) := zD79 whX11_learn_1 (p := 18) rfl
theorem dX11_learn_53 : decode cX11_learn 53 = .ok (.aload_n 0, 1) := zD42 whX11_learn_1 (p := 19) rfl
theorem dX11_learn_54 : decode cX11_learn 54 = .ok (.getfield 35, 3) := zD180 whX11_learn_1 (p := 20) rfl rfl
theorem dX11_learn_57 : decode cX11_learn 57 = .ok (.iload 5, 2) := zD21 whX11_learn_1 (p := 23) rfl
theorem dX11_learn_59 : decode cX11_learn 59 = .ok (.iconst 1, 1) := zD4 whX11_learn_1 (p := 25) rfl
theorem dX11_learn_60 : decode cX11_learn 60 = .ok (.iadd, 1) := zD96 whX11_learn_1 (p := 26) rfl
theorem dX11_learn_61 : decode cX11_learn 61 = .ok (.iload_n 2, 1) := zD28 whX11_learn_1 (p := 27) rfl
theorem dX11_learn_62 : decode cX11_learn 62 = .ok (.iastore, 1) := zD79 whX11_learn_1 (p := 28) rfl
theorem dX11_learn_63 : decode cX11_learn 63 = .ok (.aload_n 0, 1) := zD42 whX11_learn_1 (p := 29) rfl
theorem dX11_learn_64 : decode cX11_learn 64 = .ok (.getfield 35, 3) := zD180 whX11_learn_1 (p := 30) rfl rfl
def wlX11_learn_2 : List Nat := [21, 5, 5, 96, 29, 79, 42, 180, 0, 35, 21, 5, 6, 96, 21, 4, 79, 42, 89, 180, 0, 152, 4, 96, 181, 0, 152, 42, 180, 0, 152, 172]
theorem whX11_learn_2 : WLy cX11_learn 67 wlX11_learn_2 := by decide +kernel
theorem dX11_learn_67 : decode cX11_learn 67 = .ok (.iload 5, 2) := zD21 whX11_learn_2 (p := 0) rfl
theorem dX11_learn_69 : decode cX11_learn 69 = .ok (.iconst 2, 1) := zD5 whX11_learn_2 (p := 2) rfl
theorem dX11_learn_70 : decode cX11_learn 70 = .ok (.iadd, 1) := zD96 whX11_learn_2 (p := 3) rfl
theorem dX11_learn_71 : decode cX11_learn 71 = .ok (.iload_n 3, 1) := zD29 whX11_learn_2 (p := 4) rfl
theorem dX11_learn_72 : decode cX11_learn 72 = .ok (.iastore, 1) := zD79 whX11_learn_2 (p := 5) rfl
theorem dX11_learn_73 : decode cX11_learn 73 = .ok (.aload_n 0, 1) := zD42 whX11_learn_2 (p := 6) rfl
theorem dX11_learn_74 : decode cX11_learn 74 = .ok (.getfield 35, 3) := zD180 whX11_learn_2 (p := 7) rfl rfl
theorem dX11_learn_77 : decode cX11_learn 77 = .ok (.iload 5, 2) := zD21 whX11_learn_2 (p := 10) rfl
theorem dX11_learn_79 : decode cX11_learn 79 = .ok (.iconst 3, 1) := zD6 whX11_learn_2 (p := 12) rfl
theorem dX11_learn_80 : decode cX11_learn 80 = .ok (.iadd, 1) := zD96 whX11_learn_2 (p := 13) rfl
theorem dX11_learn_81 : decode cX11_learn 81 = .ok (.iload 4, 2) := zD21 whX11_learn_2 (p := 14) rfl
theorem dX11_learn_83 : decode cX11_learn 83 = .ok (.iastore, 1) := zD79 whX11_learn_2 (p := 16) rfl
theorem dX11_learn_84 : decode cX11_learn 84 = .ok (.aload_n 0, 1) := zD42 whX11_learn_2 (p := 17) rfl
theorem dX11_learn_85 : decode cX11_learn 85 = .ok (.dup, 1) := zD89 whX11_learn_2 (p := 18) rfl
theorem dX11_learn_86 : decode cX11_learn 86 = .ok (.getfield 152, 3) := zD180 whX11_learn_2 (p := 19) rfl rfl
theorem dX11_learn_89 : decode cX11_learn 89 = .ok (.iconst 1, 1) := zD4 whX11_learn_2 (p := 22) rfl
theorem dX11_learn_90 : decode cX11_learn 90 = .ok (.iadd, 1) := zD96 whX11_learn_2 (p := 23) rfl
theorem dX11_learn_91 : decode cX11_learn 91 = .ok (.putfield 152, 3) := zD181 whX11_learn_2 (p := 24) rfl rfl
theorem dX11_learn_94 : decode cX11_learn 94 = .ok (.aload_n 0, 1) := zD42 whX11_learn_2 (p := 27) rfl
theorem dX11_learn_95 : decode cX11_learn 95 = .ok (.getfield 152, 3) := zD180 whX11_learn_2 (p := 28) rfl rfl
theorem dX11_learn_98 : decode cX11_learn 98 = .ok (.ireturn, 1) := zD172 whX11_learn_2 (p := 31) rfl
def wlX11_forget_0 : List Nat := [27, 133, 9, 42, 180, 0, 152, 133, 184, 0, 64, 154, 0, 5, 2, 172, 42, 180, 0, 152, 61, 42, 27, 181, 0, 152, 28, 172]
theorem whX11_forget_0 : WLy cX11_forget 0 wlX11_forget_0 := by decide +kernel
theorem dX11_forget_0 : decode cX11_forget 0 = .ok (.iload_n 1, 1) := zD27 whX11_forget_0 (p := 0) rfl
theorem dX11_forget_1 : decode cX11_forget 1 = .ok (.i2l, 1) := zD133 whX11_forget_0 (p := 1) rfl
theorem dX11_forget_2 : decode cX11_forget 2 = .ok (.lconst 0, 1) := zD9 whX11_forget_0 (p := 2) rfl
theorem dX11_forget_3 : decode cX11_forget 3 = .ok (.aload_n 0, 1) := zD42 whX11_forget_0 (p := 3) rfl
theorem dX11_forget_4 : decode cX11_forget 4 = .ok (.getfield 152, 3) := zD180 whX11_forget_0 (p := 4) rfl rfl
theorem dX11_forget_7 : decode cX11_forget 7 = .ok (.i2l, 1) := zD133 whX11_forget_0 (p := 7) rfl
theorem dX11_forget_8 : decode cX11_forget 8 = .ok (.invokestatic 64, 3) := zD184 whX11_forget_0 (p := 8) rfl rfl
theorem dX11_forget_11 : decode cX11_forget 11 = .ok (.ifCond .ne 5, 3) := zD154p whX11_forget_0 (p := 11) (v := 5) rfl rfl rfl
theorem dX11_forget_14 : decode cX11_forget 14 = .ok (.iconst (-1), 1) := zD2 whX11_forget_0 (p := 14) rfl
theorem dX11_forget_15 : decode cX11_forget 15 = .ok (.ireturn, 1) := zD172 whX11_forget_0 (p := 15) rfl
theorem dX11_forget_16 : decode cX11_forget 16 = .ok (.aload_n 0, 1) := zD42 whX11_forget_0 (p := 16) rfl
theorem dX11_forget_17 : decode cX11_forget 17 = .ok (.getfield 152, 3) := zD180 whX11_forget_0 (p := 17) rfl rfl
theorem dX11_forget_20 : decode cX11_forget 20 = .ok (.istore_n 2, 1) := zD61 whX11_forget_0 (p := 20) rfl
theorem dX11_forget_21 : decode cX11_forget 21 = .ok (.aload_n 0, 1) := zD42 whX11_forget_0 (p := 21) rfl
theorem dX11_forget_22 : decode cX11_forget 22 = .ok (.iload_n 1, 1) := zD27 whX11_forget_0 (p := 22) rfl
theorem dX11_forget_23 : decode cX11_forget 23 = .ok (.putfield 152, 3) := zD181 whX11_forget_0 (p := 23) rfl rfl
theorem dX11_forget_26 : decode cX11_forget 26 = .ok (.iload_n 2, 1) := zD28 whX11_forget_0 (p := 26) rfl
theorem dX11_forget_27 : decode cX11_forget 27 = .ok (.ireturn, 1) := zD172 whX11_forget_0 (p := 27) rfl
def wlX11_steps_0 : List Nat := [42, 27, 182, 0, 167, 153, 0, 15, 28, 133, 9, 20, 0, 165, 184, 0, 64, 154, 0, 5, 2, 172, 16, 20, 6, 27, 104, 96, 4, 96, 62, 42]
theorem whX11_steps_0 : WLy cX11_steps 0 wlX11_steps_0 := by decide +kernel
theorem dX11_steps_0 : decode cX11_steps 0 = .ok (.aload_n 0, 1) := zD42 whX11_steps_0 (p := 0) rfl
theorem dX11_steps_1 : decode cX11_steps 1 = .ok (.iload_n 1, 1) := zD27 whX11_steps_0 (p := 1) rfl
theorem dX11_steps_2 : decode cX11_steps 2 = .ok (.invokevirtual 167, 3) := zD182 whX11_steps_0 (p := 2) rfl rfl
theorem dX11_steps_5 : decode cX11_steps 5 = .ok (.ifCond .eq 15, 3) := zD153p whX11_steps_0 (p := 5) (v := 15) rfl rfl rfl
theorem dX11_steps_8 : decode cX11_steps 8 = .ok (.iload_n 2, 1) := zD28 whX11_steps_0 (p := 8) rfl
theorem dX11_steps_9 : decode cX11_steps 9 = .ok (.i2l, 1) := zD133 whX11_steps_0 (p := 9) rfl
theorem dX11_steps_10 : decode cX11_steps 10 = .ok (.lconst 0, 1) := zD9 whX11_steps_0 (p := 10) rfl
theorem dX11_steps_11 : decode cX11_steps 11 = .ok (.ldc2_w 165, 3) := zD20 whX11_steps_0 (p := 11) rfl rfl
theorem dX11_steps_14 : decode cX11_steps 14 = .ok (.invokestatic 64, 3) := zD184 whX11_steps_0 (p := 14) rfl rfl
theorem dX11_steps_17 : decode cX11_steps 17 = .ok (.ifCond .ne 5, 3) := zD154p whX11_steps_0 (p := 17) (v := 5) rfl rfl rfl
theorem dX11_steps_20 : decode cX11_steps 20 = .ok (.iconst (-1), 1) := zD2 whX11_steps_0 (p := 20) rfl
theorem dX11_steps_21 : decode cX11_steps 21 = .ok (.ireturn, 1) := zD172 whX11_steps_0 (p := 21) rfl
theorem dX11_steps_22 : decode cX11_steps 22 = .ok (.bipush 20, 2) := zD16p whX11_steps_0 (p := 22) (v := 20) rfl rfl rfl
theorem dX11_steps_24 : decode cX11_steps 24 = .ok (.iconst 3, 1) := zD6 whX11_steps_0 (p := 24) rfl
theorem dX11_steps_25 : decode cX11_steps 25 = .ok (.iload_n 1, 1) := zD27 whX11_steps_0 (p := 25) rfl
theorem dX11_steps_26 : decode cX11_steps 26 = .ok (.imul, 1) := zD104 whX11_steps_0 (p := 26) rfl
theorem dX11_steps_27 : decode cX11_steps 27 = .ok (.iadd, 1) := zD96 whX11_steps_0 (p := 27) rfl
theorem dX11_steps_28 : decode cX11_steps 28 = .ok (.iconst 1, 1) := zD4 whX11_steps_0 (p := 28) rfl
theorem dX11_steps_29 : decode cX11_steps 29 = .ok (.iadd, 1) := zD96 whX11_steps_0 (p := 29) rfl
theorem dX11_steps_30 : decode cX11_steps 30 = .ok (.istore_n 3, 1) := zD62 whX11_steps_0 (p := 30) rfl
theorem dX11_steps_31 : decode cX11_steps 31 = .ok (.aload_n 0, 1) := zD42 whX11_steps_0 (p := 31) rfl
def wlX11_steps_1 : List Nat := [180, 0, 7, 29, 46, 54, 4, 3, 54, 5, 16, 252, 54, 6, 16, 252, 54, 7, 3, 54, 8, 21, 8, 16, 10, 162, 0, 148, 42, 180, 0, 7]
theorem whX11_steps_1 : WLy cX11_steps 32 wlX11_steps_1 := by decide +kernel
theorem dX11_steps_32 : decode cX11_steps 32 = .ok (.getfield 7, 3) := zD180 whX11_steps_1 (p := 0) rfl rfl
theorem dX11_steps_35 : decode cX11_steps 35 = .ok (.iload_n 3, 1) := zD29 whX11_steps_1 (p := 3) rfl
theorem dX11_steps_36 : decode cX11_steps 36 = .ok (.iaload, 1) := zD46 whX11_steps_1 (p := 4) rfl
theorem dX11_steps_37 : decode cX11_steps 37 = .ok (.istore 4, 2) := zD54 whX11_steps_1 (p := 5) rfl
theorem dX11_steps_39 : decode cX11_steps 39 = .ok (.iconst 0, 1) := zD3 whX11_steps_1 (p := 7) rfl
theorem dX11_steps_40 : decode cX11_steps 40 = .ok (.istore 5, 2) := zD54 whX11_steps_1 (p := 8) rfl
theorem dX11_steps_42 : decode cX11_steps 42 = .ok (.bipush (-4), 2) := zD16n whX11_steps_1 (p := 10) (v := 4) rfl rfl rfl
theorem dX11_steps_44 : decode cX11_steps 44 = .ok (.istore 6, 2) := zD54 whX11_steps_1 (p := 12) rfl
theorem dX11_steps_46 : decode cX11_steps 46 = .ok (.bipush (-4), 2) := zD16n whX11_steps_1 (p := 14) (v := 4) rfl rfl rfl
theorem dX11_steps_48 : decode cX11_steps 48 = .ok (.istore 7, 2) := zD54 whX11_steps_1 (p := 16) rfl
theorem dX11_steps_50 : decode cX11_steps 50 = .ok (.iconst 0, 1) := zD3 whX11_steps_1 (p := 18) rfl
theorem dX11_steps_51 : decode cX11_steps 51 = .ok (.istore 8, 2) := zD54 whX11_steps_1 (p := 19) rfl
theorem dX11_steps_53 : decode cX11_steps 53 = .ok (.iload 8, 2) := zD21 whX11_steps_1 (p := 21) rfl
theorem dX11_steps_55 : decode cX11_steps 55 = .ok (.bipush 10, 2) := zD16p whX11_steps_1 (p := 23) (v := 10) rfl rfl rfl
theorem dX11_steps_57 : decode cX11_steps 57 = .ok (.if_icmp .ge 148, 3) := zD162p whX11_steps_1 (p := 25) (v := 148) rfl rfl rfl
theorem dX11_steps_60 : decode cX11_steps 60 = .ok (.aload_n 0, 1) := zD42 whX11_steps_1 (p := 28) rfl
theorem dX11_steps_61 : decode cX11_steps 61 = .ok (.getfield 7, 3) := zD180 whX11_steps_1 (p := 29) rfl rfl
def wlX11_steps_2 : List Nat := [29, 21, 8, 79, 4, 54, 9, 3, 54, 10, 21, 10, 42, 180, 0, 152, 162, 0, 71, 21, 9, 153, 0, 57, 42, 42, 180, 0, 35, 7, 21, 10]
theorem whX11_steps_2 : WLy cX11_steps 64 wlX11_steps_2 := by decide +kernel
theorem dX11_steps_64 : decode cX11_steps 64 = .ok (.iload_n 3, 1) := zD29 whX11_steps_2 (p := 0) rfl
theorem dX11_steps_65 : decode cX11_steps 65 = .ok (.iload 8, 2) := zD21 whX11_steps_2 (p := 1) rfl
theorem dX11_steps_67 : decode cX11_steps 67 = .ok (.iastore, 1) := zD79 whX11_steps_2 (p := 3) rfl
theorem dX11_steps_68 : decode cX11_steps 68 = .ok (.iconst 1, 1) := zD4 whX11_steps_2 (p := 4) rfl
theorem dX11_steps_69 : decode cX11_steps 69 = .ok (.istore 9, 2) := zD54 whX11_steps_2 (p := 5) rfl
theorem dX11_steps_71 : decode cX11_steps 71 = .ok (.iconst 0, 1) := zD3 whX11_steps_2 (p := 7) rfl
theorem dX11_steps_72 : decode cX11_steps 72 = .ok (.istore 10, 2) := zD54 whX11_steps_2 (p := 8) rfl
theorem dX11_steps_74 : decode cX11_steps 74 = .ok (.iload 10, 2) := zD21 whX11_steps_2 (p := 10) rfl
theorem dX11_steps_76 : decode cX11_steps 76 = .ok (.aload_n 0, 1) := zD42 whX11_steps_2 (p := 12) rfl
theorem dX11_steps_77 : decode cX11_steps 77 = .ok (.getfield 152, 3) := zD180 whX11_steps_2 (p := 13) rfl rfl
theorem dX11_steps_80 : decode cX11_steps 80 = .ok (.if_icmp .ge 71, 3) := zD162p whX11_steps_2 (p := 16) (v := 71) rfl rfl rfl
theorem dX11_steps_83 : decode cX11_steps 83 = .ok (.iload 9, 2) := zD21 whX11_steps_2 (p := 19) rfl
theorem dX11_steps_85 : decode cX11_steps 85 = .ok (.ifCond .eq 57, 3) := zD153p whX11_steps_2 (p := 21) (v := 57) rfl rfl rfl
theorem dX11_steps_88 : decode cX11_steps 88 = .ok (.aload_n 0, 1) := zD42 whX11_steps_2 (p := 24) rfl
theorem dX11_steps_89 : decode cX11_steps 89 = .ok (.aload_n 0, 1) := zD42 whX11_steps_2 (p := 25) rfl
theorem dX11_steps_90 : decode cX11_steps 90 = .ok (.getfield 35, 3) := zD180 whX11_steps_2 (p := 26) rfl rfl
theorem dX11_steps_93 : decode cX11_steps 93 = .ok (.iconst 4, 1) := zD7 whX11_steps_2 (p := 29) rfl
theorem dX11_steps_94 : decode cX11_steps 94 = .ok (.iload 10, 2) := zD21 whX11_steps_2 (p := 30) rfl
def wlX11_steps_3 : List Nat := [104, 46, 42, 180, 0, 35, 7, 21, 10, 104, 4, 96, 46, 42, 180, 0, 35, 7, 21, 10, 104, 5, 96, 46, 3, 182, 0, 187, 42, 180, 0, 35]
theorem whX11_steps_3 : WLy cX11_steps 96 wlX11_steps_3 := by decide +kernel
theorem dX11_steps_96 : decode cX11_steps 96 = .ok (.imul, 1) := zD104 whX11_steps_3 (p := 0) rfl
theorem dX11_steps_97 : decode cX11_steps 97 = .ok (.iaload, 1) := zD46 whX11_steps_3 (p := 1) rfl
theorem dX11_steps_98 : decode cX11_steps 98 = .ok (.aload_n 0, 1) := zD42 whX11_steps_3 (p := 2) rfl
theorem dX11_steps_99 : decode cX11_steps 99 = .ok (.getfield 35, 3) := zD180 whX11_steps_3 (p := 3) rfl rfl
theorem dX11_steps_102 : decode cX11_steps 102 = .ok (.iconst 4, 1) := zD7 whX11_steps_3 (p := 6) rfl
theorem dX11_steps_103 : decode cX11_steps 103 = .ok (.iload 10, 2) := zD21 whX11_steps_3 (p := 7) rfl
theorem dX11_steps_105 : decode cX11_steps 105 = .ok (.imul, 1) := zD104 whX11_steps_3 (p := 9) rfl
theorem dX11_steps_106 : decode cX11_steps 106 = .ok (.iconst 1, 1) := zD4 whX11_steps_3 (p := 10) rfl
theorem dX11_steps_107 : decode cX11_steps 107 = .ok (.iadd, 1) := zD96 whX11_steps_3 (p := 11) rfl
theorem dX11_steps_108 : decode cX11_steps 108 = .ok (.iaload, 1) := zD46 whX11_steps_3 (p := 12) rfl
theorem dX11_steps_109 : decode cX11_steps 109 = .ok (.aload_n 0, 1) := zD42 whX11_steps_3 (p := 13) rfl
theorem dX11_steps_110 : decode cX11_steps 110 = .ok (.getfield 35, 3) := zD180 whX11_steps_3 (p := 14) rfl rfl
theorem dX11_steps_113 : decode cX11_steps 113 = .ok (.iconst 4, 1) := zD7 whX11_steps_3 (p := 17) rfl
theorem dX11_steps_114 : decode cX11_steps 114 = .ok (.iload 10, 2) := zD21 whX11_steps_3 (p := 18) rfl
theorem dX11_steps_116 : decode cX11_steps 116 = .ok (.imul, 1) := zD104 whX11_steps_3 (p := 20) rfl
theorem dX11_steps_117 : decode cX11_steps 117 = .ok (.iconst 2, 1) := zD5 whX11_steps_3 (p := 21) rfl
theorem dX11_steps_118 : decode cX11_steps 118 = .ok (.iadd, 1) := zD96 whX11_steps_3 (p := 22) rfl
theorem dX11_steps_119 : decode cX11_steps 119 = .ok (.iaload, 1) := zD46 whX11_steps_3 (p := 23) rfl
theorem dX11_steps_120 : decode cX11_steps 120 = .ok (.iconst 0, 1) := zD3 whX11_steps_3 (p := 24) rfl
theorem dX11_steps_121 : decode cX11_steps 121 = .ok (.invokevirtual 187, 3) := zD182 whX11_steps_3 (p := 25) rfl rfl
theorem dX11_steps_124 : decode cX11_steps 124 = .ok (.aload_n 0, 1) := zD42 whX11_steps_3 (p := 28) rfl
theorem dX11_steps_125 : decode cX11_steps 125 = .ok (.getfield 35, 3) := zD180 whX11_steps_3 (p := 29) rfl rfl
def wlX11_steps_4 : List Nat := [7, 21, 10, 104, 6, 96, 46, 160, 0, 7, 4, 167, 0, 4, 3, 54, 9, 132, 10, 1, 167, 255, 182, 21, 9, 153, 0, 13, 21, 5, 154, 0, 8]
theorem whX11_steps_4 : WLy cX11_steps 128 wlX11_steps_4 := by decide +kernel
theorem dX11_steps_128 : decode cX11_steps 128 = .ok (.iconst 4, 1) := zD7 whX11_steps_4 (p := 0) rfl
theorem dX11_steps_129 : decode cX11_steps 129 = .ok (.iload 10, 2) := zD21 whX11_steps_4 (p := 1) rfl
theorem dX11_steps_131 : decode cX11_steps 131 = .ok (.imul, 1) := zD104 whX11_steps_4 (p := 3) rfl
theorem dX11_steps_132 : decode cX11_steps 132 = .ok (.iconst 3, 1) := zD6 whX11_steps_4 (p := 4) rfl
theorem dX11_steps_133 : decode cX11_steps 133 = .ok (.iadd, 1) := zD96 whX11_steps_4 (p := 5) rfl
theorem dX11_steps_134 : decode cX11_steps 134 = .ok (.iaload, 1) := zD46 whX11_steps_4 (p := 6) rfl
theorem dX11_steps_135 : decode cX11_steps 135 = .ok (.if_icmp .ne 7, 3) := zD160p whX11_steps_4 (p := 7) (v := 7) rfl rfl rfl
theorem dX11_steps_138 : decode cX11_steps 138 = .ok (.iconst 1, 1) := zD4 whX11_steps_4 (p := 10) rfl
theorem dX11_steps_139 : decode cX11_steps 139 = .ok (.goto 4, 3) := zD167p whX11_steps_4 (p := 11) (v := 4) rfl rfl rfl
theorem dX11_steps_142 : decode cX11_steps 142 = .ok (.iconst 0, 1) := zD3 whX11_steps_4 (p := 14) rfl
theorem dX11_steps_143 : decode cX11_steps 143 = .ok (.istore 9, 2) := zD54 whX11_steps_4 (p := 15) rfl
theorem dX11_steps_145 : decode cX11_steps 145 = .ok (.iinc 10 1, 3) := zD132p whX11_steps_4 (p := 17) (v := 1) rfl rfl rfl
theorem dX11_steps_148 : decode cX11_steps 148 = .ok (.goto (-74), 3) := zD167n whX11_steps_4 (p := 20) (v := 74) rfl rfl rfl
theorem dX11_steps_151 : decode cX11_steps 151 = .ok (.iload 9, 2) := zD21 whX11_steps_4 (p := 23) rfl
theorem dX11_steps_153 : decode cX11_steps 153 = .ok (.ifCond .eq 13, 3) := zD153p whX11_steps_4 (p := 25) (v := 13) rfl rfl rfl
theorem dX11_steps_156 : decode cX11_steps 156 = .ok (.iload 5, 2) := zD21 whX11_steps_4 (p := 28) rfl
theorem dX11_steps_158 : decode cX11_steps 158 = .ok (.ifCond .ne 8, 3) := zD154p whX11_steps_4 (p := 30) (v := 8) rfl rfl rfl
def wlX11_steps_5 : List Nat := [21, 8, 167, 0, 5, 21, 6, 54, 6, 21, 9, 153, 0, 8, 21, 8, 167, 0, 5, 21, 7, 54, 7, 21, 5, 21, 9, 153, 0, 7, 4, 167, 0, 4]
theorem whX11_steps_5 : WLy cX11_steps 161 wlX11_steps_5 := by decide +kernel
theorem dX11_steps_161 : decode cX11_steps 161 = .ok (.iload 8, 2) := zD21 whX11_steps_5 (p := 0) rfl
theorem dX11_steps_163 : decode cX11_steps 163 = .ok (.goto 5, 3) := zD167p whX11_steps_5 (p := 2) (v := 5) rfl rfl rfl
theorem dX11_steps_166 : decode cX11_steps 166 = .ok (.iload 6, 2) := zD21 whX11_steps_5 (p := 5) rfl
theorem dX11_steps_168 : decode cX11_steps 168 = .ok (.istore 6, 2) := zD54 whX11_steps_5 (p := 7) rfl
theorem dX11_steps_170 : decode cX11_steps 170 = .ok (.iload 9, 2) := zD21 whX11_steps_5 (p := 9) rfl
theorem dX11_steps_172 : decode cX11_steps 172 = .ok (.ifCond .eq 8, 3) := zD153p whX11_steps_5 (p := 11) (v := 8) rfl rfl rfl
theorem dX11_steps_175 : decode cX11_steps 175 = .ok (.iload 8, 2) := zD21 whX11_steps_5 (p := 14) rfl
theorem dX11_steps_177 : decode cX11_steps 177 = .ok (.goto 5, 3) := zD167p whX11_steps_5 (p := 16) (v := 5) rfl rfl rfl
theorem dX11_steps_180 : decode cX11_steps 180 = .ok (.iload 7, 2) := zD21 whX11_steps_5 (p := 19) rfl
theorem dX11_steps_182 : decode cX11_steps 182 = .ok (.istore 7, 2) := zD54 whX11_steps_5 (p := 21) rfl
theorem dX11_steps_184 : decode cX11_steps 184 = .ok (.iload 5, 2) := zD21 whX11_steps_5 (p := 23) rfl
theorem dX11_steps_186 : decode cX11_steps 186 = .ok (.iload 9, 2) := zD21 whX11_steps_5 (p := 25) rfl
theorem dX11_steps_188 : decode cX11_steps 188 = .ok (.ifCond .eq 7, 3) := zD153p whX11_steps_5 (p := 27) (v := 7) rfl rfl rfl
theorem dX11_steps_191 : decode cX11_steps 191 = .ok (.iconst 1, 1) := zD4 whX11_steps_5 (p := 30) rfl
theorem dX11_steps_192 : decode cX11_steps 192 = .ok (.goto 4, 3) := zD167p whX11_steps_5 (p := 31) (v := 4) rfl rfl rfl
def wlX11_steps_6 : List Nat := [3, 96, 54, 5, 132, 8, 1, 167, 255, 107, 42, 180, 0, 7, 29, 21, 4, 79, 28, 154, 0, 8, 21, 5, 167, 0, 15, 28, 4, 160, 0, 8]
theorem whX11_steps_6 : WLy cX11_steps 195 wlX11_steps_6 := by decide +kernel
theorem dX11_steps_195 : decode cX11_steps 195 = .ok (.iconst 0, 1) := zD3 whX11_steps_6 (p := 0) rfl
theorem dX11_steps_196 : decode cX11_steps 196 = .ok (.iadd, 1) := zD96 whX11_steps_6 (p := 1) rfl
theorem dX11_steps_197 : decode cX11_steps 197 = .ok (.istore 5, 2) := zD54 whX11_steps_6 (p := 2) rfl
theorem dX11_steps_199 : decode cX11_steps 199 = .ok (.iinc 8 1, 3) := zD132p whX11_steps_6 (p := 4) (v := 1) rfl rfl rfl
theorem dX11_steps_202 : decode cX11_steps 202 = .ok (.goto (-149), 3) := zD167n whX11_steps_6 (p := 7) (v := 149) rfl rfl rfl
theorem dX11_steps_205 : decode cX11_steps 205 = .ok (.aload_n 0, 1) := zD42 whX11_steps_6 (p := 10) rfl
theorem dX11_steps_206 : decode cX11_steps 206 = .ok (.getfield 7, 3) := zD180 whX11_steps_6 (p := 11) rfl rfl
theorem dX11_steps_209 : decode cX11_steps 209 = .ok (.iload_n 3, 1) := zD29 whX11_steps_6 (p := 14) rfl
theorem dX11_steps_210 : decode cX11_steps 210 = .ok (.iload 4, 2) := zD21 whX11_steps_6 (p := 15) rfl
theorem dX11_steps_212 : decode cX11_steps 212 = .ok (.iastore, 1) := zD79 whX11_steps_6 (p := 17) rfl
theorem dX11_steps_213 : decode cX11_steps 213 = .ok (.iload_n 2, 1) := zD28 whX11_steps_6 (p := 18) rfl
theorem dX11_steps_214 : decode cX11_steps 214 = .ok (.ifCond .ne 8, 3) := zD154p whX11_steps_6 (p := 19) (v := 8) rfl rfl rfl
theorem dX11_steps_217 : decode cX11_steps 217 = .ok (.iload 5, 2) := zD21 whX11_steps_6 (p := 22) rfl
theorem dX11_steps_219 : decode cX11_steps 219 = .ok (.goto 15, 3) := zD167p whX11_steps_6 (p := 24) (v := 15) rfl rfl rfl
theorem dX11_steps_222 : decode cX11_steps 222 = .ok (.iload_n 2, 1) := zD28 whX11_steps_6 (p := 27) rfl
theorem dX11_steps_223 : decode cX11_steps 223 = .ok (.iconst 1, 1) := zD4 whX11_steps_6 (p := 28) rfl
theorem dX11_steps_224 : decode cX11_steps 224 = .ok (.if_icmp .ne 8, 3) := zD160p whX11_steps_6 (p := 29) (v := 8) rfl rfl rfl
def wlX11_steps_7 : List Nat := [21, 6, 167, 0, 5, 21, 7, 172]
theorem whX11_steps_7 : WLy cX11_steps 227 wlX11_steps_7 := by decide +kernel
theorem dX11_steps_227 : decode cX11_steps 227 = .ok (.iload 6, 2) := zD21 whX11_steps_7 (p := 0) rfl
theorem dX11_steps_229 : decode cX11_steps 229 = .ok (.goto 5, 3) := zD167p whX11_steps_7 (p := 2) (v := 5) rfl rfl rfl
theorem dX11_steps_232 : decode cX11_steps 232 = .ok (.iload 7, 2) := zD21 whX11_steps_7 (p := 5) rfl
theorem dX11_steps_234 : decode cX11_steps 234 = .ok (.ireturn, 1) := zD172 whX11_steps_7 (p := 7) rfl
def wlX11_mark_0 : List Nat := [42, 27, 182, 0, 161, 153, 0, 15, 28, 133, 9, 20, 0, 170, 184, 0, 64, 154, 0, 5, 2, 172, 42, 180, 0, 155, 16, 6, 160, 0, 6, 16, 253]
theorem whX11_mark_0 : WLy cX11_mark 0 wlX11_mark_0 := by decide +kernel
theorem dX11_mark_0 : decode cX11_mark 0 = .ok (.aload_n 0, 1) := zD42 whX11_mark_0 (p := 0) rfl
theorem dX11_mark_1 : decode cX11_mark 1 = .ok (.iload_n 1, 1) := zD27 whX11_mark_0 (p := 1) rfl
theorem dX11_mark_2 : decode cX11_mark 2 = .ok (.invokevirtual 161, 3) := zD182 whX11_mark_0 (p := 2) rfl rfl
theorem dX11_mark_5 : decode cX11_mark 5 = .ok (.ifCond .eq 15, 3) := zD153p whX11_mark_0 (p := 5) (v := 15) rfl rfl rfl
theorem dX11_mark_8 : decode cX11_mark 8 = .ok (.iload_n 2, 1) := zD28 whX11_mark_0 (p := 8) rfl
theorem dX11_mark_9 : decode cX11_mark 9 = .ok (.i2l, 1) := zD133 whX11_mark_0 (p := 9) rfl
theorem dX11_mark_10 : decode cX11_mark 10 = .ok (.lconst 0, 1) := zD9 whX11_mark_0 (p := 10) rfl
theorem dX11_mark_11 : decode cX11_mark 11 = .ok (.ldc2_w 170, 3) := zD20 whX11_mark_0 (p := 11) rfl rfl
theorem dX11_mark_14 : decode cX11_mark 14 = .ok (.invokestatic 64, 3) := zD184 whX11_mark_0 (p := 14) rfl rfl
theorem dX11_mark_17 : decode cX11_mark 17 = .ok (.ifCond .ne 5, 3) := zD154p whX11_mark_0 (p := 17) (v := 5) rfl rfl rfl
theorem dX11_mark_20 : decode cX11_mark 20 = .ok (.iconst (-1), 1) := zD2 whX11_mark_0 (p := 20) rfl
theorem dX11_mark_21 : decode cX11_mark 21 = .ok (.ireturn, 1) := zD172 whX11_mark_0 (p := 21) rfl
theorem dX11_mark_22 : decode cX11_mark 22 = .ok (.aload_n 0, 1) := zD42 whX11_mark_0 (p := 22) rfl
theorem dX11_mark_23 : decode cX11_mark 23 = .ok (.getfield 155, 3) := zD180 whX11_mark_0 (p := 23) rfl rfl
theorem dX11_mark_26 : decode cX11_mark 26 = .ok (.bipush 6, 2) := zD16p whX11_mark_0 (p := 26) (v := 6) rfl rfl rfl
theorem dX11_mark_28 : decode cX11_mark 28 = .ok (.if_icmp .ne 6, 3) := zD160p whX11_mark_0 (p := 28) (v := 6) rfl rfl rfl
theorem dX11_mark_31 : decode cX11_mark 31 = .ok (.bipush (-3), 2) := zD16n whX11_mark_0 (p := 31) (v := 3) rfl rfl rfl
def wlX11_mark_1 : List Nat := [172, 42, 180, 0, 38, 5, 42, 180, 0, 155, 104, 27, 79, 42, 180, 0, 38, 5, 42, 180, 0, 155, 104, 4, 96, 28, 79, 42, 89, 180, 0, 155]
theorem whX11_mark_1 : WLy cX11_mark 33 wlX11_mark_1 := by decide +kernel
theorem dX11_mark_33 : decode cX11_mark 33 = .ok (.ireturn, 1) := zD172 whX11_mark_1 (p := 0) rfl
theorem dX11_mark_34 : decode cX11_mark 34 = .ok (.aload_n 0, 1) := zD42 whX11_mark_1 (p := 1) rfl
theorem dX11_mark_35 : decode cX11_mark 35 = .ok (.getfield 38, 3) := zD180 whX11_mark_1 (p := 2) rfl rfl
theorem dX11_mark_38 : decode cX11_mark 38 = .ok (.iconst 2, 1) := zD5 whX11_mark_1 (p := 5) rfl
theorem dX11_mark_39 : decode cX11_mark 39 = .ok (.aload_n 0, 1) := zD42 whX11_mark_1 (p := 6) rfl
theorem dX11_mark_40 : decode cX11_mark 40 = .ok (.getfield 155, 3) := zD180 whX11_mark_1 (p := 7) rfl rfl
theorem dX11_mark_43 : decode cX11_mark 43 = .ok (.imul, 1) := zD104 whX11_mark_1 (p := 10) rfl
theorem dX11_mark_44 : decode cX11_mark 44 = .ok (.iload_n 1, 1) := zD27 whX11_mark_1 (p := 11) rfl
theorem dX11_mark_45 : decode cX11_mark 45 = .ok (.iastore, 1) := zD79 whX11_mark_1 (p := 12) rfl
theorem dX11_mark_46 : decode cX11_mark 46 = .ok (.aload_n 0, 1) := zD42 whX11_mark_1 (p := 13) rfl
theorem dX11_mark_47 : decode cX11_mark 47 = .ok (.getfield 38, 3) := zD180 whX11_mark_1 (p := 14) rfl rfl
theorem dX11_mark_50 : decode cX11_mark 50 = .ok (.iconst 2, 1) := zD5 whX11_mark_1 (p := 17) rfl
theorem dX11_mark_51 : decode cX11_mark 51 = .ok (.aload_n 0, 1) := zD42 whX11_mark_1 (p := 18) rfl
theorem dX11_mark_52 : decode cX11_mark 52 = .ok (.getfield 155, 3) := zD180 whX11_mark_1 (p := 19) rfl rfl
theorem dX11_mark_55 : decode cX11_mark 55 = .ok (.imul, 1) := zD104 whX11_mark_1 (p := 22) rfl
theorem dX11_mark_56 : decode cX11_mark 56 = .ok (.iconst 1, 1) := zD4 whX11_mark_1 (p := 23) rfl
theorem dX11_mark_57 : decode cX11_mark 57 = .ok (.iadd, 1) := zD96 whX11_mark_1 (p := 24) rfl
theorem dX11_mark_58 : decode cX11_mark 58 = .ok (.iload_n 2, 1) := zD28 whX11_mark_1 (p := 25) rfl
theorem dX11_mark_59 : decode cX11_mark 59 = .ok (.iastore, 1) := zD79 whX11_mark_1 (p := 26) rfl
theorem dX11_mark_60 : decode cX11_mark 60 = .ok (.aload_n 0, 1) := zD42 whX11_mark_1 (p := 27) rfl
theorem dX11_mark_61 : decode cX11_mark 61 = .ok (.dup, 1) := zD89 whX11_mark_1 (p := 28) rfl
theorem dX11_mark_62 : decode cX11_mark 62 = .ok (.getfield 155, 3) := zD180 whX11_mark_1 (p := 29) rfl rfl
def wlX11_mark_2 : List Nat := [4, 96, 181, 0, 155, 42, 180, 0, 155, 172]
theorem whX11_mark_2 : WLy cX11_mark 65 wlX11_mark_2 := by decide +kernel
theorem dX11_mark_65 : decode cX11_mark 65 = .ok (.iconst 1, 1) := zD4 whX11_mark_2 (p := 0) rfl
theorem dX11_mark_66 : decode cX11_mark 66 = .ok (.iadd, 1) := zD96 whX11_mark_2 (p := 1) rfl
theorem dX11_mark_67 : decode cX11_mark 67 = .ok (.putfield 155, 3) := zD181 whX11_mark_2 (p := 2) rfl rfl
theorem dX11_mark_70 : decode cX11_mark 70 = .ok (.aload_n 0, 1) := zD42 whX11_mark_2 (p := 5) rfl
theorem dX11_mark_71 : decode cX11_mark 71 = .ok (.getfield 155, 3) := zD180 whX11_mark_2 (p := 6) rfl rfl
theorem dX11_mark_74 : decode cX11_mark 74 = .ok (.ireturn, 1) := zD172 whX11_mark_2 (p := 9) rfl
def wlX11_wipe_0 : List Nat := [27, 133, 9, 42, 180, 0, 155, 133, 184, 0, 64, 154, 0, 5, 2, 172, 42, 180, 0, 155, 61, 42, 27, 181, 0, 155, 28, 172]
theorem whX11_wipe_0 : WLy cX11_wipe 0 wlX11_wipe_0 := by decide +kernel
theorem dX11_wipe_0 : decode cX11_wipe 0 = .ok (.iload_n 1, 1) := zD27 whX11_wipe_0 (p := 0) rfl
theorem dX11_wipe_1 : decode cX11_wipe 1 = .ok (.i2l, 1) := zD133 whX11_wipe_0 (p := 1) rfl
theorem dX11_wipe_2 : decode cX11_wipe 2 = .ok (.lconst 0, 1) := zD9 whX11_wipe_0 (p := 2) rfl
theorem dX11_wipe_3 : decode cX11_wipe 3 = .ok (.aload_n 0, 1) := zD42 whX11_wipe_0 (p := 3) rfl
theorem dX11_wipe_4 : decode cX11_wipe 4 = .ok (.getfield 155, 3) := zD180 whX11_wipe_0 (p := 4) rfl rfl
theorem dX11_wipe_7 : decode cX11_wipe 7 = .ok (.i2l, 1) := zD133 whX11_wipe_0 (p := 7) rfl
theorem dX11_wipe_8 : decode cX11_wipe 8 = .ok (.invokestatic 64, 3) := zD184 whX11_wipe_0 (p := 8) rfl rfl
theorem dX11_wipe_11 : decode cX11_wipe 11 = .ok (.ifCond .ne 5, 3) := zD154p whX11_wipe_0 (p := 11) (v := 5) rfl rfl rfl
theorem dX11_wipe_14 : decode cX11_wipe 14 = .ok (.iconst (-1), 1) := zD2 whX11_wipe_0 (p := 14) rfl
theorem dX11_wipe_15 : decode cX11_wipe 15 = .ok (.ireturn, 1) := zD172 whX11_wipe_0 (p := 15) rfl
theorem dX11_wipe_16 : decode cX11_wipe 16 = .ok (.aload_n 0, 1) := zD42 whX11_wipe_0 (p := 16) rfl
theorem dX11_wipe_17 : decode cX11_wipe 17 = .ok (.getfield 155, 3) := zD180 whX11_wipe_0 (p := 17) rfl rfl
theorem dX11_wipe_20 : decode cX11_wipe 20 = .ok (.istore_n 2, 1) := zD61 whX11_wipe_0 (p := 20) rfl
theorem dX11_wipe_21 : decode cX11_wipe 21 = .ok (.aload_n 0, 1) := zD42 whX11_wipe_0 (p := 21) rfl
theorem dX11_wipe_22 : decode cX11_wipe 22 = .ok (.iload_n 1, 1) := zD27 whX11_wipe_0 (p := 22) rfl
theorem dX11_wipe_23 : decode cX11_wipe 23 = .ok (.putfield 155, 3) := zD181 whX11_wipe_0 (p := 23) rfl rfl
theorem dX11_wipe_26 : decode cX11_wipe 26 = .ok (.iload_n 2, 1) := zD28 whX11_wipe_0 (p := 26) rfl
theorem dX11_wipe_27 : decode cX11_wipe 27 = .ok (.ireturn, 1) := zD172 whX11_wipe_0 (p := 27) rfl
def wlX11_isMarked_0 : List Nat := [4, 62, 3, 54, 4, 21, 4, 42, 180, 0, 155, 162, 0, 47, 29, 153, 0, 35, 42, 180, 0, 38, 5, 21, 4, 104, 46, 27, 160, 0, 18, 42]
theorem whX11_isMarked_0 : WLy cX11_isMarked 0 wlX11_isMarked_0 := by decide +kernel
theorem dX11_isMarked_0 : decode cX11_isMarked 0 = .ok (.iconst 1, 1) := zD4 whX11_isMarked_0 (p := 0) rfl
theorem dX11_isMarked_1 : decode cX11_isMarked 1 = .ok (.istore_n 3, 1) := zD62 whX11_isMarked_0 (p := 1) rfl
theorem dX11_isMarked_2 : decode cX11_isMarked 2 = .ok (.iconst 0, 1) := zD3 whX11_isMarked_0 (p := 2) rfl
theorem dX11_isMarked_3 : decode cX11_isMarked 3 = .ok (.istore 4, 2) := zD54 whX11_isMarked_0 (p := 3) rfl
theorem dX11_isMarked_5 : decode cX11_isMarked 5 = .ok (.iload 4, 2) := zD21 whX11_isMarked_0 (p := 5) rfl
theorem dX11_isMarked_7 : decode cX11_isMarked 7 = .ok (.aload_n 0, 1) := zD42 whX11_isMarked_0 (p := 7) rfl
theorem dX11_isMarked_8 : decode cX11_isMarked 8 = .ok (.getfield 155, 3) := zD180 whX11_isMarked_0 (p := 8) rfl rfl
theorem dX11_isMarked_11 : decode cX11_isMarked 11 = .ok (.if_icmp .ge 47, 3) := zD162p whX11_isMarked_0 (p := 11) (v := 47) rfl rfl rfl
theorem dX11_isMarked_14 : decode cX11_isMarked 14 = .ok (.iload_n 3, 1) := zD29 whX11_isMarked_0 (p := 14) rfl
theorem dX11_isMarked_15 : decode cX11_isMarked 15 = .ok (.ifCond .eq 35, 3) := zD153p whX11_isMarked_0 (p := 15) (v := 35) rfl rfl rfl
theorem dX11_isMarked_18 : decode cX11_isMarked 18 = .ok (.aload_n 0, 1) := zD42 whX11_isMarked_0 (p := 18) rfl
theorem dX11_isMarked_19 : decode cX11_isMarked 19 = .ok (.getfield 38, 3) := zD180 whX11_isMarked_0 (p := 19) rfl rfl
theorem dX11_isMarked_22 : decode cX11_isMarked 22 = .ok (.iconst 2, 1) := zD5 whX11_isMarked_0 (p := 22) rfl
theorem dX11_isMarked_23 : decode cX11_isMarked 23 = .ok (.iload 4, 2) := zD21 whX11_isMarked_0 (p := 23) rfl
theorem dX11_isMarked_25 : decode cX11_isMarked 25 = .ok (.imul, 1) := zD104 whX11_isMarked_0 (p := 25) rfl
theorem dX11_isMarked_26 : decode cX11_isMarked 26 = .ok (.iaload, 1) := zD46 whX11_isMarked_0 (p := 26) rfl
theorem dX11_isMarked_27 : decode cX11_isMarked 27 = .ok (.iload_n 1, 1) := zD27 whX11_isMarked_0 (p := 27) rfl
theorem dX11_isMarked_28 : decode cX11_isMarked 28 = .ok (.if_icmp .ne 18, 3) := zD160p whX11_isMarked_0 (p := 28) (v := 18) rfl rfl rfl
theorem dX11_isMarked_31 : decode cX11_isMarked 31 = .ok (.aload_n 0, 1) := zD42 whX11_isMarked_0 (p := 31) rfl
def wlX11_isMarked_1 : List Nat := [180, 0, 38, 5, 21, 4, 104, 4, 96, 46, 28, 160, 0, 7, 4, 167, 0, 4, 3, 62, 132, 4, 1, 167, 255, 206, 29, 172]
theorem whX11_isMarked_1 : WLy cX11_isMarked 32 wlX11_isMarked_1 := by decide +kernel
theorem dX11_isMarked_32 : decode cX11_isMarked 32 = .ok (.getfield 38, 3) := zD180 whX11_isMarked_1 (p := 0) rfl rfl
theorem dX11_isMarked_35 : decode cX11_isMarked 35 = .ok (.iconst 2, 1) := zD5 whX11_isMarked_1 (p := 3) rfl
theorem dX11_isMarked_36 : decode cX11_isMarked 36 = .ok (.iload 4, 2) := zD21 whX11_isMarked_1 (p := 4) rfl
theorem dX11_isMarked_38 : decode cX11_isMarked 38 = .ok (.imul, 1) := zD104 whX11_isMarked_1 (p := 6) rfl
theorem dX11_isMarked_39 : decode cX11_isMarked 39 = .ok (.iconst 1, 1) := zD4 whX11_isMarked_1 (p := 7) rfl
theorem dX11_isMarked_40 : decode cX11_isMarked 40 = .ok (.iadd, 1) := zD96 whX11_isMarked_1 (p := 8) rfl
theorem dX11_isMarked_41 : decode cX11_isMarked 41 = .ok (.iaload, 1) := zD46 whX11_isMarked_1 (p := 9) rfl
theorem dX11_isMarked_42 : decode cX11_isMarked 42 = .ok (.iload_n 2, 1) := zD28 whX11_isMarked_1 (p := 10) rfl
theorem dX11_isMarked_43 : decode cX11_isMarked 43 = .ok (.if_icmp .ne 7, 3) := zD160p whX11_isMarked_1 (p := 11) (v := 7) rfl rfl rfl
theorem dX11_isMarked_46 : decode cX11_isMarked 46 = .ok (.iconst 1, 1) := zD4 whX11_isMarked_1 (p := 14) rfl
theorem dX11_isMarked_47 : decode cX11_isMarked 47 = .ok (.goto 4, 3) := zD167p whX11_isMarked_1 (p := 15) (v := 4) rfl rfl rfl
theorem dX11_isMarked_50 : decode cX11_isMarked 50 = .ok (.iconst 0, 1) := zD3 whX11_isMarked_1 (p := 18) rfl
theorem dX11_isMarked_51 : decode cX11_isMarked 51 = .ok (.istore_n 3, 1) := zD62 whX11_isMarked_1 (p := 19) rfl
theorem dX11_isMarked_52 : decode cX11_isMarked 52 = .ok (.iinc 4 1, 3) := zD132p whX11_isMarked_1 (p := 20) (v := 1) rfl rfl rfl
theorem dX11_isMarked_55 : decode cX11_isMarked 55 = .ok (.goto (-50), 3) := zD167n whX11_isMarked_1 (p := 23) (v := 50) rfl rfl rfl
theorem dX11_isMarked_58 : decode cX11_isMarked 58 = .ok (.iload_n 3, 1) := zD29 whX11_isMarked_1 (p := 26) rfl
theorem dX11_isMarked_59 : decode cX11_isMarked 59 = .ok (.ireturn, 1) := zD172 whX11_isMarked_1 (p := 27) rfl
def wlX11_depthThen_0 : List Nat := [42, 27, 3, 182, 0, 193, 54, 4, 28, 153, 0, 22, 29, 153, 0, 11, 21, 4, 154, 0, 16, 167, 0, 10, 21, 4, 16, 20, 160, 0, 6, 16, 252]
theorem whX11_depthThen_0 : WLy cX11_depthThen 0 wlX11_depthThen_0 := by decide +kernel
theorem dX11_depthThen_0 : decode cX11_depthThen 0 = .ok (.aload_n 0, 1) := zD42 whX11_depthThen_0 (p := 0) rfl
theorem dX11_depthThen_1 : decode cX11_depthThen 1 = .ok (.iload_n 1, 1) := zD27 whX11_depthThen_0 (p := 1) rfl
theorem dX11_depthThen_2 : decode cX11_depthThen 2 = .ok (.iconst 0, 1) := zD3 whX11_depthThen_0 (p := 2) rfl
theorem dX11_depthThen_3 : decode cX11_depthThen 3 = .ok (.invokevirtual 193, 3) := zD182 whX11_depthThen_0 (p := 3) rfl rfl
theorem dX11_depthThen_6 : decode cX11_depthThen 6 = .ok (.istore 4, 2) := zD54 whX11_depthThen_0 (p := 6) rfl
theorem dX11_depthThen_8 : decode cX11_depthThen 8 = .ok (.iload_n 2, 1) := zD28 whX11_depthThen_0 (p := 8) rfl
theorem dX11_depthThen_9 : decode cX11_depthThen 9 = .ok (.ifCond .eq 22, 3) := zD153p whX11_depthThen_0 (p := 9) (v := 22) rfl rfl rfl
theorem dX11_depthThen_12 : decode cX11_depthThen 12 = .ok (.iload_n 3, 1) := zD29 whX11_depthThen_0 (p := 12) rfl
theorem dX11_depthThen_13 : decode cX11_depthThen 13 = .ok (.ifCond .eq 11, 3) := zD153p whX11_depthThen_0 (p := 13) (v := 11) rfl rfl rfl
theorem dX11_depthThen_16 : decode cX11_depthThen 16 = .ok (.iload 4, 2) := zD21 whX11_depthThen_0 (p := 16) rfl
theorem dX11_depthThen_18 : decode cX11_depthThen 18 = .ok (.ifCond .ne 16, 3) := zD154p whX11_depthThen_0 (p := 18) (v := 16) rfl rfl rfl
theorem dX11_depthThen_21 : decode cX11_depthThen 21 = .ok (.goto 10, 3) := zD167p whX11_depthThen_0 (p := 21) (v := 10) rfl rfl rfl
theorem dX11_depthThen_24 : decode cX11_depthThen 24 = .ok (.iload 4, 2) := zD21 whX11_depthThen_0 (p := 24) rfl
theorem dX11_depthThen_26 : decode cX11_depthThen 26 = .ok (.bipush 20, 2) := zD16p whX11_depthThen_0 (p := 26) (v := 20) rfl rfl rfl
theorem dX11_depthThen_28 : decode cX11_depthThen 28 = .ok (.if_icmp .ne 6, 3) := zD160p whX11_depthThen_0 (p := 28) (v := 6) rfl rfl rfl
theorem dX11_depthThen_31 : decode cX11_depthThen 31 = .ok (.bipush (-4), 2) := zD16n whX11_depthThen_0 (p := 31) (v := 4) rfl rfl rfl
def wlX11_depthThen_1 : List Nat := [172, 29, 153, 0, 9, 28, 4, 100, 167, 0, 8, 28, 4, 184, 0, 197, 54, 5, 42, 27, 21, 5, 182, 0, 242, 153, 0, 8, 21, 5, 167, 0, 5]
theorem whX11_depthThen_1 : WLy cX11_depthThen 33 wlX11_depthThen_1 := by decide +kernel
theorem dX11_depthThen_33 : decode cX11_depthThen 33 = .ok (.ireturn, 1) := zD172 whX11_depthThen_1 (p := 0) rfl
theorem dX11_depthThen_34 : decode cX11_depthThen 34 = .ok (.iload_n 3, 1) := zD29 whX11_depthThen_1 (p := 1) rfl
theorem dX11_depthThen_35 : decode cX11_depthThen 35 = .ok (.ifCond .eq 9, 3) := zD153p whX11_depthThen_1 (p := 2) (v := 9) rfl rfl rfl
theorem dX11_depthThen_38 : decode cX11_depthThen 38 = .ok (.iload_n 2, 1) := zD28 whX11_depthThen_1 (p := 5) rfl
theorem dX11_depthThen_39 : decode cX11_depthThen 39 = .ok (.iconst 1, 1) := zD4 whX11_depthThen_1 (p := 6) rfl
theorem dX11_depthThen_40 : decode cX11_depthThen 40 = .ok (.isub, 1) := zD100 whX11_depthThen_1 (p := 7) rfl
theorem dX11_depthThen_41 : decode cX11_depthThen 41 = .ok (.goto 8, 3) := zD167p whX11_depthThen_1 (p := 8) (v := 8) rfl rfl rfl
theorem dX11_depthThen_44 : decode cX11_depthThen 44 = .ok (.iload_n 2, 1) := zD28 whX11_depthThen_1 (p := 11) rfl
theorem dX11_depthThen_45 : decode cX11_depthThen 45 = .ok (.iconst 1, 1) := zD4 whX11_depthThen_1 (p := 12) rfl
theorem dX11_depthThen_46 : decode cX11_depthThen 46 = .ok (.invokestatic 197, 3) := zD184 whX11_depthThen_1 (p := 13) rfl rfl
theorem dX11_depthThen_49 : decode cX11_depthThen 49 = .ok (.istore 5, 2) := zD54 whX11_depthThen_1 (p := 16) rfl
theorem dX11_depthThen_51 : decode cX11_depthThen 51 = .ok (.aload_n 0, 1) := zD42 whX11_depthThen_1 (p := 18) rfl
theorem dX11_depthThen_52 : decode cX11_depthThen 52 = .ok (.iload_n 1, 1) := zD27 whX11_depthThen_1 (p := 19) rfl
theorem dX11_depthThen_53 : decode cX11_depthThen 53 = .ok (.iload 5, 2) := zD21 whX11_depthThen_1 (p := 20) rfl
theorem dX11_depthThen_55 : decode cX11_depthThen 55 = .ok (.invokevirtual 242, 3) := zD182 whX11_depthThen_1 (p := 22) rfl rfl
theorem dX11_depthThen_58 : decode cX11_depthThen 58 = .ok (.ifCond .eq 8, 3) := zD153p whX11_depthThen_1 (p := 25) (v := 8) rfl rfl rfl
theorem dX11_depthThen_61 : decode cX11_depthThen 61 = .ok (.iload 5, 2) := zD21 whX11_depthThen_1 (p := 28) rfl
theorem dX11_depthThen_63 : decode cX11_depthThen 63 = .ok (.goto 5, 3) := zD167p whX11_depthThen_1 (p := 30) (v := 5) rfl rfl rfl
def wlX11_depthThen_2 : List Nat := [16, 252, 172]
theorem whX11_depthThen_2 : WLy cX11_depthThen 66 wlX11_depthThen_2 := by decide +kernel
theorem dX11_depthThen_66 : decode cX11_depthThen 66 = .ok (.bipush (-4), 2) := zD16n whX11_depthThen_2 (p := 0) (v := 4) rfl rfl rfl
theorem dX11_depthThen_68 : decode cX11_depthThen 68 = .ok (.ireturn, 1) := zD172 whX11_depthThen_2 (p := 2) rfl
def wlX11_layPaths_0 : List Nat := [3, 60, 27, 16, 110, 162, 0, 50, 42, 180, 0, 41, 27, 27, 42, 182, 0, 158, 160, 0, 7, 4, 167, 0, 4, 3, 79, 42, 180, 0, 44, 27]
theorem whX11_layPaths_0 : WLy cX11_layPaths 0 wlX11_layPaths_0 := by decide +kernel
theorem dX11_layPaths_0 : decode cX11_layPaths 0 = .ok (.iconst 0, 1) := zD3 whX11_layPaths_0 (p := 0) rfl
theorem dX11_layPaths_1 : decode cX11_layPaths 1 = .ok (.istore_n 1, 1) := zD60 whX11_layPaths_0 (p := 1) rfl
theorem dX11_layPaths_2 : decode cX11_layPaths 2 = .ok (.iload_n 1, 1) := zD27 whX11_layPaths_0 (p := 2) rfl
theorem dX11_layPaths_3 : decode cX11_layPaths 3 = .ok (.bipush 110, 2) := zD16p whX11_layPaths_0 (p := 3) (v := 110) rfl rfl rfl
theorem dX11_layPaths_5 : decode cX11_layPaths 5 = .ok (.if_icmp .ge 50, 3) := zD162p whX11_layPaths_0 (p := 5) (v := 50) rfl rfl rfl
theorem dX11_layPaths_8 : decode cX11_layPaths 8 = .ok (.aload_n 0, 1) := zD42 whX11_layPaths_0 (p := 8) rfl
theorem dX11_layPaths_9 : decode cX11_layPaths 9 = .ok (.getfield 41, 3) := zD180 whX11_layPaths_0 (p := 9) rfl rfl
theorem dX11_layPaths_12 : decode cX11_layPaths 12 = .ok (.iload_n 1, 1) := zD27 whX11_layPaths_0 (p := 12) rfl
theorem dX11_layPaths_13 : decode cX11_layPaths 13 = .ok (.iload_n 1, 1) := zD27 whX11_layPaths_0 (p := 13) rfl
theorem dX11_layPaths_14 : decode cX11_layPaths 14 = .ok (.aload_n 0, 1) := zD42 whX11_layPaths_0 (p := 14) rfl
theorem dX11_layPaths_15 : decode cX11_layPaths 15 = .ok (.invokevirtual 158, 3) := zD182 whX11_layPaths_0 (p := 15) rfl rfl
theorem dX11_layPaths_18 : decode cX11_layPaths 18 = .ok (.if_icmp .ne 7, 3) := zD160p whX11_layPaths_0 (p := 18) (v := 7) rfl rfl rfl
theorem dX11_layPaths_21 : decode cX11_layPaths 21 = .ok (.iconst 1, 1) := zD4 whX11_layPaths_0 (p := 21) rfl
theorem dX11_layPaths_22 : decode cX11_layPaths 22 = .ok (.goto 4, 3) := zD167p whX11_layPaths_0 (p := 22) (v := 4) rfl rfl rfl
theorem dX11_layPaths_25 : decode cX11_layPaths 25 = .ok (.iconst 0, 1) := zD3 whX11_layPaths_0 (p := 25) rfl
theorem dX11_layPaths_26 : decode cX11_layPaths 26 = .ok (.iastore, 1) := zD79 whX11_layPaths_0 (p := 26) rfl
theorem dX11_layPaths_27 : decode cX11_layPaths 27 = .ok (.aload_n 0, 1) := zD42 whX11_layPaths_0 (p := 27) rfl
theorem dX11_layPaths_28 : decode cX11_layPaths 28 = .ok (.getfield 44, 3) := zD180 whX11_layPaths_0 (p := 28) rfl rfl
theorem dX11_layPaths_31 : decode cX11_layPaths 31 = .ok (.iload_n 1, 1) := zD27 whX11_layPaths_0 (p := 31) rfl
def wlX11_layPaths_1 : List Nat := [27, 16, 10, 108, 42, 180, 0, 146, 160, 0, 7, 4, 167, 0, 4, 3, 79, 132, 1, 1, 167, 255, 206, 3, 60, 27, 42, 180, 0, 146, 162, 0, 134]
theorem whX11_layPaths_1 : WLy cX11_layPaths 32 wlX11_layPaths_1 := by decide +kernel
theorem dX11_layPaths_32 : decode cX11_layPaths 32 = .ok (.iload_n 1, 1) := zD27 whX11_layPaths_1 (p := 0) rfl
theorem dX11_layPaths_33 : decode cX11_layPaths 33 = .ok (.bipush 10, 2) := zD16p whX11_layPaths_1 (p := 1) (v := 10) rfl rfl rfl
theorem dX11_layPaths_35 : decode cX11_layPaths 35 = .ok (.idiv, 1) := zD108 whX11_layPaths_1 (p := 3) rfl
theorem dX11_layPaths_36 : decode cX11_layPaths 36 = .ok (.aload_n 0, 1) := zD42 whX11_layPaths_1 (p := 4) rfl
theorem dX11_layPaths_37 : decode cX11_layPaths 37 = .ok (.getfield 146, 3) := zD180 whX11_layPaths_1 (p := 5) rfl rfl
theorem dX11_layPaths_40 : decode cX11_layPaths 40 = .ok (.if_icmp .ne 7, 3) := zD160p whX11_layPaths_1 (p := 8) (v := 7) rfl rfl rfl
theorem dX11_layPaths_43 : decode cX11_layPaths 43 = .ok (.iconst 1, 1) := zD4 whX11_layPaths_1 (p := 11) rfl
theorem dX11_layPaths_44 : decode cX11_layPaths 44 = .ok (.goto 4, 3) := zD167p whX11_layPaths_1 (p := 12) (v := 4) rfl rfl rfl
theorem dX11_layPaths_47 : decode cX11_layPaths 47 = .ok (.iconst 0, 1) := zD3 whX11_layPaths_1 (p := 15) rfl
theorem dX11_layPaths_48 : decode cX11_layPaths 48 = .ok (.iastore, 1) := zD79 whX11_layPaths_1 (p := 16) rfl
theorem dX11_layPaths_49 : decode cX11_layPaths 49 = .ok (.iinc 1 1, 3) := zD132p whX11_layPaths_1 (p := 17) (v := 1) rfl rfl rfl
theorem dX11_layPaths_52 : decode cX11_layPaths 52 = .ok (.goto (-50), 3) := zD167n whX11_layPaths_1 (p := 20) (v := 50) rfl rfl rfl
theorem dX11_layPaths_55 : decode cX11_layPaths 55 = .ok (.iconst 0, 1) := zD3 whX11_layPaths_1 (p := 23) rfl
theorem dX11_layPaths_56 : decode cX11_layPaths 56 = .ok (.istore_n 1, 1) := zD60 whX11_layPaths_1 (p := 24) rfl
theorem dX11_layPaths_57 : decode cX11_layPaths 57 = .ok (.iload_n 1, 1) := zD27 whX11_layPaths_1 (p := 25) rfl
theorem dX11_layPaths_58 : decode cX11_layPaths 58 = .ok (.aload_n 0, 1) := zD42 whX11_layPaths_1 (p := 26) rfl
theorem dX11_layPaths_59 : decode cX11_layPaths 59 = .ok (.getfield 146, 3) := zD180 whX11_layPaths_1 (p := 27) rfl rfl
theorem dX11_layPaths_62 : decode cX11_layPaths 62 = .ok (.if_icmp .ge 134, 3) := zD162p whX11_layPaths_1 (p := 30) (v := 134) rfl rfl rfl
def wlX11_layPaths_2 : List Nat := [3, 61, 28, 16, 10, 162, 0, 120, 42, 180, 0, 41, 16, 10, 27, 104, 28, 96, 46, 62, 42, 27, 28, 4, 182, 0, 246, 54, 4, 42, 27, 28]
theorem whX11_layPaths_2 : WLy cX11_layPaths 65 wlX11_layPaths_2 := by decide +kernel
theorem dX11_layPaths_65 : decode cX11_layPaths 65 = .ok (.iconst 0, 1) := zD3 whX11_layPaths_2 (p := 0) rfl
theorem dX11_layPaths_66 : decode cX11_layPaths 66 = .ok (.istore_n 2, 1) := zD61 whX11_layPaths_2 (p := 1) rfl
theorem dX11_layPaths_67 : decode cX11_layPaths 67 = .ok (.iload_n 2, 1) := zD28 whX11_layPaths_2 (p := 2) rfl
theorem dX11_layPaths_68 : decode cX11_layPaths 68 = .ok (.bipush 10, 2) := zD16p whX11_layPaths_2 (p := 3) (v := 10) rfl rfl rfl
theorem dX11_layPaths_70 : decode cX11_layPaths 70 = .ok (.if_icmp .ge 120, 3) := zD162p whX11_layPaths_2 (p := 5) (v := 120) rfl rfl rfl
theorem dX11_layPaths_73 : decode cX11_layPaths 73 = .ok (.aload_n 0, 1) := zD42 whX11_layPaths_2 (p := 8) rfl
theorem dX11_layPaths_74 : decode cX11_layPaths 74 = .ok (.getfield 41, 3) := zD180 whX11_layPaths_2 (p := 9) rfl rfl
theorem dX11_layPaths_77 : decode cX11_layPaths 77 = .ok (.bipush 10, 2) := zD16p whX11_layPaths_2 (p := 12) (v := 10) rfl rfl rfl
theorem dX11_layPaths_79 : decode cX11_layPaths 79 = .ok (.iload_n 1, 1) := zD27 whX11_layPaths_2 (p := 14) rfl
theorem dX11_layPaths_80 : decode cX11_layPaths 80 = .ok (.imul, 1) := zD104 whX11_layPaths_2 (p := 15) rfl
theorem dX11_layPaths_81 : decode cX11_layPaths 81 = .ok (.iload_n 2, 1) := zD28 whX11_layPaths_2 (p := 16) rfl
theorem dX11_layPaths_82 : decode cX11_layPaths 82 = .ok (.iadd, 1) := zD96 whX11_layPaths_2 (p := 17) rfl
theorem dX11_layPaths_83 : decode cX11_layPaths 83 = .ok (.iaload, 1) := zD46 whX11_layPaths_2 (p := 18) rfl
theorem dX11_layPaths_84 : decode cX11_layPaths 84 = .ok (.istore_n 3, 1) := zD62 whX11_layPaths_2 (p := 19) rfl
theorem dX11_layPaths_85 : decode cX11_layPaths 85 = .ok (.aload_n 0, 1) := zD42 whX11_layPaths_2 (p := 20) rfl
theorem dX11_layPaths_86 : decode cX11_layPaths 86 = .ok (.iload_n 1, 1) := zD27 whX11_layPaths_2 (p := 21) rfl
theorem dX11_layPaths_87 : decode cX11_layPaths 87 = .ok (.iload_n 2, 1) := zD28 whX11_layPaths_2 (p := 22) rfl
theorem dX11_layPaths_88 : decode cX11_layPaths 88 = .ok (.iconst 1, 1) := zD4 whX11_layPaths_2 (p := 23) rfl
theorem dX11_layPaths_89 : decode cX11_layPaths 89 = .ok (.invokevirtual 246, 3) := zD182 whX11_layPaths_2 (p := 24) rfl rfl
theorem dX11_layPaths_92 : decode cX11_layPaths 92 = .ok (.istore 4, 2) := zD54 whX11_layPaths_2 (p := 27) rfl
theorem dX11_layPaths_94 : decode cX11_layPaths 94 = .ok (.aload_n 0, 1) := zD42 whX11_layPaths_2 (p := 29) rfl
theorem dX11_layPaths_95 : decode cX11_layPaths 95 = .ok (.iload_n 1, 1) := zD27 whX11_layPaths_2 (p := 30) rfl
theorem dX11_layPaths_96 : decode cX11_layPaths 96 = .ok (.iload_n 2, 1) := zD28 whX11_layPaths_2 (p := 31) rfl
def wlX11_layPaths_3 : List Nat := [3, 182, 0, 246, 54, 5, 28, 154, 0, 28, 42, 27, 3, 182, 0, 242, 153, 0, 19, 42, 180, 0, 41, 16, 10, 27, 104, 16, 10, 96, 92, 46]
theorem whX11_layPaths_3 : WLy cX11_layPaths 97 wlX11_layPaths_3 := by decide +kernel
theorem dX11_layPaths_97 : decode cX11_layPaths 97 = .ok (.iconst 0, 1) := zD3 whX11_layPaths_3 (p := 0) rfl
theorem dX11_layPaths_98 : decode cX11_layPaths 98 = .ok (.invokevirtual 246, 3) := zD182 whX11_layPaths_3 (p := 1) rfl rfl
theorem dX11_layPaths_101 : decode cX11_layPaths 101 = .ok (.istore 5, 2) := zD54 whX11_layPaths_3 (p := 4) rfl
theorem dX11_layPaths_103 : decode cX11_layPaths 103 = .ok (.iload_n 2, 1) := zD28 whX11_layPaths_3 (p := 6) rfl
theorem dX11_layPaths_104 : decode cX11_layPaths 104 = .ok (.ifCond .ne 28, 3) := zD154p whX11_layPaths_3 (p := 7) (v := 28) rfl rfl rfl
theorem dX11_layPaths_107 : decode cX11_layPaths 107 = .ok (.aload_n 0, 1) := zD42 whX11_layPaths_3 (p := 10) rfl
theorem dX11_layPaths_108 : decode cX11_layPaths 108 = .ok (.iload_n 1, 1) := zD27 whX11_layPaths_3 (p := 11) rfl
theorem dX11_layPaths_109 : decode cX11_layPaths 109 = .ok (.iconst 0, 1) := zD3 whX11_layPaths_3 (p := 12) rfl
theorem dX11_layPaths_110 : decode cX11_layPaths 110 = .ok (.invokevirtual 242, 3) := zD182 whX11_layPaths_3 (p := 13) rfl rfl
theorem dX11_layPaths_113 : decode cX11_layPaths 113 = .ok (.ifCond .eq 19, 3) := zD153p whX11_layPaths_3 (p := 16) (v := 19) rfl rfl rfl
theorem dX11_layPaths_116 : decode cX11_layPaths 116 = .ok (.aload_n 0, 1) := zD42 whX11_layPaths_3 (p := 19) rfl
theorem dX11_layPaths_117 : decode cX11_layPaths 117 = .ok (.getfield 41, 3) := zD180 whX11_layPaths_3 (p := 20) rfl rfl
theorem dX11_layPaths_120 : decode cX11_layPaths 120 = .ok (.bipush 10, 2) := zD16p whX11_layPaths_3 (p := 23) (v := 10) rfl rfl rfl
theorem dX11_layPaths_122 : decode cX11_layPaths 122 = .ok (.iload_n 1, 1) := zD27 whX11_layPaths_3 (p := 25) rfl
theorem dX11_layPaths_123 : decode cX11_layPaths 123 = .ok (.imul, 1) := zD104 whX11_layPaths_3 (p := 26) rfl
theorem dX11_layPaths_124 : decode cX11_layPaths 124 = .ok (.bipush 10, 2) := zD16p whX11_layPaths_3 (p := 27) (v := 10) rfl rfl rfl
theorem dX11_layPaths_126 : decode cX11_layPaths 126 = .ok (.iadd, 1) := zD96 whX11_layPaths_3 (p := 29) rfl
theorem dX11_layPaths_127 : decode cX11_layPaths 127 = .ok (.dup2, 1) := zD92 whX11_layPaths_3 (p := 30) rfl
theorem dX11_layPaths_128 : decode cX11_layPaths 128 = .ok (.iaload, 1) := zD46 whX11_layPaths_3 (p := 31) rfl
def wlX11_layPaths_4 : List Nat := [29, 96, 79, 21, 4, 16, 252, 159, 0, 22, 42, 180, 0, 41, 16, 10, 27, 104, 16, 10, 96, 21, 4, 96, 92, 46, 29, 96, 79, 21, 5, 16, 252]
theorem whX11_layPaths_4 : WLy cX11_layPaths 129 wlX11_layPaths_4 := by decide +kernel
theorem dX11_layPaths_129 : decode cX11_layPaths 129 = .ok (.iload_n 3, 1) := zD29 whX11_layPaths_4 (p := 0) rfl
theorem dX11_layPaths_130 : decode cX11_layPaths 130 = .ok (.iadd, 1) := zD96 whX11_layPaths_4 (p := 1) rfl
theorem dX11_layPaths_131 : decode cX11_layPaths 131 = .ok (.iastore, 1) := zD79 whX11_layPaths_4 (p := 2) rfl
theorem dX11_layPaths_132 : decode cX11_layPaths 132 = .ok (.iload 4, 2) := zD21 whX11_layPaths_4 (p := 3) rfl
theorem dX11_layPaths_134 : decode cX11_layPaths 134 = .ok (.bipush (-4), 2) := zD16n whX11_layPaths_4 (p := 5) (v := 4) rfl rfl rfl
theorem dX11_layPaths_136 : decode cX11_layPaths 136 = .ok (.if_icmp .eq 22, 3) := zD159p whX11_layPaths_4 (p := 7) (v := 22) rfl rfl rfl
theorem dX11_layPaths_139 : decode cX11_layPaths 139 = .ok (.aload_n 0, 1) := zD42 whX11_layPaths_4 (p := 10) rfl
theorem dX11_layPaths_140 : decode cX11_layPaths 140 = .ok (.getfield 41, 3) := zD180 whX11_layPaths_4 (p := 11) rfl rfl
theorem dX11_layPaths_143 : decode cX11_layPaths 143 = .ok (.bipush 10, 2) := zD16p whX11_layPaths_4 (p := 14) (v := 10) rfl rfl rfl
theorem dX11_layPaths_145 : decode cX11_layPaths 145 = .ok (.iload_n 1, 1) := zD27 whX11_layPaths_4 (p := 16) rfl
theorem dX11_layPaths_146 : decode cX11_layPaths 146 = .ok (.imul, 1) := zD104 whX11_layPaths_4 (p := 17) rfl
theorem dX11_layPaths_147 : decode cX11_layPaths 147 = .ok (.bipush 10, 2) := zD16p whX11_layPaths_4 (p := 18) (v := 10) rfl rfl rfl
theorem dX11_layPaths_149 : decode cX11_layPaths 149 = .ok (.iadd, 1) := zD96 whX11_layPaths_4 (p := 20) rfl
theorem dX11_layPaths_150 : decode cX11_layPaths 150 = .ok (.iload 4, 2) := zD21 whX11_layPaths_4 (p := 21) rfl
theorem dX11_layPaths_152 : decode cX11_layPaths 152 = .ok (.iadd, 1) := zD96 whX11_layPaths_4 (p := 23) rfl
theorem dX11_layPaths_153 : decode cX11_layPaths 153 = .ok (.dup2, 1) := zD92 whX11_layPaths_4 (p := 24) rfl
theorem dX11_layPaths_154 : decode cX11_layPaths 154 = .ok (.iaload, 1) := zD46 whX11_layPaths_4 (p := 25) rfl
theorem dX11_layPaths_155 : decode cX11_layPaths 155 = .ok (.iload_n 3, 1) := zD29 whX11_layPaths_4 (p := 26) rfl
theorem dX11_layPaths_156 : decode cX11_layPaths 156 = .ok (.iadd, 1) := zD96 whX11_layPaths_4 (p := 27) rfl
theorem dX11_layPaths_157 : decode cX11_layPaths 157 = .ok (.iastore, 1) := zD79 whX11_layPaths_4 (p := 28) rfl
theorem dX11_layPaths_158 : decode cX11_layPaths 158 = .ok (.iload 5, 2) := zD21 whX11_layPaths_4 (p := 29) rfl
theorem dX11_layPaths_160 : decode cX11_layPaths 160 = .ok (.bipush (-4), 2) := zD16n whX11_layPaths_4 (p := 31) (v := 4) rfl rfl rfl
def wlX11_layPaths_5 : List Nat := [159, 0, 22, 42, 180, 0, 41, 16, 10, 27, 104, 16, 10, 96, 21, 5, 96, 92, 46, 29, 96, 79, 132, 2, 1, 167, 255, 136, 132, 1, 1, 167, 255, 120]
theorem whX11_layPaths_5 : WLy cX11_layPaths 162 wlX11_layPaths_5 := by decide +kernel
theorem dX11_layPaths_162 : decode cX11_layPaths 162 = .ok (.if_icmp .eq 22, 3) := zD159p whX11_layPaths_5 (p := 0) (v := 22) rfl rfl rfl
theorem dX11_layPaths_165 : decode cX11_layPaths 165 = .ok (.aload_n 0, 1) := zD42 whX11_layPaths_5 (p := 3) rfl
theorem dX11_layPaths_166 : decode cX11_layPaths 166 = .ok (.getfield 41, 3) := zD180 whX11_layPaths_5 (p := 4) rfl rfl
theorem dX11_layPaths_169 : decode cX11_layPaths 169 = .ok (.bipush 10, 2) := zD16p whX11_layPaths_5 (p := 7) (v := 10) rfl rfl rfl
theorem dX11_layPaths_171 : decode cX11_layPaths 171 = .ok (.iload_n 1, 1) := zD27 whX11_layPaths_5 (p := 9) rfl
theorem dX11_layPaths_172 : decode cX11_layPaths 172 = .ok (.imul, 1) := zD104 whX11_layPaths_5 (p := 10) rfl
theorem dX11_layPaths_173 : decode cX11_layPaths 173 = .ok (.bipush 10, 2) := zD16p whX11_layPaths_5 (p := 11) (v := 10) rfl rfl rfl
theorem dX11_layPaths_175 : decode cX11_layPaths 175 = .ok (.iadd, 1) := zD96 whX11_layPaths_5 (p := 13) rfl
theorem dX11_layPaths_176 : decode cX11_layPaths 176 = .ok (.iload 5, 2) := zD21 whX11_layPaths_5 (p := 14) rfl
theorem dX11_layPaths_178 : decode cX11_layPaths 178 = .ok (.iadd, 1) := zD96 whX11_layPaths_5 (p := 16) rfl
theorem dX11_layPaths_179 : decode cX11_layPaths 179 = .ok (.dup2, 1) := zD92 whX11_layPaths_5 (p := 17) rfl
theorem dX11_layPaths_180 : decode cX11_layPaths 180 = .ok (.iaload, 1) := zD46 whX11_layPaths_5 (p := 18) rfl
theorem dX11_layPaths_181 : decode cX11_layPaths 181 = .ok (.iload_n 3, 1) := zD29 whX11_layPaths_5 (p := 19) rfl
theorem dX11_layPaths_182 : decode cX11_layPaths 182 = .ok (.iadd, 1) := zD96 whX11_layPaths_5 (p := 20) rfl
theorem dX11_layPaths_183 : decode cX11_layPaths 183 = .ok (.iastore, 1) := zD79 whX11_layPaths_5 (p := 21) rfl
theorem dX11_layPaths_184 : decode cX11_layPaths 184 = .ok (.iinc 2 1, 3) := zD132p whX11_layPaths_5 (p := 22) (v := 1) rfl rfl rfl
theorem dX11_layPaths_187 : decode cX11_layPaths 187 = .ok (.goto (-120), 3) := zD167n whX11_layPaths_5 (p := 25) (v := 120) rfl rfl rfl
theorem dX11_layPaths_190 : decode cX11_layPaths 190 = .ok (.iinc 1 1, 3) := zD132p whX11_layPaths_5 (p := 28) (v := 1) rfl rfl rfl
theorem dX11_layPaths_193 : decode cX11_layPaths 193 = .ok (.goto (-136), 3) := zD167n whX11_layPaths_5 (p := 31) (v := 136) rfl rfl rfl
def wlX11_layPaths_6 : List Nat := [42, 180, 0, 146, 4, 100, 60, 27, 155, 0, 77, 3, 61, 28, 16, 10, 162, 0, 63, 42, 180, 0, 44, 16, 10, 27, 104, 28, 96, 28, 154, 0, 27]
theorem whX11_layPaths_6 : WLy cX11_layPaths 196 wlX11_layPaths_6 := by decide +kernel
theorem dX11_layPaths_196 : decode cX11_layPaths 196 = .ok (.aload_n 0, 1) := zD42 whX11_layPaths_6 (p := 0) rfl
theorem dX11_layPaths_197 : decode cX11_layPaths 197 = .ok (.getfield 146, 3) := zD180 whX11_layPaths_6 (p := 1) rfl rfl
theorem dX11_layPaths_200 : decode cX11_layPaths 200 = .ok (.iconst 1, 1) := zD4 whX11_layPaths_6 (p := 4) rfl
theorem dX11_layPaths_201 : decode cX11_layPaths 201 = .ok (.isub, 1) := zD100 whX11_layPaths_6 (p := 5) rfl
theorem dX11_layPaths_202 : decode cX11_layPaths 202 = .ok (.istore_n 1, 1) := zD60 whX11_layPaths_6 (p := 6) rfl
theorem dX11_layPaths_203 : decode cX11_layPaths 203 = .ok (.iload_n 1, 1) := zD27 whX11_layPaths_6 (p := 7) rfl
theorem dX11_layPaths_204 : decode cX11_layPaths 204 = .ok (.ifCond .lt 77, 3) := zD155p whX11_layPaths_6 (p := 8) (v := 77) rfl rfl rfl
theorem dX11_layPaths_207 : decode cX11_layPaths 207 = .ok (.iconst 0, 1) := zD3 whX11_layPaths_6 (p := 11) rfl
theorem dX11_layPaths_208 : decode cX11_layPaths 208 = .ok (.istore_n 2, 1) := zD61 whX11_layPaths_6 (p := 12) rfl
theorem dX11_layPaths_209 : decode cX11_layPaths 209 = .ok (.iload_n 2, 1) := zD28 whX11_layPaths_6 (p := 13) rfl
theorem dX11_layPaths_210 : decode cX11_layPaths 210 = .ok (.bipush 10, 2) := zD16p whX11_layPaths_6 (p := 14) (v := 10) rfl rfl rfl
theorem dX11_layPaths_212 : decode cX11_layPaths 212 = .ok (.if_icmp .ge 63, 3) := zD162p whX11_layPaths_6 (p := 16) (v := 63) rfl rfl rfl
theorem dX11_layPaths_215 : decode cX11_layPaths 215 = .ok (.aload_n 0, 1) := zD42 whX11_layPaths_6 (p := 19) rfl
theorem dX11_layPaths_216 : decode cX11_layPaths 216 = .ok (.getfield 44, 3) := zD180 whX11_layPaths_6 (p := 20) rfl rfl
theorem dX11_layPaths_219 : decode cX11_layPaths 219 = .ok (.bipush 10, 2) := zD16p whX11_layPaths_6 (p := 23) (v := 10) rfl rfl rfl
theorem dX11_layPaths_221 : decode cX11_layPaths 221 = .ok (.iload_n 1, 1) := zD27 whX11_layPaths_6 (p := 25) rfl
theorem dX11_layPaths_222 : decode cX11_layPaths 222 = .ok (.imul, 1) := zD104 whX11_layPaths_6 (p := 26) rfl
theorem dX11_layPaths_223 : decode cX11_layPaths 223 = .ok (.iload_n 2, 1) := zD28 whX11_layPaths_6 (p := 27) rfl
theorem dX11_layPaths_224 : decode cX11_layPaths 224 = .ok (.iadd, 1) := zD96 whX11_layPaths_6 (p := 28) rfl
theorem dX11_layPaths_225 : decode cX11_layPaths 225 = .ok (.iload_n 2, 1) := zD28 whX11_layPaths_6 (p := 29) rfl
theorem dX11_layPaths_226 : decode cX11_layPaths 226 = .ok (.ifCond .ne 27, 3) := zD154p whX11_layPaths_6 (p := 30) (v := 27) rfl rfl rfl
def wlX11_layPaths_7 : List Nat := [42, 27, 3, 182, 0, 242, 153, 0, 18, 42, 180, 0, 44, 16, 10, 27, 104, 16, 10, 96, 46, 167, 0, 18, 42, 27, 28, 4, 182, 0, 250, 42]
theorem whX11_layPaths_7 : WLy cX11_layPaths 229 wlX11_layPaths_7 := by decide +kernel
theorem dX11_layPaths_229 : decode cX11_layPaths 229 = .ok (.aload_n 0, 1) := zD42 whX11_layPaths_7 (p := 0) rfl
theorem dX11_layPaths_230 : decode cX11_layPaths 230 = .ok (.iload_n 1, 1) := zD27 whX11_layPaths_7 (p := 1) rfl
theorem dX11_layPaths_231 : decode cX11_layPaths 231 = .ok (.iconst 0, 1) := zD3 whX11_layPaths_7 (p := 2) rfl
theorem dX11_layPaths_232 : decode cX11_layPaths 232 = .ok (.invokevirtual 242, 3) := zD182 whX11_layPaths_7 (p := 3) rfl rfl
theorem dX11_layPaths_235 : decode cX11_layPaths 235 = .ok (.ifCond .eq 18, 3) := zD153p whX11_layPaths_7 (p := 6) (v := 18) rfl rfl rfl
theorem dX11_layPaths_238 : decode cX11_layPaths 238 = .ok (.aload_n 0, 1) := zD42 whX11_layPaths_7 (p := 9) rfl
theorem dX11_layPaths_239 : decode cX11_layPaths 239 = .ok (.getfield 44, 3) := zD180 whX11_layPaths_7 (p := 10) rfl rfl
theorem dX11_layPaths_242 : decode cX11_layPaths 242 = .ok (.bipush 10, 2) := zD16p whX11_layPaths_7 (p := 13) (v := 10) rfl rfl rfl
theorem dX11_layPaths_244 : decode cX11_layPaths 244 = .ok (.iload_n 1, 1) := zD27 whX11_layPaths_7 (p := 15) rfl
theorem dX11_layPaths_245 : decode cX11_layPaths 245 = .ok (.imul, 1) := zD104 whX11_layPaths_7 (p := 16) rfl
theorem dX11_layPaths_246 : decode cX11_layPaths 246 = .ok (.bipush 10, 2) := zD16p whX11_layPaths_7 (p := 17) (v := 10) rfl rfl rfl
theorem dX11_layPaths_248 : decode cX11_layPaths 248 = .ok (.iadd, 1) := zD96 whX11_layPaths_7 (p := 19) rfl
theorem dX11_layPaths_249 : decode cX11_layPaths 249 = .ok (.iaload, 1) := zD46 whX11_layPaths_7 (p := 20) rfl
theorem dX11_layPaths_250 : decode cX11_layPaths 250 = .ok (.goto 18, 3) := zD167p whX11_layPaths_7 (p := 21) (v := 18) rfl rfl rfl
theorem dX11_layPaths_253 : decode cX11_layPaths 253 = .ok (.aload_n 0, 1) := zD42 whX11_layPaths_7 (p := 24) rfl
theorem dX11_layPaths_254 : decode cX11_layPaths 254 = .ok (.iload_n 1, 1) := zD27 whX11_layPaths_7 (p := 25) rfl
theorem dX11_layPaths_255 : decode cX11_layPaths 255 = .ok (.iload_n 2, 1) := zD28 whX11_layPaths_7 (p := 26) rfl
theorem dX11_layPaths_256 : decode cX11_layPaths 256 = .ok (.iconst 1, 1) := zD4 whX11_layPaths_7 (p := 27) rfl
theorem dX11_layPaths_257 : decode cX11_layPaths 257 = .ok (.invokevirtual 250, 3) := zD182 whX11_layPaths_7 (p := 28) rfl rfl
theorem dX11_layPaths_260 : decode cX11_layPaths 260 = .ok (.aload_n 0, 1) := zD42 whX11_layPaths_7 (p := 31) rfl
def wlX11_layPaths_8 : List Nat := [27, 28, 3, 182, 0, 250, 96, 79, 132, 2, 1, 167, 255, 193, 132, 1, 255, 167, 255, 181, 177]
theorem whX11_layPaths_8 : WLy cX11_layPaths 261 wlX11_layPaths_8 := by decide +kernel
theorem dX11_layPaths_261 : decode cX11_layPaths 261 = .ok (.iload_n 1, 1) := zD27 whX11_layPaths_8 (p := 0) rfl
theorem dX11_layPaths_262 : decode cX11_layPaths 262 = .ok (.iload_n 2, 1) := zD28 whX11_layPaths_8 (p := 1) rfl
theorem dX11_layPaths_263 : decode cX11_layPaths 263 = .ok (.iconst 0, 1) := zD3 whX11_layPaths_8 (p := 2) rfl
theorem dX11_layPaths_264 : decode cX11_layPaths 264 = .ok (.invokevirtual 250, 3) := zD182 whX11_layPaths_8 (p := 3) rfl rfl
theorem dX11_layPaths_267 : decode cX11_layPaths 267 = .ok (.iadd, 1) := zD96 whX11_layPaths_8 (p := 6) rfl
theorem dX11_layPaths_268 : decode cX11_layPaths 268 = .ok (.iastore, 1) := zD79 whX11_layPaths_8 (p := 7) rfl
theorem dX11_layPaths_269 : decode cX11_layPaths 269 = .ok (.iinc 2 1, 3) := zD132p whX11_layPaths_8 (p := 8) (v := 1) rfl rfl rfl
theorem dX11_layPaths_272 : decode cX11_layPaths 272 = .ok (.goto (-63), 3) := zD167n whX11_layPaths_8 (p := 11) (v := 63) rfl rfl rfl
theorem dX11_layPaths_275 : decode cX11_layPaths 275 = .ok (.iinc 1 (-1), 3) := zD132n whX11_layPaths_8 (p := 14) (v := 1) rfl rfl rfl
theorem dX11_layPaths_278 : decode cX11_layPaths 278 = .ok (.goto (-75), 3) := zD167n whX11_layPaths_8 (p := 17) (v := 75) rfl rfl rfl
theorem dX11_layPaths_281 : decode cX11_layPaths 281 = .ok (.return_, 1) := zD177 whX11_layPaths_8 (p := 20) rfl
def wlX11_onward_0 : List Nat := [42, 27, 28, 29, 182, 0, 246, 54, 4, 21, 4, 16, 252, 160, 0, 7, 3, 167, 0, 18, 42, 180, 0, 44, 16, 10, 27, 104, 16, 10, 96, 21, 4]
theorem whX11_onward_0 : WLy cX11_onward 0 wlX11_onward_0 := by decide +kernel
theorem dX11_onward_0 : decode cX11_onward 0 = .ok (.aload_n 0, 1) := zD42 whX11_onward_0 (p := 0) rfl
theorem dX11_onward_1 : decode cX11_onward 1 = .ok (.iload_n 1, 1) := zD27 whX11_onward_0 (p := 1) rfl
theorem dX11_onward_2 : decode cX11_onward 2 = .ok (.iload_n 2, 1) := zD28 whX11_onward_0 (p := 2) rfl
theorem dX11_onward_3 : decode cX11_onward 3 = .ok (.iload_n 3, 1) := zD29 whX11_onward_0 (p := 3) rfl
theorem dX11_onward_4 : decode cX11_onward 4 = .ok (.invokevirtual 246, 3) := zD182 whX11_onward_0 (p := 4) rfl rfl
theorem dX11_onward_7 : decode cX11_onward 7 = .ok (.istore 4, 2) := zD54 whX11_onward_0 (p := 7) rfl
theorem dX11_onward_9 : decode cX11_onward 9 = .ok (.iload 4, 2) := zD21 whX11_onward_0 (p := 9) rfl
theorem dX11_onward_11 : decode cX11_onward 11 = .ok (.bipush (-4), 2) := zD16n whX11_onward_0 (p := 11) (v := 4) rfl rfl rfl
theorem dX11_onward_13 : decode cX11_onward 13 = .ok (.if_icmp .ne 7, 3) := zD160p whX11_onward_0 (p := 13) (v := 7) rfl rfl rfl
theorem dX11_onward_16 : decode cX11_onward 16 = .ok (.iconst 0, 1) := zD3 whX11_onward_0 (p := 16) rfl
theorem dX11_onward_17 : decode cX11_onward 17 = .ok (.goto 18, 3) := zD167p whX11_onward_0 (p := 17) (v := 18) rfl rfl rfl
theorem dX11_onward_20 : decode cX11_onward 20 = .ok (.aload_n 0, 1) := zD42 whX11_onward_0 (p := 20) rfl
theorem dX11_onward_21 : decode cX11_onward 21 = .ok (.getfield 44, 3) := zD180 whX11_onward_0 (p := 21) rfl rfl
theorem dX11_onward_24 : decode cX11_onward 24 = .ok (.bipush 10, 2) := zD16p whX11_onward_0 (p := 24) (v := 10) rfl rfl rfl
theorem dX11_onward_26 : decode cX11_onward 26 = .ok (.iload_n 1, 1) := zD27 whX11_onward_0 (p := 26) rfl
theorem dX11_onward_27 : decode cX11_onward 27 = .ok (.imul, 1) := zD104 whX11_onward_0 (p := 27) rfl
theorem dX11_onward_28 : decode cX11_onward 28 = .ok (.bipush 10, 2) := zD16p whX11_onward_0 (p := 28) (v := 10) rfl rfl rfl
theorem dX11_onward_30 : decode cX11_onward 30 = .ok (.iadd, 1) := zD96 whX11_onward_0 (p := 30) rfl
theorem dX11_onward_31 : decode cX11_onward 31 = .ok (.iload 4, 2) := zD21 whX11_onward_0 (p := 31) rfl
def wlX11_onward_1 : List Nat := [96, 46, 172]
theorem whX11_onward_1 : WLy cX11_onward 33 wlX11_onward_1 := by decide +kernel
theorem dX11_onward_33 : decode cX11_onward 33 = .ok (.iadd, 1) := zD96 whX11_onward_1 (p := 0) rfl
theorem dX11_onward_34 : decode cX11_onward 34 = .ok (.iaload, 1) := zD46 whX11_onward_1 (p := 1) rfl
theorem dX11_onward_35 : decode cX11_onward 35 = .ok (.ireturn, 1) := zD172 whX11_onward_1 (p := 2) rfl
def wlX11_paths_0 : List Nat := [42, 182, 0, 253, 42, 180, 0, 44, 42, 182, 0, 158, 46, 172]
theorem whX11_paths_0 : WLy cX11_paths 0 wlX11_paths_0 := by decide +kernel
theorem dX11_paths_0 : decode cX11_paths 0 = .ok (.aload_n 0, 1) := zD42 whX11_paths_0 (p := 0) rfl
theorem dX11_paths_1 : decode cX11_paths 1 = .ok (.invokevirtual 253, 3) := zD182 whX11_paths_0 (p := 1) rfl rfl
theorem dX11_paths_4 : decode cX11_paths 4 = .ok (.aload_n 0, 1) := zD42 whX11_paths_0 (p := 4) rfl
theorem dX11_paths_5 : decode cX11_paths 5 = .ok (.getfield 44, 3) := zD180 whX11_paths_0 (p := 5) rfl rfl
theorem dX11_paths_8 : decode cX11_paths 8 = .ok (.aload_n 0, 1) := zD42 whX11_paths_0 (p := 8) rfl
theorem dX11_paths_9 : decode cX11_paths 9 = .ok (.invokevirtual 158, 3) := zD182 whX11_paths_0 (p := 9) rfl rfl
theorem dX11_paths_12 : decode cX11_paths 12 = .ok (.iaload, 1) := zD46 whX11_paths_0 (p := 12) rfl
theorem dX11_paths_13 : decode cX11_paths 13 = .ok (.ireturn, 1) := zD172 whX11_paths_0 (p := 13) rfl
def wlX11_eye_0 : List Nat := [27, 133, 9, 20, 0, 170, 184, 0, 64, 154, 0, 5, 2, 172, 42, 182, 0, 253, 3, 61, 3, 62, 29, 42, 180, 0, 146, 162, 0, 53, 28, 42]
theorem whX11_eye_0 : WLy cX11_eye 0 wlX11_eye_0 := by decide +kernel
theorem dX11_eye_0 : decode cX11_eye 0 = .ok (.iload_n 1, 1) := zD27 whX11_eye_0 (p := 0) rfl
theorem dX11_eye_1 : decode cX11_eye 1 = .ok (.i2l, 1) := zD133 whX11_eye_0 (p := 1) rfl
theorem dX11_eye_2 : decode cX11_eye 2 = .ok (.lconst 0, 1) := zD9 whX11_eye_0 (p := 2) rfl
theorem dX11_eye_3 : decode cX11_eye 3 = .ok (.ldc2_w 170, 3) := zD20 whX11_eye_0 (p := 3) rfl rfl
theorem dX11_eye_6 : decode cX11_eye 6 = .ok (.invokestatic 64, 3) := zD184 whX11_eye_0 (p := 6) rfl rfl
theorem dX11_eye_9 : decode cX11_eye 9 = .ok (.ifCond .ne 5, 3) := zD154p whX11_eye_0 (p := 9) (v := 5) rfl rfl rfl
theorem dX11_eye_12 : decode cX11_eye 12 = .ok (.iconst (-1), 1) := zD2 whX11_eye_0 (p := 12) rfl
theorem dX11_eye_13 : decode cX11_eye 13 = .ok (.ireturn, 1) := zD172 whX11_eye_0 (p := 13) rfl
theorem dX11_eye_14 : decode cX11_eye 14 = .ok (.aload_n 0, 1) := zD42 whX11_eye_0 (p := 14) rfl
theorem dX11_eye_15 : decode cX11_eye 15 = .ok (.invokevirtual 253, 3) := zD182 whX11_eye_0 (p := 15) rfl rfl
theorem dX11_eye_18 : decode cX11_eye 18 = .ok (.iconst 0, 1) := zD3 whX11_eye_0 (p := 18) rfl
theorem dX11_eye_19 : decode cX11_eye 19 = .ok (.istore_n 2, 1) := zD61 whX11_eye_0 (p := 19) rfl
theorem dX11_eye_20 : decode cX11_eye 20 = .ok (.iconst 0, 1) := zD3 whX11_eye_0 (p := 20) rfl
theorem dX11_eye_21 : decode cX11_eye 21 = .ok (.istore_n 3, 1) := zD62 whX11_eye_0 (p := 21) rfl
theorem dX11_eye_22 : decode cX11_eye 22 = .ok (.iload_n 3, 1) := zD29 whX11_eye_0 (p := 22) rfl
theorem dX11_eye_23 : decode cX11_eye 23 = .ok (.aload_n 0, 1) := zD42 whX11_eye_0 (p := 23) rfl
theorem dX11_eye_24 : decode cX11_eye 24 = .ok (.getfield 146, 3) := zD180 whX11_eye_0 (p := 24) rfl rfl
theorem dX11_eye_27 : decode cX11_eye 27 = .ok (.if_icmp .ge 53, 3) := zD162p whX11_eye_0 (p := 27) (v := 53) rfl rfl rfl
theorem dX11_eye_30 : decode cX11_eye 30 = .ok (.iload_n 2, 1) := zD28 whX11_eye_0 (p := 30) rfl
theorem dX11_eye_31 : decode cX11_eye 31 = .ok (.aload_n 0, 1) := zD42 whX11_eye_0 (p := 31) rfl
def wlX11_eye_1 : List Nat := [180, 0, 41, 16, 10, 29, 104, 16, 10, 96, 27, 96, 46, 158, 0, 26, 42, 180, 0, 44, 16, 10, 29, 104, 16, 10, 96, 27, 96, 46, 158, 0, 9]
theorem whX11_eye_1 : WLy cX11_eye 32 wlX11_eye_1 := by decide +kernel
theorem dX11_eye_32 : decode cX11_eye 32 = .ok (.getfield 41, 3) := zD180 whX11_eye_1 (p := 0) rfl rfl
theorem dX11_eye_35 : decode cX11_eye 35 = .ok (.bipush 10, 2) := zD16p whX11_eye_1 (p := 3) (v := 10) rfl rfl rfl
theorem dX11_eye_37 : decode cX11_eye 37 = .ok (.iload_n 3, 1) := zD29 whX11_eye_1 (p := 5) rfl
theorem dX11_eye_38 : decode cX11_eye 38 = .ok (.imul, 1) := zD104 whX11_eye_1 (p := 6) rfl
theorem dX11_eye_39 : decode cX11_eye 39 = .ok (.bipush 10, 2) := zD16p whX11_eye_1 (p := 7) (v := 10) rfl rfl rfl
theorem dX11_eye_41 : decode cX11_eye 41 = .ok (.iadd, 1) := zD96 whX11_eye_1 (p := 9) rfl
theorem dX11_eye_42 : decode cX11_eye 42 = .ok (.iload_n 1, 1) := zD27 whX11_eye_1 (p := 10) rfl
theorem dX11_eye_43 : decode cX11_eye 43 = .ok (.iadd, 1) := zD96 whX11_eye_1 (p := 11) rfl
theorem dX11_eye_44 : decode cX11_eye 44 = .ok (.iaload, 1) := zD46 whX11_eye_1 (p := 12) rfl
theorem dX11_eye_45 : decode cX11_eye 45 = .ok (.ifCond .le 26, 3) := zD158p whX11_eye_1 (p := 13) (v := 26) rfl rfl rfl
theorem dX11_eye_48 : decode cX11_eye 48 = .ok (.aload_n 0, 1) := zD42 whX11_eye_1 (p := 16) rfl
theorem dX11_eye_49 : decode cX11_eye 49 = .ok (.getfield 44, 3) := zD180 whX11_eye_1 (p := 17) rfl rfl
theorem dX11_eye_52 : decode cX11_eye 52 = .ok (.bipush 10, 2) := zD16p whX11_eye_1 (p := 20) (v := 10) rfl rfl rfl
theorem dX11_eye_54 : decode cX11_eye 54 = .ok (.iload_n 3, 1) := zD29 whX11_eye_1 (p := 22) rfl
theorem dX11_eye_55 : decode cX11_eye 55 = .ok (.imul, 1) := zD104 whX11_eye_1 (p := 23) rfl
theorem dX11_eye_56 : decode cX11_eye 56 = .ok (.bipush 10, 2) := zD16p whX11_eye_1 (p := 24) (v := 10) rfl rfl rfl
theorem dX11_eye_58 : decode cX11_eye 58 = .ok (.iadd, 1) := zD96 whX11_eye_1 (p := 26) rfl
theorem dX11_eye_59 : decode cX11_eye 59 = .ok (.iload_n 1, 1) := zD27 whX11_eye_1 (p := 27) rfl
theorem dX11_eye_60 : decode cX11_eye 60 = .ok (.iadd, 1) := zD96 whX11_eye_1 (p := 28) rfl
theorem dX11_eye_61 : decode cX11_eye 61 = .ok (.iaload, 1) := zD46 whX11_eye_1 (p := 29) rfl
theorem dX11_eye_62 : decode cX11_eye 62 = .ok (.ifCond .le 9, 3) := zD158p whX11_eye_1 (p := 30) (v := 9) rfl rfl rfl
def wlX11_eye_2 : List Nat := [4, 29, 120, 167, 0, 4, 3, 128, 61, 132, 3, 1, 167, 255, 201, 28, 172]
theorem whX11_eye_2 : WLy cX11_eye 65 wlX11_eye_2 := by decide +kernel
theorem dX11_eye_65 : decode cX11_eye 65 = .ok (.iconst 1, 1) := zD4 whX11_eye_2 (p := 0) rfl
theorem dX11_eye_66 : decode cX11_eye 66 = .ok (.iload_n 3, 1) := zD29 whX11_eye_2 (p := 1) rfl
theorem dX11_eye_67 : decode cX11_eye 67 = .ok (.ishl, 1) := zD120 whX11_eye_2 (p := 2) rfl
theorem dX11_eye_68 : decode cX11_eye 68 = .ok (.goto 4, 3) := zD167p whX11_eye_2 (p := 3) (v := 4) rfl rfl rfl
theorem dX11_eye_71 : decode cX11_eye 71 = .ok (.iconst 0, 1) := zD3 whX11_eye_2 (p := 6) rfl
theorem dX11_eye_72 : decode cX11_eye 72 = .ok (.ior, 1) := zD128 whX11_eye_2 (p := 7) rfl
theorem dX11_eye_73 : decode cX11_eye 73 = .ok (.istore_n 2, 1) := zD61 whX11_eye_2 (p := 8) rfl
theorem dX11_eye_74 : decode cX11_eye 74 = .ok (.iinc 3 1, 3) := zD132p whX11_eye_2 (p := 9) (v := 1) rfl rfl rfl
theorem dX11_eye_77 : decode cX11_eye 77 = .ok (.goto (-55), 3) := zD167n whX11_eye_2 (p := 12) (v := 55) rfl rfl rfl
theorem dX11_eye_80 : decode cX11_eye 80 = .ok (.iload_n 2, 1) := zD28 whX11_eye_2 (p := 15) rfl
theorem dX11_eye_81 : decode cX11_eye 81 = .ok (.ireturn, 1) := zD172 whX11_eye_2 (p := 16) rfl
def wlX11_sure_0 : List Nat := [27, 133, 9, 10, 184, 0, 64, 154, 0, 5, 2, 172, 42, 182, 0, 253, 42, 180, 0, 44, 42, 182, 0, 158, 46, 61, 28, 154, 0, 6, 16, 252]
theorem whX11_sure_0 : WLy cX11_sure 0 wlX11_sure_0 := by decide +kernel
theorem dX11_sure_0 : decode cX11_sure 0 = .ok (.iload_n 1, 1) := zD27 whX11_sure_0 (p := 0) rfl
theorem dX11_sure_1 : decode cX11_sure 1 = .ok (.i2l, 1) := zD133 whX11_sure_0 (p := 1) rfl
theorem dX11_sure_2 : decode cX11_sure 2 = .ok (.lconst 0, 1) := zD9 whX11_sure_0 (p := 2) rfl
theorem dX11_sure_3 : decode cX11_sure 3 = .ok (.lconst 1, 1) := zD10 whX11_sure_0 (p := 3) rfl
theorem dX11_sure_4 : decode cX11_sure 4 = .ok (.invokestatic 64, 3) := zD184 whX11_sure_0 (p := 4) rfl rfl
theorem dX11_sure_7 : decode cX11_sure 7 = .ok (.ifCond .ne 5, 3) := zD154p whX11_sure_0 (p := 7) (v := 5) rfl rfl rfl
theorem dX11_sure_10 : decode cX11_sure 10 = .ok (.iconst (-1), 1) := zD2 whX11_sure_0 (p := 10) rfl
theorem dX11_sure_11 : decode cX11_sure 11 = .ok (.ireturn, 1) := zD172 whX11_sure_0 (p := 11) rfl
theorem dX11_sure_12 : decode cX11_sure 12 = .ok (.aload_n 0, 1) := zD42 whX11_sure_0 (p := 12) rfl
theorem dX11_sure_13 : decode cX11_sure 13 = .ok (.invokevirtual 253, 3) := zD182 whX11_sure_0 (p := 13) rfl rfl
theorem dX11_sure_16 : decode cX11_sure 16 = .ok (.aload_n 0, 1) := zD42 whX11_sure_0 (p := 16) rfl
theorem dX11_sure_17 : decode cX11_sure 17 = .ok (.getfield 44, 3) := zD180 whX11_sure_0 (p := 17) rfl rfl
theorem dX11_sure_20 : decode cX11_sure 20 = .ok (.aload_n 0, 1) := zD42 whX11_sure_0 (p := 20) rfl
theorem dX11_sure_21 : decode cX11_sure 21 = .ok (.invokevirtual 158, 3) := zD182 whX11_sure_0 (p := 21) rfl rfl
theorem dX11_sure_24 : decode cX11_sure 24 = .ok (.iaload, 1) := zD46 whX11_sure_0 (p := 24) rfl
theorem dX11_sure_25 : decode cX11_sure 25 = .ok (.istore_n 2, 1) := zD61 whX11_sure_0 (p := 25) rfl
theorem dX11_sure_26 : decode cX11_sure 26 = .ok (.iload_n 2, 1) := zD28 whX11_sure_0 (p := 26) rfl
theorem dX11_sure_27 : decode cX11_sure 27 = .ok (.ifCond .ne 6, 3) := zD154p whX11_sure_0 (p := 27) (v := 6) rfl rfl rfl
theorem dX11_sure_30 : decode cX11_sure 30 = .ok (.bipush (-4), 2) := zD16n whX11_sure_0 (p := 30) (v := 4) rfl rfl rfl
def wlX11_sure_1 : List Nat := [172, 3, 62, 3, 54, 4, 21, 4, 42, 180, 0, 146, 162, 0, 81, 3, 54, 5, 3, 54, 6, 21, 6, 16, 10, 162, 0, 45, 21, 5, 42, 180, 0, 41]
theorem whX11_sure_1 : WLy cX11_sure 32 wlX11_sure_1 := by decide +kernel
theorem dX11_sure_32 : decode cX11_sure 32 = .ok (.ireturn, 1) := zD172 whX11_sure_1 (p := 0) rfl
theorem dX11_sure_33 : decode cX11_sure 33 = .ok (.iconst 0, 1) := zD3 whX11_sure_1 (p := 1) rfl
theorem dX11_sure_34 : decode cX11_sure 34 = .ok (.istore_n 3, 1) := zD62 whX11_sure_1 (p := 2) rfl
theorem dX11_sure_35 : decode cX11_sure 35 = .ok (.iconst 0, 1) := zD3 whX11_sure_1 (p := 3) rfl
theorem dX11_sure_36 : decode cX11_sure 36 = .ok (.istore 4, 2) := zD54 whX11_sure_1 (p := 4) rfl
theorem dX11_sure_38 : decode cX11_sure 38 = .ok (.iload 4, 2) := zD21 whX11_sure_1 (p := 6) rfl
theorem dX11_sure_40 : decode cX11_sure 40 = .ok (.aload_n 0, 1) := zD42 whX11_sure_1 (p := 8) rfl
theorem dX11_sure_41 : decode cX11_sure 41 = .ok (.getfield 146, 3) := zD180 whX11_sure_1 (p := 9) rfl rfl
theorem dX11_sure_44 : decode cX11_sure 44 = .ok (.if_icmp .ge 81, 3) := zD162p whX11_sure_1 (p := 12) (v := 81) rfl rfl rfl
theorem dX11_sure_47 : decode cX11_sure 47 = .ok (.iconst 0, 1) := zD3 whX11_sure_1 (p := 15) rfl
theorem dX11_sure_48 : decode cX11_sure 48 = .ok (.istore 5, 2) := zD54 whX11_sure_1 (p := 16) rfl
theorem dX11_sure_50 : decode cX11_sure 50 = .ok (.iconst 0, 1) := zD3 whX11_sure_1 (p := 18) rfl
theorem dX11_sure_51 : decode cX11_sure 51 = .ok (.istore 6, 2) := zD54 whX11_sure_1 (p := 19) rfl
theorem dX11_sure_53 : decode cX11_sure 53 = .ok (.iload 6, 2) := zD21 whX11_sure_1 (p := 21) rfl
theorem dX11_sure_55 : decode cX11_sure 55 = .ok (.bipush 10, 2) := zD16p whX11_sure_1 (p := 23) (v := 10) rfl rfl rfl
theorem dX11_sure_57 : decode cX11_sure 57 = .ok (.if_icmp .ge 45, 3) := zD162p whX11_sure_1 (p := 25) (v := 45) rfl rfl rfl
theorem dX11_sure_60 : decode cX11_sure 60 = .ok (.iload 5, 2) := zD21 whX11_sure_1 (p := 28) rfl
theorem dX11_sure_62 : decode cX11_sure 62 = .ok (.aload_n 0, 1) := zD42 whX11_sure_1 (p := 30) rfl
theorem dX11_sure_63 : decode cX11_sure 63 = .ok (.getfield 41, 3) := zD180 whX11_sure_1 (p := 31) rfl rfl
def wlX11_sure_2 : List Nat := [16, 10, 21, 4, 104, 21, 6, 96, 46, 42, 21, 4, 21, 6, 27, 154, 0, 7, 4, 167, 0, 4, 3, 182, 0, 250, 104, 96, 54, 5, 132, 6, 1]
theorem whX11_sure_2 : WLy cX11_sure 66 wlX11_sure_2 := by decide +kernel
theorem dX11_sure_66 : decode cX11_sure 66 = .ok (.bipush 10, 2) := zD16p whX11_sure_2 (p := 0) (v := 10) rfl rfl rfl
theorem dX11_sure_68 : decode cX11_sure 68 = .ok (.iload 4, 2) := zD21 whX11_sure_2 (p := 2) rfl
theorem dX11_sure_70 : decode cX11_sure 70 = .ok (.imul, 1) := zD104 whX11_sure_2 (p := 4) rfl
theorem dX11_sure_71 : decode cX11_sure 71 = .ok (.iload 6, 2) := zD21 whX11_sure_2 (p := 5) rfl
theorem dX11_sure_73 : decode cX11_sure 73 = .ok (.iadd, 1) := zD96 whX11_sure_2 (p := 7) rfl
theorem dX11_sure_74 : decode cX11_sure 74 = .ok (.iaload, 1) := zD46 whX11_sure_2 (p := 8) rfl
theorem dX11_sure_75 : decode cX11_sure 75 = .ok (.aload_n 0, 1) := zD42 whX11_sure_2 (p := 9) rfl
theorem dX11_sure_76 : decode cX11_sure 76 = .ok (.iload 4, 2) := zD21 whX11_sure_2 (p := 10) rfl
theorem dX11_sure_78 : decode cX11_sure 78 = .ok (.iload 6, 2) := zD21 whX11_sure_2 (p := 12) rfl
theorem dX11_sure_80 : decode cX11_sure 80 = .ok (.iload_n 1, 1) := zD27 whX11_sure_2 (p := 14) rfl
theorem dX11_sure_81 : decode cX11_sure 81 = .ok (.ifCond .ne 7, 3) := zD154p whX11_sure_2 (p := 15) (v := 7) rfl rfl rfl
theorem dX11_sure_84 : decode cX11_sure 84 = .ok (.iconst 1, 1) := zD4 whX11_sure_2 (p := 18) rfl
theorem dX11_sure_85 : decode cX11_sure 85 = .ok (.goto 4, 3) := zD167p whX11_sure_2 (p := 19) (v := 4) rfl rfl rfl
theorem dX11_sure_88 : decode cX11_sure 88 = .ok (.iconst 0, 1) := zD3 whX11_sure_2 (p := 22) rfl
theorem dX11_sure_89 : decode cX11_sure 89 = .ok (.invokevirtual 250, 3) := zD182 whX11_sure_2 (p := 23) rfl rfl
theorem dX11_sure_92 : decode cX11_sure 92 = .ok (.imul, 1) := zD104 whX11_sure_2 (p := 26) rfl
theorem dX11_sure_93 : decode cX11_sure 93 = .ok (.iadd, 1) := zD96 whX11_sure_2 (p := 27) rfl
theorem dX11_sure_94 : decode cX11_sure 94 = .ok (.istore 5, 2) := zD54 whX11_sure_2 (p := 28) rfl
theorem dX11_sure_96 : decode cX11_sure 96 = .ok (.iinc 6 1, 3) := zD132p whX11_sure_2 (p := 30) (v := 1) rfl rfl rfl
def wlX11_sure_3 : List Nat := [167, 255, 210, 29, 21, 5, 28, 160, 0, 10, 4, 21, 4, 120, 167, 0, 4, 3, 128, 62, 132, 4, 1, 167, 255, 172, 29, 172]
theorem whX11_sure_3 : WLy cX11_sure 99 wlX11_sure_3 := by decide +kernel
theorem dX11_sure_99 : decode cX11_sure 99 = .ok (.goto (-46), 3) := zD167n whX11_sure_3 (p := 0) (v := 46) rfl rfl rfl
theorem dX11_sure_102 : decode cX11_sure 102 = .ok (.iload_n 3, 1) := zD29 whX11_sure_3 (p := 3) rfl
theorem dX11_sure_103 : decode cX11_sure 103 = .ok (.iload 5, 2) := zD21 whX11_sure_3 (p := 4) rfl
theorem dX11_sure_105 : decode cX11_sure 105 = .ok (.iload_n 2, 1) := zD28 whX11_sure_3 (p := 6) rfl
theorem dX11_sure_106 : decode cX11_sure 106 = .ok (.if_icmp .ne 10, 3) := zD160p whX11_sure_3 (p := 7) (v := 10) rfl rfl rfl
theorem dX11_sure_109 : decode cX11_sure 109 = .ok (.iconst 1, 1) := zD4 whX11_sure_3 (p := 10) rfl
theorem dX11_sure_110 : decode cX11_sure 110 = .ok (.iload 4, 2) := zD21 whX11_sure_3 (p := 11) rfl
theorem dX11_sure_112 : decode cX11_sure 112 = .ok (.ishl, 1) := zD120 whX11_sure_3 (p := 13) rfl
theorem dX11_sure_113 : decode cX11_sure 113 = .ok (.goto 4, 3) := zD167p whX11_sure_3 (p := 14) (v := 4) rfl rfl rfl
theorem dX11_sure_116 : decode cX11_sure 116 = .ok (.iconst 0, 1) := zD3 whX11_sure_3 (p := 17) rfl
theorem dX11_sure_117 : decode cX11_sure 117 = .ok (.ior, 1) := zD128 whX11_sure_3 (p := 18) rfl
theorem dX11_sure_118 : decode cX11_sure 118 = .ok (.istore_n 3, 1) := zD62 whX11_sure_3 (p := 19) rfl
theorem dX11_sure_119 : decode cX11_sure 119 = .ok (.iinc 4 1, 3) := zD132p whX11_sure_3 (p := 20) (v := 1) rfl rfl rfl
theorem dX11_sure_122 : decode cX11_sure 122 = .ok (.goto (-84), 3) := zD167n whX11_sure_3 (p := 23) (v := 84) rfl rfl rfl
theorem dX11_sure_125 : decode cX11_sure 125 = .ok (.iload_n 3, 1) := zD29 whX11_sure_3 (p := 26) rfl
theorem dX11_sure_126 : decode cX11_sure 126 = .ok (.ireturn, 1) := zD172 whX11_sure_3 (p := 27) rfl
def wlX11_copies_0 : List Nat := [3, 62, 29, 16, 49, 162, 0, 25, 42, 180, 0, 7, 28, 29, 96, 42, 180, 0, 7, 27, 29, 96, 46, 79, 132, 3, 1, 167, 255, 231, 177]
theorem whX11_copies_0 : WLy cX11_copies 0 wlX11_copies_0 := by decide +kernel
theorem dX11_copies_0 : decode cX11_copies 0 = .ok (.iconst 0, 1) := zD3 whX11_copies_0 (p := 0) rfl
theorem dX11_copies_1 : decode cX11_copies 1 = .ok (.istore_n 3, 1) := zD62 whX11_copies_0 (p := 1) rfl
theorem dX11_copies_2 : decode cX11_copies 2 = .ok (.iload_n 3, 1) := zD29 whX11_copies_0 (p := 2) rfl
theorem dX11_copies_3 : decode cX11_copies 3 = .ok (.bipush 49, 2) := zD16p whX11_copies_0 (p := 3) (v := 49) rfl rfl rfl
theorem dX11_copies_5 : decode cX11_copies 5 = .ok (.if_icmp .ge 25, 3) := zD162p whX11_copies_0 (p := 5) (v := 25) rfl rfl rfl
theorem dX11_copies_8 : decode cX11_copies 8 = .ok (.aload_n 0, 1) := zD42 whX11_copies_0 (p := 8) rfl
theorem dX11_copies_9 : decode cX11_copies 9 = .ok (.getfield 7, 3) := zD180 whX11_copies_0 (p := 9) rfl rfl
theorem dX11_copies_12 : decode cX11_copies 12 = .ok (.iload_n 2, 1) := zD28 whX11_copies_0 (p := 12) rfl
theorem dX11_copies_13 : decode cX11_copies 13 = .ok (.iload_n 3, 1) := zD29 whX11_copies_0 (p := 13) rfl
theorem dX11_copies_14 : decode cX11_copies 14 = .ok (.iadd, 1) := zD96 whX11_copies_0 (p := 14) rfl
theorem dX11_copies_15 : decode cX11_copies 15 = .ok (.aload_n 0, 1) := zD42 whX11_copies_0 (p := 15) rfl
theorem dX11_copies_16 : decode cX11_copies 16 = .ok (.getfield 7, 3) := zD180 whX11_copies_0 (p := 16) rfl rfl
theorem dX11_copies_19 : decode cX11_copies 19 = .ok (.iload_n 1, 1) := zD27 whX11_copies_0 (p := 19) rfl
theorem dX11_copies_20 : decode cX11_copies 20 = .ok (.iload_n 3, 1) := zD29 whX11_copies_0 (p := 20) rfl
theorem dX11_copies_21 : decode cX11_copies 21 = .ok (.iadd, 1) := zD96 whX11_copies_0 (p := 21) rfl
theorem dX11_copies_22 : decode cX11_copies 22 = .ok (.iaload, 1) := zD46 whX11_copies_0 (p := 22) rfl
theorem dX11_copies_23 : decode cX11_copies 23 = .ok (.iastore, 1) := zD79 whX11_copies_0 (p := 23) rfl
theorem dX11_copies_24 : decode cX11_copies 24 = .ok (.iinc 3 1, 3) := zD132p whX11_copies_0 (p := 24) (v := 1) rfl rfl rfl
theorem dX11_copies_27 : decode cX11_copies 27 = .ok (.goto (-25), 3) := zD167n whX11_copies_0 (p := 27) (v := 25) rfl rfl rfl
theorem dX11_copies_30 : decode cX11_copies 30 = .ok (.return_, 1) := zD177 whX11_copies_0 (p := 30) rfl
def wlX11_keep_0 : List Nat := [27, 133, 9, 10, 184, 0, 64, 154, 0, 5, 2, 172, 42, 3, 16, 49, 27, 4, 96, 104, 182, 1, 0, 42, 180, 0, 47, 27, 51, 153, 0, 7]
theorem whX11_keep_0 : WLy cX11_keep 0 wlX11_keep_0 := by decide +kernel
theorem dX11_keep_0 : decode cX11_keep 0 = .ok (.iload_n 1, 1) := zD27 whX11_keep_0 (p := 0) rfl
theorem dX11_keep_1 : decode cX11_keep 1 = .ok (.i2l, 1) := zD133 whX11_keep_0 (p := 1) rfl
theorem dX11_keep_2 : decode cX11_keep 2 = .ok (.lconst 0, 1) := zD9 whX11_keep_0 (p := 2) rfl
theorem dX11_keep_3 : decode cX11_keep 3 = .ok (.lconst 1, 1) := zD10 whX11_keep_0 (p := 3) rfl
theorem dX11_keep_4 : decode cX11_keep 4 = .ok (.invokestatic 64, 3) := zD184 whX11_keep_0 (p := 4) rfl rfl
theorem dX11_keep_7 : decode cX11_keep 7 = .ok (.ifCond .ne 5, 3) := zD154p whX11_keep_0 (p := 7) (v := 5) rfl rfl rfl
theorem dX11_keep_10 : decode cX11_keep 10 = .ok (.iconst (-1), 1) := zD2 whX11_keep_0 (p := 10) rfl
theorem dX11_keep_11 : decode cX11_keep 11 = .ok (.ireturn, 1) := zD172 whX11_keep_0 (p := 11) rfl
theorem dX11_keep_12 : decode cX11_keep 12 = .ok (.aload_n 0, 1) := zD42 whX11_keep_0 (p := 12) rfl
theorem dX11_keep_13 : decode cX11_keep 13 = .ok (.iconst 0, 1) := zD3 whX11_keep_0 (p := 13) rfl
theorem dX11_keep_14 : decode cX11_keep 14 = .ok (.bipush 49, 2) := zD16p whX11_keep_0 (p := 14) (v := 49) rfl rfl rfl
theorem dX11_keep_16 : decode cX11_keep 16 = .ok (.iload_n 1, 1) := zD27 whX11_keep_0 (p := 16) rfl
theorem dX11_keep_17 : decode cX11_keep 17 = .ok (.iconst 1, 1) := zD4 whX11_keep_0 (p := 17) rfl
theorem dX11_keep_18 : decode cX11_keep 18 = .ok (.iadd, 1) := zD96 whX11_keep_0 (p := 18) rfl
theorem dX11_keep_19 : decode cX11_keep 19 = .ok (.imul, 1) := zD104 whX11_keep_0 (p := 19) rfl
theorem dX11_keep_20 : decode cX11_keep 20 = .ok (.invokevirtual 256, 3) := zD182 whX11_keep_0 (p := 20) rfl rfl
theorem dX11_keep_23 : decode cX11_keep 23 = .ok (.aload_n 0, 1) := zD42 whX11_keep_0 (p := 23) rfl
theorem dX11_keep_24 : decode cX11_keep 24 = .ok (.getfield 47, 3) := zD180 whX11_keep_0 (p := 24) rfl rfl
theorem dX11_keep_27 : decode cX11_keep 27 = .ok (.iload_n 1, 1) := zD27 whX11_keep_0 (p := 27) rfl
theorem dX11_keep_28 : decode cX11_keep 28 = .ok (.baload, 1) := zD51 whX11_keep_0 (p := 28) rfl
theorem dX11_keep_29 : decode cX11_keep 29 = .ok (.ifCond .eq 7, 3) := zD153p whX11_keep_0 (p := 29) (v := 7) rfl rfl rfl
def wlX11_keep_1 : List Nat := [4, 167, 0, 4, 3, 61, 42, 180, 0, 47, 27, 4, 84, 28, 172]
theorem whX11_keep_1 : WLy cX11_keep 32 wlX11_keep_1 := by decide +kernel
theorem dX11_keep_32 : decode cX11_keep 32 = .ok (.iconst 1, 1) := zD4 whX11_keep_1 (p := 0) rfl
theorem dX11_keep_33 : decode cX11_keep 33 = .ok (.goto 4, 3) := zD167p whX11_keep_1 (p := 1) (v := 4) rfl rfl rfl
theorem dX11_keep_36 : decode cX11_keep 36 = .ok (.iconst 0, 1) := zD3 whX11_keep_1 (p := 4) rfl
theorem dX11_keep_37 : decode cX11_keep 37 = .ok (.istore_n 2, 1) := zD61 whX11_keep_1 (p := 5) rfl
theorem dX11_keep_38 : decode cX11_keep 38 = .ok (.aload_n 0, 1) := zD42 whX11_keep_1 (p := 6) rfl
theorem dX11_keep_39 : decode cX11_keep 39 = .ok (.getfield 47, 3) := zD180 whX11_keep_1 (p := 7) rfl rfl
theorem dX11_keep_42 : decode cX11_keep 42 = .ok (.iload_n 1, 1) := zD27 whX11_keep_1 (p := 10) rfl
theorem dX11_keep_43 : decode cX11_keep 43 = .ok (.iconst 1, 1) := zD4 whX11_keep_1 (p := 11) rfl
theorem dX11_keep_44 : decode cX11_keep 44 = .ok (.bastore, 1) := zD84 whX11_keep_1 (p := 12) rfl
theorem dX11_keep_45 : decode cX11_keep 45 = .ok (.iload_n 2, 1) := zD28 whX11_keep_1 (p := 13) rfl
theorem dX11_keep_46 : decode cX11_keep 46 = .ok (.ireturn, 1) := zD172 whX11_keep_1 (p := 14) rfl
def wlX11_back_0 : List Nat := [27, 133, 9, 10, 184, 0, 64, 154, 0, 5, 2, 172, 42, 180, 0, 47, 27, 51, 154, 0, 6, 16, 254, 172, 42, 16, 49, 27, 4, 96, 104, 3]
theorem whX11_back_0 : WLy cX11_back 0 wlX11_back_0 := by decide +kernel
theorem dX11_back_0 : decode cX11_back 0 = .ok (.iload_n 1, 1) := zD27 whX11_back_0 (p := 0) rfl
theorem dX11_back_1 : decode cX11_back 1 = .ok (.i2l, 1) := zD133 whX11_back_0 (p := 1) rfl
theorem dX11_back_2 : decode cX11_back 2 = .ok (.lconst 0, 1) := zD9 whX11_back_0 (p := 2) rfl
theorem dX11_back_3 : decode cX11_back 3 = .ok (.lconst 1, 1) := zD10 whX11_back_0 (p := 3) rfl
theorem dX11_back_4 : decode cX11_back 4 = .ok (.invokestatic 64, 3) := zD184 whX11_back_0 (p := 4) rfl rfl
theorem dX11_back_7 : decode cX11_back 7 = .ok (.ifCond .ne 5, 3) := zD154p whX11_back_0 (p := 7) (v := 5) rfl rfl rfl
theorem dX11_back_10 : decode cX11_back 10 = .ok (.iconst (-1), 1) := zD2 whX11_back_0 (p := 10) rfl
theorem dX11_back_11 : decode cX11_back 11 = .ok (.ireturn, 1) := zD172 whX11_back_0 (p := 11) rfl
theorem dX11_back_12 : decode cX11_back 12 = .ok (.aload_n 0, 1) := zD42 whX11_back_0 (p := 12) rfl
theorem dX11_back_13 : decode cX11_back 13 = .ok (.getfield 47, 3) := zD180 whX11_back_0 (p := 13) rfl rfl
theorem dX11_back_16 : decode cX11_back 16 = .ok (.iload_n 1, 1) := zD27 whX11_back_0 (p := 16) rfl
theorem dX11_back_17 : decode cX11_back 17 = .ok (.baload, 1) := zD51 whX11_back_0 (p := 17) rfl
theorem dX11_back_18 : decode cX11_back 18 = .ok (.ifCond .ne 6, 3) := zD154p whX11_back_0 (p := 18) (v := 6) rfl rfl rfl
theorem dX11_back_21 : decode cX11_back 21 = .ok (.bipush (-2), 2) := zD16n whX11_back_0 (p := 21) (v := 2) rfl rfl rfl
theorem dX11_back_23 : decode cX11_back 23 = .ok (.ireturn, 1) := zD172 whX11_back_0 (p := 23) rfl
theorem dX11_back_24 : decode cX11_back 24 = .ok (.aload_n 0, 1) := zD42 whX11_back_0 (p := 24) rfl
theorem dX11_back_25 : decode cX11_back 25 = .ok (.bipush 49, 2) := zD16p whX11_back_0 (p := 25) (v := 49) rfl rfl rfl
theorem dX11_back_27 : decode cX11_back 27 = .ok (.iload_n 1, 1) := zD27 whX11_back_0 (p := 27) rfl
theorem dX11_back_28 : decode cX11_back 28 = .ok (.iconst 1, 1) := zD4 whX11_back_0 (p := 28) rfl
theorem dX11_back_29 : decode cX11_back 29 = .ok (.iadd, 1) := zD96 whX11_back_0 (p := 29) rfl
theorem dX11_back_30 : decode cX11_back 30 = .ok (.imul, 1) := zD104 whX11_back_0 (p := 30) rfl
theorem dX11_back_31 : decode cX11_back 31 = .ok (.iconst 0, 1) := zD3 whX11_back_0 (p := 31) rfl
def wlX11_back_1 : List Nat := [182, 1, 0, 42, 180, 0, 146, 172]
theorem whX11_back_1 : WLy cX11_back 32 wlX11_back_1 := by decide +kernel
theorem dX11_back_32 : decode cX11_back 32 = .ok (.invokevirtual 256, 3) := zD182 whX11_back_1 (p := 0) rfl rfl
theorem dX11_back_35 : decode cX11_back 35 = .ok (.aload_n 0, 1) := zD42 whX11_back_1 (p := 3) rfl
theorem dX11_back_36 : decode cX11_back 36 = .ok (.getfield 146, 3) := zD180 whX11_back_1 (p := 4) rfl rfl
theorem dX11_back_39 : decode cX11_back 39 = .ok (.ireturn, 1) := zD172 whX11_back_1 (p := 7) rfl
def wlX11_sheet_0 : List Nat := [27, 133, 9, 20, 0, 132, 184, 0, 64, 153, 0, 21, 28, 133, 9, 20, 0, 165, 184, 0, 64, 153, 0, 9, 29, 16, 40, 164, 0, 5, 2, 172]
theorem whX11_sheet_0 : WLy cX11_sheet 0 wlX11_sheet_0 := by decide +kernel
theorem dX11_sheet_0 : decode cX11_sheet 0 = .ok (.iload_n 1, 1) := zD27 whX11_sheet_0 (p := 0) rfl
theorem dX11_sheet_1 : decode cX11_sheet 1 = .ok (.i2l, 1) := zD133 whX11_sheet_0 (p := 1) rfl
theorem dX11_sheet_2 : decode cX11_sheet 2 = .ok (.lconst 0, 1) := zD9 whX11_sheet_0 (p := 2) rfl
theorem dX11_sheet_3 : decode cX11_sheet 3 = .ok (.ldc2_w 132, 3) := zD20 whX11_sheet_0 (p := 3) rfl rfl
theorem dX11_sheet_6 : decode cX11_sheet 6 = .ok (.invokestatic 64, 3) := zD184 whX11_sheet_0 (p := 6) rfl rfl
theorem dX11_sheet_9 : decode cX11_sheet 9 = .ok (.ifCond .eq 21, 3) := zD153p whX11_sheet_0 (p := 9) (v := 21) rfl rfl rfl
theorem dX11_sheet_12 : decode cX11_sheet 12 = .ok (.iload_n 2, 1) := zD28 whX11_sheet_0 (p := 12) rfl
theorem dX11_sheet_13 : decode cX11_sheet 13 = .ok (.i2l, 1) := zD133 whX11_sheet_0 (p := 13) rfl
theorem dX11_sheet_14 : decode cX11_sheet 14 = .ok (.lconst 0, 1) := zD9 whX11_sheet_0 (p := 14) rfl
theorem dX11_sheet_15 : decode cX11_sheet 15 = .ok (.ldc2_w 165, 3) := zD20 whX11_sheet_0 (p := 15) rfl rfl
theorem dX11_sheet_18 : decode cX11_sheet 18 = .ok (.invokestatic 64, 3) := zD184 whX11_sheet_0 (p := 18) rfl rfl
theorem dX11_sheet_21 : decode cX11_sheet 21 = .ok (.ifCond .eq 9, 3) := zD153p whX11_sheet_0 (p := 21) (v := 9) rfl rfl rfl
theorem dX11_sheet_24 : decode cX11_sheet 24 = .ok (.iload_n 3, 1) := zD29 whX11_sheet_0 (p := 24) rfl
theorem dX11_sheet_25 : decode cX11_sheet 25 = .ok (.bipush 40, 2) := zD16p whX11_sheet_0 (p := 25) (v := 40) rfl rfl rfl
theorem dX11_sheet_27 : decode cX11_sheet 27 = .ok (.if_icmp .le 5, 3) := zD164p whX11_sheet_0 (p := 27) (v := 5) rfl rfl rfl
theorem dX11_sheet_30 : decode cX11_sheet 30 = .ok (.iconst (-1), 1) := zD2 whX11_sheet_0 (p := 30) rfl
theorem dX11_sheet_31 : decode cX11_sheet 31 = .ok (.ireturn, 1) := zD172 whX11_sheet_0 (p := 31) rfl
def wlX11_sheet_1 : List Nat := [29, 156, 0, 6, 16, 242, 172, 42, 180, 0, 51, 27, 28, 79, 42, 180, 0, 54, 27, 29, 79, 3, 54, 4, 21, 4, 16, 40, 162, 0, 22, 42]
theorem whX11_sheet_1 : WLy cX11_sheet 32 wlX11_sheet_1 := by decide +kernel
theorem dX11_sheet_32 : decode cX11_sheet 32 = .ok (.iload_n 3, 1) := zD29 whX11_sheet_1 (p := 0) rfl
theorem dX11_sheet_33 : decode cX11_sheet 33 = .ok (.ifCond .ge 6, 3) := zD156p whX11_sheet_1 (p := 1) (v := 6) rfl rfl rfl
theorem dX11_sheet_36 : decode cX11_sheet 36 = .ok (.bipush (-14), 2) := zD16n whX11_sheet_1 (p := 4) (v := 14) rfl rfl rfl
theorem dX11_sheet_38 : decode cX11_sheet 38 = .ok (.ireturn, 1) := zD172 whX11_sheet_1 (p := 6) rfl
theorem dX11_sheet_39 : decode cX11_sheet 39 = .ok (.aload_n 0, 1) := zD42 whX11_sheet_1 (p := 7) rfl
theorem dX11_sheet_40 : decode cX11_sheet 40 = .ok (.getfield 51, 3) := zD180 whX11_sheet_1 (p := 8) rfl rfl
theorem dX11_sheet_43 : decode cX11_sheet 43 = .ok (.iload_n 1, 1) := zD27 whX11_sheet_1 (p := 11) rfl
theorem dX11_sheet_44 : decode cX11_sheet 44 = .ok (.iload_n 2, 1) := zD28 whX11_sheet_1 (p := 12) rfl
theorem dX11_sheet_45 : decode cX11_sheet 45 = .ok (.iastore, 1) := zD79 whX11_sheet_1 (p := 13) rfl
theorem dX11_sheet_46 : decode cX11_sheet 46 = .ok (.aload_n 0, 1) := zD42 whX11_sheet_1 (p := 14) rfl
theorem dX11_sheet_47 : decode cX11_sheet 47 = .ok (.getfield 54, 3) := zD180 whX11_sheet_1 (p := 15) rfl rfl
theorem dX11_sheet_50 : decode cX11_sheet 50 = .ok (.iload_n 1, 1) := zD27 whX11_sheet_1 (p := 18) rfl
theorem dX11_sheet_51 : decode cX11_sheet 51 = .ok (.iload_n 3, 1) := zD29 whX11_sheet_1 (p := 19) rfl
theorem dX11_sheet_52 : decode cX11_sheet 52 = .ok (.iastore, 1) := zD79 whX11_sheet_1 (p := 20) rfl
theorem dX11_sheet_53 : decode cX11_sheet 53 = .ok (.iconst 0, 1) := zD3 whX11_sheet_1 (p := 21) rfl
theorem dX11_sheet_54 : decode cX11_sheet 54 = .ok (.istore 4, 2) := zD54 whX11_sheet_1 (p := 22) rfl
theorem dX11_sheet_56 : decode cX11_sheet 56 = .ok (.iload 4, 2) := zD21 whX11_sheet_1 (p := 24) rfl
theorem dX11_sheet_58 : decode cX11_sheet 58 = .ok (.bipush 40, 2) := zD16p whX11_sheet_1 (p := 26) (v := 40) rfl rfl rfl
theorem dX11_sheet_60 : decode cX11_sheet 60 = .ok (.if_icmp .ge 22, 3) := zD162p whX11_sheet_1 (p := 28) (v := 22) rfl rfl rfl
theorem dX11_sheet_63 : decode cX11_sheet 63 = .ok (.aload_n 0, 1) := zD42 whX11_sheet_1 (p := 31) rfl
def wlX11_sheet_2 : List Nat := [180, 0, 57, 16, 40, 27, 104, 21, 4, 96, 3, 79, 132, 4, 1, 167, 255, 233, 4, 172]
theorem whX11_sheet_2 : WLy cX11_sheet 64 wlX11_sheet_2 := by decide +kernel
theorem dX11_sheet_64 : decode cX11_sheet 64 = .ok (.getfield 57, 3) := zD180 whX11_sheet_2 (p := 0) rfl rfl
theorem dX11_sheet_67 : decode cX11_sheet 67 = .ok (.bipush 40, 2) := zD16p whX11_sheet_2 (p := 3) (v := 40) rfl rfl rfl
theorem dX11_sheet_69 : decode cX11_sheet 69 = .ok (.iload_n 1, 1) := zD27 whX11_sheet_2 (p := 5) rfl
theorem dX11_sheet_70 : decode cX11_sheet 70 = .ok (.imul, 1) := zD104 whX11_sheet_2 (p := 6) rfl
theorem dX11_sheet_71 : decode cX11_sheet 71 = .ok (.iload 4, 2) := zD21 whX11_sheet_2 (p := 7) rfl
theorem dX11_sheet_73 : decode cX11_sheet 73 = .ok (.iadd, 1) := zD96 whX11_sheet_2 (p := 9) rfl
theorem dX11_sheet_74 : decode cX11_sheet 74 = .ok (.iconst 0, 1) := zD3 whX11_sheet_2 (p := 10) rfl
theorem dX11_sheet_75 : decode cX11_sheet 75 = .ok (.iastore, 1) := zD79 whX11_sheet_2 (p := 11) rfl
theorem dX11_sheet_76 : decode cX11_sheet 76 = .ok (.iinc 4 1, 3) := zD132p whX11_sheet_2 (p := 12) (v := 1) rfl rfl rfl
theorem dX11_sheet_79 : decode cX11_sheet 79 = .ok (.goto (-23), 3) := zD167n whX11_sheet_2 (p := 15) (v := 23) rfl rfl rfl
theorem dX11_sheet_82 : decode cX11_sheet 82 = .ok (.iconst 1, 1) := zD4 whX11_sheet_2 (p := 18) rfl
theorem dX11_sheet_83 : decode cX11_sheet 83 = .ok (.ireturn, 1) := zD172 whX11_sheet_2 (p := 19) rfl
def wlX11_lay_0 : List Nat := [27, 133, 9, 20, 0, 132, 184, 0, 64, 154, 0, 5, 2, 172, 42, 180, 0, 51, 27, 46, 16, 252, 160, 0, 6, 16, 245, 172, 28, 133, 9, 42]
theorem whX11_lay_0 : WLy cX11_lay 0 wlX11_lay_0 := by decide +kernel
theorem dX11_lay_0 : decode cX11_lay 0 = .ok (.iload_n 1, 1) := zD27 whX11_lay_0 (p := 0) rfl
theorem dX11_lay_1 : decode cX11_lay 1 = .ok (.i2l, 1) := zD133 whX11_lay_0 (p := 1) rfl
theorem dX11_lay_2 : decode cX11_lay 2 = .ok (.lconst 0, 1) := zD9 whX11_lay_0 (p := 2) rfl
theorem dX11_lay_3 : decode cX11_lay 3 = .ok (.ldc2_w 132, 3) := zD20 whX11_lay_0 (p := 3) rfl rfl
theorem dX11_lay_6 : decode cX11_lay 6 = .ok (.invokestatic 64, 3) := zD184 whX11_lay_0 (p := 6) rfl rfl
theorem dX11_lay_9 : decode cX11_lay 9 = .ok (.ifCond .ne 5, 3) := zD154p whX11_lay_0 (p := 9) (v := 5) rfl rfl rfl
theorem dX11_lay_12 : decode cX11_lay 12 = .ok (.iconst (-1), 1) := zD2 whX11_lay_0 (p := 12) rfl
theorem dX11_lay_13 : decode cX11_lay 13 = .ok (.ireturn, 1) := zD172 whX11_lay_0 (p := 13) rfl
theorem dX11_lay_14 : decode cX11_lay 14 = .ok (.aload_n 0, 1) := zD42 whX11_lay_0 (p := 14) rfl
theorem dX11_lay_15 : decode cX11_lay 15 = .ok (.getfield 51, 3) := zD180 whX11_lay_0 (p := 15) rfl rfl
theorem dX11_lay_18 : decode cX11_lay 18 = .ok (.iload_n 1, 1) := zD27 whX11_lay_0 (p := 18) rfl
theorem dX11_lay_19 : decode cX11_lay 19 = .ok (.iaload, 1) := zD46 whX11_lay_0 (p := 19) rfl
theorem dX11_lay_20 : decode cX11_lay 20 = .ok (.bipush (-4), 2) := zD16n whX11_lay_0 (p := 20) (v := 4) rfl rfl rfl
theorem dX11_lay_22 : decode cX11_lay 22 = .ok (.if_icmp .ne 6, 3) := zD160p whX11_lay_0 (p := 22) (v := 6) rfl rfl rfl
theorem dX11_lay_25 : decode cX11_lay 25 = .ok (.bipush (-11), 2) := zD16n whX11_lay_0 (p := 25) (v := 11) rfl rfl rfl
theorem dX11_lay_27 : decode cX11_lay 27 = .ok (.ireturn, 1) := zD172 whX11_lay_0 (p := 27) rfl
theorem dX11_lay_28 : decode cX11_lay 28 = .ok (.iload_n 2, 1) := zD28 whX11_lay_0 (p := 28) rfl
theorem dX11_lay_29 : decode cX11_lay 29 = .ok (.i2l, 1) := zD133 whX11_lay_0 (p := 29) rfl
theorem dX11_lay_30 : decode cX11_lay 30 = .ok (.lconst 0, 1) := zD9 whX11_lay_0 (p := 30) rfl
theorem dX11_lay_31 : decode cX11_lay 31 = .ok (.aload_n 0, 1) := zD42 whX11_lay_0 (p := 31) rfl
def wlX11_lay_1 : List Nat := [180, 0, 54, 27, 46, 4, 100, 133, 184, 0, 64, 154, 0, 6, 16, 244, 172, 42, 180, 0, 57, 16, 40, 27, 104, 28, 96, 42, 180, 0, 51, 27]
theorem whX11_lay_1 : WLy cX11_lay 32 wlX11_lay_1 := by decide +kernel
theorem dX11_lay_32 : decode cX11_lay 32 = .ok (.getfield 54, 3) := zD180 whX11_lay_1 (p := 0) rfl rfl
theorem dX11_lay_35 : decode cX11_lay 35 = .ok (.iload_n 1, 1) := zD27 whX11_lay_1 (p := 3) rfl
theorem dX11_lay_36 : decode cX11_lay 36 = .ok (.iaload, 1) := zD46 whX11_lay_1 (p := 4) rfl
theorem dX11_lay_37 : decode cX11_lay 37 = .ok (.iconst 1, 1) := zD4 whX11_lay_1 (p := 5) rfl
theorem dX11_lay_38 : decode cX11_lay 38 = .ok (.isub, 1) := zD100 whX11_lay_1 (p := 6) rfl
theorem dX11_lay_39 : decode cX11_lay 39 = .ok (.i2l, 1) := zD133 whX11_lay_1 (p := 7) rfl
theorem dX11_lay_40 : decode cX11_lay 40 = .ok (.invokestatic 64, 3) := zD184 whX11_lay_1 (p := 8) rfl rfl
theorem dX11_lay_43 : decode cX11_lay 43 = .ok (.ifCond .ne 6, 3) := zD154p whX11_lay_1 (p := 11) (v := 6) rfl rfl rfl
theorem dX11_lay_46 : decode cX11_lay 46 = .ok (.bipush (-12), 2) := zD16n whX11_lay_1 (p := 14) (v := 12) rfl rfl rfl
theorem dX11_lay_48 : decode cX11_lay 48 = .ok (.ireturn, 1) := zD172 whX11_lay_1 (p := 16) rfl
theorem dX11_lay_49 : decode cX11_lay 49 = .ok (.aload_n 0, 1) := zD42 whX11_lay_1 (p := 17) rfl
theorem dX11_lay_50 : decode cX11_lay 50 = .ok (.getfield 57, 3) := zD180 whX11_lay_1 (p := 18) rfl rfl
theorem dX11_lay_53 : decode cX11_lay 53 = .ok (.bipush 40, 2) := zD16p whX11_lay_1 (p := 21) (v := 40) rfl rfl rfl
theorem dX11_lay_55 : decode cX11_lay 55 = .ok (.iload_n 1, 1) := zD27 whX11_lay_1 (p := 23) rfl
theorem dX11_lay_56 : decode cX11_lay 56 = .ok (.imul, 1) := zD104 whX11_lay_1 (p := 24) rfl
theorem dX11_lay_57 : decode cX11_lay 57 = .ok (.iload_n 2, 1) := zD28 whX11_lay_1 (p := 25) rfl
theorem dX11_lay_58 : decode cX11_lay 58 = .ok (.iadd, 1) := zD96 whX11_lay_1 (p := 26) rfl
theorem dX11_lay_59 : decode cX11_lay 59 = .ok (.aload_n 0, 1) := zD42 whX11_lay_1 (p := 27) rfl
theorem dX11_lay_60 : decode cX11_lay 60 = .ok (.getfield 51, 3) := zD180 whX11_lay_1 (p := 28) rfl rfl
theorem dX11_lay_63 : decode cX11_lay 63 = .ok (.iload_n 1, 1) := zD27 whX11_lay_1 (p := 31) rfl
def wlX11_lay_2 : List Nat := [46, 154, 0, 13, 29, 16, 24, 120, 16, 24, 122, 167, 0, 24, 42, 180, 0, 51, 27, 46, 4, 160, 0, 13, 29, 16, 16, 120, 16, 16, 122, 167, 0, 4]
theorem whX11_lay_2 : WLy cX11_lay 64 wlX11_lay_2 := by decide +kernel
theorem dX11_lay_64 : decode cX11_lay 64 = .ok (.iaload, 1) := zD46 whX11_lay_2 (p := 0) rfl
theorem dX11_lay_65 : decode cX11_lay 65 = .ok (.ifCond .ne 13, 3) := zD154p whX11_lay_2 (p := 1) (v := 13) rfl rfl rfl
theorem dX11_lay_68 : decode cX11_lay 68 = .ok (.iload_n 3, 1) := zD29 whX11_lay_2 (p := 4) rfl
theorem dX11_lay_69 : decode cX11_lay 69 = .ok (.bipush 24, 2) := zD16p whX11_lay_2 (p := 5) (v := 24) rfl rfl rfl
theorem dX11_lay_71 : decode cX11_lay 71 = .ok (.ishl, 1) := zD120 whX11_lay_2 (p := 7) rfl
theorem dX11_lay_72 : decode cX11_lay 72 = .ok (.bipush 24, 2) := zD16p whX11_lay_2 (p := 8) (v := 24) rfl rfl rfl
theorem dX11_lay_74 : decode cX11_lay 74 = .ok (.ishr, 1) := zD122 whX11_lay_2 (p := 10) rfl
theorem dX11_lay_75 : decode cX11_lay 75 = .ok (.goto 24, 3) := zD167p whX11_lay_2 (p := 11) (v := 24) rfl rfl rfl
theorem dX11_lay_78 : decode cX11_lay 78 = .ok (.aload_n 0, 1) := zD42 whX11_lay_2 (p := 14) rfl
theorem dX11_lay_79 : decode cX11_lay 79 = .ok (.getfield 51, 3) := zD180 whX11_lay_2 (p := 15) rfl rfl
theorem dX11_lay_82 : decode cX11_lay 82 = .ok (.iload_n 1, 1) := zD27 whX11_lay_2 (p := 18) rfl
theorem dX11_lay_83 : decode cX11_lay 83 = .ok (.iaload, 1) := zD46 whX11_lay_2 (p := 19) rfl
theorem dX11_lay_84 : decode cX11_lay 84 = .ok (.iconst 1, 1) := zD4 whX11_lay_2 (p := 20) rfl
theorem dX11_lay_85 : decode cX11_lay 85 = .ok (.if_icmp .ne 13, 3) := zD160p whX11_lay_2 (p := 21) (v := 13) rfl rfl rfl
theorem dX11_lay_88 : decode cX11_lay 88 = .ok (.iload_n 3, 1) := zD29 whX11_lay_2 (p := 24) rfl
theorem dX11_lay_89 : decode cX11_lay 89 = .ok (.bipush 16, 2) := zD16p whX11_lay_2 (p := 25) (v := 16) rfl rfl rfl
theorem dX11_lay_91 : decode cX11_lay 91 = .ok (.ishl, 1) := zD120 whX11_lay_2 (p := 27) rfl
theorem dX11_lay_92 : decode cX11_lay 92 = .ok (.bipush 16, 2) := zD16p whX11_lay_2 (p := 28) (v := 16) rfl rfl rfl
theorem dX11_lay_94 : decode cX11_lay 94 = .ok (.ishr, 1) := zD122 whX11_lay_2 (p := 30) rfl
theorem dX11_lay_95 : decode cX11_lay 95 = .ok (.goto 4, 3) := zD167p whX11_lay_2 (p := 31) (v := 4) rfl rfl rfl
def wlX11_lay_3 : List Nat := [29, 79, 4, 172]
theorem whX11_lay_3 : WLy cX11_lay 98 wlX11_lay_3 := by decide +kernel
theorem dX11_lay_98 : decode cX11_lay 98 = .ok (.iload_n 3, 1) := zD29 whX11_lay_3 (p := 0) rfl
theorem dX11_lay_99 : decode cX11_lay 99 = .ok (.iastore, 1) := zD79 whX11_lay_3 (p := 1) rfl
theorem dX11_lay_100 : decode cX11_lay 100 = .ok (.iconst 1, 1) := zD4 whX11_lay_3 (p := 2) rfl
theorem dX11_lay_101 : decode cX11_lay 101 = .ok (.ireturn, 1) := zD172 whX11_lay_3 (p := 3) rfl
def wlX11_read_0 : List Nat := [27, 133, 9, 20, 0, 132, 184, 0, 64, 153, 0, 28, 28, 133, 9, 20, 0, 165, 184, 0, 64, 153, 0, 16, 21, 4, 133, 9, 20, 0, 191, 184, 0, 64]
theorem whX11_read_0 : WLy cX11_read 0 wlX11_read_0 := by decide +kernel
theorem dX11_read_0 : decode cX11_read 0 = .ok (.iload_n 1, 1) := zD27 whX11_read_0 (p := 0) rfl
theorem dX11_read_1 : decode cX11_read 1 = .ok (.i2l, 1) := zD133 whX11_read_0 (p := 1) rfl
theorem dX11_read_2 : decode cX11_read 2 = .ok (.lconst 0, 1) := zD9 whX11_read_0 (p := 2) rfl
theorem dX11_read_3 : decode cX11_read 3 = .ok (.ldc2_w 132, 3) := zD20 whX11_read_0 (p := 3) rfl rfl
theorem dX11_read_6 : decode cX11_read 6 = .ok (.invokestatic 64, 3) := zD184 whX11_read_0 (p := 6) rfl rfl
theorem dX11_read_9 : decode cX11_read 9 = .ok (.ifCond .eq 28, 3) := zD153p whX11_read_0 (p := 9) (v := 28) rfl rfl rfl
theorem dX11_read_12 : decode cX11_read 12 = .ok (.iload_n 2, 1) := zD28 whX11_read_0 (p := 12) rfl
theorem dX11_read_13 : decode cX11_read 13 = .ok (.i2l, 1) := zD133 whX11_read_0 (p := 13) rfl
theorem dX11_read_14 : decode cX11_read 14 = .ok (.lconst 0, 1) := zD9 whX11_read_0 (p := 14) rfl
theorem dX11_read_15 : decode cX11_read 15 = .ok (.ldc2_w 165, 3) := zD20 whX11_read_0 (p := 15) rfl rfl
theorem dX11_read_18 : decode cX11_read 18 = .ok (.invokestatic 64, 3) := zD184 whX11_read_0 (p := 18) rfl rfl
theorem dX11_read_21 : decode cX11_read 21 = .ok (.ifCond .eq 16, 3) := zD153p whX11_read_0 (p := 21) (v := 16) rfl rfl rfl
theorem dX11_read_24 : decode cX11_read 24 = .ok (.iload 4, 2) := zD21 whX11_read_0 (p := 24) rfl
theorem dX11_read_26 : decode cX11_read 26 = .ok (.i2l, 1) := zD133 whX11_read_0 (p := 26) rfl
theorem dX11_read_27 : decode cX11_read 27 = .ok (.lconst 0, 1) := zD9 whX11_read_0 (p := 27) rfl
theorem dX11_read_28 : decode cX11_read 28 = .ok (.ldc2_w 191, 3) := zD20 whX11_read_0 (p := 28) rfl rfl
theorem dX11_read_31 : decode cX11_read 31 = .ok (.invokestatic 64, 3) := zD184 whX11_read_0 (p := 31) rfl rfl
def wlX11_read_1 : List Nat := [154, 0, 5, 2, 172, 42, 3, 17, 0, 147, 182, 1, 0, 3, 54, 5, 3, 54, 6, 3, 54, 7, 21, 7, 5, 21, 4, 104, 162, 0, 136, 21, 5]
theorem whX11_read_1 : WLy cX11_read 34 wlX11_read_1 := by decide +kernel
theorem dX11_read_34 : decode cX11_read 34 = .ok (.ifCond .ne 5, 3) := zD154p whX11_read_1 (p := 0) (v := 5) rfl rfl rfl
theorem dX11_read_37 : decode cX11_read 37 = .ok (.iconst (-1), 1) := zD2 whX11_read_1 (p := 3) rfl
theorem dX11_read_38 : decode cX11_read 38 = .ok (.ireturn, 1) := zD172 whX11_read_1 (p := 4) rfl
theorem dX11_read_39 : decode cX11_read 39 = .ok (.aload_n 0, 1) := zD42 whX11_read_1 (p := 5) rfl
theorem dX11_read_40 : decode cX11_read 40 = .ok (.iconst 0, 1) := zD3 whX11_read_1 (p := 6) rfl
theorem dX11_read_41 : decode cX11_read 41 = .ok (.sipush 147, 3) := zD17p whX11_read_1 (p := 7) (v := 147) rfl rfl rfl
theorem dX11_read_44 : decode cX11_read 44 = .ok (.invokevirtual 256, 3) := zD182 whX11_read_1 (p := 10) rfl rfl
theorem dX11_read_47 : decode cX11_read 47 = .ok (.iconst 0, 1) := zD3 whX11_read_1 (p := 13) rfl
theorem dX11_read_48 : decode cX11_read 48 = .ok (.istore 5, 2) := zD54 whX11_read_1 (p := 14) rfl
theorem dX11_read_50 : decode cX11_read 50 = .ok (.iconst 0, 1) := zD3 whX11_read_1 (p := 16) rfl
theorem dX11_read_51 : decode cX11_read 51 = .ok (.istore 6, 2) := zD54 whX11_read_1 (p := 17) rfl
theorem dX11_read_53 : decode cX11_read 53 = .ok (.iconst 0, 1) := zD3 whX11_read_1 (p := 19) rfl
theorem dX11_read_54 : decode cX11_read 54 = .ok (.istore 7, 2) := zD54 whX11_read_1 (p := 20) rfl
theorem dX11_read_56 : decode cX11_read 56 = .ok (.iload 7, 2) := zD21 whX11_read_1 (p := 22) rfl
theorem dX11_read_58 : decode cX11_read 58 = .ok (.iconst 2, 1) := zD5 whX11_read_1 (p := 24) rfl
theorem dX11_read_59 : decode cX11_read 59 = .ok (.iload 4, 2) := zD21 whX11_read_1 (p := 25) rfl
theorem dX11_read_61 : decode cX11_read 61 = .ok (.imul, 1) := zD104 whX11_read_1 (p := 27) rfl
theorem dX11_read_62 : decode cX11_read 62 = .ok (.if_icmp .ge 136, 3) := zD162p whX11_read_1 (p := 28) (v := 136) rfl rfl rfl
theorem dX11_read_65 : decode cX11_read 65 = .ok (.iload 5, 2) := zD21 whX11_read_1 (p := 31) rfl
def wlX11_read_2 : List Nat := [154, 0, 131, 42, 180, 0, 51, 27, 46, 16, 252, 160, 0, 7, 4, 167, 0, 44, 42, 180, 0, 51, 27, 46, 28, 159, 0, 7, 6, 167, 0, 30]
theorem whX11_read_2 : WLy cX11_read 67 wlX11_read_2 := by decide +kernel
theorem dX11_read_67 : decode cX11_read 67 = .ok (.ifCond .ne 131, 3) := zD154p whX11_read_2 (p := 0) (v := 131) rfl rfl rfl
theorem dX11_read_70 : decode cX11_read 70 = .ok (.aload_n 0, 1) := zD42 whX11_read_2 (p := 3) rfl
theorem dX11_read_71 : decode cX11_read 71 = .ok (.getfield 51, 3) := zD180 whX11_read_2 (p := 4) rfl rfl
theorem dX11_read_74 : decode cX11_read 74 = .ok (.iload_n 1, 1) := zD27 whX11_read_2 (p := 7) rfl
theorem dX11_read_75 : decode cX11_read 75 = .ok (.iaload, 1) := zD46 whX11_read_2 (p := 8) rfl
theorem dX11_read_76 : decode cX11_read 76 = .ok (.bipush (-4), 2) := zD16n whX11_read_2 (p := 9) (v := 4) rfl rfl rfl
theorem dX11_read_78 : decode cX11_read 78 = .ok (.if_icmp .ne 7, 3) := zD160p whX11_read_2 (p := 11) (v := 7) rfl rfl rfl
theorem dX11_read_81 : decode cX11_read 81 = .ok (.iconst 1, 1) := zD4 whX11_read_2 (p := 14) rfl
theorem dX11_read_82 : decode cX11_read 82 = .ok (.goto 44, 3) := zD167p whX11_read_2 (p := 15) (v := 44) rfl rfl rfl
theorem dX11_read_85 : decode cX11_read 85 = .ok (.aload_n 0, 1) := zD42 whX11_read_2 (p := 18) rfl
theorem dX11_read_86 : decode cX11_read 86 = .ok (.getfield 51, 3) := zD180 whX11_read_2 (p := 19) rfl rfl
theorem dX11_read_89 : decode cX11_read 89 = .ok (.iload_n 1, 1) := zD27 whX11_read_2 (p := 22) rfl
theorem dX11_read_90 : decode cX11_read 90 = .ok (.iaload, 1) := zD46 whX11_read_2 (p := 23) rfl
theorem dX11_read_91 : decode cX11_read 91 = .ok (.iload_n 2, 1) := zD28 whX11_read_2 (p := 24) rfl
theorem dX11_read_92 : decode cX11_read 92 = .ok (.if_icmp .eq 7, 3) := zD159p whX11_read_2 (p := 25) (v := 7) rfl rfl rfl
theorem dX11_read_95 : decode cX11_read 95 = .ok (.iconst 3, 1) := zD6 whX11_read_2 (p := 28) rfl
theorem dX11_read_96 : decode cX11_read 96 = .ok (.goto 30, 3) := zD167p whX11_read_2 (p := 29) (v := 30) rfl rfl rfl
def wlX11_read_3 : List Nat := [29, 133, 21, 7, 133, 97, 9, 42, 180, 0, 54, 27, 46, 4, 100, 133, 184, 0, 64, 154, 0, 7, 5, 167, 0, 4, 3, 54, 5, 21, 5, 154, 0, 62]
theorem whX11_read_3 : WLy cX11_read 99 wlX11_read_3 := by decide +kernel
theorem dX11_read_99 : decode cX11_read 99 = .ok (.iload_n 3, 1) := zD29 whX11_read_3 (p := 0) rfl
theorem dX11_read_100 : decode cX11_read 100 = .ok (.i2l, 1) := zD133 whX11_read_3 (p := 1) rfl
theorem dX11_read_101 : decode cX11_read 101 = .ok (.iload 7, 2) := zD21 whX11_read_3 (p := 2) rfl
theorem dX11_read_103 : decode cX11_read 103 = .ok (.i2l, 1) := zD133 whX11_read_3 (p := 4) rfl
theorem dX11_read_104 : decode cX11_read 104 = .ok (.ladd, 1) := zD97 whX11_read_3 (p := 5) rfl
theorem dX11_read_105 : decode cX11_read 105 = .ok (.lconst 0, 1) := zD9 whX11_read_3 (p := 6) rfl
theorem dX11_read_106 : decode cX11_read 106 = .ok (.aload_n 0, 1) := zD42 whX11_read_3 (p := 7) rfl
theorem dX11_read_107 : decode cX11_read 107 = .ok (.getfield 54, 3) := zD180 whX11_read_3 (p := 8) rfl rfl
theorem dX11_read_110 : decode cX11_read 110 = .ok (.iload_n 1, 1) := zD27 whX11_read_3 (p := 11) rfl
theorem dX11_read_111 : decode cX11_read 111 = .ok (.iaload, 1) := zD46 whX11_read_3 (p := 12) rfl
theorem dX11_read_112 : decode cX11_read 112 = .ok (.iconst 1, 1) := zD4 whX11_read_3 (p := 13) rfl
theorem dX11_read_113 : decode cX11_read 113 = .ok (.isub, 1) := zD100 whX11_read_3 (p := 14) rfl
theorem dX11_read_114 : decode cX11_read 114 = .ok (.i2l, 1) := zD133 whX11_read_3 (p := 15) rfl
theorem dX11_read_115 : decode cX11_read 115 = .ok (.invokestatic 64, 3) := zD184 whX11_read_3 (p := 16) rfl rfl
theorem dX11_read_118 : decode cX11_read 118 = .ok (.ifCond .ne 7, 3) := zD154p whX11_read_3 (p := 19) (v := 7) rfl rfl rfl
theorem dX11_read_121 : decode cX11_read 121 = .ok (.iconst 2, 1) := zD5 whX11_read_3 (p := 22) rfl
theorem dX11_read_122 : decode cX11_read 122 = .ok (.goto 4, 3) := zD167p whX11_read_3 (p := 23) (v := 4) rfl rfl rfl
theorem dX11_read_125 : decode cX11_read 125 = .ok (.iconst 0, 1) := zD3 whX11_read_3 (p := 26) rfl
theorem dX11_read_126 : decode cX11_read 126 = .ok (.istore 5, 2) := zD54 whX11_read_3 (p := 27) rfl
theorem dX11_read_128 : decode cX11_read 128 = .ok (.iload 5, 2) := zD21 whX11_read_3 (p := 29) rfl
theorem dX11_read_130 : decode cX11_read 130 = .ok (.ifCond .ne 62, 3) := zD154p whX11_read_3 (p := 31) (v := 62) rfl rfl rfl
def wlX11_read_4 : List Nat := [21, 7, 5, 112, 4, 160, 0, 54, 16, 40, 27, 104, 29, 96, 21, 7, 96, 54, 8, 42, 42, 180, 0, 57, 21, 8, 4, 100, 46, 42, 180, 0, 57]
theorem whX11_read_4 : WLy cX11_read 133 wlX11_read_4 := by decide +kernel
theorem dX11_read_133 : decode cX11_read 133 = .ok (.iload 7, 2) := zD21 whX11_read_4 (p := 0) rfl
theorem dX11_read_135 : decode cX11_read 135 = .ok (.iconst 2, 1) := zD5 whX11_read_4 (p := 2) rfl
theorem dX11_read_136 : decode cX11_read 136 = .ok (.irem, 1) := zD112 whX11_read_4 (p := 3) rfl
theorem dX11_read_137 : decode cX11_read 137 = .ok (.iconst 1, 1) := zD4 whX11_read_4 (p := 4) rfl
theorem dX11_read_138 : decode cX11_read 138 = .ok (.if_icmp .ne 54, 3) := zD160p whX11_read_4 (p := 5) (v := 54) rfl rfl rfl
theorem dX11_read_141 : decode cX11_read 141 = .ok (.bipush 40, 2) := zD16p whX11_read_4 (p := 8) (v := 40) rfl rfl rfl
theorem dX11_read_143 : decode cX11_read 143 = .ok (.iload_n 1, 1) := zD27 whX11_read_4 (p := 10) rfl
theorem dX11_read_144 : decode cX11_read 144 = .ok (.imul, 1) := zD104 whX11_read_4 (p := 11) rfl
theorem dX11_read_145 : decode cX11_read 145 = .ok (.iload_n 3, 1) := zD29 whX11_read_4 (p := 12) rfl
theorem dX11_read_146 : decode cX11_read 146 = .ok (.iadd, 1) := zD96 whX11_read_4 (p := 13) rfl
theorem dX11_read_147 : decode cX11_read 147 = .ok (.iload 7, 2) := zD21 whX11_read_4 (p := 14) rfl
theorem dX11_read_149 : decode cX11_read 149 = .ok (.iadd, 1) := zD96 whX11_read_4 (p := 16) rfl
theorem dX11_read_150 : decode cX11_read 150 = .ok (.istore 8, 2) := zD54 whX11_read_4 (p := 17) rfl
theorem dX11_read_152 : decode cX11_read 152 = .ok (.aload_n 0, 1) := zD42 whX11_read_4 (p := 19) rfl
theorem dX11_read_153 : decode cX11_read 153 = .ok (.aload_n 0, 1) := zD42 whX11_read_4 (p := 20) rfl
theorem dX11_read_154 : decode cX11_read 154 = .ok (.getfield 57, 3) := zD180 whX11_read_4 (p := 21) rfl rfl
theorem dX11_read_157 : decode cX11_read 157 = .ok (.iload 8, 2) := zD21 whX11_read_4 (p := 24) rfl
theorem dX11_read_159 : decode cX11_read 159 = .ok (.iconst 1, 1) := zD4 whX11_read_4 (p := 26) rfl
theorem dX11_read_160 : decode cX11_read 160 = .ok (.isub, 1) := zD100 whX11_read_4 (p := 27) rfl
theorem dX11_read_161 : decode cX11_read 161 = .ok (.iaload, 1) := zD46 whX11_read_4 (p := 28) rfl
theorem dX11_read_162 : decode cX11_read 162 = .ok (.aload_n 0, 1) := zD42 whX11_read_4 (p := 29) rfl
theorem dX11_read_163 : decode cX11_read 163 = .ok (.getfield 57, 3) := zD180 whX11_read_4 (p := 30) rfl rfl
def wlX11_read_5 : List Nat := [21, 8, 46, 182, 0, 176, 156, 0, 17, 42, 17, 0, 147, 3, 182, 1, 0, 16, 236, 21, 6, 100, 172, 132, 6, 1, 132, 7, 1, 167, 255, 117]
theorem whX11_read_5 : WLy cX11_read 166 wlX11_read_5 := by decide +kernel
theorem dX11_read_166 : decode cX11_read 166 = .ok (.iload 8, 2) := zD21 whX11_read_5 (p := 0) rfl
theorem dX11_read_168 : decode cX11_read 168 = .ok (.iaload, 1) := zD46 whX11_read_5 (p := 2) rfl
theorem dX11_read_169 : decode cX11_read 169 = .ok (.invokevirtual 176, 3) := zD182 whX11_read_5 (p := 3) rfl rfl
theorem dX11_read_172 : decode cX11_read 172 = .ok (.ifCond .ge 17, 3) := zD156p whX11_read_5 (p := 6) (v := 17) rfl rfl rfl
theorem dX11_read_175 : decode cX11_read 175 = .ok (.aload_n 0, 1) := zD42 whX11_read_5 (p := 9) rfl
theorem dX11_read_176 : decode cX11_read 176 = .ok (.sipush 147, 3) := zD17p whX11_read_5 (p := 10) (v := 147) rfl rfl rfl
theorem dX11_read_179 : decode cX11_read 179 = .ok (.iconst 0, 1) := zD3 whX11_read_5 (p := 13) rfl
theorem dX11_read_180 : decode cX11_read 180 = .ok (.invokevirtual 256, 3) := zD182 whX11_read_5 (p := 14) rfl rfl
theorem dX11_read_183 : decode cX11_read 183 = .ok (.bipush (-20), 2) := zD16n whX11_read_5 (p := 17) (v := 20) rfl rfl rfl
theorem dX11_read_185 : decode cX11_read 185 = .ok (.iload 6, 2) := zD21 whX11_read_5 (p := 19) rfl
theorem dX11_read_187 : decode cX11_read 187 = .ok (.isub, 1) := zD100 whX11_read_5 (p := 21) rfl
theorem dX11_read_188 : decode cX11_read 188 = .ok (.ireturn, 1) := zD172 whX11_read_5 (p := 22) rfl
theorem dX11_read_189 : decode cX11_read 189 = .ok (.iinc 6 1, 3) := zD132p whX11_read_5 (p := 23) (v := 1) rfl rfl rfl
theorem dX11_read_192 : decode cX11_read 192 = .ok (.iinc 7 1, 3) := zD132p whX11_read_5 (p := 26) (v := 1) rfl rfl rfl
theorem dX11_read_195 : decode cX11_read 195 = .ok (.goto (-139), 3) := zD167n whX11_read_5 (p := 29) (v := 139) rfl rfl rfl
def wlX11_read_6 : List Nat := [42, 21, 5, 181, 1, 3, 21, 6, 172]
theorem whX11_read_6 : WLy cX11_read 198 wlX11_read_6 := by decide +kernel
theorem dX11_read_198 : decode cX11_read 198 = .ok (.aload_n 0, 1) := zD42 whX11_read_6 (p := 0) rfl
theorem dX11_read_199 : decode cX11_read 199 = .ok (.iload 5, 2) := zD21 whX11_read_6 (p := 1) rfl
theorem dX11_read_201 : decode cX11_read 201 = .ok (.putfield 259, 3) := zD181 whX11_read_6 (p := 3) rfl rfl
theorem dX11_read_204 : decode cX11_read 204 = .ok (.iload 6, 2) := zD21 whX11_read_6 (p := 6) rfl
theorem dX11_read_206 : decode cX11_read 206 = .ok (.ireturn, 1) := zD172 whX11_read_6 (p := 8) rfl
def wlX11_torn_0 : List Nat := [42, 180, 1, 3, 172]
theorem whX11_torn_0 : WLy cX11_torn 0 wlX11_torn_0 := by decide +kernel
theorem dX11_torn_0 : decode cX11_torn 0 = .ok (.aload_n 0, 1) := zD42 whX11_torn_0 (p := 0) rfl
theorem dX11_torn_1 : decode cX11_torn 1 = .ok (.getfield 259, 3) := zD180 whX11_torn_0 (p := 1) rfl rfl
theorem dX11_torn_4 : decode cX11_torn 4 = .ok (.ireturn, 1) := zD172 whX11_torn_0 (p := 4) rfl
def wlX11_count_0 : List Nat := [3, 61, 4, 62, 29, 42, 180, 0, 146, 162, 0, 40, 28, 42, 180, 0, 7, 16, 38, 29, 96, 46, 42, 180, 0, 7, 16, 38, 29, 96, 4, 100]
theorem whX11_count_0 : WLy cX11_count 0 wlX11_count_0 := by decide +kernel
theorem dX11_count_0 : decode cX11_count 0 = .ok (.iconst 0, 1) := zD3 whX11_count_0 (p := 0) rfl
theorem dX11_count_1 : decode cX11_count 1 = .ok (.istore_n 2, 1) := zD61 whX11_count_0 (p := 1) rfl
theorem dX11_count_2 : decode cX11_count 2 = .ok (.iconst 1, 1) := zD4 whX11_count_0 (p := 2) rfl
theorem dX11_count_3 : decode cX11_count 3 = .ok (.istore_n 3, 1) := zD62 whX11_count_0 (p := 3) rfl
theorem dX11_count_4 : decode cX11_count 4 = .ok (.iload_n 3, 1) := zD29 whX11_count_0 (p := 4) rfl
theorem dX11_count_5 : decode cX11_count 5 = .ok (.aload_n 0, 1) := zD42 whX11_count_0 (p := 5) rfl
theorem dX11_count_6 : decode cX11_count 6 = .ok (.getfield 146, 3) := zD180 whX11_count_0 (p := 6) rfl rfl
theorem dX11_count_9 : decode cX11_count 9 = .ok (.if_icmp .ge 40, 3) := zD162p whX11_count_0 (p := 9) (v := 40) rfl rfl rfl
theorem dX11_count_12 : decode cX11_count 12 = .ok (.iload_n 2, 1) := zD28 whX11_count_0 (p := 12) rfl
theorem dX11_count_13 : decode cX11_count 13 = .ok (.aload_n 0, 1) := zD42 whX11_count_0 (p := 13) rfl
theorem dX11_count_14 : decode cX11_count 14 = .ok (.getfield 7, 3) := zD180 whX11_count_0 (p := 14) rfl rfl
theorem dX11_count_17 : decode cX11_count 17 = .ok (.bipush 38, 2) := zD16p whX11_count_0 (p := 17) (v := 38) rfl rfl rfl
theorem dX11_count_19 : decode cX11_count 19 = .ok (.iload_n 3, 1) := zD29 whX11_count_0 (p := 19) rfl
theorem dX11_count_20 : decode cX11_count 20 = .ok (.iadd, 1) := zD96 whX11_count_0 (p := 20) rfl
theorem dX11_count_21 : decode cX11_count 21 = .ok (.iaload, 1) := zD46 whX11_count_0 (p := 21) rfl
theorem dX11_count_22 : decode cX11_count 22 = .ok (.aload_n 0, 1) := zD42 whX11_count_0 (p := 22) rfl
theorem dX11_count_23 : decode cX11_count 23 = .ok (.getfield 7, 3) := zD180 whX11_count_0 (p := 23) rfl rfl
theorem dX11_count_26 : decode cX11_count 26 = .ok (.bipush 38, 2) := zD16p whX11_count_0 (p := 26) (v := 38) rfl rfl rfl
theorem dX11_count_28 : decode cX11_count 28 = .ok (.iload_n 3, 1) := zD29 whX11_count_0 (p := 28) rfl
theorem dX11_count_29 : decode cX11_count 29 = .ok (.iadd, 1) := zD96 whX11_count_0 (p := 29) rfl
theorem dX11_count_30 : decode cX11_count 30 = .ok (.iconst 1, 1) := zD4 whX11_count_0 (p := 30) rfl
theorem dX11_count_31 : decode cX11_count 31 = .ok (.isub, 1) := zD100 whX11_count_0 (p := 31) rfl
def wlX11_count_1 : List Nat := [46, 159, 0, 7, 4, 167, 0, 4, 3, 96, 61, 132, 3, 1, 167, 255, 214, 27]
theorem whX11_count_1 : WLy cX11_count 32 wlX11_count_1 := by decide +kernel
theorem dX11_count_32 : decode cX11_count 32 = .ok (.iaload, 1) := zD46 whX11_count_1 (p := 0) rfl
theorem dX11_count_33 : decode cX11_count 33 = .ok (.if_icmp .eq 7, 3) := zD159p whX11_count_1 (p := 1) (v := 7) rfl rfl rfl
theorem dX11_count_36 : decode cX11_count 36 = .ok (.iconst 1, 1) := zD4 whX11_count_1 (p := 4) rfl
theorem dX11_count_37 : decode cX11_count 37 = .ok (.goto 4, 3) := zD167p whX11_count_1 (p := 5) (v := 4) rfl rfl rfl
theorem dX11_count_40 : decode cX11_count 40 = .ok (.iconst 0, 1) := zD3 whX11_count_1 (p := 8) rfl
theorem dX11_count_41 : decode cX11_count 41 = .ok (.iadd, 1) := zD96 whX11_count_1 (p := 9) rfl
theorem dX11_count_42 : decode cX11_count 42 = .ok (.istore_n 2, 1) := zD61 whX11_count_1 (p := 10) rfl
theorem dX11_count_43 : decode cX11_count 43 = .ok (.iinc 3 1, 3) := zD132p whX11_count_1 (p := 11) (v := 1) rfl rfl rfl
theorem dX11_count_46 : decode cX11_count 46 = .ok (.goto (-42), 3) := zD167n whX11_count_1 (p := 14) (v := 42) rfl rfl rfl
theorem dX11_count_49 : decode cX11_count 49 = .ok (.iload_n 1, 1) := zD27 whX11_count_1 (p := 17) rfl
def wlX11_count_2 : List Nat := [42, 180, 0, 152, 172, 42, 180, 0, 155, 172, 42, 180, 0, 47, 3, 51, 153, 0, 7, 4, 167, 0, 4, 3, 42, 180, 0, 47, 4, 51, 153, 0, 7]
theorem whX11_count_2 : WLy cX11_count 88 wlX11_count_2 := by decide +kernel
theorem dX11_count_88 : decode cX11_count 88 = .ok (.aload_n 0, 1) := zD42 whX11_count_2 (p := 0) rfl
theorem dX11_count_89 : decode cX11_count 89 = .ok (.getfield 152, 3) := zD180 whX11_count_2 (p := 1) rfl rfl
theorem dX11_count_92 : decode cX11_count 92 = .ok (.ireturn, 1) := zD172 whX11_count_2 (p := 4) rfl
theorem dX11_count_93 : decode cX11_count 93 = .ok (.aload_n 0, 1) := zD42 whX11_count_2 (p := 5) rfl
theorem dX11_count_94 : decode cX11_count 94 = .ok (.getfield 155, 3) := zD180 whX11_count_2 (p := 6) rfl rfl
theorem dX11_count_97 : decode cX11_count 97 = .ok (.ireturn, 1) := zD172 whX11_count_2 (p := 9) rfl
theorem dX11_count_98 : decode cX11_count 98 = .ok (.aload_n 0, 1) := zD42 whX11_count_2 (p := 10) rfl
theorem dX11_count_99 : decode cX11_count 99 = .ok (.getfield 47, 3) := zD180 whX11_count_2 (p := 11) rfl rfl
theorem dX11_count_102 : decode cX11_count 102 = .ok (.iconst 0, 1) := zD3 whX11_count_2 (p := 14) rfl
theorem dX11_count_103 : decode cX11_count 103 = .ok (.baload, 1) := zD51 whX11_count_2 (p := 15) rfl
theorem dX11_count_104 : decode cX11_count 104 = .ok (.ifCond .eq 7, 3) := zD153p whX11_count_2 (p := 16) (v := 7) rfl rfl rfl
theorem dX11_count_107 : decode cX11_count 107 = .ok (.iconst 1, 1) := zD4 whX11_count_2 (p := 19) rfl
theorem dX11_count_108 : decode cX11_count 108 = .ok (.goto 4, 3) := zD167p whX11_count_2 (p := 20) (v := 4) rfl rfl rfl
theorem dX11_count_111 : decode cX11_count 111 = .ok (.iconst 0, 1) := zD3 whX11_count_2 (p := 23) rfl
theorem dX11_count_112 : decode cX11_count 112 = .ok (.aload_n 0, 1) := zD42 whX11_count_2 (p := 24) rfl
theorem dX11_count_113 : decode cX11_count 113 = .ok (.getfield 47, 3) := zD180 whX11_count_2 (p := 25) rfl rfl
theorem dX11_count_116 : decode cX11_count 116 = .ok (.iconst 1, 1) := zD4 whX11_count_2 (p := 28) rfl
theorem dX11_count_117 : decode cX11_count 117 = .ok (.baload, 1) := zD51 whX11_count_2 (p := 29) rfl
theorem dX11_count_118 : decode cX11_count 118 = .ok (.ifCond .eq 7, 3) := zD153p whX11_count_2 (p := 30) (v := 7) rfl rfl rfl
def wlX11_count_3 : List Nat := [4, 167, 0, 4, 3, 96, 172, 42, 180, 0, 60, 172, 42, 180, 0, 51, 3, 46, 16, 252, 160, 0, 8, 16, 252, 167, 0, 9, 42, 180, 0, 54]
theorem whX11_count_3 : WLy cX11_count 121 wlX11_count_3 := by decide +kernel
theorem dX11_count_121 : decode cX11_count 121 = .ok (.iconst 1, 1) := zD4 whX11_count_3 (p := 0) rfl
theorem dX11_count_122 : decode cX11_count 122 = .ok (.goto 4, 3) := zD167p whX11_count_3 (p := 1) (v := 4) rfl rfl rfl
theorem dX11_count_125 : decode cX11_count 125 = .ok (.iconst 0, 1) := zD3 whX11_count_3 (p := 4) rfl
theorem dX11_count_126 : decode cX11_count 126 = .ok (.iadd, 1) := zD96 whX11_count_3 (p := 5) rfl
theorem dX11_count_127 : decode cX11_count 127 = .ok (.ireturn, 1) := zD172 whX11_count_3 (p := 6) rfl
theorem dX11_count_128 : decode cX11_count 128 = .ok (.aload_n 0, 1) := zD42 whX11_count_3 (p := 7) rfl
theorem dX11_count_129 : decode cX11_count 129 = .ok (.getfield 60, 3) := zD180 whX11_count_3 (p := 8) rfl rfl
theorem dX11_count_132 : decode cX11_count 132 = .ok (.ireturn, 1) := zD172 whX11_count_3 (p := 11) rfl
theorem dX11_count_133 : decode cX11_count 133 = .ok (.aload_n 0, 1) := zD42 whX11_count_3 (p := 12) rfl
theorem dX11_count_134 : decode cX11_count 134 = .ok (.getfield 51, 3) := zD180 whX11_count_3 (p := 13) rfl rfl
theorem dX11_count_137 : decode cX11_count 137 = .ok (.iconst 0, 1) := zD3 whX11_count_3 (p := 16) rfl
theorem dX11_count_138 : decode cX11_count 138 = .ok (.iaload, 1) := zD46 whX11_count_3 (p := 17) rfl
theorem dX11_count_139 : decode cX11_count 139 = .ok (.bipush (-4), 2) := zD16n whX11_count_3 (p := 18) (v := 4) rfl rfl rfl
theorem dX11_count_141 : decode cX11_count 141 = .ok (.if_icmp .ne 8, 3) := zD160p whX11_count_3 (p := 20) (v := 8) rfl rfl rfl
theorem dX11_count_144 : decode cX11_count 144 = .ok (.bipush (-4), 2) := zD16n whX11_count_3 (p := 23) (v := 4) rfl rfl rfl
theorem dX11_count_146 : decode cX11_count 146 = .ok (.goto 9, 3) := zD167p whX11_count_3 (p := 25) (v := 9) rfl rfl rfl
theorem dX11_count_149 : decode cX11_count 149 = .ok (.aload_n 0, 1) := zD42 whX11_count_3 (p := 28) rfl
theorem dX11_count_150 : decode cX11_count 150 = .ok (.getfield 54, 3) := zD180 whX11_count_3 (p := 29) rfl rfl
def wlX11_count_4 : List Nat := [3, 46, 172, 28, 172, 2, 172]
theorem whX11_count_4 : WLy cX11_count 153 wlX11_count_4 := by decide +kernel
theorem dX11_count_153 : decode cX11_count 153 = .ok (.iconst 0, 1) := zD3 whX11_count_4 (p := 0) rfl
theorem dX11_count_154 : decode cX11_count 154 = .ok (.iaload, 1) := zD46 whX11_count_4 (p := 1) rfl
theorem dX11_count_155 : decode cX11_count 155 = .ok (.ireturn, 1) := zD172 whX11_count_4 (p := 2) rfl
theorem dX11_count_156 : decode cX11_count 156 = .ok (.iload_n 2, 1) := zD28 whX11_count_4 (p := 3) rfl
theorem dX11_count_157 : decode cX11_count 157 = .ok (.ireturn, 1) := zD172 whX11_count_4 (p := 4) rfl
theorem dX11_count_158 : decode cX11_count 158 = .ok (.iconst (-1), 1) := zD2 whX11_count_4 (p := 5) rfl
theorem dX11_count_159 : decode cX11_count 159 = .ok (.ireturn, 1) := zD172 whX11_count_4 (p := 6) rfl
theorem bX11_init_0 : (decode cX11_init 8 = .ok (.newarray .int, 2)) ∧ (decode cX11_init 16 = .ok (.newarray .int, 2)) ∧ (decode cX11_init 25 = .ok (.newarray .int, 2)) ∧ (decode cX11_init 33 = .ok (.newarray .int, 2)) ∧ (decode cX11_init 99 = .ok (.newarray .int, 2)) ∧ (decode cX11_init 425 = .ok (.newarray .long, 2)) ∧ (decode cX11_init 433 = .ok (.newarray .long, 2)) ∧ (decode cX11_init 442 = .ok (.newarray .long, 2)) ∧ (decode cX11_init 450 = .ok (.newarray .int, 2)) ∧ (decode cX11_init 458 = .ok (.newarray .int, 2)) ∧ (decode cX11_init 466 = .ok (.newarray .int, 2)) ∧ (decode cX11_init 474 = .ok (.newarray .int, 2)) ∧ (decode cX11_init 481 = .ok (.newarray .boolean, 2)) ∧ (decode cX11_init 488 = .ok (.newarray .int, 2)) ∧ (decode cX11_init 515 = .ok (.newarray .int, 2)) ∧ (decode cX11_init 524 = .ok (.newarray .int, 2)) := by decide +kernel
theorem dX11_init_8 : decode cX11_init 8 = .ok (.newarray .int, 2) := bX11_init_0.1
theorem dX11_init_16 : decode cX11_init 16 = .ok (.newarray .int, 2) := bX11_init_0.2.1
theorem dX11_init_25 : decode cX11_init 25 = .ok (.newarray .int, 2) := bX11_init_0.2.2.1
theorem dX11_init_33 : decode cX11_init 33 = .ok (.newarray .int, 2) := bX11_init_0.2.2.2.1
theorem dX11_init_99 : decode cX11_init 99 = .ok (.newarray .int, 2) := bX11_init_0.2.2.2.2.1
theorem dX11_init_425 : decode cX11_init 425 = .ok (.newarray .long, 2) := bX11_init_0.2.2.2.2.2.1
theorem dX11_init_433 : decode cX11_init 433 = .ok (.newarray .long, 2) := bX11_init_0.2.2.2.2.2.2.1
theorem dX11_init_442 : decode cX11_init 442 = .ok (.newarray .long, 2) := bX11_init_0.2.2.2.2.2.2.2.1
theorem dX11_init_450 : decode cX11_init 450 = .ok (.newarray .int, 2) := bX11_init_0.2.2.2.2.2.2.2.2.1
theorem dX11_init_458 : decode cX11_init 458 = .ok (.newarray .int, 2) := bX11_init_0.2.2.2.2.2.2.2.2.2.1
theorem dX11_init_466 : decode cX11_init 466 = .ok (.newarray .int, 2) := bX11_init_0.2.2.2.2.2.2.2.2.2.2.1
theorem dX11_init_474 : decode cX11_init 474 = .ok (.newarray .int, 2) := bX11_init_0.2.2.2.2.2.2.2.2.2.2.2.1
theorem dX11_init_481 : decode cX11_init 481 = .ok (.newarray .boolean, 2) := bX11_init_0.2.2.2.2.2.2.2.2.2.2.2.2.1
theorem dX11_init_488 : decode cX11_init 488 = .ok (.newarray .int, 2) := bX11_init_0.2.2.2.2.2.2.2.2.2.2.2.2.2.1
theorem dX11_init_515 : decode cX11_init 515 = .ok (.newarray .int, 2) := bX11_init_0.2.2.2.2.2.2.2.2.2.2.2.2.2.2.1
theorem dX11_init_524 : decode cX11_init 524 = .ok (.newarray .int, 2) := bX11_init_0.2.2.2.2.2.2.2.2.2.2.2.2.2.2.2
theorem dX11_count_50 : decode cX11_count 50 = .ok (.tableswitch 108 0 5 #[38, 43, 48, 78, 83, 106], 38) := by decide +kernel

def wlL_law_0 : List Nat := [187, 0, 7, 89, 183, 0, 9, 76, 187, 0, 10, 89, 183, 0, 12, 77, 3, 62, 29, 42, 190, 8, 100, 163, 5, 85, 42, 29, 46, 16, 63, 126]
theorem whL_law_0 : WLy cL_law 0 wlL_law_0 := by decide +kernel
theorem dL_law_0 : decode cL_law 0 = .ok (.new 7, 3) := zD187 whL_law_0 (p := 0) rfl rfl
theorem dL_law_3 : decode cL_law 3 = .ok (.dup, 1) := zD89 whL_law_0 (p := 3) rfl
theorem dL_law_4 : decode cL_law 4 = .ok (.invokespecial 9, 3) := zD183 whL_law_0 (p := 4) rfl rfl
theorem dL_law_7 : decode cL_law 7 = .ok (.astore_n 1, 1) := zD76 whL_law_0 (p := 7) rfl
theorem dL_law_8 : decode cL_law 8 = .ok (.new 10, 3) := zD187 whL_law_0 (p := 8) rfl rfl
theorem dL_law_11 : decode cL_law 11 = .ok (.dup, 1) := zD89 whL_law_0 (p := 11) rfl
theorem dL_law_12 : decode cL_law 12 = .ok (.invokespecial 12, 3) := zD183 whL_law_0 (p := 12) rfl rfl
theorem dL_law_15 : decode cL_law 15 = .ok (.astore_n 2, 1) := zD77 whL_law_0 (p := 15) rfl
theorem dL_law_16 : decode cL_law 16 = .ok (.iconst 0, 1) := zD3 whL_law_0 (p := 16) rfl
theorem dL_law_17 : decode cL_law 17 = .ok (.istore_n 3, 1) := zD62 whL_law_0 (p := 17) rfl
theorem dL_law_18 : decode cL_law 18 = .ok (.iload_n 3, 1) := zD29 whL_law_0 (p := 18) rfl
theorem dL_law_19 : decode cL_law 19 = .ok (.aload_n 0, 1) := zD42 whL_law_0 (p := 19) rfl
theorem dL_law_20 : decode cL_law 20 = .ok (.arraylength, 1) := zD190 whL_law_0 (p := 20) rfl
theorem dL_law_21 : decode cL_law 21 = .ok (.iconst 5, 1) := zD8 whL_law_0 (p := 21) rfl
theorem dL_law_22 : decode cL_law 22 = .ok (.isub, 1) := zD100 whL_law_0 (p := 22) rfl
theorem dL_law_23 : decode cL_law 23 = .ok (.if_icmp .gt 1365, 3) := zD163p whL_law_0 (p := 23) (v := 1365) rfl rfl rfl
theorem dL_law_26 : decode cL_law 26 = .ok (.aload_n 0, 1) := zD42 whL_law_0 (p := 26) rfl
theorem dL_law_27 : decode cL_law 27 = .ok (.iload_n 3, 1) := zD29 whL_law_0 (p := 27) rfl
theorem dL_law_28 : decode cL_law 28 = .ok (.iaload, 1) := zD46 whL_law_0 (p := 28) rfl
theorem dL_law_29 : decode cL_law 29 = .ok (.bipush 63, 2) := zD16p whL_law_0 (p := 29) (v := 63) rfl rfl rfl
theorem dL_law_31 : decode cL_law 31 = .ok (.iand, 1) := zD126 whL_law_0 (p := 31) rfl
def wlL_law_1 : List Nat := [43, 42, 29, 4, 96, 46, 133, 16, 32, 121, 42, 29, 5, 96, 46, 133, 20, 0, 13, 127, 129, 182, 0, 15, 87, 44, 42, 29, 4, 96, 46, 133]
theorem whL_law_1 : WLy cL_law 204 wlL_law_1 := by decide +kernel
theorem dL_law_204 : decode cL_law 204 = .ok (.aload_n 1, 1) := zD43 whL_law_1 (p := 0) rfl
theorem dL_law_205 : decode cL_law 205 = .ok (.aload_n 0, 1) := zD42 whL_law_1 (p := 1) rfl
theorem dL_law_206 : decode cL_law 206 = .ok (.iload_n 3, 1) := zD29 whL_law_1 (p := 2) rfl
theorem dL_law_207 : decode cL_law 207 = .ok (.iconst 1, 1) := zD4 whL_law_1 (p := 3) rfl
theorem dL_law_208 : decode cL_law 208 = .ok (.iadd, 1) := zD96 whL_law_1 (p := 4) rfl
theorem dL_law_209 : decode cL_law 209 = .ok (.iaload, 1) := zD46 whL_law_1 (p := 5) rfl
theorem dL_law_210 : decode cL_law 210 = .ok (.i2l, 1) := zD133 whL_law_1 (p := 6) rfl
theorem dL_law_211 : decode cL_law 211 = .ok (.bipush 32, 2) := zD16p whL_law_1 (p := 7) (v := 32) rfl rfl rfl
theorem dL_law_213 : decode cL_law 213 = .ok (.lshl, 1) := zD121 whL_law_1 (p := 9) rfl
theorem dL_law_214 : decode cL_law 214 = .ok (.aload_n 0, 1) := zD42 whL_law_1 (p := 10) rfl
theorem dL_law_215 : decode cL_law 215 = .ok (.iload_n 3, 1) := zD29 whL_law_1 (p := 11) rfl
theorem dL_law_216 : decode cL_law 216 = .ok (.iconst 2, 1) := zD5 whL_law_1 (p := 12) rfl
theorem dL_law_217 : decode cL_law 217 = .ok (.iadd, 1) := zD96 whL_law_1 (p := 13) rfl
theorem dL_law_218 : decode cL_law 218 = .ok (.iaload, 1) := zD46 whL_law_1 (p := 14) rfl
theorem dL_law_219 : decode cL_law 219 = .ok (.i2l, 1) := zD133 whL_law_1 (p := 15) rfl
theorem dL_law_220 : decode cL_law 220 = .ok (.ldc2_w 13, 3) := zD20 whL_law_1 (p := 16) rfl rfl
theorem dL_law_223 : decode cL_law 223 = .ok (.land, 1) := zD127 whL_law_1 (p := 19) rfl
theorem dL_law_224 : decode cL_law 224 = .ok (.lor, 1) := zD129 whL_law_1 (p := 20) rfl
theorem dL_law_225 : decode cL_law 225 = .ok (.invokevirtual 15, 3) := zD182 whL_law_1 (p := 21) rfl rfl
theorem dL_law_228 : decode cL_law 228 = .ok (.pop, 1) := zD87 whL_law_1 (p := 24) rfl
theorem dL_law_229 : decode cL_law 229 = .ok (.aload_n 2, 1) := zD44 whL_law_1 (p := 25) rfl
theorem dL_law_230 : decode cL_law 230 = .ok (.aload_n 0, 1) := zD42 whL_law_1 (p := 26) rfl
theorem dL_law_231 : decode cL_law 231 = .ok (.iload_n 3, 1) := zD29 whL_law_1 (p := 27) rfl
theorem dL_law_232 : decode cL_law 232 = .ok (.iconst 1, 1) := zD4 whL_law_1 (p := 28) rfl
theorem dL_law_233 : decode cL_law 233 = .ok (.iadd, 1) := zD96 whL_law_1 (p := 29) rfl
theorem dL_law_234 : decode cL_law 234 = .ok (.iaload, 1) := zD46 whL_law_1 (p := 30) rfl
theorem dL_law_235 : decode cL_law 235 = .ok (.i2l, 1) := zD133 whL_law_1 (p := 31) rfl
def wlL_law_2 : List Nat := [16, 32, 121, 42, 29, 5, 96, 46, 133, 20, 0, 13, 127, 129, 182, 0, 19, 87, 167, 4, 104, 43, 42, 29, 4, 96, 46, 182, 0, 20, 87, 44]
theorem whL_law_2 : WLy cL_law 236 wlL_law_2 := by decide +kernel
theorem dL_law_236 : decode cL_law 236 = .ok (.bipush 32, 2) := zD16p whL_law_2 (p := 0) (v := 32) rfl rfl rfl
theorem dL_law_238 : decode cL_law 238 = .ok (.lshl, 1) := zD121 whL_law_2 (p := 2) rfl
theorem dL_law_239 : decode cL_law 239 = .ok (.aload_n 0, 1) := zD42 whL_law_2 (p := 3) rfl
theorem dL_law_240 : decode cL_law 240 = .ok (.iload_n 3, 1) := zD29 whL_law_2 (p := 4) rfl
theorem dL_law_241 : decode cL_law 241 = .ok (.iconst 2, 1) := zD5 whL_law_2 (p := 5) rfl
theorem dL_law_242 : decode cL_law 242 = .ok (.iadd, 1) := zD96 whL_law_2 (p := 6) rfl
theorem dL_law_243 : decode cL_law 243 = .ok (.iaload, 1) := zD46 whL_law_2 (p := 7) rfl
theorem dL_law_244 : decode cL_law 244 = .ok (.i2l, 1) := zD133 whL_law_2 (p := 8) rfl
theorem dL_law_245 : decode cL_law 245 = .ok (.ldc2_w 13, 3) := zD20 whL_law_2 (p := 9) rfl rfl
theorem dL_law_248 : decode cL_law 248 = .ok (.land, 1) := zD127 whL_law_2 (p := 12) rfl
theorem dL_law_249 : decode cL_law 249 = .ok (.lor, 1) := zD129 whL_law_2 (p := 13) rfl
theorem dL_law_250 : decode cL_law 250 = .ok (.invokevirtual 19, 3) := zD182 whL_law_2 (p := 14) rfl rfl
theorem dL_law_253 : decode cL_law 253 = .ok (.pop, 1) := zD87 whL_law_2 (p := 17) rfl
theorem dL_law_254 : decode cL_law 254 = .ok (.goto 1128, 3) := zD167p whL_law_2 (p := 18) (v := 1128) rfl rfl rfl
theorem dL_law_257 : decode cL_law 257 = .ok (.aload_n 1, 1) := zD43 whL_law_2 (p := 21) rfl
theorem dL_law_258 : decode cL_law 258 = .ok (.aload_n 0, 1) := zD42 whL_law_2 (p := 22) rfl
theorem dL_law_259 : decode cL_law 259 = .ok (.iload_n 3, 1) := zD29 whL_law_2 (p := 23) rfl
theorem dL_law_260 : decode cL_law 260 = .ok (.iconst 1, 1) := zD4 whL_law_2 (p := 24) rfl
theorem dL_law_261 : decode cL_law 261 = .ok (.iadd, 1) := zD96 whL_law_2 (p := 25) rfl
theorem dL_law_262 : decode cL_law 262 = .ok (.iaload, 1) := zD46 whL_law_2 (p := 26) rfl
theorem dL_law_263 : decode cL_law 263 = .ok (.invokevirtual 20, 3) := zD182 whL_law_2 (p := 27) rfl rfl
theorem dL_law_266 : decode cL_law 266 = .ok (.pop, 1) := zD87 whL_law_2 (p := 30) rfl
theorem dL_law_267 : decode cL_law 267 = .ok (.aload_n 2, 1) := zD44 whL_law_2 (p := 31) rfl
def wlL_law_3 : List Nat := [42, 29, 4, 96, 46, 182, 0, 24, 87, 167, 4, 81, 43, 182, 0, 25, 87, 44, 182, 0, 29, 87, 167, 4, 68, 43, 182, 0, 30, 87, 44, 182, 0, 33]
theorem whL_law_3 : WLy cL_law 268 wlL_law_3 := by decide +kernel
theorem dL_law_268 : decode cL_law 268 = .ok (.aload_n 0, 1) := zD42 whL_law_3 (p := 0) rfl
theorem dL_law_269 : decode cL_law 269 = .ok (.iload_n 3, 1) := zD29 whL_law_3 (p := 1) rfl
theorem dL_law_270 : decode cL_law 270 = .ok (.iconst 1, 1) := zD4 whL_law_3 (p := 2) rfl
theorem dL_law_271 : decode cL_law 271 = .ok (.iadd, 1) := zD96 whL_law_3 (p := 3) rfl
theorem dL_law_272 : decode cL_law 272 = .ok (.iaload, 1) := zD46 whL_law_3 (p := 4) rfl
theorem dL_law_273 : decode cL_law 273 = .ok (.invokevirtual 24, 3) := zD182 whL_law_3 (p := 5) rfl rfl
theorem dL_law_276 : decode cL_law 276 = .ok (.pop, 1) := zD87 whL_law_3 (p := 8) rfl
theorem dL_law_277 : decode cL_law 277 = .ok (.goto 1105, 3) := zD167p whL_law_3 (p := 9) (v := 1105) rfl rfl rfl
theorem dL_law_280 : decode cL_law 280 = .ok (.aload_n 1, 1) := zD43 whL_law_3 (p := 12) rfl
theorem dL_law_281 : decode cL_law 281 = .ok (.invokevirtual 25, 3) := zD182 whL_law_3 (p := 13) rfl rfl
theorem dL_law_284 : decode cL_law 284 = .ok (.pop, 1) := zD87 whL_law_3 (p := 16) rfl
theorem dL_law_285 : decode cL_law 285 = .ok (.aload_n 2, 1) := zD44 whL_law_3 (p := 17) rfl
theorem dL_law_286 : decode cL_law 286 = .ok (.invokevirtual 29, 3) := zD182 whL_law_3 (p := 18) rfl rfl
theorem dL_law_289 : decode cL_law 289 = .ok (.pop, 1) := zD87 whL_law_3 (p := 21) rfl
theorem dL_law_290 : decode cL_law 290 = .ok (.goto 1092, 3) := zD167p whL_law_3 (p := 22) (v := 1092) rfl rfl rfl
theorem dL_law_293 : decode cL_law 293 = .ok (.aload_n 1, 1) := zD43 whL_law_3 (p := 25) rfl
theorem dL_law_294 : decode cL_law 294 = .ok (.invokevirtual 30, 3) := zD182 whL_law_3 (p := 26) rfl rfl
theorem dL_law_297 : decode cL_law 297 = .ok (.pop, 1) := zD87 whL_law_3 (p := 29) rfl
theorem dL_law_298 : decode cL_law 298 = .ok (.aload_n 2, 1) := zD44 whL_law_3 (p := 30) rfl
theorem dL_law_299 : decode cL_law 299 = .ok (.invokevirtual 33, 3) := zD182 whL_law_3 (p := 31) rfl rfl
def wlL_law_4 : List Nat := [87, 167, 4, 55, 43, 42, 29, 4, 96, 46, 182, 0, 34, 87, 44, 42, 29, 4, 96, 46, 182, 0, 37, 87, 167, 4, 32, 43, 42, 29, 4, 96]
theorem whL_law_4 : WLy cL_law 302 wlL_law_4 := by decide +kernel
theorem dL_law_302 : decode cL_law 302 = .ok (.pop, 1) := zD87 whL_law_4 (p := 0) rfl
theorem dL_law_303 : decode cL_law 303 = .ok (.goto 1079, 3) := zD167p whL_law_4 (p := 1) (v := 1079) rfl rfl rfl
theorem dL_law_306 : decode cL_law 306 = .ok (.aload_n 1, 1) := zD43 whL_law_4 (p := 4) rfl
theorem dL_law_307 : decode cL_law 307 = .ok (.aload_n 0, 1) := zD42 whL_law_4 (p := 5) rfl
theorem dL_law_308 : decode cL_law 308 = .ok (.iload_n 3, 1) := zD29 whL_law_4 (p := 6) rfl
theorem dL_law_309 : decode cL_law 309 = .ok (.iconst 1, 1) := zD4 whL_law_4 (p := 7) rfl
theorem dL_law_310 : decode cL_law 310 = .ok (.iadd, 1) := zD96 whL_law_4 (p := 8) rfl
theorem dL_law_311 : decode cL_law 311 = .ok (.iaload, 1) := zD46 whL_law_4 (p := 9) rfl
theorem dL_law_312 : decode cL_law 312 = .ok (.invokevirtual 34, 3) := zD182 whL_law_4 (p := 10) rfl rfl
theorem dL_law_315 : decode cL_law 315 = .ok (.pop, 1) := zD87 whL_law_4 (p := 13) rfl
theorem dL_law_316 : decode cL_law 316 = .ok (.aload_n 2, 1) := zD44 whL_law_4 (p := 14) rfl
theorem dL_law_317 : decode cL_law 317 = .ok (.aload_n 0, 1) := zD42 whL_law_4 (p := 15) rfl
theorem dL_law_318 : decode cL_law 318 = .ok (.iload_n 3, 1) := zD29 whL_law_4 (p := 16) rfl
theorem dL_law_319 : decode cL_law 319 = .ok (.iconst 1, 1) := zD4 whL_law_4 (p := 17) rfl
theorem dL_law_320 : decode cL_law 320 = .ok (.iadd, 1) := zD96 whL_law_4 (p := 18) rfl
theorem dL_law_321 : decode cL_law 321 = .ok (.iaload, 1) := zD46 whL_law_4 (p := 19) rfl
theorem dL_law_322 : decode cL_law 322 = .ok (.invokevirtual 37, 3) := zD182 whL_law_4 (p := 20) rfl rfl
theorem dL_law_325 : decode cL_law 325 = .ok (.pop, 1) := zD87 whL_law_4 (p := 23) rfl
theorem dL_law_326 : decode cL_law 326 = .ok (.goto 1056, 3) := zD167p whL_law_4 (p := 24) (v := 1056) rfl rfl rfl
theorem dL_law_329 : decode cL_law 329 = .ok (.aload_n 1, 1) := zD43 whL_law_4 (p := 27) rfl
theorem dL_law_330 : decode cL_law 330 = .ok (.aload_n 0, 1) := zD42 whL_law_4 (p := 28) rfl
theorem dL_law_331 : decode cL_law 331 = .ok (.iload_n 3, 1) := zD29 whL_law_4 (p := 29) rfl
theorem dL_law_332 : decode cL_law 332 = .ok (.iconst 1, 1) := zD4 whL_law_4 (p := 30) rfl
theorem dL_law_333 : decode cL_law 333 = .ok (.iadd, 1) := zD96 whL_law_4 (p := 31) rfl
def wlL_law_5 : List Nat := [46, 42, 29, 5, 96, 46, 182, 0, 38, 87, 44, 42, 29, 4, 96, 46, 42, 29, 5, 96, 46, 182, 0, 42, 87, 167, 3, 255, 43, 42, 29, 4]
theorem whL_law_5 : WLy cL_law 334 wlL_law_5 := by decide +kernel
theorem dL_law_334 : decode cL_law 334 = .ok (.iaload, 1) := zD46 whL_law_5 (p := 0) rfl
theorem dL_law_335 : decode cL_law 335 = .ok (.aload_n 0, 1) := zD42 whL_law_5 (p := 1) rfl
theorem dL_law_336 : decode cL_law 336 = .ok (.iload_n 3, 1) := zD29 whL_law_5 (p := 2) rfl
theorem dL_law_337 : decode cL_law 337 = .ok (.iconst 2, 1) := zD5 whL_law_5 (p := 3) rfl
theorem dL_law_338 : decode cL_law 338 = .ok (.iadd, 1) := zD96 whL_law_5 (p := 4) rfl
theorem dL_law_339 : decode cL_law 339 = .ok (.iaload, 1) := zD46 whL_law_5 (p := 5) rfl
theorem dL_law_340 : decode cL_law 340 = .ok (.invokevirtual 38, 3) := zD182 whL_law_5 (p := 6) rfl rfl
theorem dL_law_343 : decode cL_law 343 = .ok (.pop, 1) := zD87 whL_law_5 (p := 9) rfl
theorem dL_law_344 : decode cL_law 344 = .ok (.aload_n 2, 1) := zD44 whL_law_5 (p := 10) rfl
theorem dL_law_345 : decode cL_law 345 = .ok (.aload_n 0, 1) := zD42 whL_law_5 (p := 11) rfl
theorem dL_law_346 : decode cL_law 346 = .ok (.iload_n 3, 1) := zD29 whL_law_5 (p := 12) rfl
theorem dL_law_347 : decode cL_law 347 = .ok (.iconst 1, 1) := zD4 whL_law_5 (p := 13) rfl
theorem dL_law_348 : decode cL_law 348 = .ok (.iadd, 1) := zD96 whL_law_5 (p := 14) rfl
theorem dL_law_349 : decode cL_law 349 = .ok (.iaload, 1) := zD46 whL_law_5 (p := 15) rfl
theorem dL_law_350 : decode cL_law 350 = .ok (.aload_n 0, 1) := zD42 whL_law_5 (p := 16) rfl
theorem dL_law_351 : decode cL_law 351 = .ok (.iload_n 3, 1) := zD29 whL_law_5 (p := 17) rfl
theorem dL_law_352 : decode cL_law 352 = .ok (.iconst 2, 1) := zD5 whL_law_5 (p := 18) rfl
theorem dL_law_353 : decode cL_law 353 = .ok (.iadd, 1) := zD96 whL_law_5 (p := 19) rfl
theorem dL_law_354 : decode cL_law 354 = .ok (.iaload, 1) := zD46 whL_law_5 (p := 20) rfl
theorem dL_law_355 : decode cL_law 355 = .ok (.invokevirtual 42, 3) := zD182 whL_law_5 (p := 21) rfl rfl
theorem dL_law_358 : decode cL_law 358 = .ok (.pop, 1) := zD87 whL_law_5 (p := 24) rfl
theorem dL_law_359 : decode cL_law 359 = .ok (.goto 1023, 3) := zD167p whL_law_5 (p := 25) (v := 1023) rfl rfl rfl
theorem dL_law_362 : decode cL_law 362 = .ok (.aload_n 1, 1) := zD43 whL_law_5 (p := 28) rfl
theorem dL_law_363 : decode cL_law 363 = .ok (.aload_n 0, 1) := zD42 whL_law_5 (p := 29) rfl
theorem dL_law_364 : decode cL_law 364 = .ok (.iload_n 3, 1) := zD29 whL_law_5 (p := 30) rfl
theorem dL_law_365 : decode cL_law 365 = .ok (.iconst 1, 1) := zD4 whL_law_5 (p := 31) rfl
def wlL_law_6 : List Nat := [96, 46, 42, 29, 5, 96, 46, 182, 0, 43, 87, 44, 42, 29, 4, 96, 46, 42, 29, 5, 96, 46, 182, 0, 46, 87, 167, 3, 222, 43, 42, 29]
theorem whL_law_6 : WLy cL_law 366 wlL_law_6 := by decide +kernel
theorem dL_law_366 : decode cL_law 366 = .ok (.iadd, 1) := zD96 whL_law_6 (p := 0) rfl
theorem dL_law_367 : decode cL_law 367 = .ok (.iaload, 1) := zD46 whL_law_6 (p := 1) rfl
theorem dL_law_368 : decode cL_law 368 = .ok (.aload_n 0, 1) := zD42 whL_law_6 (p := 2) rfl
theorem dL_law_369 : decode cL_law 369 = .ok (.iload_n 3, 1) := zD29 whL_law_6 (p := 3) rfl
theorem dL_law_370 : decode cL_law 370 = .ok (.iconst 2, 1) := zD5 whL_law_6 (p := 4) rfl
theorem dL_law_371 : decode cL_law 371 = .ok (.iadd, 1) := zD96 whL_law_6 (p := 5) rfl
theorem dL_law_372 : decode cL_law 372 = .ok (.iaload, 1) := zD46 whL_law_6 (p := 6) rfl
theorem dL_law_373 : decode cL_law 373 = .ok (.invokevirtual 43, 3) := zD182 whL_law_6 (p := 7) rfl rfl
theorem dL_law_376 : decode cL_law 376 = .ok (.pop, 1) := zD87 whL_law_6 (p := 10) rfl
theorem dL_law_377 : decode cL_law 377 = .ok (.aload_n 2, 1) := zD44 whL_law_6 (p := 11) rfl
theorem dL_law_378 : decode cL_law 378 = .ok (.aload_n 0, 1) := zD42 whL_law_6 (p := 12) rfl
theorem dL_law_379 : decode cL_law 379 = .ok (.iload_n 3, 1) := zD29 whL_law_6 (p := 13) rfl
theorem dL_law_380 : decode cL_law 380 = .ok (.iconst 1, 1) := zD4 whL_law_6 (p := 14) rfl
theorem dL_law_381 : decode cL_law 381 = .ok (.iadd, 1) := zD96 whL_law_6 (p := 15) rfl
theorem dL_law_382 : decode cL_law 382 = .ok (.iaload, 1) := zD46 whL_law_6 (p := 16) rfl
theorem dL_law_383 : decode cL_law 383 = .ok (.aload_n 0, 1) := zD42 whL_law_6 (p := 17) rfl
theorem dL_law_384 : decode cL_law 384 = .ok (.iload_n 3, 1) := zD29 whL_law_6 (p := 18) rfl
theorem dL_law_385 : decode cL_law 385 = .ok (.iconst 2, 1) := zD5 whL_law_6 (p := 19) rfl
theorem dL_law_386 : decode cL_law 386 = .ok (.iadd, 1) := zD96 whL_law_6 (p := 20) rfl
theorem dL_law_387 : decode cL_law 387 = .ok (.iaload, 1) := zD46 whL_law_6 (p := 21) rfl
theorem dL_law_388 : decode cL_law 388 = .ok (.invokevirtual 46, 3) := zD182 whL_law_6 (p := 22) rfl rfl
theorem dL_law_391 : decode cL_law 391 = .ok (.pop, 1) := zD87 whL_law_6 (p := 25) rfl
theorem dL_law_392 : decode cL_law 392 = .ok (.goto 990, 3) := zD167p whL_law_6 (p := 26) (v := 990) rfl rfl rfl
theorem dL_law_395 : decode cL_law 395 = .ok (.aload_n 1, 1) := zD43 whL_law_6 (p := 29) rfl
theorem dL_law_396 : decode cL_law 396 = .ok (.aload_n 0, 1) := zD42 whL_law_6 (p := 30) rfl
theorem dL_law_397 : decode cL_law 397 = .ok (.iload_n 3, 1) := zD29 whL_law_6 (p := 31) rfl
def wlL_law_7 : List Nat := [4, 96, 46, 182, 0, 47, 87, 44, 42, 29, 4, 96, 46, 182, 0, 50, 87, 167, 3, 199, 43, 42, 29, 4, 96, 46, 42, 29, 5, 96, 46, 182, 0, 51]
theorem whL_law_7 : WLy cL_law 398 wlL_law_7 := by decide +kernel
theorem dL_law_398 : decode cL_law 398 = .ok (.iconst 1, 1) := zD4 whL_law_7 (p := 0) rfl
theorem dL_law_399 : decode cL_law 399 = .ok (.iadd, 1) := zD96 whL_law_7 (p := 1) rfl
theorem dL_law_400 : decode cL_law 400 = .ok (.iaload, 1) := zD46 whL_law_7 (p := 2) rfl
theorem dL_law_401 : decode cL_law 401 = .ok (.invokevirtual 47, 3) := zD182 whL_law_7 (p := 3) rfl rfl
theorem dL_law_404 : decode cL_law 404 = .ok (.pop, 1) := zD87 whL_law_7 (p := 6) rfl
theorem dL_law_405 : decode cL_law 405 = .ok (.aload_n 2, 1) := zD44 whL_law_7 (p := 7) rfl
theorem dL_law_406 : decode cL_law 406 = .ok (.aload_n 0, 1) := zD42 whL_law_7 (p := 8) rfl
theorem dL_law_407 : decode cL_law 407 = .ok (.iload_n 3, 1) := zD29 whL_law_7 (p := 9) rfl
theorem dL_law_408 : decode cL_law 408 = .ok (.iconst 1, 1) := zD4 whL_law_7 (p := 10) rfl
theorem dL_law_409 : decode cL_law 409 = .ok (.iadd, 1) := zD96 whL_law_7 (p := 11) rfl
theorem dL_law_410 : decode cL_law 410 = .ok (.iaload, 1) := zD46 whL_law_7 (p := 12) rfl
theorem dL_law_411 : decode cL_law 411 = .ok (.invokevirtual 50, 3) := zD182 whL_law_7 (p := 13) rfl rfl
theorem dL_law_414 : decode cL_law 414 = .ok (.pop, 1) := zD87 whL_law_7 (p := 16) rfl
theorem dL_law_415 : decode cL_law 415 = .ok (.goto 967, 3) := zD167p whL_law_7 (p := 17) (v := 967) rfl rfl rfl
theorem dL_law_418 : decode cL_law 418 = .ok (.aload_n 1, 1) := zD43 whL_law_7 (p := 20) rfl
theorem dL_law_419 : decode cL_law 419 = .ok (.aload_n 0, 1) := zD42 whL_law_7 (p := 21) rfl
theorem dL_law_420 : decode cL_law 420 = .ok (.iload_n 3, 1) := zD29 whL_law_7 (p := 22) rfl
theorem dL_law_421 : decode cL_law 421 = .ok (.iconst 1, 1) := zD4 whL_law_7 (p := 23) rfl
theorem dL_law_422 : decode cL_law 422 = .ok (.iadd, 1) := zD96 whL_law_7 (p := 24) rfl
theorem dL_law_423 : decode cL_law 423 = .ok (.iaload, 1) := zD46 whL_law_7 (p := 25) rfl
theorem dL_law_424 : decode cL_law 424 = .ok (.aload_n 0, 1) := zD42 whL_law_7 (p := 26) rfl
theorem dL_law_425 : decode cL_law 425 = .ok (.iload_n 3, 1) := zD29 whL_law_7 (p := 27) rfl
theorem dL_law_426 : decode cL_law 426 = .ok (.iconst 2, 1) := zD5 whL_law_7 (p := 28) rfl
theorem dL_law_427 : decode cL_law 427 = .ok (.iadd, 1) := zD96 whL_law_7 (p := 29) rfl
theorem dL_law_428 : decode cL_law 428 = .ok (.iaload, 1) := zD46 whL_law_7 (p := 30) rfl
theorem dL_law_429 : decode cL_law 429 = .ok (.invokevirtual 51, 3) := zD182 whL_law_7 (p := 31) rfl rfl
def wlL_law_8 : List Nat := [87, 44, 42, 29, 4, 96, 46, 42, 29, 5, 96, 46, 182, 0, 54, 87, 167, 3, 166, 43, 42, 29, 4, 96, 46, 42, 29, 5, 96, 46, 182, 0, 55]
theorem whL_law_8 : WLy cL_law 432 wlL_law_8 := by decide +kernel
theorem dL_law_432 : decode cL_law 432 = .ok (.pop, 1) := zD87 whL_law_8 (p := 0) rfl
theorem dL_law_433 : decode cL_law 433 = .ok (.aload_n 2, 1) := zD44 whL_law_8 (p := 1) rfl
theorem dL_law_434 : decode cL_law 434 = .ok (.aload_n 0, 1) := zD42 whL_law_8 (p := 2) rfl
theorem dL_law_435 : decode cL_law 435 = .ok (.iload_n 3, 1) := zD29 whL_law_8 (p := 3) rfl
theorem dL_law_436 : decode cL_law 436 = .ok (.iconst 1, 1) := zD4 whL_law_8 (p := 4) rfl
theorem dL_law_437 : decode cL_law 437 = .ok (.iadd, 1) := zD96 whL_law_8 (p := 5) rfl
theorem dL_law_438 : decode cL_law 438 = .ok (.iaload, 1) := zD46 whL_law_8 (p := 6) rfl
theorem dL_law_439 : decode cL_law 439 = .ok (.aload_n 0, 1) := zD42 whL_law_8 (p := 7) rfl
theorem dL_law_440 : decode cL_law 440 = .ok (.iload_n 3, 1) := zD29 whL_law_8 (p := 8) rfl
theorem dL_law_441 : decode cL_law 441 = .ok (.iconst 2, 1) := zD5 whL_law_8 (p := 9) rfl
theorem dL_law_442 : decode cL_law 442 = .ok (.iadd, 1) := zD96 whL_law_8 (p := 10) rfl
theorem dL_law_443 : decode cL_law 443 = .ok (.iaload, 1) := zD46 whL_law_8 (p := 11) rfl
theorem dL_law_444 : decode cL_law 444 = .ok (.invokevirtual 54, 3) := zD182 whL_law_8 (p := 12) rfl rfl
theorem dL_law_447 : decode cL_law 447 = .ok (.pop, 1) := zD87 whL_law_8 (p := 15) rfl
theorem dL_law_448 : decode cL_law 448 = .ok (.goto 934, 3) := zD167p whL_law_8 (p := 16) (v := 934) rfl rfl rfl
theorem dL_law_451 : decode cL_law 451 = .ok (.aload_n 1, 1) := zD43 whL_law_8 (p := 19) rfl
theorem dL_law_452 : decode cL_law 452 = .ok (.aload_n 0, 1) := zD42 whL_law_8 (p := 20) rfl
theorem dL_law_453 : decode cL_law 453 = .ok (.iload_n 3, 1) := zD29 whL_law_8 (p := 21) rfl
theorem dL_law_454 : decode cL_law 454 = .ok (.iconst 1, 1) := zD4 whL_law_8 (p := 22) rfl
theorem dL_law_455 : decode cL_law 455 = .ok (.iadd, 1) := zD96 whL_law_8 (p := 23) rfl
theorem dL_law_456 : decode cL_law 456 = .ok (.iaload, 1) := zD46 whL_law_8 (p := 24) rfl
theorem dL_law_457 : decode cL_law 457 = .ok (.aload_n 0, 1) := zD42 whL_law_8 (p := 25) rfl
theorem dL_law_458 : decode cL_law 458 = .ok (.iload_n 3, 1) := zD29 whL_law_8 (p := 26) rfl
theorem dL_law_459 : decode cL_law 459 = .ok (.iconst 2, 1) := zD5 whL_law_8 (p := 27) rfl
theorem dL_law_460 : decode cL_law 460 = .ok (.iadd, 1) := zD96 whL_law_8 (p := 28) rfl
theorem dL_law_461 : decode cL_law 461 = .ok (.iaload, 1) := zD46 whL_law_8 (p := 29) rfl
theorem dL_law_462 : decode cL_law 462 = .ok (.invokevirtual 55, 3) := zD182 whL_law_8 (p := 30) rfl rfl
def wlL_law_9 : List Nat := [87, 44, 42, 29, 4, 96, 46, 42, 29, 5, 96, 46, 182, 0, 58, 87, 167, 3, 133, 43, 42, 29, 4, 96, 46, 42, 29, 5, 96, 46, 182, 0, 59]
theorem whL_law_9 : WLy cL_law 465 wlL_law_9 := by decide +kernel
theorem dL_law_465 : decode cL_law 465 = .ok (.pop, 1) := zD87 whL_law_9 (p := 0) rfl
theorem dL_law_466 : decode cL_law 466 = .ok (.aload_n 2, 1) := zD44 whL_law_9 (p := 1) rfl
theorem dL_law_467 : decode cL_law 467 = .ok (.aload_n 0, 1) := zD42 whL_law_9 (p := 2) rfl
theorem dL_law_468 : decode cL_law 468 = .ok (.iload_n 3, 1) := zD29 whL_law_9 (p := 3) rfl
theorem dL_law_469 : decode cL_law 469 = .ok (.iconst 1, 1) := zD4 whL_law_9 (p := 4) rfl
theorem dL_law_470 : decode cL_law 470 = .ok (.iadd, 1) := zD96 whL_law_9 (p := 5) rfl
theorem dL_law_471 : decode cL_law 471 = .ok (.iaload, 1) := zD46 whL_law_9 (p := 6) rfl
theorem dL_law_472 : decode cL_law 472 = .ok (.aload_n 0, 1) := zD42 whL_law_9 (p := 7) rfl
theorem dL_law_473 : decode cL_law 473 = .ok (.iload_n 3, 1) := zD29 whL_law_9 (p := 8) rfl
theorem dL_law_474 : decode cL_law 474 = .ok (.iconst 2, 1) := zD5 whL_law_9 (p := 9) rfl
theorem dL_law_475 : decode cL_law 475 = .ok (.iadd, 1) := zD96 whL_law_9 (p := 10) rfl
theorem dL_law_476 : decode cL_law 476 = .ok (.iaload, 1) := zD46 whL_law_9 (p := 11) rfl
theorem dL_law_477 : decode cL_law 477 = .ok (.invokevirtual 58, 3) := zD182 whL_law_9 (p := 12) rfl rfl
theorem dL_law_480 : decode cL_law 480 = .ok (.pop, 1) := zD87 whL_law_9 (p := 15) rfl
theorem dL_law_481 : decode cL_law 481 = .ok (.goto 901, 3) := zD167p whL_law_9 (p := 16) (v := 901) rfl rfl rfl
theorem dL_law_484 : decode cL_law 484 = .ok (.aload_n 1, 1) := zD43 whL_law_9 (p := 19) rfl
theorem dL_law_485 : decode cL_law 485 = .ok (.aload_n 0, 1) := zD42 whL_law_9 (p := 20) rfl
theorem dL_law_486 : decode cL_law 486 = .ok (.iload_n 3, 1) := zD29 whL_law_9 (p := 21) rfl
theorem dL_law_487 : decode cL_law 487 = .ok (.iconst 1, 1) := zD4 whL_law_9 (p := 22) rfl
theorem dL_law_488 : decode cL_law 488 = .ok (.iadd, 1) := zD96 whL_law_9 (p := 23) rfl
theorem dL_law_489 : decode cL_law 489 = .ok (.iaload, 1) := zD46 whL_law_9 (p := 24) rfl
theorem dL_law_490 : decode cL_law 490 = .ok (.aload_n 0, 1) := zD42 whL_law_9 (p := 25) rfl
theorem dL_law_491 : decode cL_law 491 = .ok (.iload_n 3, 1) := zD29 whL_law_9 (p := 26) rfl
theorem dL_law_492 : decode cL_law 492 = .ok (.iconst 2, 1) := zD5 whL_law_9 (p := 27) rfl
theorem dL_law_493 : decode cL_law 493 = .ok (.iadd, 1) := zD96 whL_law_9 (p := 28) rfl
theorem dL_law_494 : decode cL_law 494 = .ok (.iaload, 1) := zD46 whL_law_9 (p := 29) rfl
theorem dL_law_495 : decode cL_law 495 = .ok (.invokevirtual 59, 3) := zD182 whL_law_9 (p := 30) rfl rfl
def wlL_law_10 : List Nat := [87, 44, 42, 29, 4, 96, 46, 42, 29, 5, 96, 46, 182, 0, 62, 87, 167, 3, 100, 43, 42, 29, 4, 96, 46, 42, 29, 5, 96, 46, 182, 0, 63]
theorem whL_law_10 : WLy cL_law 498 wlL_law_10 := by decide +kernel
theorem dL_law_498 : decode cL_law 498 = .ok (.pop, 1) := zD87 whL_law_10 (p := 0) rfl
theorem dL_law_499 : decode cL_law 499 = .ok (.aload_n 2, 1) := zD44 whL_law_10 (p := 1) rfl
theorem dL_law_500 : decode cL_law 500 = .ok (.aload_n 0, 1) := zD42 whL_law_10 (p := 2) rfl
theorem dL_law_501 : decode cL_law 501 = .ok (.iload_n 3, 1) := zD29 whL_law_10 (p := 3) rfl
theorem dL_law_502 : decode cL_law 502 = .ok (.iconst 1, 1) := zD4 whL_law_10 (p := 4) rfl
theorem dL_law_503 : decode cL_law 503 = .ok (.iadd, 1) := zD96 whL_law_10 (p := 5) rfl
theorem dL_law_504 : decode cL_law 504 = .ok (.iaload, 1) := zD46 whL_law_10 (p := 6) rfl
theorem dL_law_505 : decode cL_law 505 = .ok (.aload_n 0, 1) := zD42 whL_law_10 (p := 7) rfl
theorem dL_law_506 : decode cL_law 506 = .ok (.iload_n 3, 1) := zD29 whL_law_10 (p := 8) rfl
theorem dL_law_507 : decode cL_law 507 = .ok (.iconst 2, 1) := zD5 whL_law_10 (p := 9) rfl
theorem dL_law_508 : decode cL_law 508 = .ok (.iadd, 1) := zD96 whL_law_10 (p := 10) rfl
theorem dL_law_509 : decode cL_law 509 = .ok (.iaload, 1) := zD46 whL_law_10 (p := 11) rfl
theorem dL_law_510 : decode cL_law 510 = .ok (.invokevirtual 62, 3) := zD182 whL_law_10 (p := 12) rfl rfl
theorem dL_law_513 : decode cL_law 513 = .ok (.pop, 1) := zD87 whL_law_10 (p := 15) rfl
theorem dL_law_514 : decode cL_law 514 = .ok (.goto 868, 3) := zD167p whL_law_10 (p := 16) (v := 868) rfl rfl rfl
theorem dL_law_517 : decode cL_law 517 = .ok (.aload_n 1, 1) := zD43 whL_law_10 (p := 19) rfl
theorem dL_law_518 : decode cL_law 518 = .ok (.aload_n 0, 1) := zD42 whL_law_10 (p := 20) rfl
theorem dL_law_519 : decode cL_law 519 = .ok (.iload_n 3, 1) := zD29 whL_law_10 (p := 21) rfl
theorem dL_law_520 : decode cL_law 520 = .ok (.iconst 1, 1) := zD4 whL_law_10 (p := 22) rfl
theorem dL_law_521 : decode cL_law 521 = .ok (.iadd, 1) := zD96 whL_law_10 (p := 23) rfl
theorem dL_law_522 : decode cL_law 522 = .ok (.iaload, 1) := zD46 whL_law_10 (p := 24) rfl
theorem dL_law_523 : decode cL_law 523 = .ok (.aload_n 0, 1) := zD42 whL_law_10 (p := 25) rfl
theorem dL_law_524 : decode cL_law 524 = .ok (.iload_n 3, 1) := zD29 whL_law_10 (p := 26) rfl
theorem dL_law_525 : decode cL_law 525 = .ok (.iconst 2, 1) := zD5 whL_law_10 (p := 27) rfl
theorem dL_law_526 : decode cL_law 526 = .ok (.iadd, 1) := zD96 whL_law_10 (p := 28) rfl
theorem dL_law_527 : decode cL_law 527 = .ok (.iaload, 1) := zD46 whL_law_10 (p := 29) rfl
theorem dL_law_528 : decode cL_law 528 = .ok (.invokevirtual 63, 3) := zD182 whL_law_10 (p := 30) rfl rfl
def wlL_law_11 : List Nat := [87, 44, 42, 29, 4, 96, 46, 42, 29, 5, 96, 46, 182, 0, 66, 87, 167, 3, 67, 43, 42, 29, 4, 96, 46, 42, 29, 5, 96, 46, 182, 0, 67]
theorem whL_law_11 : WLy cL_law 531 wlL_law_11 := by decide +kernel
theorem dL_law_531 : decode cL_law 531 = .ok (.pop, 1) := zD87 whL_law_11 (p := 0) rfl
theorem dL_law_532 : decode cL_law 532 = .ok (.aload_n 2, 1) := zD44 whL_law_11 (p := 1) rfl
theorem dL_law_533 : decode cL_law 533 = .ok (.aload_n 0, 1) := zD42 whL_law_11 (p := 2) rfl
theorem dL_law_534 : decode cL_law 534 = .ok (.iload_n 3, 1) := zD29 whL_law_11 (p := 3) rfl
theorem dL_law_535 : decode cL_law 535 = .ok (.iconst 1, 1) := zD4 whL_law_11 (p := 4) rfl
theorem dL_law_536 : decode cL_law 536 = .ok (.iadd, 1) := zD96 whL_law_11 (p := 5) rfl
theorem dL_law_537 : decode cL_law 537 = .ok (.iaload, 1) := zD46 whL_law_11 (p := 6) rfl
theorem dL_law_538 : decode cL_law 538 = .ok (.aload_n 0, 1) := zD42 whL_law_11 (p := 7) rfl
theorem dL_law_539 : decode cL_law 539 = .ok (.iload_n 3, 1) := zD29 whL_law_11 (p := 8) rfl
theorem dL_law_540 : decode cL_law 540 = .ok (.iconst 2, 1) := zD5 whL_law_11 (p := 9) rfl
theorem dL_law_541 : decode cL_law 541 = .ok (.iadd, 1) := zD96 whL_law_11 (p := 10) rfl
theorem dL_law_542 : decode cL_law 542 = .ok (.iaload, 1) := zD46 whL_law_11 (p := 11) rfl
theorem dL_law_543 : decode cL_law 543 = .ok (.invokevirtual 66, 3) := zD182 whL_law_11 (p := 12) rfl rfl
theorem dL_law_546 : decode cL_law 546 = .ok (.pop, 1) := zD87 whL_law_11 (p := 15) rfl
theorem dL_law_547 : decode cL_law 547 = .ok (.goto 835, 3) := zD167p whL_law_11 (p := 16) (v := 835) rfl rfl rfl
theorem dL_law_550 : decode cL_law 550 = .ok (.aload_n 1, 1) := zD43 whL_law_11 (p := 19) rfl
theorem dL_law_551 : decode cL_law 551 = .ok (.aload_n 0, 1) := zD42 whL_law_11 (p := 20) rfl
theorem dL_law_552 : decode cL_law 552 = .ok (.iload_n 3, 1) := zD29 whL_law_11 (p := 21) rfl
theorem dL_law_553 : decode cL_law 553 = .ok (.iconst 1, 1) := zD4 whL_law_11 (p := 22) rfl
theorem dL_law_554 : decode cL_law 554 = .ok (.iadd, 1) := zD96 whL_law_11 (p := 23) rfl
theorem dL_law_555 : decode cL_law 555 = .ok (.iaload, 1) := zD46 whL_law_11 (p := 24) rfl
theorem dL_law_556 : decode cL_law 556 = .ok (.aload_n 0, 1) := zD42 whL_law_11 (p := 25) rfl
theorem dL_law_557 : decode cL_law 557 = .ok (.iload_n 3, 1) := zD29 whL_law_11 (p := 26) rfl
theorem dL_law_558 : decode cL_law 558 = .ok (.iconst 2, 1) := zD5 whL_law_11 (p := 27) rfl
theorem dL_law_559 : decode cL_law 559 = .ok (.iadd, 1) := zD96 whL_law_11 (p := 28) rfl
theorem dL_law_560 : decode cL_law 560 = .ok (.iaload, 1) := zD46 whL_law_11 (p := 29) rfl
theorem dL_law_561 : decode cL_law 561 = .ok (.invokevirtual 67, 3) := zD182 whL_law_11 (p := 30) rfl rfl
def wlL_law_12 : List Nat := [87, 44, 42, 29, 4, 96, 46, 42, 29, 5, 96, 46, 182, 0, 70, 87, 167, 3, 34, 43, 42, 29, 4, 96, 46, 42, 29, 5, 96, 46, 42, 29]
theorem whL_law_12 : WLy cL_law 564 wlL_law_12 := by decide +kernel
theorem dL_law_564 : decode cL_law 564 = .ok (.pop, 1) := zD87 whL_law_12 (p := 0) rfl
theorem dL_law_565 : decode cL_law 565 = .ok (.aload_n 2, 1) := zD44 whL_law_12 (p := 1) rfl
theorem dL_law_566 : decode cL_law 566 = .ok (.aload_n 0, 1) := zD42 whL_law_12 (p := 2) rfl
theorem dL_law_567 : decode cL_law 567 = .ok (.iload_n 3, 1) := zD29 whL_law_12 (p := 3) rfl
theorem dL_law_568 : decode cL_law 568 = .ok (.iconst 1, 1) := zD4 whL_law_12 (p := 4) rfl
theorem dL_law_569 : decode cL_law 569 = .ok (.iadd, 1) := zD96 whL_law_12 (p := 5) rfl
theorem dL_law_570 : decode cL_law 570 = .ok (.iaload, 1) := zD46 whL_law_12 (p := 6) rfl
theorem dL_law_571 : decode cL_law 571 = .ok (.aload_n 0, 1) := zD42 whL_law_12 (p := 7) rfl
theorem dL_law_572 : decode cL_law 572 = .ok (.iload_n 3, 1) := zD29 whL_law_12 (p := 8) rfl
theorem dL_law_573 : decode cL_law 573 = .ok (.iconst 2, 1) := zD5 whL_law_12 (p := 9) rfl
theorem dL_law_574 : decode cL_law 574 = .ok (.iadd, 1) := zD96 whL_law_12 (p := 10) rfl
theorem dL_law_575 : decode cL_law 575 = .ok (.iaload, 1) := zD46 whL_law_12 (p := 11) rfl
theorem dL_law_576 : decode cL_law 576 = .ok (.invokevirtual 70, 3) := zD182 whL_law_12 (p := 12) rfl rfl
theorem dL_law_579 : decode cL_law 579 = .ok (.pop, 1) := zD87 whL_law_12 (p := 15) rfl
theorem dL_law_580 : decode cL_law 580 = .ok (.goto 802, 3) := zD167p whL_law_12 (p := 16) (v := 802) rfl rfl rfl
theorem dL_law_583 : decode cL_law 583 = .ok (.aload_n 1, 1) := zD43 whL_law_12 (p := 19) rfl
theorem dL_law_584 : decode cL_law 584 = .ok (.aload_n 0, 1) := zD42 whL_law_12 (p := 20) rfl
theorem dL_law_585 : decode cL_law 585 = .ok (.iload_n 3, 1) := zD29 whL_law_12 (p := 21) rfl
theorem dL_law_586 : decode cL_law 586 = .ok (.iconst 1, 1) := zD4 whL_law_12 (p := 22) rfl
theorem dL_law_587 : decode cL_law 587 = .ok (.iadd, 1) := zD96 whL_law_12 (p := 23) rfl
theorem dL_law_588 : decode cL_law 588 = .ok (.iaload, 1) := zD46 whL_law_12 (p := 24) rfl
theorem dL_law_589 : decode cL_law 589 = .ok (.aload_n 0, 1) := zD42 whL_law_12 (p := 25) rfl
theorem dL_law_590 : decode cL_law 590 = .ok (.iload_n 3, 1) := zD29 whL_law_12 (p := 26) rfl
theorem dL_law_591 : decode cL_law 591 = .ok (.iconst 2, 1) := zD5 whL_law_12 (p := 27) rfl
theorem dL_law_592 : decode cL_law 592 = .ok (.iadd, 1) := zD96 whL_law_12 (p := 28) rfl
theorem dL_law_593 : decode cL_law 593 = .ok (.iaload, 1) := zD46 whL_law_12 (p := 29) rfl
theorem dL_law_594 : decode cL_law 594 = .ok (.aload_n 0, 1) := zD42 whL_law_12 (p := 30) rfl
theorem dL_law_595 : decode cL_law 595 = .ok (.iload_n 3, 1) := zD29 whL_law_12 (p := 31) rfl
def wlL_law_13 : List Nat := [6, 96, 46, 182, 0, 71, 87, 44, 42, 29, 4, 96, 46, 42, 29, 5, 96, 46, 42, 29, 6, 96, 46, 182, 0, 75, 87, 167, 2, 247, 43, 42]
theorem whL_law_13 : WLy cL_law 596 wlL_law_13 := by decide +kernel
theorem dL_law_596 : decode cL_law 596 = .ok (.iconst 3, 1) := zD6 whL_law_13 (p := 0) rfl
theorem dL_law_597 : decode cL_law 597 = .ok (.iadd, 1) := zD96 whL_law_13 (p := 1) rfl
theorem dL_law_598 : decode cL_law 598 = .ok (.iaload, 1) := zD46 whL_law_13 (p := 2) rfl
theorem dL_law_599 : decode cL_law 599 = .ok (.invokevirtual 71, 3) := zD182 whL_law_13 (p := 3) rfl rfl
theorem dL_law_602 : decode cL_law 602 = .ok (.pop, 1) := zD87 whL_law_13 (p := 6) rfl
theorem dL_law_603 : decode cL_law 603 = .ok (.aload_n 2, 1) := zD44 whL_law_13 (p := 7) rfl
theorem dL_law_604 : decode cL_law 604 = .ok (.aload_n 0, 1) := zD42 whL_law_13 (p := 8) rfl
theorem dL_law_605 : decode cL_law 605 = .ok (.iload_n 3, 1) := zD29 whL_law_13 (p := 9) rfl
theorem dL_law_606 : decode cL_law 606 = .ok (.iconst 1, 1) := zD4 whL_law_13 (p := 10) rfl
theorem dL_law_607 : decode cL_law 607 = .ok (.iadd, 1) := zD96 whL_law_13 (p := 11) rfl
theorem dL_law_608 : decode cL_law 608 = .ok (.iaload, 1) := zD46 whL_law_13 (p := 12) rfl
theorem dL_law_609 : decode cL_law 609 = .ok (.aload_n 0, 1) := zD42 whL_law_13 (p := 13) rfl
theorem dL_law_610 : decode cL_law 610 = .ok (.iload_n 3, 1) := zD29 whL_law_13 (p := 14) rfl
theorem dL_law_611 : decode cL_law 611 = .ok (.iconst 2, 1) := zD5 whL_law_13 (p := 15) rfl
theorem dL_law_612 : decode cL_law 612 = .ok (.iadd, 1) := zD96 whL_law_13 (p := 16) rfl
theorem dL_law_613 : decode cL_law 613 = .ok (.iaload, 1) := zD46 whL_law_13 (p := 17) rfl
theorem dL_law_614 : decode cL_law 614 = .ok (.aload_n 0, 1) := zD42 whL_law_13 (p := 18) rfl
theorem dL_law_615 : decode cL_law 615 = .ok (.iload_n 3, 1) := zD29 whL_law_13 (p := 19) rfl
theorem dL_law_616 : decode cL_law 616 = .ok (.iconst 3, 1) := zD6 whL_law_13 (p := 20) rfl
theorem dL_law_617 : decode cL_law 617 = .ok (.iadd, 1) := zD96 whL_law_13 (p := 21) rfl
theorem dL_law_618 : decode cL_law 618 = .ok (.iaload, 1) := zD46 whL_law_13 (p := 22) rfl
theorem dL_law_619 : decode cL_law 619 = .ok (.invokevirtual 75, 3) := zD182 whL_law_13 (p := 23) rfl rfl
theorem dL_law_622 : decode cL_law 622 = .ok (.pop, 1) := zD87 whL_law_13 (p := 26) rfl
theorem dL_law_623 : decode cL_law 623 = .ok (.goto 759, 3) := zD167p whL_law_13 (p := 27) (v := 759) rfl rfl rfl
theorem dL_law_626 : decode cL_law 626 = .ok (.aload_n 1, 1) := zD43 whL_law_13 (p := 30) rfl
theorem dL_law_627 : decode cL_law 627 = .ok (.aload_n 0, 1) := zD42 whL_law_13 (p := 31) rfl
def wlL_law_14 : List Nat := [29, 4, 96, 46, 182, 0, 76, 88, 44, 42, 29, 4, 96, 46, 182, 0, 80, 88, 167, 2, 224, 43, 42, 29, 4, 96, 46, 42, 29, 5, 96, 46]
theorem whL_law_14 : WLy cL_law 628 wlL_law_14 := by decide +kernel
theorem dL_law_628 : decode cL_law 628 = .ok (.iload_n 3, 1) := zD29 whL_law_14 (p := 0) rfl
theorem dL_law_629 : decode cL_law 629 = .ok (.iconst 1, 1) := zD4 whL_law_14 (p := 1) rfl
theorem dL_law_630 : decode cL_law 630 = .ok (.iadd, 1) := zD96 whL_law_14 (p := 2) rfl
theorem dL_law_631 : decode cL_law 631 = .ok (.iaload, 1) := zD46 whL_law_14 (p := 3) rfl
theorem dL_law_632 : decode cL_law 632 = .ok (.invokevirtual 76, 3) := zD182 whL_law_14 (p := 4) rfl rfl
theorem dL_law_635 : decode cL_law 635 = .ok (.pop2, 1) := zD88 whL_law_14 (p := 7) rfl
theorem dL_law_636 : decode cL_law 636 = .ok (.aload_n 2, 1) := zD44 whL_law_14 (p := 8) rfl
theorem dL_law_637 : decode cL_law 637 = .ok (.aload_n 0, 1) := zD42 whL_law_14 (p := 9) rfl
theorem dL_law_638 : decode cL_law 638 = .ok (.iload_n 3, 1) := zD29 whL_law_14 (p := 10) rfl
theorem dL_law_639 : decode cL_law 639 = .ok (.iconst 1, 1) := zD4 whL_law_14 (p := 11) rfl
theorem dL_law_640 : decode cL_law 640 = .ok (.iadd, 1) := zD96 whL_law_14 (p := 12) rfl
theorem dL_law_641 : decode cL_law 641 = .ok (.iaload, 1) := zD46 whL_law_14 (p := 13) rfl
theorem dL_law_642 : decode cL_law 642 = .ok (.invokevirtual 80, 3) := zD182 whL_law_14 (p := 14) rfl rfl
theorem dL_law_645 : decode cL_law 645 = .ok (.pop2, 1) := zD88 whL_law_14 (p := 17) rfl
theorem dL_law_646 : decode cL_law 646 = .ok (.goto 736, 3) := zD167p whL_law_14 (p := 18) (v := 736) rfl rfl rfl
theorem dL_law_649 : decode cL_law 649 = .ok (.aload_n 1, 1) := zD43 whL_law_14 (p := 21) rfl
theorem dL_law_650 : decode cL_law 650 = .ok (.aload_n 0, 1) := zD42 whL_law_14 (p := 22) rfl
theorem dL_law_651 : decode cL_law 651 = .ok (.iload_n 3, 1) := zD29 whL_law_14 (p := 23) rfl
theorem dL_law_652 : decode cL_law 652 = .ok (.iconst 1, 1) := zD4 whL_law_14 (p := 24) rfl
theorem dL_law_653 : decode cL_law 653 = .ok (.iadd, 1) := zD96 whL_law_14 (p := 25) rfl
theorem dL_law_654 : decode cL_law 654 = .ok (.iaload, 1) := zD46 whL_law_14 (p := 26) rfl
theorem dL_law_655 : decode cL_law 655 = .ok (.aload_n 0, 1) := zD42 whL_law_14 (p := 27) rfl
theorem dL_law_656 : decode cL_law 656 = .ok (.iload_n 3, 1) := zD29 whL_law_14 (p := 28) rfl
theorem dL_law_657 : decode cL_law 657 = .ok (.iconst 2, 1) := zD5 whL_law_14 (p := 29) rfl
theorem dL_law_658 : decode cL_law 658 = .ok (.iadd, 1) := zD96 whL_law_14 (p := 30) rfl
theorem dL_law_659 : decode cL_law 659 = .ok (.iaload, 1) := zD46 whL_law_14 (p := 31) rfl
def wlL_law_15 : List Nat := [182, 0, 81, 88, 44, 42, 29, 4, 96, 46, 42, 29, 5, 96, 46, 182, 0, 85, 88, 167, 2, 191, 43, 42, 29, 4, 96, 46, 42, 29, 5, 96]
theorem whL_law_15 : WLy cL_law 660 wlL_law_15 := by decide +kernel
theorem dL_law_660 : decode cL_law 660 = .ok (.invokevirtual 81, 3) := zD182 whL_law_15 (p := 0) rfl rfl
theorem dL_law_663 : decode cL_law 663 = .ok (.pop2, 1) := zD88 whL_law_15 (p := 3) rfl
theorem dL_law_664 : decode cL_law 664 = .ok (.aload_n 2, 1) := zD44 whL_law_15 (p := 4) rfl
theorem dL_law_665 : decode cL_law 665 = .ok (.aload_n 0, 1) := zD42 whL_law_15 (p := 5) rfl
theorem dL_law_666 : decode cL_law 666 = .ok (.iload_n 3, 1) := zD29 whL_law_15 (p := 6) rfl
theorem dL_law_667 : decode cL_law 667 = .ok (.iconst 1, 1) := zD4 whL_law_15 (p := 7) rfl
theorem dL_law_668 : decode cL_law 668 = .ok (.iadd, 1) := zD96 whL_law_15 (p := 8) rfl
theorem dL_law_669 : decode cL_law 669 = .ok (.iaload, 1) := zD46 whL_law_15 (p := 9) rfl
theorem dL_law_670 : decode cL_law 670 = .ok (.aload_n 0, 1) := zD42 whL_law_15 (p := 10) rfl
theorem dL_law_671 : decode cL_law 671 = .ok (.iload_n 3, 1) := zD29 whL_law_15 (p := 11) rfl
theorem dL_law_672 : decode cL_law 672 = .ok (.iconst 2, 1) := zD5 whL_law_15 (p := 12) rfl
theorem dL_law_673 : decode cL_law 673 = .ok (.iadd, 1) := zD96 whL_law_15 (p := 13) rfl
theorem dL_law_674 : decode cL_law 674 = .ok (.iaload, 1) := zD46 whL_law_15 (p := 14) rfl
theorem dL_law_675 : decode cL_law 675 = .ok (.invokevirtual 85, 3) := zD182 whL_law_15 (p := 15) rfl rfl
theorem dL_law_678 : decode cL_law 678 = .ok (.pop2, 1) := zD88 whL_law_15 (p := 18) rfl
theorem dL_law_679 : decode cL_law 679 = .ok (.goto 703, 3) := zD167p whL_law_15 (p := 19) (v := 703) rfl rfl rfl
theorem dL_law_682 : decode cL_law 682 = .ok (.aload_n 1, 1) := zD43 whL_law_15 (p := 22) rfl
theorem dL_law_683 : decode cL_law 683 = .ok (.aload_n 0, 1) := zD42 whL_law_15 (p := 23) rfl
theorem dL_law_684 : decode cL_law 684 = .ok (.iload_n 3, 1) := zD29 whL_law_15 (p := 24) rfl
theorem dL_law_685 : decode cL_law 685 = .ok (.iconst 1, 1) := zD4 whL_law_15 (p := 25) rfl
theorem dL_law_686 : decode cL_law 686 = .ok (.iadd, 1) := zD96 whL_law_15 (p := 26) rfl
theorem dL_law_687 : decode cL_law 687 = .ok (.iaload, 1) := zD46 whL_law_15 (p := 27) rfl
theorem dL_law_688 : decode cL_law 688 = .ok (.aload_n 0, 1) := zD42 whL_law_15 (p := 28) rfl
theorem dL_law_689 : decode cL_law 689 = .ok (.iload_n 3, 1) := zD29 whL_law_15 (p := 29) rfl
theorem dL_law_690 : decode cL_law 690 = .ok (.iconst 2, 1) := zD5 whL_law_15 (p := 30) rfl
theorem dL_law_691 : decode cL_law 691 = .ok (.iadd, 1) := zD96 whL_law_15 (p := 31) rfl
def wlL_law_16 : List Nat := [46, 42, 29, 6, 96, 46, 182, 0, 86, 88, 44, 42, 29, 4, 96, 46, 42, 29, 5, 96, 46, 42, 29, 6, 96, 46, 182, 0, 90, 88, 167, 2, 148]
theorem whL_law_16 : WLy cL_law 692 wlL_law_16 := by decide +kernel
theorem dL_law_692 : decode cL_law 692 = .ok (.iaload, 1) := zD46 whL_law_16 (p := 0) rfl
theorem dL_law_693 : decode cL_law 693 = .ok (.aload_n 0, 1) := zD42 whL_law_16 (p := 1) rfl
theorem dL_law_694 : decode cL_law 694 = .ok (.iload_n 3, 1) := zD29 whL_law_16 (p := 2) rfl
theorem dL_law_695 : decode cL_law 695 = .ok (.iconst 3, 1) := zD6 whL_law_16 (p := 3) rfl
theorem dL_law_696 : decode cL_law 696 = .ok (.iadd, 1) := zD96 whL_law_16 (p := 4) rfl
theorem dL_law_697 : decode cL_law 697 = .ok (.iaload, 1) := zD46 whL_law_16 (p := 5) rfl
theorem dL_law_698 : decode cL_law 698 = .ok (.invokevirtual 86, 3) := zD182 whL_law_16 (p := 6) rfl rfl
theorem dL_law_701 : decode cL_law 701 = .ok (.pop2, 1) := zD88 whL_law_16 (p := 9) rfl
theorem dL_law_702 : decode cL_law 702 = .ok (.aload_n 2, 1) := zD44 whL_law_16 (p := 10) rfl
theorem dL_law_703 : decode cL_law 703 = .ok (.aload_n 0, 1) := zD42 whL_law_16 (p := 11) rfl
theorem dL_law_704 : decode cL_law 704 = .ok (.iload_n 3, 1) := zD29 whL_law_16 (p := 12) rfl
theorem dL_law_705 : decode cL_law 705 = .ok (.iconst 1, 1) := zD4 whL_law_16 (p := 13) rfl
theorem dL_law_706 : decode cL_law 706 = .ok (.iadd, 1) := zD96 whL_law_16 (p := 14) rfl
theorem dL_law_707 : decode cL_law 707 = .ok (.iaload, 1) := zD46 whL_law_16 (p := 15) rfl
theorem dL_law_708 : decode cL_law 708 = .ok (.aload_n 0, 1) := zD42 whL_law_16 (p := 16) rfl
theorem dL_law_709 : decode cL_law 709 = .ok (.iload_n 3, 1) := zD29 whL_law_16 (p := 17) rfl
theorem dL_law_710 : decode cL_law 710 = .ok (.iconst 2, 1) := zD5 whL_law_16 (p := 18) rfl
theorem dL_law_711 : decode cL_law 711 = .ok (.iadd, 1) := zD96 whL_law_16 (p := 19) rfl
theorem dL_law_712 : decode cL_law 712 = .ok (.iaload, 1) := zD46 whL_law_16 (p := 20) rfl
theorem dL_law_713 : decode cL_law 713 = .ok (.aload_n 0, 1) := zD42 whL_law_16 (p := 21) rfl
theorem dL_law_714 : decode cL_law 714 = .ok (.iload_n 3, 1) := zD29 whL_law_16 (p := 22) rfl
theorem dL_law_715 : decode cL_law 715 = .ok (.iconst 3, 1) := zD6 whL_law_16 (p := 23) rfl
theorem dL_law_716 : decode cL_law 716 = .ok (.iadd, 1) := zD96 whL_law_16 (p := 24) rfl
theorem dL_law_717 : decode cL_law 717 = .ok (.iaload, 1) := zD46 whL_law_16 (p := 25) rfl
theorem dL_law_718 : decode cL_law 718 = .ok (.invokevirtual 90, 3) := zD182 whL_law_16 (p := 26) rfl rfl
theorem dL_law_721 : decode cL_law 721 = .ok (.pop2, 1) := zD88 whL_law_16 (p := 29) rfl
theorem dL_law_722 : decode cL_law 722 = .ok (.goto 660, 3) := zD167p whL_law_16 (p := 30) (v := 660) rfl rfl rfl
def wlL_law_17 : List Nat := [43, 42, 29, 4, 96, 46, 182, 0, 91, 88, 44, 42, 29, 4, 96, 46, 182, 0, 94, 88, 167, 2, 125, 43, 42, 29, 4, 96, 46, 42, 29, 5]
theorem whL_law_17 : WLy cL_law 725 wlL_law_17 := by decide +kernel
theorem dL_law_725 : decode cL_law 725 = .ok (.aload_n 1, 1) := zD43 whL_law_17 (p := 0) rfl
theorem dL_law_726 : decode cL_law 726 = .ok (.aload_n 0, 1) := zD42 whL_law_17 (p := 1) rfl
theorem dL_law_727 : decode cL_law 727 = .ok (.iload_n 3, 1) := zD29 whL_law_17 (p := 2) rfl
theorem dL_law_728 : decode cL_law 728 = .ok (.iconst 1, 1) := zD4 whL_law_17 (p := 3) rfl
theorem dL_law_729 : decode cL_law 729 = .ok (.iadd, 1) := zD96 whL_law_17 (p := 4) rfl
theorem dL_law_730 : decode cL_law 730 = .ok (.iaload, 1) := zD46 whL_law_17 (p := 5) rfl
theorem dL_law_731 : decode cL_law 731 = .ok (.invokevirtual 91, 3) := zD182 whL_law_17 (p := 6) rfl rfl
theorem dL_law_734 : decode cL_law 734 = .ok (.pop2, 1) := zD88 whL_law_17 (p := 9) rfl
theorem dL_law_735 : decode cL_law 735 = .ok (.aload_n 2, 1) := zD44 whL_law_17 (p := 10) rfl
theorem dL_law_736 : decode cL_law 736 = .ok (.aload_n 0, 1) := zD42 whL_law_17 (p := 11) rfl
theorem dL_law_737 : decode cL_law 737 = .ok (.iload_n 3, 1) := zD29 whL_law_17 (p := 12) rfl
theorem dL_law_738 : decode cL_law 738 = .ok (.iconst 1, 1) := zD4 whL_law_17 (p := 13) rfl
theorem dL_law_739 : decode cL_law 739 = .ok (.iadd, 1) := zD96 whL_law_17 (p := 14) rfl
theorem dL_law_740 : decode cL_law 740 = .ok (.iaload, 1) := zD46 whL_law_17 (p := 15) rfl
theorem dL_law_741 : decode cL_law 741 = .ok (.invokevirtual 94, 3) := zD182 whL_law_17 (p := 16) rfl rfl
theorem dL_law_744 : decode cL_law 744 = .ok (.pop2, 1) := zD88 whL_law_17 (p := 19) rfl
theorem dL_law_745 : decode cL_law 745 = .ok (.goto 637, 3) := zD167p whL_law_17 (p := 20) (v := 637) rfl rfl rfl
theorem dL_law_748 : decode cL_law 748 = .ok (.aload_n 1, 1) := zD43 whL_law_17 (p := 23) rfl
theorem dL_law_749 : decode cL_law 749 = .ok (.aload_n 0, 1) := zD42 whL_law_17 (p := 24) rfl
theorem dL_law_750 : decode cL_law 750 = .ok (.iload_n 3, 1) := zD29 whL_law_17 (p := 25) rfl
theorem dL_law_751 : decode cL_law 751 = .ok (.iconst 1, 1) := zD4 whL_law_17 (p := 26) rfl
theorem dL_law_752 : decode cL_law 752 = .ok (.iadd, 1) := zD96 whL_law_17 (p := 27) rfl
theorem dL_law_753 : decode cL_law 753 = .ok (.iaload, 1) := zD46 whL_law_17 (p := 28) rfl
theorem dL_law_754 : decode cL_law 754 = .ok (.aload_n 0, 1) := zD42 whL_law_17 (p := 29) rfl
theorem dL_law_755 : decode cL_law 755 = .ok (.iload_n 3, 1) := zD29 whL_law_17 (p := 30) rfl
theorem dL_law_756 : decode cL_law 756 = .ok (.iconst 2, 1) := zD5 whL_law_17 (p := 31) rfl
def wlL_law_18 : List Nat := [96, 46, 42, 29, 6, 96, 46, 182, 0, 95, 87, 44, 42, 29, 4, 96, 46, 42, 29, 5, 96, 46, 42, 29, 6, 96, 46, 182, 0, 98, 87, 167, 2, 82]
theorem whL_law_18 : WLy cL_law 757 wlL_law_18 := by decide +kernel
theorem dL_law_757 : decode cL_law 757 = .ok (.iadd, 1) := zD96 whL_law_18 (p := 0) rfl
theorem dL_law_758 : decode cL_law 758 = .ok (.iaload, 1) := zD46 whL_law_18 (p := 1) rfl
theorem dL_law_759 : decode cL_law 759 = .ok (.aload_n 0, 1) := zD42 whL_law_18 (p := 2) rfl
theorem dL_law_760 : decode cL_law 760 = .ok (.iload_n 3, 1) := zD29 whL_law_18 (p := 3) rfl
theorem dL_law_761 : decode cL_law 761 = .ok (.iconst 3, 1) := zD6 whL_law_18 (p := 4) rfl
theorem dL_law_762 : decode cL_law 762 = .ok (.iadd, 1) := zD96 whL_law_18 (p := 5) rfl
theorem dL_law_763 : decode cL_law 763 = .ok (.iaload, 1) := zD46 whL_law_18 (p := 6) rfl
theorem dL_law_764 : decode cL_law 764 = .ok (.invokevirtual 95, 3) := zD182 whL_law_18 (p := 7) rfl rfl
theorem dL_law_767 : decode cL_law 767 = .ok (.pop, 1) := zD87 whL_law_18 (p := 10) rfl
theorem dL_law_768 : decode cL_law 768 = .ok (.aload_n 2, 1) := zD44 whL_law_18 (p := 11) rfl
theorem dL_law_769 : decode cL_law 769 = .ok (.aload_n 0, 1) := zD42 whL_law_18 (p := 12) rfl
theorem dL_law_770 : decode cL_law 770 = .ok (.iload_n 3, 1) := zD29 whL_law_18 (p := 13) rfl
theorem dL_law_771 : decode cL_law 771 = .ok (.iconst 1, 1) := zD4 whL_law_18 (p := 14) rfl
theorem dL_law_772 : decode cL_law 772 = .ok (.iadd, 1) := zD96 whL_law_18 (p := 15) rfl
theorem dL_law_773 : decode cL_law 773 = .ok (.iaload, 1) := zD46 whL_law_18 (p := 16) rfl
theorem dL_law_774 : decode cL_law 774 = .ok (.aload_n 0, 1) := zD42 whL_law_18 (p := 17) rfl
theorem dL_law_775 : decode cL_law 775 = .ok (.iload_n 3, 1) := zD29 whL_law_18 (p := 18) rfl
theorem dL_law_776 : decode cL_law 776 = .ok (.iconst 2, 1) := zD5 whL_law_18 (p := 19) rfl
theorem dL_law_777 : decode cL_law 777 = .ok (.iadd, 1) := zD96 whL_law_18 (p := 20) rfl
theorem dL_law_778 : decode cL_law 778 = .ok (.iaload, 1) := zD46 whL_law_18 (p := 21) rfl
theorem dL_law_779 : decode cL_law 779 = .ok (.aload_n 0, 1) := zD42 whL_law_18 (p := 22) rfl
theorem dL_law_780 : decode cL_law 780 = .ok (.iload_n 3, 1) := zD29 whL_law_18 (p := 23) rfl
theorem dL_law_781 : decode cL_law 781 = .ok (.iconst 3, 1) := zD6 whL_law_18 (p := 24) rfl
theorem dL_law_782 : decode cL_law 782 = .ok (.iadd, 1) := zD96 whL_law_18 (p := 25) rfl
theorem dL_law_783 : decode cL_law 783 = .ok (.iaload, 1) := zD46 whL_law_18 (p := 26) rfl
theorem dL_law_784 : decode cL_law 784 = .ok (.invokevirtual 98, 3) := zD182 whL_law_18 (p := 27) rfl rfl
theorem dL_law_787 : decode cL_law 787 = .ok (.pop, 1) := zD87 whL_law_18 (p := 30) rfl
theorem dL_law_788 : decode cL_law 788 = .ok (.goto 594, 3) := zD167p whL_law_18 (p := 31) (v := 594) rfl rfl rfl
def wlL_law_19 : List Nat := [43, 42, 29, 4, 96, 46, 42, 29, 5, 96, 46, 182, 0, 99, 44, 42, 29, 4, 96, 46, 42, 29, 5, 96, 46, 182, 0, 102, 148, 153, 2, 50]
theorem whL_law_19 : WLy cL_law 791 wlL_law_19 := by decide +kernel
theorem dL_law_791 : decode cL_law 791 = .ok (.aload_n 1, 1) := zD43 whL_law_19 (p := 0) rfl
theorem dL_law_792 : decode cL_law 792 = .ok (.aload_n 0, 1) := zD42 whL_law_19 (p := 1) rfl
theorem dL_law_793 : decode cL_law 793 = .ok (.iload_n 3, 1) := zD29 whL_law_19 (p := 2) rfl
theorem dL_law_794 : decode cL_law 794 = .ok (.iconst 1, 1) := zD4 whL_law_19 (p := 3) rfl
theorem dL_law_795 : decode cL_law 795 = .ok (.iadd, 1) := zD96 whL_law_19 (p := 4) rfl
theorem dL_law_796 : decode cL_law 796 = .ok (.iaload, 1) := zD46 whL_law_19 (p := 5) rfl
theorem dL_law_797 : decode cL_law 797 = .ok (.aload_n 0, 1) := zD42 whL_law_19 (p := 6) rfl
theorem dL_law_798 : decode cL_law 798 = .ok (.iload_n 3, 1) := zD29 whL_law_19 (p := 7) rfl
theorem dL_law_799 : decode cL_law 799 = .ok (.iconst 2, 1) := zD5 whL_law_19 (p := 8) rfl
theorem dL_law_800 : decode cL_law 800 = .ok (.iadd, 1) := zD96 whL_law_19 (p := 9) rfl
theorem dL_law_801 : decode cL_law 801 = .ok (.iaload, 1) := zD46 whL_law_19 (p := 10) rfl
theorem dL_law_802 : decode cL_law 802 = .ok (.invokevirtual 99, 3) := zD182 whL_law_19 (p := 11) rfl rfl
theorem dL_law_805 : decode cL_law 805 = .ok (.aload_n 2, 1) := zD44 whL_law_19 (p := 14) rfl
theorem dL_law_806 : decode cL_law 806 = .ok (.aload_n 0, 1) := zD42 whL_law_19 (p := 15) rfl
theorem dL_law_807 : decode cL_law 807 = .ok (.iload_n 3, 1) := zD29 whL_law_19 (p := 16) rfl
theorem dL_law_808 : decode cL_law 808 = .ok (.iconst 1, 1) := zD4 whL_law_19 (p := 17) rfl
theorem dL_law_809 : decode cL_law 809 = .ok (.iadd, 1) := zD96 whL_law_19 (p := 18) rfl
theorem dL_law_810 : decode cL_law 810 = .ok (.iaload, 1) := zD46 whL_law_19 (p := 19) rfl
theorem dL_law_811 : decode cL_law 811 = .ok (.aload_n 0, 1) := zD42 whL_law_19 (p := 20) rfl
theorem dL_law_812 : decode cL_law 812 = .ok (.iload_n 3, 1) := zD29 whL_law_19 (p := 21) rfl
theorem dL_law_813 : decode cL_law 813 = .ok (.iconst 2, 1) := zD5 whL_law_19 (p := 22) rfl
theorem dL_law_814 : decode cL_law 814 = .ok (.iadd, 1) := zD96 whL_law_19 (p := 23) rfl
theorem dL_law_815 : decode cL_law 815 = .ok (.iaload, 1) := zD46 whL_law_19 (p := 24) rfl
theorem dL_law_816 : decode cL_law 816 = .ok (.invokevirtual 102, 3) := zD182 whL_law_19 (p := 25) rfl rfl
theorem dL_law_819 : decode cL_law 819 = .ok (.lcmp, 1) := zD148 whL_law_19 (p := 28) rfl
theorem dL_law_820 : decode cL_law 820 = .ok (.ifCond .eq 562, 3) := zD153p whL_law_19 (p := 29) (v := 562) rfl rfl rfl
def wlL_law_20 : List Nat := [3, 172, 43, 42, 29, 4, 96, 46, 42, 29, 5, 96, 46, 182, 0, 103, 88, 44, 42, 29, 4, 96, 46, 42, 29, 5, 96, 46, 182, 0, 106, 88]
theorem whL_law_20 : WLy cL_law 823 wlL_law_20 := by decide +kernel
theorem dL_law_825 : decode cL_law 825 = .ok (.aload_n 1, 1) := zD43 whL_law_20 (p := 2) rfl
theorem dL_law_826 : decode cL_law 826 = .ok (.aload_n 0, 1) := zD42 whL_law_20 (p := 3) rfl
theorem dL_law_827 : decode cL_law 827 = .ok (.iload_n 3, 1) := zD29 whL_law_20 (p := 4) rfl
theorem dL_law_828 : decode cL_law 828 = .ok (.iconst 1, 1) := zD4 whL_law_20 (p := 5) rfl
theorem dL_law_829 : decode cL_law 829 = .ok (.iadd, 1) := zD96 whL_law_20 (p := 6) rfl
theorem dL_law_830 : decode cL_law 830 = .ok (.iaload, 1) := zD46 whL_law_20 (p := 7) rfl
theorem dL_law_831 : decode cL_law 831 = .ok (.aload_n 0, 1) := zD42 whL_law_20 (p := 8) rfl
theorem dL_law_832 : decode cL_law 832 = .ok (.iload_n 3, 1) := zD29 whL_law_20 (p := 9) rfl
theorem dL_law_833 : decode cL_law 833 = .ok (.iconst 2, 1) := zD5 whL_law_20 (p := 10) rfl
theorem dL_law_834 : decode cL_law 834 = .ok (.iadd, 1) := zD96 whL_law_20 (p := 11) rfl
theorem dL_law_835 : decode cL_law 835 = .ok (.iaload, 1) := zD46 whL_law_20 (p := 12) rfl
theorem dL_law_836 : decode cL_law 836 = .ok (.invokevirtual 103, 3) := zD182 whL_law_20 (p := 13) rfl rfl
theorem dL_law_839 : decode cL_law 839 = .ok (.pop2, 1) := zD88 whL_law_20 (p := 16) rfl
theorem dL_law_840 : decode cL_law 840 = .ok (.aload_n 2, 1) := zD44 whL_law_20 (p := 17) rfl
theorem dL_law_841 : decode cL_law 841 = .ok (.aload_n 0, 1) := zD42 whL_law_20 (p := 18) rfl
theorem dL_law_842 : decode cL_law 842 = .ok (.iload_n 3, 1) := zD29 whL_law_20 (p := 19) rfl
theorem dL_law_843 : decode cL_law 843 = .ok (.iconst 1, 1) := zD4 whL_law_20 (p := 20) rfl
theorem dL_law_844 : decode cL_law 844 = .ok (.iadd, 1) := zD96 whL_law_20 (p := 21) rfl
theorem dL_law_845 : decode cL_law 845 = .ok (.iaload, 1) := zD46 whL_law_20 (p := 22) rfl
theorem dL_law_846 : decode cL_law 846 = .ok (.aload_n 0, 1) := zD42 whL_law_20 (p := 23) rfl
theorem dL_law_847 : decode cL_law 847 = .ok (.iload_n 3, 1) := zD29 whL_law_20 (p := 24) rfl
theorem dL_law_848 : decode cL_law 848 = .ok (.iconst 2, 1) := zD5 whL_law_20 (p := 25) rfl
theorem dL_law_849 : decode cL_law 849 = .ok (.iadd, 1) := zD96 whL_law_20 (p := 26) rfl
theorem dL_law_850 : decode cL_law 850 = .ok (.iaload, 1) := zD46 whL_law_20 (p := 27) rfl
theorem dL_law_851 : decode cL_law 851 = .ok (.invokevirtual 106, 3) := zD182 whL_law_20 (p := 28) rfl rfl
theorem dL_law_854 : decode cL_law 854 = .ok (.pop2, 1) := zD88 whL_law_20 (p := 31) rfl
def wlL_law_21 : List Nat := [167, 2, 15, 43, 42, 29, 4, 96, 46, 182, 0, 107, 88, 44, 42, 29, 4, 96, 46, 182, 0, 110, 88, 167, 1, 248, 43, 42, 29, 4, 96, 46]
theorem whL_law_21 : WLy cL_law 855 wlL_law_21 := by decide +kernel
theorem dL_law_855 : decode cL_law 855 = .ok (.goto 527, 3) := zD167p whL_law_21 (p := 0) (v := 527) rfl rfl rfl
theorem dL_law_858 : decode cL_law 858 = .ok (.aload_n 1, 1) := zD43 whL_law_21 (p := 3) rfl
theorem dL_law_859 : decode cL_law 859 = .ok (.aload_n 0, 1) := zD42 whL_law_21 (p := 4) rfl
theorem dL_law_860 : decode cL_law 860 = .ok (.iload_n 3, 1) := zD29 whL_law_21 (p := 5) rfl
theorem dL_law_861 : decode cL_law 861 = .ok (.iconst 1, 1) := zD4 whL_law_21 (p := 6) rfl
theorem dL_law_862 : decode cL_law 862 = .ok (.iadd, 1) := zD96 whL_law_21 (p := 7) rfl
theorem dL_law_863 : decode cL_law 863 = .ok (.iaload, 1) := zD46 whL_law_21 (p := 8) rfl
theorem dL_law_864 : decode cL_law 864 = .ok (.invokevirtual 107, 3) := zD182 whL_law_21 (p := 9) rfl rfl
theorem dL_law_867 : decode cL_law 867 = .ok (.pop2, 1) := zD88 whL_law_21 (p := 12) rfl
theorem dL_law_868 : decode cL_law 868 = .ok (.aload_n 2, 1) := zD44 whL_law_21 (p := 13) rfl
theorem dL_law_869 : decode cL_law 869 = .ok (.aload_n 0, 1) := zD42 whL_law_21 (p := 14) rfl
theorem dL_law_870 : decode cL_law 870 = .ok (.iload_n 3, 1) := zD29 whL_law_21 (p := 15) rfl
theorem dL_law_871 : decode cL_law 871 = .ok (.iconst 1, 1) := zD4 whL_law_21 (p := 16) rfl
theorem dL_law_872 : decode cL_law 872 = .ok (.iadd, 1) := zD96 whL_law_21 (p := 17) rfl
theorem dL_law_873 : decode cL_law 873 = .ok (.iaload, 1) := zD46 whL_law_21 (p := 18) rfl
theorem dL_law_874 : decode cL_law 874 = .ok (.invokevirtual 110, 3) := zD182 whL_law_21 (p := 19) rfl rfl
theorem dL_law_877 : decode cL_law 877 = .ok (.pop2, 1) := zD88 whL_law_21 (p := 22) rfl
theorem dL_law_878 : decode cL_law 878 = .ok (.goto 504, 3) := zD167p whL_law_21 (p := 23) (v := 504) rfl rfl rfl
theorem dL_law_881 : decode cL_law 881 = .ok (.aload_n 1, 1) := zD43 whL_law_21 (p := 26) rfl
theorem dL_law_882 : decode cL_law 882 = .ok (.aload_n 0, 1) := zD42 whL_law_21 (p := 27) rfl
theorem dL_law_883 : decode cL_law 883 = .ok (.iload_n 3, 1) := zD29 whL_law_21 (p := 28) rfl
theorem dL_law_884 : decode cL_law 884 = .ok (.iconst 1, 1) := zD4 whL_law_21 (p := 29) rfl
theorem dL_law_885 : decode cL_law 885 = .ok (.iadd, 1) := zD96 whL_law_21 (p := 30) rfl
theorem dL_law_886 : decode cL_law 886 = .ok (.iaload, 1) := zD46 whL_law_21 (p := 31) rfl
def wlL_law_22 : List Nat := [182, 0, 111, 88, 44, 42, 29, 4, 96, 46, 182, 0, 114, 88, 167, 1, 225, 43, 42, 29, 4, 96, 46, 42, 29, 5, 96, 46, 182, 0, 115, 87]
theorem whL_law_22 : WLy cL_law 887 wlL_law_22 := by decide +kernel
theorem dL_law_887 : decode cL_law 887 = .ok (.invokevirtual 111, 3) := zD182 whL_law_22 (p := 0) rfl rfl
theorem dL_law_890 : decode cL_law 890 = .ok (.pop2, 1) := zD88 whL_law_22 (p := 3) rfl
theorem dL_law_891 : decode cL_law 891 = .ok (.aload_n 2, 1) := zD44 whL_law_22 (p := 4) rfl
theorem dL_law_892 : decode cL_law 892 = .ok (.aload_n 0, 1) := zD42 whL_law_22 (p := 5) rfl
theorem dL_law_893 : decode cL_law 893 = .ok (.iload_n 3, 1) := zD29 whL_law_22 (p := 6) rfl
theorem dL_law_894 : decode cL_law 894 = .ok (.iconst 1, 1) := zD4 whL_law_22 (p := 7) rfl
theorem dL_law_895 : decode cL_law 895 = .ok (.iadd, 1) := zD96 whL_law_22 (p := 8) rfl
theorem dL_law_896 : decode cL_law 896 = .ok (.iaload, 1) := zD46 whL_law_22 (p := 9) rfl
theorem dL_law_897 : decode cL_law 897 = .ok (.invokevirtual 114, 3) := zD182 whL_law_22 (p := 10) rfl rfl
theorem dL_law_900 : decode cL_law 900 = .ok (.pop2, 1) := zD88 whL_law_22 (p := 13) rfl
theorem dL_law_901 : decode cL_law 901 = .ok (.goto 481, 3) := zD167p whL_law_22 (p := 14) (v := 481) rfl rfl rfl
theorem dL_law_904 : decode cL_law 904 = .ok (.aload_n 1, 1) := zD43 whL_law_22 (p := 17) rfl
theorem dL_law_905 : decode cL_law 905 = .ok (.aload_n 0, 1) := zD42 whL_law_22 (p := 18) rfl
theorem dL_law_906 : decode cL_law 906 = .ok (.iload_n 3, 1) := zD29 whL_law_22 (p := 19) rfl
theorem dL_law_907 : decode cL_law 907 = .ok (.iconst 1, 1) := zD4 whL_law_22 (p := 20) rfl
theorem dL_law_908 : decode cL_law 908 = .ok (.iadd, 1) := zD96 whL_law_22 (p := 21) rfl
theorem dL_law_909 : decode cL_law 909 = .ok (.iaload, 1) := zD46 whL_law_22 (p := 22) rfl
theorem dL_law_910 : decode cL_law 910 = .ok (.aload_n 0, 1) := zD42 whL_law_22 (p := 23) rfl
theorem dL_law_911 : decode cL_law 911 = .ok (.iload_n 3, 1) := zD29 whL_law_22 (p := 24) rfl
theorem dL_law_912 : decode cL_law 912 = .ok (.iconst 2, 1) := zD5 whL_law_22 (p := 25) rfl
theorem dL_law_913 : decode cL_law 913 = .ok (.iadd, 1) := zD96 whL_law_22 (p := 26) rfl
theorem dL_law_914 : decode cL_law 914 = .ok (.iaload, 1) := zD46 whL_law_22 (p := 27) rfl
theorem dL_law_915 : decode cL_law 915 = .ok (.invokevirtual 115, 3) := zD182 whL_law_22 (p := 28) rfl rfl
theorem dL_law_918 : decode cL_law 918 = .ok (.pop, 1) := zD87 whL_law_22 (p := 31) rfl
def wlL_law_23 : List Nat := [44, 42, 29, 4, 96, 46, 42, 29, 5, 96, 46, 182, 0, 118, 87, 167, 1, 192, 43, 42, 29, 4, 96, 46, 42, 29, 5, 96, 46, 42, 29, 6]
theorem whL_law_23 : WLy cL_law 919 wlL_law_23 := by decide +kernel
theorem dL_law_919 : decode cL_law 919 = .ok (.aload_n 2, 1) := zD44 whL_law_23 (p := 0) rfl
theorem dL_law_920 : decode cL_law 920 = .ok (.aload_n 0, 1) := zD42 whL_law_23 (p := 1) rfl
theorem dL_law_921 : decode cL_law 921 = .ok (.iload_n 3, 1) := zD29 whL_law_23 (p := 2) rfl
theorem dL_law_922 : decode cL_law 922 = .ok (.iconst 1, 1) := zD4 whL_law_23 (p := 3) rfl
theorem dL_law_923 : decode cL_law 923 = .ok (.iadd, 1) := zD96 whL_law_23 (p := 4) rfl
theorem dL_law_924 : decode cL_law 924 = .ok (.iaload, 1) := zD46 whL_law_23 (p := 5) rfl
theorem dL_law_925 : decode cL_law 925 = .ok (.aload_n 0, 1) := zD42 whL_law_23 (p := 6) rfl
theorem dL_law_926 : decode cL_law 926 = .ok (.iload_n 3, 1) := zD29 whL_law_23 (p := 7) rfl
theorem dL_law_927 : decode cL_law 927 = .ok (.iconst 2, 1) := zD5 whL_law_23 (p := 8) rfl
theorem dL_law_928 : decode cL_law 928 = .ok (.iadd, 1) := zD96 whL_law_23 (p := 9) rfl
theorem dL_law_929 : decode cL_law 929 = .ok (.iaload, 1) := zD46 whL_law_23 (p := 10) rfl
theorem dL_law_930 : decode cL_law 930 = .ok (.invokevirtual 118, 3) := zD182 whL_law_23 (p := 11) rfl rfl
theorem dL_law_933 : decode cL_law 933 = .ok (.pop, 1) := zD87 whL_law_23 (p := 14) rfl
theorem dL_law_934 : decode cL_law 934 = .ok (.goto 448, 3) := zD167p whL_law_23 (p := 15) (v := 448) rfl rfl rfl
theorem dL_law_937 : decode cL_law 937 = .ok (.aload_n 1, 1) := zD43 whL_law_23 (p := 18) rfl
theorem dL_law_938 : decode cL_law 938 = .ok (.aload_n 0, 1) := zD42 whL_law_23 (p := 19) rfl
theorem dL_law_939 : decode cL_law 939 = .ok (.iload_n 3, 1) := zD29 whL_law_23 (p := 20) rfl
theorem dL_law_940 : decode cL_law 940 = .ok (.iconst 1, 1) := zD4 whL_law_23 (p := 21) rfl
theorem dL_law_941 : decode cL_law 941 = .ok (.iadd, 1) := zD96 whL_law_23 (p := 22) rfl
theorem dL_law_942 : decode cL_law 942 = .ok (.iaload, 1) := zD46 whL_law_23 (p := 23) rfl
theorem dL_law_943 : decode cL_law 943 = .ok (.aload_n 0, 1) := zD42 whL_law_23 (p := 24) rfl
theorem dL_law_944 : decode cL_law 944 = .ok (.iload_n 3, 1) := zD29 whL_law_23 (p := 25) rfl
theorem dL_law_945 : decode cL_law 945 = .ok (.iconst 2, 1) := zD5 whL_law_23 (p := 26) rfl
theorem dL_law_946 : decode cL_law 946 = .ok (.iadd, 1) := zD96 whL_law_23 (p := 27) rfl
theorem dL_law_947 : decode cL_law 947 = .ok (.iaload, 1) := zD46 whL_law_23 (p := 28) rfl
theorem dL_law_948 : decode cL_law 948 = .ok (.aload_n 0, 1) := zD42 whL_law_23 (p := 29) rfl
theorem dL_law_949 : decode cL_law 949 = .ok (.iload_n 3, 1) := zD29 whL_law_23 (p := 30) rfl
theorem dL_law_950 : decode cL_law 950 = .ok (.iconst 3, 1) := zD6 whL_law_23 (p := 31) rfl
def wlL_law_24 : List Nat := [96, 46, 42, 29, 7, 96, 46, 182, 0, 119, 87, 44, 42, 29, 4, 96, 46, 42, 29, 5, 96, 46, 42, 29, 6, 96, 46, 42, 29, 7, 96, 46]
theorem whL_law_24 : WLy cL_law 951 wlL_law_24 := by decide +kernel
theorem dL_law_951 : decode cL_law 951 = .ok (.iadd, 1) := zD96 whL_law_24 (p := 0) rfl
theorem dL_law_952 : decode cL_law 952 = .ok (.iaload, 1) := zD46 whL_law_24 (p := 1) rfl
theorem dL_law_953 : decode cL_law 953 = .ok (.aload_n 0, 1) := zD42 whL_law_24 (p := 2) rfl
theorem dL_law_954 : decode cL_law 954 = .ok (.iload_n 3, 1) := zD29 whL_law_24 (p := 3) rfl
theorem dL_law_955 : decode cL_law 955 = .ok (.iconst 4, 1) := zD7 whL_law_24 (p := 4) rfl
theorem dL_law_956 : decode cL_law 956 = .ok (.iadd, 1) := zD96 whL_law_24 (p := 5) rfl
theorem dL_law_957 : decode cL_law 957 = .ok (.iaload, 1) := zD46 whL_law_24 (p := 6) rfl
theorem dL_law_958 : decode cL_law 958 = .ok (.invokevirtual 119, 3) := zD182 whL_law_24 (p := 7) rfl rfl
theorem dL_law_961 : decode cL_law 961 = .ok (.pop, 1) := zD87 whL_law_24 (p := 10) rfl
theorem dL_law_962 : decode cL_law 962 = .ok (.aload_n 2, 1) := zD44 whL_law_24 (p := 11) rfl
theorem dL_law_963 : decode cL_law 963 = .ok (.aload_n 0, 1) := zD42 whL_law_24 (p := 12) rfl
theorem dL_law_964 : decode cL_law 964 = .ok (.iload_n 3, 1) := zD29 whL_law_24 (p := 13) rfl
theorem dL_law_965 : decode cL_law 965 = .ok (.iconst 1, 1) := zD4 whL_law_24 (p := 14) rfl
theorem dL_law_966 : decode cL_law 966 = .ok (.iadd, 1) := zD96 whL_law_24 (p := 15) rfl
theorem dL_law_967 : decode cL_law 967 = .ok (.iaload, 1) := zD46 whL_law_24 (p := 16) rfl
theorem dL_law_968 : decode cL_law 968 = .ok (.aload_n 0, 1) := zD42 whL_law_24 (p := 17) rfl
theorem dL_law_969 : decode cL_law 969 = .ok (.iload_n 3, 1) := zD29 whL_law_24 (p := 18) rfl
theorem dL_law_970 : decode cL_law 970 = .ok (.iconst 2, 1) := zD5 whL_law_24 (p := 19) rfl
theorem dL_law_971 : decode cL_law 971 = .ok (.iadd, 1) := zD96 whL_law_24 (p := 20) rfl
theorem dL_law_972 : decode cL_law 972 = .ok (.iaload, 1) := zD46 whL_law_24 (p := 21) rfl
theorem dL_law_973 : decode cL_law 973 = .ok (.aload_n 0, 1) := zD42 whL_law_24 (p := 22) rfl
theorem dL_law_974 : decode cL_law 974 = .ok (.iload_n 3, 1) := zD29 whL_law_24 (p := 23) rfl
theorem dL_law_975 : decode cL_law 975 = .ok (.iconst 3, 1) := zD6 whL_law_24 (p := 24) rfl
theorem dL_law_976 : decode cL_law 976 = .ok (.iadd, 1) := zD96 whL_law_24 (p := 25) rfl
theorem dL_law_977 : decode cL_law 977 = .ok (.iaload, 1) := zD46 whL_law_24 (p := 26) rfl
theorem dL_law_978 : decode cL_law 978 = .ok (.aload_n 0, 1) := zD42 whL_law_24 (p := 27) rfl
theorem dL_law_979 : decode cL_law 979 = .ok (.iload_n 3, 1) := zD29 whL_law_24 (p := 28) rfl
theorem dL_law_980 : decode cL_law 980 = .ok (.iconst 4, 1) := zD7 whL_law_24 (p := 29) rfl
theorem dL_law_981 : decode cL_law 981 = .ok (.iadd, 1) := zD96 whL_law_24 (p := 30) rfl
theorem dL_law_982 : decode cL_law 982 = .ok (.iaload, 1) := zD46 whL_law_24 (p := 31) rfl
def wlL_law_25 : List Nat := [182, 0, 123, 87, 167, 1, 139, 43, 42, 29, 4, 96, 46, 182, 0, 124, 87, 44, 42, 29, 4, 96, 46, 182, 0, 127, 87, 167, 1, 116, 43, 42]
theorem whL_law_25 : WLy cL_law 983 wlL_law_25 := by decide +kernel
theorem dL_law_983 : decode cL_law 983 = .ok (.invokevirtual 123, 3) := zD182 whL_law_25 (p := 0) rfl rfl
theorem dL_law_986 : decode cL_law 986 = .ok (.pop, 1) := zD87 whL_law_25 (p := 3) rfl
theorem dL_law_987 : decode cL_law 987 = .ok (.goto 395, 3) := zD167p whL_law_25 (p := 4) (v := 395) rfl rfl rfl
theorem dL_law_990 : decode cL_law 990 = .ok (.aload_n 1, 1) := zD43 whL_law_25 (p := 7) rfl
theorem dL_law_991 : decode cL_law 991 = .ok (.aload_n 0, 1) := zD42 whL_law_25 (p := 8) rfl
theorem dL_law_992 : decode cL_law 992 = .ok (.iload_n 3, 1) := zD29 whL_law_25 (p := 9) rfl
theorem dL_law_993 : decode cL_law 993 = .ok (.iconst 1, 1) := zD4 whL_law_25 (p := 10) rfl
theorem dL_law_994 : decode cL_law 994 = .ok (.iadd, 1) := zD96 whL_law_25 (p := 11) rfl
theorem dL_law_995 : decode cL_law 995 = .ok (.iaload, 1) := zD46 whL_law_25 (p := 12) rfl
theorem dL_law_996 : decode cL_law 996 = .ok (.invokevirtual 124, 3) := zD182 whL_law_25 (p := 13) rfl rfl
theorem dL_law_999 : decode cL_law 999 = .ok (.pop, 1) := zD87 whL_law_25 (p := 16) rfl
theorem dL_law_1000 : decode cL_law 1000 = .ok (.aload_n 2, 1) := zD44 whL_law_25 (p := 17) rfl
theorem dL_law_1001 : decode cL_law 1001 = .ok (.aload_n 0, 1) := zD42 whL_law_25 (p := 18) rfl
theorem dL_law_1002 : decode cL_law 1002 = .ok (.iload_n 3, 1) := zD29 whL_law_25 (p := 19) rfl
theorem dL_law_1003 : decode cL_law 1003 = .ok (.iconst 1, 1) := zD4 whL_law_25 (p := 20) rfl
theorem dL_law_1004 : decode cL_law 1004 = .ok (.iadd, 1) := zD96 whL_law_25 (p := 21) rfl
theorem dL_law_1005 : decode cL_law 1005 = .ok (.iaload, 1) := zD46 whL_law_25 (p := 22) rfl
theorem dL_law_1006 : decode cL_law 1006 = .ok (.invokevirtual 127, 3) := zD182 whL_law_25 (p := 23) rfl rfl
theorem dL_law_1009 : decode cL_law 1009 = .ok (.pop, 1) := zD87 whL_law_25 (p := 26) rfl
theorem dL_law_1010 : decode cL_law 1010 = .ok (.goto 372, 3) := zD167p whL_law_25 (p := 27) (v := 372) rfl rfl rfl
theorem dL_law_1013 : decode cL_law 1013 = .ok (.aload_n 1, 1) := zD43 whL_law_25 (p := 30) rfl
theorem dL_law_1014 : decode cL_law 1014 = .ok (.aload_n 0, 1) := zD42 whL_law_25 (p := 31) rfl
def wlL_law_26 : List Nat := [29, 4, 96, 46, 42, 29, 5, 96, 46, 182, 0, 128, 87, 44, 42, 29, 4, 96, 46, 42, 29, 5, 96, 46, 182, 0, 131, 87, 167, 1, 83, 43]
theorem whL_law_26 : WLy cL_law 1015 wlL_law_26 := by decide +kernel
theorem dL_law_1015 : decode cL_law 1015 = .ok (.iload_n 3, 1) := zD29 whL_law_26 (p := 0) rfl
theorem dL_law_1016 : decode cL_law 1016 = .ok (.iconst 1, 1) := zD4 whL_law_26 (p := 1) rfl
theorem dL_law_1017 : decode cL_law 1017 = .ok (.iadd, 1) := zD96 whL_law_26 (p := 2) rfl
theorem dL_law_1018 : decode cL_law 1018 = .ok (.iaload, 1) := zD46 whL_law_26 (p := 3) rfl
theorem dL_law_1019 : decode cL_law 1019 = .ok (.aload_n 0, 1) := zD42 whL_law_26 (p := 4) rfl
theorem dL_law_1020 : decode cL_law 1020 = .ok (.iload_n 3, 1) := zD29 whL_law_26 (p := 5) rfl
theorem dL_law_1021 : decode cL_law 1021 = .ok (.iconst 2, 1) := zD5 whL_law_26 (p := 6) rfl
theorem dL_law_1022 : decode cL_law 1022 = .ok (.iadd, 1) := zD96 whL_law_26 (p := 7) rfl
theorem dL_law_1023 : decode cL_law 1023 = .ok (.iaload, 1) := zD46 whL_law_26 (p := 8) rfl
theorem dL_law_1024 : decode cL_law 1024 = .ok (.invokevirtual 128, 3) := zD182 whL_law_26 (p := 9) rfl rfl
theorem dL_law_1027 : decode cL_law 1027 = .ok (.pop, 1) := zD87 whL_law_26 (p := 12) rfl
theorem dL_law_1028 : decode cL_law 1028 = .ok (.aload_n 2, 1) := zD44 whL_law_26 (p := 13) rfl
theorem dL_law_1029 : decode cL_law 1029 = .ok (.aload_n 0, 1) := zD42 whL_law_26 (p := 14) rfl
theorem dL_law_1030 : decode cL_law 1030 = .ok (.iload_n 3, 1) := zD29 whL_law_26 (p := 15) rfl
theorem dL_law_1031 : decode cL_law 1031 = .ok (.iconst 1, 1) := zD4 whL_law_26 (p := 16) rfl
theorem dL_law_1032 : decode cL_law 1032 = .ok (.iadd, 1) := zD96 whL_law_26 (p := 17) rfl
theorem dL_law_1033 : decode cL_law 1033 = .ok (.iaload, 1) := zD46 whL_law_26 (p := 18) rfl
theorem dL_law_1034 : decode cL_law 1034 = .ok (.aload_n 0, 1) := zD42 whL_law_26 (p := 19) rfl
theorem dL_law_1035 : decode cL_law 1035 = .ok (.iload_n 3, 1) := zD29 whL_law_26 (p := 20) rfl
theorem dL_law_1036 : decode cL_law 1036 = .ok (.iconst 2, 1) := zD5 whL_law_26 (p := 21) rfl
theorem dL_law_1037 : decode cL_law 1037 = .ok (.iadd, 1) := zD96 whL_law_26 (p := 22) rfl
theorem dL_law_1038 : decode cL_law 1038 = .ok (.iaload, 1) := zD46 whL_law_26 (p := 23) rfl
theorem dL_law_1039 : decode cL_law 1039 = .ok (.invokevirtual 131, 3) := zD182 whL_law_26 (p := 24) rfl rfl
theorem dL_law_1042 : decode cL_law 1042 = .ok (.pop, 1) := zD87 whL_law_26 (p := 27) rfl
theorem dL_law_1043 : decode cL_law 1043 = .ok (.goto 339, 3) := zD167p whL_law_26 (p := 28) (v := 339) rfl rfl rfl
theorem dL_law_1046 : decode cL_law 1046 = .ok (.aload_n 1, 1) := zD43 whL_law_26 (p := 31) rfl
def wlL_law_27 : List Nat := [42, 29, 4, 96, 46, 42, 29, 5, 96, 46, 182, 0, 132, 87, 44, 42, 29, 4, 96, 46, 42, 29, 5, 96, 46, 182, 0, 135, 87, 167, 1, 50]
theorem whL_law_27 : WLy cL_law 1047 wlL_law_27 := by decide +kernel
theorem dL_law_1047 : decode cL_law 1047 = .ok (.aload_n 0, 1) := zD42 whL_law_27 (p := 0) rfl
theorem dL_law_1048 : decode cL_law 1048 = .ok (.iload_n 3, 1) := zD29 whL_law_27 (p := 1) rfl
theorem dL_law_1049 : decode cL_law 1049 = .ok (.iconst 1, 1) := zD4 whL_law_27 (p := 2) rfl
theorem dL_law_1050 : decode cL_law 1050 = .ok (.iadd, 1) := zD96 whL_law_27 (p := 3) rfl
theorem dL_law_1051 : decode cL_law 1051 = .ok (.iaload, 1) := zD46 whL_law_27 (p := 4) rfl
theorem dL_law_1052 : decode cL_law 1052 = .ok (.aload_n 0, 1) := zD42 whL_law_27 (p := 5) rfl
theorem dL_law_1053 : decode cL_law 1053 = .ok (.iload_n 3, 1) := zD29 whL_law_27 (p := 6) rfl
theorem dL_law_1054 : decode cL_law 1054 = .ok (.iconst 2, 1) := zD5 whL_law_27 (p := 7) rfl
theorem dL_law_1055 : decode cL_law 1055 = .ok (.iadd, 1) := zD96 whL_law_27 (p := 8) rfl
theorem dL_law_1056 : decode cL_law 1056 = .ok (.iaload, 1) := zD46 whL_law_27 (p := 9) rfl
theorem dL_law_1057 : decode cL_law 1057 = .ok (.invokevirtual 132, 3) := zD182 whL_law_27 (p := 10) rfl rfl
theorem dL_law_1060 : decode cL_law 1060 = .ok (.pop, 1) := zD87 whL_law_27 (p := 13) rfl
theorem dL_law_1061 : decode cL_law 1061 = .ok (.aload_n 2, 1) := zD44 whL_law_27 (p := 14) rfl
theorem dL_law_1062 : decode cL_law 1062 = .ok (.aload_n 0, 1) := zD42 whL_law_27 (p := 15) rfl
theorem dL_law_1063 : decode cL_law 1063 = .ok (.iload_n 3, 1) := zD29 whL_law_27 (p := 16) rfl
theorem dL_law_1064 : decode cL_law 1064 = .ok (.iconst 1, 1) := zD4 whL_law_27 (p := 17) rfl
theorem dL_law_1065 : decode cL_law 1065 = .ok (.iadd, 1) := zD96 whL_law_27 (p := 18) rfl
theorem dL_law_1066 : decode cL_law 1066 = .ok (.iaload, 1) := zD46 whL_law_27 (p := 19) rfl
theorem dL_law_1067 : decode cL_law 1067 = .ok (.aload_n 0, 1) := zD42 whL_law_27 (p := 20) rfl
theorem dL_law_1068 : decode cL_law 1068 = .ok (.iload_n 3, 1) := zD29 whL_law_27 (p := 21) rfl
theorem dL_law_1069 : decode cL_law 1069 = .ok (.iconst 2, 1) := zD5 whL_law_27 (p := 22) rfl
theorem dL_law_1070 : decode cL_law 1070 = .ok (.iadd, 1) := zD96 whL_law_27 (p := 23) rfl
theorem dL_law_1071 : decode cL_law 1071 = .ok (.iaload, 1) := zD46 whL_law_27 (p := 24) rfl
theorem dL_law_1072 : decode cL_law 1072 = .ok (.invokevirtual 135, 3) := zD182 whL_law_27 (p := 25) rfl rfl
theorem dL_law_1075 : decode cL_law 1075 = .ok (.pop, 1) := zD87 whL_law_27 (p := 28) rfl
theorem dL_law_1076 : decode cL_law 1076 = .ok (.goto 306, 3) := zD167p whL_law_27 (p := 29) (v := 306) rfl rfl rfl
def wlL_law_28 : List Nat := [43, 42, 29, 4, 96, 46, 182, 0, 136, 87, 44, 42, 29, 4, 96, 46, 182, 0, 139, 87, 167, 1, 27, 43, 182, 0, 140, 87, 44, 182, 0, 143]
theorem whL_law_28 : WLy cL_law 1079 wlL_law_28 := by decide +kernel
theorem dL_law_1079 : decode cL_law 1079 = .ok (.aload_n 1, 1) := zD43 whL_law_28 (p := 0) rfl
theorem dL_law_1080 : decode cL_law 1080 = .ok (.aload_n 0, 1) := zD42 whL_law_28 (p := 1) rfl
theorem dL_law_1081 : decode cL_law 1081 = .ok (.iload_n 3, 1) := zD29 whL_law_28 (p := 2) rfl
theorem dL_law_1082 : decode cL_law 1082 = .ok (.iconst 1, 1) := zD4 whL_law_28 (p := 3) rfl
theorem dL_law_1083 : decode cL_law 1083 = .ok (.iadd, 1) := zD96 whL_law_28 (p := 4) rfl
theorem dL_law_1084 : decode cL_law 1084 = .ok (.iaload, 1) := zD46 whL_law_28 (p := 5) rfl
theorem dL_law_1085 : decode cL_law 1085 = .ok (.invokevirtual 136, 3) := zD182 whL_law_28 (p := 6) rfl rfl
theorem dL_law_1088 : decode cL_law 1088 = .ok (.pop, 1) := zD87 whL_law_28 (p := 9) rfl
theorem dL_law_1089 : decode cL_law 1089 = .ok (.aload_n 2, 1) := zD44 whL_law_28 (p := 10) rfl
theorem dL_law_1090 : decode cL_law 1090 = .ok (.aload_n 0, 1) := zD42 whL_law_28 (p := 11) rfl
theorem dL_law_1091 : decode cL_law 1091 = .ok (.iload_n 3, 1) := zD29 whL_law_28 (p := 12) rfl
theorem dL_law_1092 : decode cL_law 1092 = .ok (.iconst 1, 1) := zD4 whL_law_28 (p := 13) rfl
theorem dL_law_1093 : decode cL_law 1093 = .ok (.iadd, 1) := zD96 whL_law_28 (p := 14) rfl
theorem dL_law_1094 : decode cL_law 1094 = .ok (.iaload, 1) := zD46 whL_law_28 (p := 15) rfl
theorem dL_law_1095 : decode cL_law 1095 = .ok (.invokevirtual 139, 3) := zD182 whL_law_28 (p := 16) rfl rfl
theorem dL_law_1098 : decode cL_law 1098 = .ok (.pop, 1) := zD87 whL_law_28 (p := 19) rfl
theorem dL_law_1099 : decode cL_law 1099 = .ok (.goto 283, 3) := zD167p whL_law_28 (p := 20) (v := 283) rfl rfl rfl
theorem dL_law_1102 : decode cL_law 1102 = .ok (.aload_n 1, 1) := zD43 whL_law_28 (p := 23) rfl
theorem dL_law_1103 : decode cL_law 1103 = .ok (.invokevirtual 140, 3) := zD182 whL_law_28 (p := 24) rfl rfl
theorem dL_law_1106 : decode cL_law 1106 = .ok (.pop, 1) := zD87 whL_law_28 (p := 27) rfl
theorem dL_law_1107 : decode cL_law 1107 = .ok (.aload_n 2, 1) := zD44 whL_law_28 (p := 28) rfl
theorem dL_law_1108 : decode cL_law 1108 = .ok (.invokevirtual 143, 3) := zD182 whL_law_28 (p := 29) rfl rfl
def wlL_law_29 : List Nat := [87, 167, 1, 14, 43, 42, 29, 4, 96, 46, 182, 0, 144, 87, 44, 42, 29, 4, 96, 46, 182, 0, 147, 87, 167, 0, 247, 43, 42, 29, 4, 96]
theorem whL_law_29 : WLy cL_law 1111 wlL_law_29 := by decide +kernel
theorem dL_law_1111 : decode cL_law 1111 = .ok (.pop, 1) := zD87 whL_law_29 (p := 0) rfl
theorem dL_law_1112 : decode cL_law 1112 = .ok (.goto 270, 3) := zD167p whL_law_29 (p := 1) (v := 270) rfl rfl rfl
theorem dL_law_1115 : decode cL_law 1115 = .ok (.aload_n 1, 1) := zD43 whL_law_29 (p := 4) rfl
theorem dL_law_1116 : decode cL_law 1116 = .ok (.aload_n 0, 1) := zD42 whL_law_29 (p := 5) rfl
theorem dL_law_1117 : decode cL_law 1117 = .ok (.iload_n 3, 1) := zD29 whL_law_29 (p := 6) rfl
theorem dL_law_1118 : decode cL_law 1118 = .ok (.iconst 1, 1) := zD4 whL_law_29 (p := 7) rfl
theorem dL_law_1119 : decode cL_law 1119 = .ok (.iadd, 1) := zD96 whL_law_29 (p := 8) rfl
theorem dL_law_1120 : decode cL_law 1120 = .ok (.iaload, 1) := zD46 whL_law_29 (p := 9) rfl
theorem dL_law_1121 : decode cL_law 1121 = .ok (.invokevirtual 144, 3) := zD182 whL_law_29 (p := 10) rfl rfl
theorem dL_law_1124 : decode cL_law 1124 = .ok (.pop, 1) := zD87 whL_law_29 (p := 13) rfl
theorem dL_law_1125 : decode cL_law 1125 = .ok (.aload_n 2, 1) := zD44 whL_law_29 (p := 14) rfl
theorem dL_law_1126 : decode cL_law 1126 = .ok (.aload_n 0, 1) := zD42 whL_law_29 (p := 15) rfl
theorem dL_law_1127 : decode cL_law 1127 = .ok (.iload_n 3, 1) := zD29 whL_law_29 (p := 16) rfl
theorem dL_law_1128 : decode cL_law 1128 = .ok (.iconst 1, 1) := zD4 whL_law_29 (p := 17) rfl
theorem dL_law_1129 : decode cL_law 1129 = .ok (.iadd, 1) := zD96 whL_law_29 (p := 18) rfl
theorem dL_law_1130 : decode cL_law 1130 = .ok (.iaload, 1) := zD46 whL_law_29 (p := 19) rfl
theorem dL_law_1131 : decode cL_law 1131 = .ok (.invokevirtual 147, 3) := zD182 whL_law_29 (p := 20) rfl rfl
theorem dL_law_1134 : decode cL_law 1134 = .ok (.pop, 1) := zD87 whL_law_29 (p := 23) rfl
theorem dL_law_1135 : decode cL_law 1135 = .ok (.goto 247, 3) := zD167p whL_law_29 (p := 24) (v := 247) rfl rfl rfl
theorem dL_law_1138 : decode cL_law 1138 = .ok (.aload_n 1, 1) := zD43 whL_law_29 (p := 27) rfl
theorem dL_law_1139 : decode cL_law 1139 = .ok (.aload_n 0, 1) := zD42 whL_law_29 (p := 28) rfl
theorem dL_law_1140 : decode cL_law 1140 = .ok (.iload_n 3, 1) := zD29 whL_law_29 (p := 29) rfl
theorem dL_law_1141 : decode cL_law 1141 = .ok (.iconst 1, 1) := zD4 whL_law_29 (p := 30) rfl
theorem dL_law_1142 : decode cL_law 1142 = .ok (.iadd, 1) := zD96 whL_law_29 (p := 31) rfl
def wlL_law_30 : List Nat := [46, 182, 0, 148, 87, 44, 42, 29, 4, 96, 46, 182, 0, 151, 87, 167, 0, 224, 43, 42, 29, 4, 96, 46, 182, 0, 152, 87, 44, 42, 29, 4]
theorem whL_law_30 : WLy cL_law 1143 wlL_law_30 := by decide +kernel
theorem dL_law_1143 : decode cL_law 1143 = .ok (.iaload, 1) := zD46 whL_law_30 (p := 0) rfl
theorem dL_law_1144 : decode cL_law 1144 = .ok (.invokevirtual 148, 3) := zD182 whL_law_30 (p := 1) rfl rfl
theorem dL_law_1147 : decode cL_law 1147 = .ok (.pop, 1) := zD87 whL_law_30 (p := 4) rfl
theorem dL_law_1148 : decode cL_law 1148 = .ok (.aload_n 2, 1) := zD44 whL_law_30 (p := 5) rfl
theorem dL_law_1149 : decode cL_law 1149 = .ok (.aload_n 0, 1) := zD42 whL_law_30 (p := 6) rfl
theorem dL_law_1150 : decode cL_law 1150 = .ok (.iload_n 3, 1) := zD29 whL_law_30 (p := 7) rfl
theorem dL_law_1151 : decode cL_law 1151 = .ok (.iconst 1, 1) := zD4 whL_law_30 (p := 8) rfl
theorem dL_law_1152 : decode cL_law 1152 = .ok (.iadd, 1) := zD96 whL_law_30 (p := 9) rfl
theorem dL_law_1153 : decode cL_law 1153 = .ok (.iaload, 1) := zD46 whL_law_30 (p := 10) rfl
theorem dL_law_1154 : decode cL_law 1154 = .ok (.invokevirtual 151, 3) := zD182 whL_law_30 (p := 11) rfl rfl
theorem dL_law_1157 : decode cL_law 1157 = .ok (.pop, 1) := zD87 whL_law_30 (p := 14) rfl
theorem dL_law_1158 : decode cL_law 1158 = .ok (.goto 224, 3) := zD167p whL_law_30 (p := 15) (v := 224) rfl rfl rfl
theorem dL_law_1161 : decode cL_law 1161 = .ok (.aload_n 1, 1) := zD43 whL_law_30 (p := 18) rfl
theorem dL_law_1162 : decode cL_law 1162 = .ok (.aload_n 0, 1) := zD42 whL_law_30 (p := 19) rfl
theorem dL_law_1163 : decode cL_law 1163 = .ok (.iload_n 3, 1) := zD29 whL_law_30 (p := 20) rfl
theorem dL_law_1164 : decode cL_law 1164 = .ok (.iconst 1, 1) := zD4 whL_law_30 (p := 21) rfl
theorem dL_law_1165 : decode cL_law 1165 = .ok (.iadd, 1) := zD96 whL_law_30 (p := 22) rfl
theorem dL_law_1166 : decode cL_law 1166 = .ok (.iaload, 1) := zD46 whL_law_30 (p := 23) rfl
theorem dL_law_1167 : decode cL_law 1167 = .ok (.invokevirtual 152, 3) := zD182 whL_law_30 (p := 24) rfl rfl
theorem dL_law_1170 : decode cL_law 1170 = .ok (.pop, 1) := zD87 whL_law_30 (p := 27) rfl
theorem dL_law_1171 : decode cL_law 1171 = .ok (.aload_n 2, 1) := zD44 whL_law_30 (p := 28) rfl
theorem dL_law_1172 : decode cL_law 1172 = .ok (.aload_n 0, 1) := zD42 whL_law_30 (p := 29) rfl
theorem dL_law_1173 : decode cL_law 1173 = .ok (.iload_n 3, 1) := zD29 whL_law_30 (p := 30) rfl
theorem dL_law_1174 : decode cL_law 1174 = .ok (.iconst 1, 1) := zD4 whL_law_30 (p := 31) rfl
def wlL_law_31 : List Nat := [96, 46, 182, 0, 155, 87, 167, 0, 201, 43, 42, 29, 4, 96, 46, 182, 0, 156, 87, 44, 42, 29, 4, 96, 46, 182, 0, 159, 87, 167, 0, 178]
theorem whL_law_31 : WLy cL_law 1175 wlL_law_31 := by decide +kernel
theorem dL_law_1175 : decode cL_law 1175 = .ok (.iadd, 1) := zD96 whL_law_31 (p := 0) rfl
theorem dL_law_1176 : decode cL_law 1176 = .ok (.iaload, 1) := zD46 whL_law_31 (p := 1) rfl
theorem dL_law_1177 : decode cL_law 1177 = .ok (.invokevirtual 155, 3) := zD182 whL_law_31 (p := 2) rfl rfl
theorem dL_law_1180 : decode cL_law 1180 = .ok (.pop, 1) := zD87 whL_law_31 (p := 5) rfl
theorem dL_law_1181 : decode cL_law 1181 = .ok (.goto 201, 3) := zD167p whL_law_31 (p := 6) (v := 201) rfl rfl rfl
theorem dL_law_1184 : decode cL_law 1184 = .ok (.aload_n 1, 1) := zD43 whL_law_31 (p := 9) rfl
theorem dL_law_1185 : decode cL_law 1185 = .ok (.aload_n 0, 1) := zD42 whL_law_31 (p := 10) rfl
theorem dL_law_1186 : decode cL_law 1186 = .ok (.iload_n 3, 1) := zD29 whL_law_31 (p := 11) rfl
theorem dL_law_1187 : decode cL_law 1187 = .ok (.iconst 1, 1) := zD4 whL_law_31 (p := 12) rfl
theorem dL_law_1188 : decode cL_law 1188 = .ok (.iadd, 1) := zD96 whL_law_31 (p := 13) rfl
theorem dL_law_1189 : decode cL_law 1189 = .ok (.iaload, 1) := zD46 whL_law_31 (p := 14) rfl
theorem dL_law_1190 : decode cL_law 1190 = .ok (.invokevirtual 156, 3) := zD182 whL_law_31 (p := 15) rfl rfl
theorem dL_law_1193 : decode cL_law 1193 = .ok (.pop, 1) := zD87 whL_law_31 (p := 18) rfl
theorem dL_law_1194 : decode cL_law 1194 = .ok (.aload_n 2, 1) := zD44 whL_law_31 (p := 19) rfl
theorem dL_law_1195 : decode cL_law 1195 = .ok (.aload_n 0, 1) := zD42 whL_law_31 (p := 20) rfl
theorem dL_law_1196 : decode cL_law 1196 = .ok (.iload_n 3, 1) := zD29 whL_law_31 (p := 21) rfl
theorem dL_law_1197 : decode cL_law 1197 = .ok (.iconst 1, 1) := zD4 whL_law_31 (p := 22) rfl
theorem dL_law_1198 : decode cL_law 1198 = .ok (.iadd, 1) := zD96 whL_law_31 (p := 23) rfl
theorem dL_law_1199 : decode cL_law 1199 = .ok (.iaload, 1) := zD46 whL_law_31 (p := 24) rfl
theorem dL_law_1200 : decode cL_law 1200 = .ok (.invokevirtual 159, 3) := zD182 whL_law_31 (p := 25) rfl rfl
theorem dL_law_1203 : decode cL_law 1203 = .ok (.pop, 1) := zD87 whL_law_31 (p := 28) rfl
theorem dL_law_1204 : decode cL_law 1204 = .ok (.goto 178, 3) := zD167p whL_law_31 (p := 29) (v := 178) rfl rfl rfl
def wlL_law_32 : List Nat := [43, 42, 29, 4, 96, 46, 42, 29, 5, 96, 46, 42, 29, 6, 96, 46, 182, 0, 160, 87, 44, 42, 29, 4, 96, 46, 42, 29, 5, 96, 46, 42]
theorem whL_law_32 : WLy cL_law 1207 wlL_law_32 := by decide +kernel
theorem dL_law_1207 : decode cL_law 1207 = .ok (.aload_n 1, 1) := zD43 whL_law_32 (p := 0) rfl
theorem dL_law_1208 : decode cL_law 1208 = .ok (.aload_n 0, 1) := zD42 whL_law_32 (p := 1) rfl
theorem dL_law_1209 : decode cL_law 1209 = .ok (.iload_n 3, 1) := zD29 whL_law_32 (p := 2) rfl
theorem dL_law_1210 : decode cL_law 1210 = .ok (.iconst 1, 1) := zD4 whL_law_32 (p := 3) rfl
theorem dL_law_1211 : decode cL_law 1211 = .ok (.iadd, 1) := zD96 whL_law_32 (p := 4) rfl
theorem dL_law_1212 : decode cL_law 1212 = .ok (.iaload, 1) := zD46 whL_law_32 (p := 5) rfl
theorem dL_law_1213 : decode cL_law 1213 = .ok (.aload_n 0, 1) := zD42 whL_law_32 (p := 6) rfl
theorem dL_law_1214 : decode cL_law 1214 = .ok (.iload_n 3, 1) := zD29 whL_law_32 (p := 7) rfl
theorem dL_law_1215 : decode cL_law 1215 = .ok (.iconst 2, 1) := zD5 whL_law_32 (p := 8) rfl
theorem dL_law_1216 : decode cL_law 1216 = .ok (.iadd, 1) := zD96 whL_law_32 (p := 9) rfl
theorem dL_law_1217 : decode cL_law 1217 = .ok (.iaload, 1) := zD46 whL_law_32 (p := 10) rfl
theorem dL_law_1218 : decode cL_law 1218 = .ok (.aload_n 0, 1) := zD42 whL_law_32 (p := 11) rfl
theorem dL_law_1219 : decode cL_law 1219 = .ok (.iload_n 3, 1) := zD29 whL_law_32 (p := 12) rfl
theorem dL_law_1220 : decode cL_law 1220 = .ok (.iconst 3, 1) := zD6 whL_law_32 (p := 13) rfl
theorem dL_law_1221 : decode cL_law 1221 = .ok (.iadd, 1) := zD96 whL_law_32 (p := 14) rfl
theorem dL_law_1222 : decode cL_law 1222 = .ok (.iaload, 1) := zD46 whL_law_32 (p := 15) rfl
theorem dL_law_1223 : decode cL_law 1223 = .ok (.invokevirtual 160, 3) := zD182 whL_law_32 (p := 16) rfl rfl
theorem dL_law_1226 : decode cL_law 1226 = .ok (.pop, 1) := zD87 whL_law_32 (p := 19) rfl
theorem dL_law_1227 : decode cL_law 1227 = .ok (.aload_n 2, 1) := zD44 whL_law_32 (p := 20) rfl
theorem dL_law_1228 : decode cL_law 1228 = .ok (.aload_n 0, 1) := zD42 whL_law_32 (p := 21) rfl
theorem dL_law_1229 : decode cL_law 1229 = .ok (.iload_n 3, 1) := zD29 whL_law_32 (p := 22) rfl
theorem dL_law_1230 : decode cL_law 1230 = .ok (.iconst 1, 1) := zD4 whL_law_32 (p := 23) rfl
theorem dL_law_1231 : decode cL_law 1231 = .ok (.iadd, 1) := zD96 whL_law_32 (p := 24) rfl
theorem dL_law_1232 : decode cL_law 1232 = .ok (.iaload, 1) := zD46 whL_law_32 (p := 25) rfl
theorem dL_law_1233 : decode cL_law 1233 = .ok (.aload_n 0, 1) := zD42 whL_law_32 (p := 26) rfl
theorem dL_law_1234 : decode cL_law 1234 = .ok (.iload_n 3, 1) := zD29 whL_law_32 (p := 27) rfl
theorem dL_law_1235 : decode cL_law 1235 = .ok (.iconst 2, 1) := zD5 whL_law_32 (p := 28) rfl
theorem dL_law_1236 : decode cL_law 1236 = .ok (.iadd, 1) := zD96 whL_law_32 (p := 29) rfl
theorem dL_law_1237 : decode cL_law 1237 = .ok (.iaload, 1) := zD46 whL_law_32 (p := 30) rfl
theorem dL_law_1238 : decode cL_law 1238 = .ok (.aload_n 0, 1) := zD42 whL_law_32 (p := 31) rfl
def wlL_law_33 : List Nat := [29, 6, 96, 46, 182, 0, 163, 87, 167, 0, 135, 43, 42, 29, 4, 96, 46, 42, 29, 5, 96, 46, 42, 29, 6, 96, 46, 182, 0, 164, 87, 44]
theorem whL_law_33 : WLy cL_law 1239 wlL_law_33 := by decide +kernel
theorem dL_law_1239 : decode cL_law 1239 = .ok (.iload_n 3, 1) := zD29 whL_law_33 (p := 0) rfl
theorem dL_law_1240 : decode cL_law 1240 = .ok (.iconst 3, 1) := zD6 whL_law_33 (p := 1) rfl
theorem dL_law_1241 : decode cL_law 1241 = .ok (.iadd, 1) := zD96 whL_law_33 (p := 2) rfl
theorem dL_law_1242 : decode cL_law 1242 = .ok (.iaload, 1) := zD46 whL_law_33 (p := 3) rfl
theorem dL_law_1243 : decode cL_law 1243 = .ok (.invokevirtual 163, 3) := zD182 whL_law_33 (p := 4) rfl rfl
theorem dL_law_1246 : decode cL_law 1246 = .ok (.pop, 1) := zD87 whL_law_33 (p := 7) rfl
theorem dL_law_1247 : decode cL_law 1247 = .ok (.goto 135, 3) := zD167p whL_law_33 (p := 8) (v := 135) rfl rfl rfl
theorem dL_law_1250 : decode cL_law 1250 = .ok (.aload_n 1, 1) := zD43 whL_law_33 (p := 11) rfl
theorem dL_law_1251 : decode cL_law 1251 = .ok (.aload_n 0, 1) := zD42 whL_law_33 (p := 12) rfl
theorem dL_law_1252 : decode cL_law 1252 = .ok (.iload_n 3, 1) := zD29 whL_law_33 (p := 13) rfl
theorem dL_law_1253 : decode cL_law 1253 = .ok (.iconst 1, 1) := zD4 whL_law_33 (p := 14) rfl
theorem dL_law_1254 : decode cL_law 1254 = .ok (.iadd, 1) := zD96 whL_law_33 (p := 15) rfl
theorem dL_law_1255 : decode cL_law 1255 = .ok (.iaload, 1) := zD46 whL_law_33 (p := 16) rfl
theorem dL_law_1256 : decode cL_law 1256 = .ok (.aload_n 0, 1) := zD42 whL_law_33 (p := 17) rfl
theorem dL_law_1257 : decode cL_law 1257 = .ok (.iload_n 3, 1) := zD29 whL_law_33 (p := 18) rfl
theorem dL_law_1258 : decode cL_law 1258 = .ok (.iconst 2, 1) := zD5 whL_law_33 (p := 19) rfl
theorem dL_law_1259 : decode cL_law 1259 = .ok (.iadd, 1) := zD96 whL_law_33 (p := 20) rfl
theorem dL_law_1260 : decode cL_law 1260 = .ok (.iaload, 1) := zD46 whL_law_33 (p := 21) rfl
theorem dL_law_1261 : decode cL_law 1261 = .ok (.aload_n 0, 1) := zD42 whL_law_33 (p := 22) rfl
theorem dL_law_1262 : decode cL_law 1262 = .ok (.iload_n 3, 1) := zD29 whL_law_33 (p := 23) rfl
theorem dL_law_1263 : decode cL_law 1263 = .ok (.iconst 3, 1) := zD6 whL_law_33 (p := 24) rfl
theorem dL_law_1264 : decode cL_law 1264 = .ok (.iadd, 1) := zD96 whL_law_33 (p := 25) rfl
theorem dL_law_1265 : decode cL_law 1265 = .ok (.iaload, 1) := zD46 whL_law_33 (p := 26) rfl
theorem dL_law_1266 : decode cL_law 1266 = .ok (.invokevirtual 164, 3) := zD182 whL_law_33 (p := 27) rfl rfl
theorem dL_law_1269 : decode cL_law 1269 = .ok (.pop, 1) := zD87 whL_law_33 (p := 30) rfl
theorem dL_law_1270 : decode cL_law 1270 = .ok (.aload_n 2, 1) := zD44 whL_law_33 (p := 31) rfl
def wlL_law_34 : List Nat := [42, 29, 4, 96, 46, 42, 29, 5, 96, 46, 42, 29, 6, 96, 46, 182, 0, 167, 87, 167, 0, 92, 43, 42, 29, 4, 96, 46, 42, 29, 5, 96]
theorem whL_law_34 : WLy cL_law 1271 wlL_law_34 := by decide +kernel
theorem dL_law_1271 : decode cL_law 1271 = .ok (.aload_n 0, 1) := zD42 whL_law_34 (p := 0) rfl
theorem dL_law_1272 : decode cL_law 1272 = .ok (.iload_n 3, 1) := zD29 whL_law_34 (p := 1) rfl
theorem dL_law_1273 : decode cL_law 1273 = .ok (.iconst 1, 1) := zD4 whL_law_34 (p := 2) rfl
theorem dL_law_1274 : decode cL_law 1274 = .ok (.iadd, 1) := zD96 whL_law_34 (p := 3) rfl
theorem dL_law_1275 : decode cL_law 1275 = .ok (.iaload, 1) := zD46 whL_law_34 (p := 4) rfl
theorem dL_law_1276 : decode cL_law 1276 = .ok (.aload_n 0, 1) := zD42 whL_law_34 (p := 5) rfl
theorem dL_law_1277 : decode cL_law 1277 = .ok (.iload_n 3, 1) := zD29 whL_law_34 (p := 6) rfl
theorem dL_law_1278 : decode cL_law 1278 = .ok (.iconst 2, 1) := zD5 whL_law_34 (p := 7) rfl
theorem dL_law_1279 : decode cL_law 1279 = .ok (.iadd, 1) := zD96 whL_law_34 (p := 8) rfl
theorem dL_law_1280 : decode cL_law 1280 = .ok (.iaload, 1) := zD46 whL_law_34 (p := 9) rfl
theorem dL_law_1281 : decode cL_law 1281 = .ok (.aload_n 0, 1) := zD42 whL_law_34 (p := 10) rfl
theorem dL_law_1282 : decode cL_law 1282 = .ok (.iload_n 3, 1) := zD29 whL_law_34 (p := 11) rfl
theorem dL_law_1283 : decode cL_law 1283 = .ok (.iconst 3, 1) := zD6 whL_law_34 (p := 12) rfl
theorem dL_law_1284 : decode cL_law 1284 = .ok (.iadd, 1) := zD96 whL_law_34 (p := 13) rfl
theorem dL_law_1285 : decode cL_law 1285 = .ok (.iaload, 1) := zD46 whL_law_34 (p := 14) rfl
theorem dL_law_1286 : decode cL_law 1286 = .ok (.invokevirtual 167, 3) := zD182 whL_law_34 (p := 15) rfl rfl
theorem dL_law_1289 : decode cL_law 1289 = .ok (.pop, 1) := zD87 whL_law_34 (p := 18) rfl
theorem dL_law_1290 : decode cL_law 1290 = .ok (.goto 92, 3) := zD167p whL_law_34 (p := 19) (v := 92) rfl rfl rfl
theorem dL_law_1293 : decode cL_law 1293 = .ok (.aload_n 1, 1) := zD43 whL_law_34 (p := 22) rfl
theorem dL_law_1294 : decode cL_law 1294 = .ok (.aload_n 0, 1) := zD42 whL_law_34 (p := 23) rfl
theorem dL_law_1295 : decode cL_law 1295 = .ok (.iload_n 3, 1) := zD29 whL_law_34 (p := 24) rfl
theorem dL_law_1296 : decode cL_law 1296 = .ok (.iconst 1, 1) := zD4 whL_law_34 (p := 25) rfl
theorem dL_law_1297 : decode cL_law 1297 = .ok (.iadd, 1) := zD96 whL_law_34 (p := 26) rfl
theorem dL_law_1298 : decode cL_law 1298 = .ok (.iaload, 1) := zD46 whL_law_34 (p := 27) rfl
theorem dL_law_1299 : decode cL_law 1299 = .ok (.aload_n 0, 1) := zD42 whL_law_34 (p := 28) rfl
theorem dL_law_1300 : decode cL_law 1300 = .ok (.iload_n 3, 1) := zD29 whL_law_34 (p := 29) rfl
theorem dL_law_1301 : decode cL_law 1301 = .ok (.iconst 2, 1) := zD5 whL_law_34 (p := 30) rfl
theorem dL_law_1302 : decode cL_law 1302 = .ok (.iadd, 1) := zD96 whL_law_34 (p := 31) rfl
def wlL_law_35 : List Nat := [46, 42, 29, 6, 96, 46, 42, 29, 7, 96, 46, 182, 0, 168, 87, 44, 42, 29, 4, 96, 46, 42, 29, 5, 96, 46, 42, 29, 6, 96, 46, 42]
theorem whL_law_35 : WLy cL_law 1303 wlL_law_35 := by decide +kernel
theorem dL_law_1303 : decode cL_law 1303 = .ok (.iaload, 1) := zD46 whL_law_35 (p := 0) rfl
theorem dL_law_1304 : decode cL_law 1304 = .ok (.aload_n 0, 1) := zD42 whL_law_35 (p := 1) rfl
theorem dL_law_1305 : decode cL_law 1305 = .ok (.iload_n 3, 1) := zD29 whL_law_35 (p := 2) rfl
theorem dL_law_1306 : decode cL_law 1306 = .ok (.iconst 3, 1) := zD6 whL_law_35 (p := 3) rfl
theorem dL_law_1307 : decode cL_law 1307 = .ok (.iadd, 1) := zD96 whL_law_35 (p := 4) rfl
theorem dL_law_1308 : decode cL_law 1308 = .ok (.iaload, 1) := zD46 whL_law_35 (p := 5) rfl
theorem dL_law_1309 : decode cL_law 1309 = .ok (.aload_n 0, 1) := zD42 whL_law_35 (p := 6) rfl
theorem dL_law_1310 : decode cL_law 1310 = .ok (.iload_n 3, 1) := zD29 whL_law_35 (p := 7) rfl
theorem dL_law_1311 : decode cL_law 1311 = .ok (.iconst 4, 1) := zD7 whL_law_35 (p := 8) rfl
theorem dL_law_1312 : decode cL_law 1312 = .ok (.iadd, 1) := zD96 whL_law_35 (p := 9) rfl
theorem dL_law_1313 : decode cL_law 1313 = .ok (.iaload, 1) := zD46 whL_law_35 (p := 10) rfl
theorem dL_law_1314 : decode cL_law 1314 = .ok (.invokevirtual 168, 3) := zD182 whL_law_35 (p := 11) rfl rfl
theorem dL_law_1317 : decode cL_law 1317 = .ok (.pop, 1) := zD87 whL_law_35 (p := 14) rfl
theorem dL_law_1318 : decode cL_law 1318 = .ok (.aload_n 2, 1) := zD44 whL_law_35 (p := 15) rfl
theorem dL_law_1319 : decode cL_law 1319 = .ok (.aload_n 0, 1) := zD42 whL_law_35 (p := 16) rfl
theorem dL_law_1320 : decode cL_law 1320 = .ok (.iload_n 3, 1) := zD29 whL_law_35 (p := 17) rfl
theorem dL_law_1321 : decode cL_law 1321 = .ok (.iconst 1, 1) := zD4 whL_law_35 (p := 18) rfl
theorem dL_law_1322 : decode cL_law 1322 = .ok (.iadd, 1) := zD96 whL_law_35 (p := 19) rfl
theorem dL_law_1323 : decode cL_law 1323 = .ok (.iaload, 1) := zD46 whL_law_35 (p := 20) rfl
theorem dL_law_1324 : decode cL_law 1324 = .ok (.aload_n 0, 1) := zD42 whL_law_35 (p := 21) rfl
theorem dL_law_1325 : decode cL_law 1325 = .ok (.iload_n 3, 1) := zD29 whL_law_35 (p := 22) rfl
theorem dL_law_1326 : decode cL_law 1326 = .ok (.iconst 2, 1) := zD5 whL_law_35 (p := 23) rfl
theorem dL_law_1327 : decode cL_law 1327 = .ok (.iadd, 1) := zD96 whL_law_35 (p := 24) rfl
theorem dL_law_1328 : decode cL_law 1328 = .ok (.iaload, 1) := zD46 whL_law_35 (p := 25) rfl
theorem dL_law_1329 : decode cL_law 1329 = .ok (.aload_n 0, 1) := zD42 whL_law_35 (p := 26) rfl
theorem dL_law_1330 : decode cL_law 1330 = .ok (.iload_n 3, 1) := zD29 whL_law_35 (p := 27) rfl
theorem dL_law_1331 : decode cL_law 1331 = .ok (.iconst 3, 1) := zD6 whL_law_35 (p := 28) rfl
theorem dL_law_1332 : decode cL_law 1332 = .ok (.iadd, 1) := zD96 whL_law_35 (p := 29) rfl
theorem dL_law_1333 : decode cL_law 1333 = .ok (.iaload, 1) := zD46 whL_law_35 (p := 30) rfl
theorem dL_law_1334 : decode cL_law 1334 = .ok (.aload_n 0, 1) := zD42 whL_law_35 (p := 31) rfl
def wlL_law_36 : List Nat := [29, 7, 96, 46, 182, 0, 171, 87, 167, 0, 39, 43, 182, 0, 172, 87, 44, 182, 0, 175, 87, 167, 0, 26, 43, 42, 29, 4, 96, 46, 182, 0, 176]
theorem whL_law_36 : WLy cL_law 1335 wlL_law_36 := by decide +kernel
theorem dL_law_1335 : decode cL_law 1335 = .ok (.iload_n 3, 1) := zD29 whL_law_36 (p := 0) rfl
theorem dL_law_1336 : decode cL_law 1336 = .ok (.iconst 4, 1) := zD7 whL_law_36 (p := 1) rfl
theorem dL_law_1337 : decode cL_law 1337 = .ok (.iadd, 1) := zD96 whL_law_36 (p := 2) rfl
theorem dL_law_1338 : decode cL_law 1338 = .ok (.iaload, 1) := zD46 whL_law_36 (p := 3) rfl
theorem dL_law_1339 : decode cL_law 1339 = .ok (.invokevirtual 171, 3) := zD182 whL_law_36 (p := 4) rfl rfl
theorem dL_law_1342 : decode cL_law 1342 = .ok (.pop, 1) := zD87 whL_law_36 (p := 7) rfl
theorem dL_law_1343 : decode cL_law 1343 = .ok (.goto 39, 3) := zD167p whL_law_36 (p := 8) (v := 39) rfl rfl rfl
theorem dL_law_1346 : decode cL_law 1346 = .ok (.aload_n 1, 1) := zD43 whL_law_36 (p := 11) rfl
theorem dL_law_1347 : decode cL_law 1347 = .ok (.invokevirtual 172, 3) := zD182 whL_law_36 (p := 12) rfl rfl
theorem dL_law_1350 : decode cL_law 1350 = .ok (.pop, 1) := zD87 whL_law_36 (p := 15) rfl
theorem dL_law_1351 : decode cL_law 1351 = .ok (.aload_n 2, 1) := zD44 whL_law_36 (p := 16) rfl
theorem dL_law_1352 : decode cL_law 1352 = .ok (.invokevirtual 175, 3) := zD182 whL_law_36 (p := 17) rfl rfl
theorem dL_law_1355 : decode cL_law 1355 = .ok (.pop, 1) := zD87 whL_law_36 (p := 20) rfl
theorem dL_law_1356 : decode cL_law 1356 = .ok (.goto 26, 3) := zD167p whL_law_36 (p := 21) (v := 26) rfl rfl rfl
theorem dL_law_1359 : decode cL_law 1359 = .ok (.aload_n 1, 1) := zD43 whL_law_36 (p := 24) rfl
theorem dL_law_1360 : decode cL_law 1360 = .ok (.aload_n 0, 1) := zD42 whL_law_36 (p := 25) rfl
theorem dL_law_1361 : decode cL_law 1361 = .ok (.iload_n 3, 1) := zD29 whL_law_36 (p := 26) rfl
theorem dL_law_1362 : decode cL_law 1362 = .ok (.iconst 1, 1) := zD4 whL_law_36 (p := 27) rfl
theorem dL_law_1363 : decode cL_law 1363 = .ok (.iadd, 1) := zD96 whL_law_36 (p := 28) rfl
theorem dL_law_1364 : decode cL_law 1364 = .ok (.iaload, 1) := zD46 whL_law_36 (p := 29) rfl
theorem dL_law_1365 : decode cL_law 1365 = .ok (.invokevirtual 176, 3) := zD182 whL_law_36 (p := 30) rfl rfl
def wlL_law_37 : List Nat := [87, 44, 42, 29, 4, 96, 46, 182, 0, 179, 87, 167, 0, 3, 132, 3, 5, 167, 250, 169, 4, 172]
theorem whL_law_37 : WLy cL_law 1368 wlL_law_37 := by decide +kernel
theorem dL_law_1368 : decode cL_law 1368 = .ok (.pop, 1) := zD87 whL_law_37 (p := 0) rfl
theorem dL_law_1369 : decode cL_law 1369 = .ok (.aload_n 2, 1) := zD44 whL_law_37 (p := 1) rfl
theorem dL_law_1370 : decode cL_law 1370 = .ok (.aload_n 0, 1) := zD42 whL_law_37 (p := 2) rfl
theorem dL_law_1371 : decode cL_law 1371 = .ok (.iload_n 3, 1) := zD29 whL_law_37 (p := 3) rfl
theorem dL_law_1372 : decode cL_law 1372 = .ok (.iconst 1, 1) := zD4 whL_law_37 (p := 4) rfl
theorem dL_law_1373 : decode cL_law 1373 = .ok (.iadd, 1) := zD96 whL_law_37 (p := 5) rfl
theorem dL_law_1374 : decode cL_law 1374 = .ok (.iaload, 1) := zD46 whL_law_37 (p := 6) rfl
theorem dL_law_1375 : decode cL_law 1375 = .ok (.invokevirtual 179, 3) := zD182 whL_law_37 (p := 7) rfl rfl
theorem dL_law_1378 : decode cL_law 1378 = .ok (.pop, 1) := zD87 whL_law_37 (p := 10) rfl
theorem dL_law_1379 : decode cL_law 1379 = .ok (.goto 3, 3) := zD167p whL_law_37 (p := 11) (v := 3) rfl rfl rfl
theorem dL_law_1382 : decode cL_law 1382 = .ok (.iinc 3 5, 3) := zD132p whL_law_37 (p := 14) (v := 5) rfl rfl rfl
theorem dL_law_1385 : decode cL_law 1385 = .ok (.goto (-1367), 3) := zD167n whL_law_37 (p := 17) (v := 1367) rfl rfl rfl
theorem dL_law_1388 : decode cL_law 1388 = .ok (.iconst 1, 1) := zD4 whL_law_37 (p := 20) rfl
theorem dL_law_1389 : decode cL_law 1389 = .ok (.ireturn, 1) := zD172 whL_law_37 (p := 21) rfl
theorem dL_law_32 : decode cL_law 32 = .ok (.tableswitch 1350 0 38 #[172, 225, 248, 261, 274, 297, 330, 363, 386, 419, 452, 485, 518, 551, 594, 617, 650, 693, 716, 759, 793, 826, 849, 872, 905, 958, 981, 1014, 1047, 1070, 1083, 1106, 1129, 1152, 1175, 1218, 1261, 1314, 1327], 172) := by decide +kernel

/-! the base: one list of good words for all contracts, the nest words, the tables' facts in one K, calls by these -/
def isNest : Cond → Bool
  | .methodLinkNest _ _ _ _ => true
  | .fieldLinkNest _ _ _ _ _ _ => true
  | _ => false
def GT : List Cond := lw_tbl.filter goodWord
def NT : List Cond := lw_tbl.filter isNest
theorem GT_in : GoodIn GT GT := fun _ h => ⟨h, good_of_word (List.mem_filter.mp h).2⟩
theorem GT_cons {w : Cond} (hw : w ∈ GT) : GoodIn GT (w :: GT) := fun v h => by
  rcases List.mem_cons.mp h with rfl | h
  · exact GT_in _ hw
  · exact GT_in _ h
theorem mS {q : MethodName × Nat} (i : Nat) (h : lw_privs[i]? = some q) : Cond.selects q.1.cls q.1 q.1 ∈ GT := List.mem_filter.mpr ⟨List.mem_append_left _ (List.mem_map.mpr ⟨q, List.mem_of_getElem? h, rfl⟩), rfl⟩
theorem arrayOver_specB {args : Array Value} {first s : State} {o : Option Outcome} {idx : List Nat} {t : FieldType} (h : (Cond.arrayOver (.array t)).holds args first o s idx = true) :
    ∃ comp c k, s.vm.findClass (FieldType.array t).toString = some comp ∧ (s.vm.classes.findIdx? fun (x : Class) => match x.kind with | .array component _ => component == comp | _ => false) = some c ∧ s.vm.classes[c]? = some k ∧ k.kind = .array comp (.array t) ∧ s.vm.findClass ("[" ++ (FieldType.array t).toString) = some c := by
  simp only [Cond.holds, Cond.value, beq_iff_eq] at h
  cases hc : s.vm.findClass (FieldType.array t).toString with
  | none => simp [hc] at h
  | some comp =>
    simp only [hc, Option.bind_some, Option.bind_eq_some_iff, Option.map_eq_some_iff] at h
    obtain ⟨c, hi, k, hk, hb⟩ := h
    obtain ⟨hlt, hp, -⟩ := Array.findIdx?_eq_some_iff_getElem.mp hi
    have hkk : s.vm.classes[c] = k := (Array.getElem?_eq_some_iff.mp hk).2
    rw [hkk] at hp
    cases hkind : k.kind with
    | array component ty =>
      rw [hkind] at hb hp
      simp at hb hp
      exact ⟨comp, c, k, rfl, hi, hk, by rw [hkind, hp, hb.1], hb.2⟩
    | _ => rw [hkind] at hb; simp at hb
theorem va_AOA.moved {t : FieldType} {u U : State} (hvm : u.vm.Alike U.vm) (h : va_AOA t u) : va_AOA t U := by
  obtain ⟨comp, c, k, h1, h2, h3, h4, h5⟩ := arrayOver_specB h
  obtain ⟨k', hk', he⟩ := hvm.2.2 _ _ h3
  have hi : (U.vm.classes.findIdx? fun (x : Class) => match x.kind with | .array component _ => component == comp | _ => false) = some c := by
    have e1 := va_idx_bare U.vm comp
    have e2 := va_idx_bare u.vm comp
    have eb : U.vm.bare = u.vm.bare := by first | exact hvm.bare_eq | exact hvm.bare_eq.symm
    rw [eb] at e1
    exact (e1.symm.trans e2).trans h2
  have hkind : k'.kind = .array comp (.array t) := by rw [he]; exact h4
  have f1 : U.vm.findClass (FieldType.array t).toString = some comp := by rw [hvm.findClass]; exact h1
  have f2 : U.vm.findClass ("[" ++ (FieldType.array t).toString) = some c := by rw [hvm.findClass]; exact h5
  unfold va_AOA Cond.before Cond.holds
  simp only [Cond.value]
  rw [f1, Option.bind_some]
  refine (congrArg (fun o : Option Nat => (o.bind (fun c => (U.vm.classes[c]?).map fun (k : Class) => match k.kind with | .array _ ty => decide (ty = FieldType.array t) && decide (U.vm.findClass ("[" ++ (FieldType.array t).toString) = some c) | _ => false) == some true)) hi).trans ?_
  simp [hk', hkind, f2]
abbrev tyl (G : Nat → ClassId) : List (ClassId × FieldType) := [(G 0, .int), (G 1, .long), (G 2, .boolean), (G 3, .object "AsleepPass$Way"), (G 4, .array .int), (G 5, .array .long)]
/-- what every method takes of the tables: the classes' layouts, the array classes, the nest words -/
def KK (dC : Nat → ClassId) (dI : Nat → Nat → Nat) (G : Nat → ClassId) (U : State) : Prop := va_K (dC, dI) vwCl (tyl G) U ∧ (∀ w ∈ NT, va_Nw w U) ∧ va_AO "AsleepPass$Way" U ∧ va_AOA .int U ∧ va_AOA .long U
theorem nest_warm {w : Cond} (h : isNest w = true) {s U : State} (hW : s.WarmedH U.vm) (hZ : va_Nw w s) : va_Nw w U := by
  cases w <;> first | exact va_Nw.warmF hW hZ | exact va_Nw.warmM hW hZ | (cases h)
theorem KK.warm {dC : Nat → ClassId} {dI : Nat → Nat → Nat} {G : Nat → ClassId} {s U : State} (hW : s.WarmedH U.vm) (h : KK dC dI G s) : KK dC dI G U :=
  ⟨va_K.moved hW.alike h.1, fun w hw => nest_warm (List.mem_filter.mp hw).2 hW (h.2.1 w hw), va_AO.moved hW.alike h.2.2.1, va_AOA.moved hW.alike h.2.2.2.1, va_AOA.moved hW.alike h.2.2.2.2⟩
theorem nest_on {w : Cond} (h : isNest w = true) : w.onTables = true := by cases w <;> first | rfl | (cases h)
theorem KK.nest {dC : Nat → ClassId} {dI : Nat → Nat → Nat} {G : Nat → ClassId} {s : State} (h : KK dC dI G s) {A : Array Value} {w : Cond} (hw : w ∈ NT) : w.before A s = true := va_Nw.use (nest_on (List.mem_filter.mp hw).2) (h.2.1 w hw)
theorem KK.calling {dC : Nat → ClassId} {dI : Nat → Nat → Nat} {G : Nat → ClassId} {U V : State} (hv : U.vm = V.vm) (h : KK dC dI G U) : KK dC dI G V := by
  have ha : U.vm.Alike V.vm := hv ▸ Vm.Alike.refl U.vm
  exact ⟨va_K.moved ha h.1, fun w hw => va_Nw.same (nest_on (List.mem_filter.mp hw).2) hv (h.2.1 w hw), va_AO.moved ha h.2.2.1, va_AOA.moved ha h.2.2.2.1, va_AOA.moved ha h.2.2.2.2⟩
/-- a method that only reads: its start -/
def PcR (av : List Value) (dC : Nat → ClassId) (dI : Nat → Nat → Nat) (G : Nat → ClassId) (ws : va_W) (sz : Nat) : Array Value → State → Prop := va_Pc av (fun U => U.heap.size = sz ∧ va_P (dC, dI) vwCl ws U.heap ∧ KK dC dI G U)
/-- a method that writes: its start -/
def PcW (av : List Value) (dC : Nat → ClassId) (dI : Nat → Nat → Nat) (G : Nat → ClassId) (ws : va_W) (sz : Nat) : Array Value → State → Prop := va_Pc av (fun U => U.heap.size = sz ∧ va_P (dC, dI) vwCl ws U.heap ∧ KK dC dI G U ∧ va_D (fun _ => True) ws)
theorem PcR.blind {av : List Value} {dC : Nat → ClassId} {dI : Nat → Nat → Nat} {G : Nat → ClassId} {ws : va_W} {sz : Nat} : FrameBlind (PcR av dC dI G ws sz) := fun a U g mk q => by
  obtain ⟨q0, q1, q2, q3⟩ := q
  exact ⟨q0, q1, q2, KK.calling (U := U) (V := U.calling g mk a) rfl q3⟩
theorem PcW.blind {av : List Value} {dC : Nat → ClassId} {dI : Nat → Nat → Nat} {G : Nat → ClassId} {ws : va_W} {sz : Nat} : FrameBlind (PcW av dC dI G ws sz) := fun a U g mk q => by
  obtain ⟨q0, q1, q2, q3, q4⟩ := q
  exact ⟨q0, q1, q2, KK.calling (U := U) (V := U.calling g mk a) rfl q3, q4⟩
theorem preSR {s : State} {H : Heap} {As : List Value} {dC : Nat → ClassId} {dI : Nat → Nat → Nat} {G : Nat → ClassId} {ws : va_W} (hK : KK dC dI G s) (hP : va_P (dC, dI) vwCl ws H) : PreS s H (PcR As dC dI G ws H.size) As :=
  ⟨PcR.blind, fun U hU hW => ⟨rfl, by rw [hU], by rw [hU]; exact hP, hK.warm hW⟩⟩
theorem preSW {s : State} {H : Heap} {As : List Value} {dC : Nat → ClassId} {dI : Nat → Nat → Nat} {G : Nat → ClassId} {A : Nat → Prop} {ws : va_W} (hK : KK dC dI G s) (hP : va_P (dC, dI) vwCl ws H) (hD : va_D A ws) : PreS s H (PcW As dC dI G ws H.size) As :=
  ⟨PcW.blind, fun U hU hW => ⟨rfl, by rw [hU], by rw [hU]; exact hP, hK.warm hW, hD.weaken (fun _ _ _ _ => trivial)⟩⟩
theorem preVR {s : State} {H : Heap} {As : List Value} {b : Nat} {dC : Nat → ClassId} {dI : Nat → Nat → Nat} {G : Nat → ClassId} {ws : va_W} {ci : Nat} {r : vw_C} {fs : List Value} (hK : KK dC dI G s) (hP : va_P (dC, dI) vwCl ws H) (hc : vwCl[ci]? = some r) (he : ws[0]? = some (b, .inr (ci, fs))) : PreV s H r.1 b (PcR (.ref b :: As) dC dI G ws H.size) As :=
  ⟨PcR.blind, va_recv hK.1 hP hc he, fun U hU hW => ⟨rfl, by rw [hU], by rw [hU]; exact hP, hK.warm hW⟩⟩
theorem preVW {s : State} {H : Heap} {As : List Value} {b : Nat} {dC : Nat → ClassId} {dI : Nat → Nat → Nat} {G : Nat → ClassId} {A : Nat → Prop} {ws : va_W} {ci : Nat} {r : vw_C} {fs : List Value} (hK : KK dC dI G s) (hP : va_P (dC, dI) vwCl ws H) (hD : va_D A ws) (hc : vwCl[ci]? = some r) (he : ws[0]? = some (b, .inr (ci, fs))) : PreV s H r.1 b (PcW (.ref b :: As) dC dI G ws H.size) As :=
  ⟨PcW.blind, va_recv hK.1 hP hc he, fun U hU hW => ⟨rfl, by rw [hU], by rw [hU]; exact hP, hK.warm hW, hD.weaken (fun _ _ _ _ => trivial)⟩⟩
/-- behind a call that only read -/
theorem keepR {D : va_G} {cl : List vw_C} {ws : va_W} {H H1 : Heap} (hP : va_P D cl ws H) (hk : ∀ q : Nat, q < H.size → ¬ H.size ≤ q → H1[q]? = H[q]?) : va_P D cl ws H1 :=
  hP.kept (fun k q hq => hk q.1 (hP k q hq).lt (Nat.not_le.mpr (hP k q hq).lt))
/-- what the words say of a method: instance, static, constructor -/
def MF (y : MethodName) (bytes : ByteArray) (maxL : Nat) (ret : Option FieldType) (n : Nat) : Prop := Cond.code y bytes maxL ret ∈ GT ∧ Cond.instanceMethod y ∈ GT ∧ Cond.selects y.cls y y ∈ GT ∧ Cond.initialized y.cls ∈ GT ∧ (y.cls ≠ "java/lang/invoke/MethodHandle" ∧ y.cls ≠ "java/lang/invoke/VarHandle" ∧ (parseMethodDescriptor y.desc).map (fun d => d.parameters.length) = some n)
def MFS (y : MethodName) (bytes : ByteArray) (maxL : Nat) (ret : Option FieldType) (n : Nat) : Prop := Cond.code y bytes maxL ret ∈ GT ∧ Cond.static y ∈ GT ∧ Cond.initialized y.cls ∈ GT ∧ (y.cls ≠ "java/lang/invoke/MethodHandle" ∧ y.cls ≠ "java/lang/invoke/VarHandle" ∧ (parseMethodDescriptor y.desc).map (fun d => d.parameters.length) = some n)
def MFI (y : MethodName) (bytes : ByteArray) (maxL : Nat) (n : Nat) : Prop := Cond.code y bytes maxL none ∈ GT ∧ Cond.instanceMethod y ∈ GT ∧ Cond.initialized y.cls ∈ GT ∧ y.name = "<init>" ∧ (y.cls ≠ "java/lang/invoke/MethodHandle" ∧ y.cls ≠ "java/lang/invoke/VarHandle" ∧ (parseMethodDescriptor y.desc).map (fun d => d.parameters.length) = some n)
section KW
variable {R : Room} {s : State} {args : Array Value} {own host : String} {idx maxL n : Nat} {y : MethodName} {bytes : ByteArray} {ret : Option FieldType} {rm : Room}
theorem kwV (hg : ∀ w ∈ GT, w.before args s = true) (h : MF y bytes maxL ret n) (hl : Cond.methodLink own idx y ∈ GT) (hR : rm.frames + 1 ≤ R.frames ∧ 8 + (maxL + 11) + rm.locals ≤ R.locals) : CallW R s args own y.cls idx y bytes maxL ret (Cond.code y bytes maxL ret :: GT) rm rm.cells rm.slots n :=
  ⟨callB_of n hg (GT_cons h.1) rfl rfl rfl (hg _ h.2.2.2.1) (hg _ hl) h.2.2.2.2 hR, hg _ h.2.1, hg _ h.2.2.1⟩
theorem kwVN {dC : Nat → ClassId} {dI : Nat → Nat → Nat} {G : Nat → ClassId} (hg : ∀ w ∈ GT, w.before args s = true) (hK : KK dC dI G s) (h : MF y bytes maxL ret n) (hl : Cond.methodLinkNest own idx y host ∈ NT) (hR : rm.frames + 1 ≤ R.frames ∧ 8 + (maxL + 11) + rm.locals ≤ R.locals) : va_CN R s args own idx y host bytes maxL ret (Cond.code y bytes maxL ret :: GT) rm rm.cells rm.slots n ∧ (Cond.instanceMethod y).before args s = true ∧ (Cond.selects y.cls y y).before args s = true :=
  ⟨va_cnB n hg (GT_cons h.1) rfl rfl rfl (hK.2.1 _ hl) (hg _ h.2.2.2.1) h.2.2.2.2 hR, hg _ h.2.1, hg _ h.2.2.1⟩
theorem kwS (hg : ∀ w ∈ GT, w.before args s = true) (h : MFS y bytes maxL ret n) (hl : Cond.methodLink own idx y ∈ GT) (hR : rm.frames + 1 ≤ R.frames ∧ 8 + (maxL + 11) + rm.locals ≤ R.locals) : CallB R s args own idx y bytes maxL ret (Cond.code y bytes maxL ret :: GT) rm rm.cells rm.slots n ∧ (Cond.static y).before args s = true :=
  ⟨callB_of n hg (GT_cons h.1) rfl rfl rfl (hg _ h.2.2.1) (hg _ hl) h.2.2.2 hR, hg _ h.2.1⟩
theorem kwSN {dC : Nat → ClassId} {dI : Nat → Nat → Nat} {G : Nat → ClassId} (hg : ∀ w ∈ GT, w.before args s = true) (hK : KK dC dI G s) (h : MFS y bytes maxL ret n) (hl : Cond.methodLinkNest own idx y host ∈ NT) (hR : rm.frames + 1 ≤ R.frames ∧ 8 + (maxL + 11) + rm.locals ≤ R.locals) : va_CN R s args own idx y host bytes maxL ret (Cond.code y bytes maxL ret :: GT) rm rm.cells rm.slots n ∧ (Cond.static y).before args s = true ∧ True :=
  ⟨va_cnB n hg (GT_cons h.1) rfl rfl rfl (hK.2.1 _ hl) (hg _ h.2.2.1) h.2.2.2 hR, hg _ h.2.1, trivial⟩
theorem kwI (hg : ∀ w ∈ GT, w.before args s = true) (h : MFI y bytes maxL n) (hl : Cond.methodLink own idx y ∈ GT) (hR : rm.frames + 1 ≤ R.frames ∧ 8 + (maxL + 11) + rm.locals ≤ R.locals) : CallB R s args own idx y bytes maxL none (Cond.code y bytes maxL none :: GT) rm rm.cells rm.slots n ∧ y.name = "<init>" ∧ (Cond.instanceMethod y).before args s = true :=
  ⟨callB_of n hg (GT_cons h.1) rfl rfl rfl (hg _ h.2.2.1) (hg _ hl) h.2.2.2.2 hR, h.2.2.2.1, hg _ h.2.1⟩
theorem kwIN {dC : Nat → ClassId} {dI : Nat → Nat → Nat} {G : Nat → ClassId} (hg : ∀ w ∈ GT, w.before args s = true) (hK : KK dC dI G s) (h : MFI y bytes maxL n) (hl : Cond.methodLinkNest own idx y host ∈ NT) (hR : rm.frames + 1 ≤ R.frames ∧ 8 + (maxL + 11) + rm.locals ≤ R.locals) : va_CN R s args own idx y host bytes maxL none (Cond.code y bytes maxL none :: GT) rm rm.cells rm.slots n ∧ y.name = "<init>" ∧ (Cond.instanceMethod y).before args s = true :=
  ⟨va_cnB n hg (GT_cons h.1) rfl rfl rfl (hK.2.1 _ hl) (hg _ h.2.2.1) h.2.2.2.2 hR, h.2.2.2.1, hg _ h.2.1⟩
end KW
section LVX
variable {p : Program} {l : Launch} {e : Env} {R : Room} {s : State} {m : MethodId} {args : Array Value} {below : List Frame} {meth : Method} {c : Code} {H : Heap} {locs : List Loc} {cells slots : Nat} {Q : State → Prop} {pc : Nat} {ls : Array Slot} {rest : List Value}
/-- the top of the stack by another name -/
theorem lv_cg {x y : Int32} (h : x = y) (k : W p l e R s m args below meth c H locs cells slots Q (F0 m pc ls (.int y :: rest))) : W p l e R s m args below meth c H locs cells slots Q (F0 m pc ls (.int x :: rest)) := h ▸ k
theorem lv_cgl {x y : Int64} (h : x = y) (k : W p l e R s m args below meth c H locs cells slots Q (F0 m pc ls (.long y :: rest))) : W p l e R s m args below meth c H locs cells slots Q (F0 m pc ls (.long x :: rest)) := h ▸ k
theorem lv_cgv {x y : Value} (h : x = y) (k : W p l e R s m args below meth c H locs cells slots Q (F0 m pc ls (y :: rest))) : W p l e R s m args below meth c H locs cells slots Q (F0 m pc ls (x :: rest)) := h ▸ k
end LVX
/-- the new array's class is the one that is known -/
theorem uniA {D : va_G} {cl : List vw_C} {tys : List (ClassId × FieldType)} {s : State} {cA cB : ClassId} {ty : FieldType} (h : va_K D cl (tys ++ [(cA, ty)]) s) (i : Nat) (hi : tys[i]? = some (cB, ty)) : cA = cB := by
  have h1 := (h.2 tys.length (cA, ty) (by simp)).2
  have hl := (List.getElem?_eq_some_iff.mp hi).1
  have h2 := (h.2 i (cB, ty) (by rw [List.getElem?_append_left hl]; exact hi)).2
  cases ty with
  | object C =>
    obtain ⟨-, -, -, -, -, e1⟩ := h1
    obtain ⟨-, -, -, -, -, e2⟩ := h2
    exact Option.some.inj (e1.symm.trans e2)
  | _ => exact Option.some.inj (h1.symm.trans h2)
theorem ltI {x y : Int32} (h : x < y) : x.toInt < y.toInt := Int32.lt_iff_toInt_lt.mp h
theorem nltI {x y : Int32} (h : ¬ x < y) : ¬ x.toInt < y.toInt := fun q => h (Int32.lt_iff_toInt_lt.mpr q)
theorem leI {x y : Int32} (h : x ≤ y) : x.toInt ≤ y.toInt := Int32.le_iff_toInt_le.mp h
theorem nleI {x y : Int32} (h : ¬ x ≤ y) : ¬ x.toInt ≤ y.toInt := fun q => h (Int32.le_iff_toInt_le.mpr q)
theorem eqI {x y : Int32} (h : x = y) : x.toInt = y.toInt := congrArg Int32.toInt h
theorem neI {x y : Int32} (h : ¬ x = y) : ¬ x.toInt = y.toInt := fun q => h (Int32.toInt_inj.mp q)
theorem ltL {x y : Int64} (h : x < y) : x.toInt < y.toInt := Int64.lt_iff_toInt_lt.mp h
theorem nltL {x y : Int64} (h : ¬ x < y) : ¬ x.toInt < y.toInt := fun q => h (Int64.lt_iff_toInt_lt.mpr q)
theorem leL {x y : Int64} (h : x ≤ y) : x.toInt ≤ y.toInt := Int64.le_iff_toInt_le.mp h
theorem nleL {x y : Int64} (h : ¬ x ≤ y) : ¬ x.toInt ≤ y.toInt := fun q => h (Int64.le_iff_toInt_le.mpr q)
theorem va_fm {ws ws' : va_W} {is : List Nat} (h : is.map (fun i => ws[i]?) = ws'.map some) : is.filterMap (fun i => ws[i]?) = ws' := by
  have e := congrArg (List.filterMap id) h
  rw [List.filterMap_map, List.filterMap_map] at e
  exact e.trans List.filterMap_some
theorem va_sub2 {D : va_G} {cl : List vw_C} {A : Nat → Prop} {ws ws' : va_W} {H : Heap} (hP : va_P D cl ws H) (hD : va_D A ws) (is : List Nat) (hn : va_nd is = true) (hs : is.map (fun i => ws[i]?) = ws'.map some) : va_P D cl ws' H ∧ va_D A ws' := ⟨hP.sub is (va_fm hs), hD.sub is hn hs⟩
theorem va_sub3 {D : va_G} {cl : List vw_C} {A0 : Nat → Prop} {ws ws' : va_W} {H0 H : Heap} {locs : List Loc} (hP : va_P D cl ws H) (hD : va_D A0 ws) (hS : va_S A0 H0 H locs) (hA : ∀ q, H0.size ≤ q → A0 q) (is : List Nat) (hn : va_nd is = true) (hs : is.map (fun i => ws[i]?) = ws'.map some) : va_P D cl ws' H ∧ va_D A0 ws' ∧ ∀ q, va_A ws' H.size q → A0 q := ⟨hP.sub is (va_fm hs), hD.sub is hn hs, va_free hD hS hA is hs⟩
def nIT (n : Nat) : Prop := Unit → (nI n).toInt = ((n : Nat) : Int)
theorem qI_0 : (0 : Int32).toInt = 0 := by decide
theorem qI_1 : (1 : Int32).toInt = 1 := by decide
theorem qI_10 : (10 : Int32).toInt = 10 := by decide
theorem qI_110 : (110 : Int32).toInt = 110 := by decide
theorem qI_122 : (122 : Int32).toInt = 122 := by decide
theorem qI_16 : (16 : Int32).toInt = 16 := by decide
theorem qI_2 : (2 : Int32).toInt = 2 := by decide
theorem qI_20 : (20 : Int32).toInt = 20 := by decide
theorem qI_200 : (200 : Int32).toInt = 200 := by decide
theorem qI_24 : (24 : Int32).toInt = 24 := by decide
theorem qI_3 : (3 : Int32).toInt = 3 := by decide
theorem qI_32 : (32 : Int32).toInt = 32 := by decide
theorem qI_320 : (320 : Int32).toInt = 320 := by decide
theorem qI_4 : (4 : Int32).toInt = 4 := by decide
theorem qI_40 : (40 : Int32).toInt = 40 := by decide
theorem qI_48 : (48 : Int32).toInt = 48 := by decide
theorem qI_49 : (49 : Int32).toInt = 49 := by decide
theorem qI_5 : (5 : Int32).toInt = 5 := by decide
theorem qI_56 : (56 : Int32).toInt = 56 := by decide
theorem qI_57 : (57 : Int32).toInt = 57 := by decide
theorem qI_59 : (59 : Int32).toInt = 59 := by decide
theorem qI_6 : (6 : Int32).toInt = 6 := by decide
theorem qI_7 : (7 : Int32).toInt = 7 := by decide
theorem qI_70 : (70 : Int32).toInt = 70 := by decide
theorem qI_8 : (8 : Int32).toInt = 8 := by decide
theorem qI_9 : (9 : Int32).toInt = 9 := by decide
theorem qI_97 : (97 : Int32).toInt = 97 := by decide
theorem qI_m1 : ((-1) : Int32).toInt = -1 := by decide
theorem qI_m4 : ((-4) : Int32).toInt = -4 := by decide
theorem qI_m8 : ((-8) : Int32).toInt = -8 := by decide
theorem qL_0 : (0 : Int64).toInt = 0 := by decide
theorem qL_4000000000000000000 : (4000000000000000000 : Int64).toInt = 4000000000000000000 := by decide
theorem va_rls {D : va_G} {cl : List vw_C} {A : Nat → Prop} {ws ws' : va_W} {H : Heap} (hP : va_P D cl ws H) (hD : va_D A ws) (h : ws = ws') : va_P D cl ws' H ∧ va_D A ws' := by
  subst h
  exact ⟨hP, hD⟩
theorem qz0_ : ((-1) : Int32).toInt = -1 ∧ (0 : Int32).toInt = 0 := ⟨qI_m1, qI_0⟩
theorem qz1_ : ((-1) : Int32).toInt = -1 ∧ (0 : Int64).toInt = 0 := ⟨qI_m1, qL_0⟩
theorem qz2_ : (0 : Int32).toInt = 0 ∧ (1 : Int32).toInt = 1 := ⟨qI_0, qI_1⟩
theorem qz3_ : (0 : Int32).toInt = 0 ∧ (9 : Int32).toInt = 9 := ⟨qI_0, qI_9⟩
theorem qz4_ : (0 : Int32).toInt = 0 ∧ (0 : Int64).toInt = 0 := ⟨qI_0, qL_0⟩
theorem qz5_ : (0 : Int32).toInt = 0 ∧ (1 : Int32).toInt = 1 ∧ (2 : Int32).toInt = 2 := ⟨qI_0, qI_1, qI_2⟩
theorem qz6_ : (1 : Int32).toInt = 1 ∧ (9 : Int32).toInt = 9 := ⟨qI_1, qI_9⟩
theorem qz7_ : ((-4) : Int32).toInt = -4 ∧ (0 : Int32).toInt = 0 ∧ (1 : Int32).toInt = 1 ∧ (9 : Int32).toInt = 9 := ⟨qI_m4, qI_0, qI_1, qI_9⟩
theorem qz8_ : ((-4) : Int32).toInt = -4 ∧ (0 : Int32).toInt = 0 := ⟨qI_m4, qI_0⟩
theorem qz9_ : (0 : Int32).toInt = 0 ∧ (4 : Int32).toInt = 4 := ⟨qI_0, qI_4⟩
theorem qz10_ : ((-4) : Int32).toInt = -4 ∧ (2 : Int32).toInt = 2 := ⟨qI_m4, qI_2⟩
theorem qz11_ : (0 : Int32).toInt = 0 ∧ (40 : Int32).toInt = 40 := ⟨qI_0, qI_40⟩
theorem qz12_ : (0 : Int32).toInt = 0 ∧ (20 : Int32).toInt = 20 := ⟨qI_0, qI_20⟩
theorem qz13_ : (0 : Int32).toInt = 0 ∧ (1 : Int32).toInt = 1 ∧ (2 : Int32).toInt = 2 ∧ (3 : Int32).toInt = 3 ∧ (4 : Int32).toInt = 4 := ⟨qI_0, qI_1, qI_2, qI_3, qI_4⟩
theorem qz14_ : (0 : Int32).toInt = 0 ∧ (1 : Int32).toInt = 1 ∧ (2 : Int32).toInt = 2 ∧ (3 : Int32).toInt = 3 ∧ (4 : Int32).toInt = 4 ∧ (5 : Int32).toInt = 5 := ⟨qI_0, qI_1, qI_2, qI_3, qI_4, qI_5⟩
theorem qz15_ : (48 : Int32).toInt = 48 ∧ (59 : Int32).toInt = 59 ∧ (97 : Int32).toInt = 97 := ⟨qI_48, qI_59, qI_97⟩
theorem qz16_ : (48 : Int32).toInt = 48 ∧ (57 : Int32).toInt = 57 ∧ (59 : Int32).toInt = 59 ∧ (97 : Int32).toInt = 97 := ⟨qI_48, qI_57, qI_59, qI_97⟩
theorem qz17_ : (48 : Int32).toInt = 48 ∧ (57 : Int32).toInt = 57 ∧ (97 : Int32).toInt = 97 := ⟨qI_48, qI_57, qI_97⟩
theorem qz18_ : (48 : Int32).toInt = 48 ∧ (57 : Int32).toInt = 57 := ⟨qI_48, qI_57⟩
theorem qz19_ : (0 : Int32).toInt = 0 ∧ (48 : Int32).toInt = 48 ∧ (57 : Int32).toInt = 57 ∧ (97 : Int32).toInt = 97 := ⟨qI_0, qI_48, qI_57, qI_97⟩
theorem qz20_ : (48 : Int32).toInt = 48 ∧ (57 : Int32).toInt = 57 ∧ (59 : Int32).toInt = 59 ∧ (97 : Int32).toInt = 97 ∧ (122 : Int32).toInt = 122 := ⟨qI_48, qI_57, qI_59, qI_97, qI_122⟩
theorem qz21_ : (97 : Int32).toInt = 97 ∧ (122 : Int32).toInt = 122 := ⟨qI_97, qI_122⟩
theorem qz22_ : (0 : Int32).toInt = 0 ∧ (2 : Int32).toInt = 2 := ⟨qI_0, qI_2⟩
theorem qz23_ : (0 : Int32).toInt = 0 ∧ (3 : Int32).toInt = 3 := ⟨qI_0, qI_3⟩
theorem qz24_ : (0 : Int32).toInt = 0 ∧ (5 : Int32).toInt = 5 := ⟨qI_0, qI_5⟩
theorem qz25_ : (0 : Int32).toInt = 0 ∧ (1 : Int32).toInt = 1 ∧ (10 : Int32).toInt = 10 := ⟨qI_0, qI_1, qI_10⟩
theorem qz26_ : (0 : Int32).toInt = 0 ∧ (32 : Int32).toInt = 32 := ⟨qI_0, qI_32⟩
theorem qz27_ : ((-4) : Int32).toInt = -4 ∧ (0 : Int32).toInt = 0 ∧ (32 : Int32).toInt = 32 ∧ (59 : Int32).toInt = 59 := ⟨qI_m4, qI_0, qI_32, qI_59⟩
theorem qz28_ : ((-4) : Int32).toInt = -4 ∧ (0 : Int32).toInt = 0 ∧ (32 : Int32).toInt = 32 := ⟨qI_m4, qI_0, qI_32⟩
theorem qz29_ : ((-4) : Int32).toInt = -4 ∧ (0 : Int32).toInt = 0 ∧ (1 : Int32).toInt = 1 ∧ (32 : Int32).toInt = 32 := ⟨qI_m4, qI_0, qI_1, qI_32⟩
theorem qz31_ : (0 : Int32).toInt = 0 ∧ (56 : Int32).toInt = 56 := ⟨qI_0, qI_56⟩
theorem qz32_ : (0 : Int32).toInt = 0 ∧ (48 : Int32).toInt = 48 ∧ (56 : Int32).toInt = 56 := ⟨qI_0, qI_48, qI_56⟩
theorem qz33_ : (0 : Int32).toInt = 0 ∧ (40 : Int32).toInt = 40 ∧ (48 : Int32).toInt = 48 ∧ (56 : Int32).toInt = 56 := ⟨qI_0, qI_40, qI_48, qI_56⟩
theorem qz34_ : (0 : Int32).toInt = 0 ∧ (32 : Int32).toInt = 32 ∧ (40 : Int32).toInt = 40 ∧ (48 : Int32).toInt = 48 ∧ (56 : Int32).toInt = 56 := ⟨qI_0, qI_32, qI_40, qI_48, qI_56⟩
theorem qz35_ : (0 : Int32).toInt = 0 ∧ (24 : Int32).toInt = 24 ∧ (32 : Int32).toInt = 32 ∧ (40 : Int32).toInt = 40 ∧ (48 : Int32).toInt = 48 ∧ (56 : Int32).toInt = 56 := ⟨qI_0, qI_24, qI_32, qI_40, qI_48, qI_56⟩
theorem qz36_ : (0 : Int32).toInt = 0 ∧ (16 : Int32).toInt = 16 ∧ (24 : Int32).toInt = 24 ∧ (32 : Int32).toInt = 32 ∧ (40 : Int32).toInt = 40 ∧ (48 : Int32).toInt = 48 ∧ (56 : Int32).toInt = 56 := ⟨qI_0, qI_16, qI_24, qI_32, qI_40, qI_48, qI_56⟩
theorem qz37_ : (0 : Int32).toInt = 0 ∧ (8 : Int32).toInt = 8 ∧ (16 : Int32).toInt = 16 ∧ (24 : Int32).toInt = 24 ∧ (32 : Int32).toInt = 32 ∧ (40 : Int32).toInt = 40 ∧ (48 : Int32).toInt = 48 ∧ (56 : Int32).toInt = 56 := ⟨qI_0, qI_8, qI_16, qI_24, qI_32, qI_40, qI_48, qI_56⟩
theorem qz38_ : ((-8) : Int32).toInt = -8 ∧ (0 : Int32).toInt = 0 ∧ (8 : Int32).toInt = 8 ∧ (16 : Int32).toInt = 16 ∧ (24 : Int32).toInt = 24 ∧ (32 : Int32).toInt = 32 ∧ (40 : Int32).toInt = 40 ∧ (48 : Int32).toInt = 48 ∧ (56 : Int32).toInt = 56 := ⟨qI_m8, qI_0, qI_8, qI_16, qI_24, qI_32, qI_40, qI_48, qI_56⟩
theorem qz39_ : ((-4) : Int32).toInt = -4 ∧ (4 : Int32).toInt = 4 := ⟨qI_m4, qI_4⟩
theorem qz40_ : ((-4) : Int32).toInt = -4 ∧ (0 : Int32).toInt = 0 ∧ (1 : Int32).toInt = 1 := ⟨qI_m4, qI_0, qI_1⟩
theorem qz41_ : (0 : Int32).toInt = 0 ∧ (1 : Int32).toInt = 1 ∧ (2 : Int32).toInt = 2 ∧ (3 : Int32).toInt = 3 ∧ (5 : Int32).toInt = 5 ∧ (9 : Int32).toInt = 9 := ⟨qI_0, qI_1, qI_2, qI_3, qI_5, qI_9⟩
theorem qz42_ : ((-8) : Int32).toInt = -8 ∧ (0 : Int32).toInt = 0 := ⟨qI_m8, qI_0⟩
theorem qz44_ : (0 : Int32).toInt = 0 ∧ ((-4) : Int32).toInt = -4 := ⟨qI_0, qI_m4⟩
theorem qz45_ : (0 : Int32).toInt = 0 ∧ (1 : Int32).toInt = 1 ∧ (2 : Int32).toInt = 2 ∧ (3 : Int32).toInt = 3 ∧ (5 : Int32).toInt = 5 ∧ (9 : Int32).toInt = 9 ∧ (4 : Int32).toInt = 4 ∧ (6 : Int32).toInt = 6 ∧ (7 : Int32).toInt = 7 := ⟨qI_0, qI_1, qI_2, qI_3, qI_5, qI_9, qI_4, qI_6, qI_7⟩
theorem qz46_ : (0 : Int32).toInt = 0 ∧ (1 : Int32).toInt = 1 ∧ (2 : Int32).toInt = 2 ∧ (3 : Int32).toInt = 3 ∧ (5 : Int32).toInt = 5 ∧ (9 : Int32).toInt = 9 ∧ (20 : Int32).toInt = 20 := ⟨qI_0, qI_1, qI_2, qI_3, qI_5, qI_9, qI_20⟩
theorem qz53_ : ((-4) : Int32).toInt = -4 ∧ (4000000000000000000 : Int64).toInt = 4000000000000000000 := ⟨qI_m4, qL_4000000000000000000⟩
theorem nib2 {a0 a1 : Nat} (ha0 : nIT a0) (ha1 : nIT a1) : (nI a0).toInt = ((a0 : Nat) : Int) ∧ (nI a1).toInt = ((a1 : Nat) : Int) := ⟨ha0 (), ha1 ()⟩
theorem nib3 {a0 a1 a2 : Nat} (ha0 : nIT a0) (ha1 : nIT a1) (ha2 : nIT a2) : (nI a0).toInt = ((a0 : Nat) : Int) ∧ (nI a1).toInt = ((a1 : Nat) : Int) ∧ (nI a2).toInt = ((a2 : Nat) : Int) := ⟨ha0 (), ha1 (), ha2 ()⟩
theorem nib4 {a0 a1 a2 a3 : Nat} (ha0 : nIT a0) (ha1 : nIT a1) (ha2 : nIT a2) (ha3 : nIT a3) : (nI a0).toInt = ((a0 : Nat) : Int) ∧ (nI a1).toInt = ((a1 : Nat) : Int) ∧ (nI a2).toInt = ((a2 : Nat) : Int) ∧ (nI a3).toInt = ((a3 : Nat) : Int) := ⟨ha0 (), ha1 (), ha2 (), ha3 ()⟩
theorem nib5 {a0 a1 a2 a3 a4 : Nat} (ha0 : nIT a0) (ha1 : nIT a1) (ha2 : nIT a2) (ha3 : nIT a3) (ha4 : nIT a4) : (nI a0).toInt = ((a0 : Nat) : Int) ∧ (nI a1).toInt = ((a1 : Nat) : Int) ∧ (nI a2).toInt = ((a2 : Nat) : Int) ∧ (nI a3).toInt = ((a3 : Nat) : Int) ∧ (nI a4).toInt = ((a4 : Nat) : Int) := ⟨ha0 (), ha1 (), ha2 (), ha3 (), ha4 ()⟩
theorem nib6 {a0 a1 a2 a3 a4 a5 : Nat} (ha0 : nIT a0) (ha1 : nIT a1) (ha2 : nIT a2) (ha3 : nIT a3) (ha4 : nIT a4) (ha5 : nIT a5) : (nI a0).toInt = ((a0 : Nat) : Int) ∧ (nI a1).toInt = ((a1 : Nat) : Int) ∧ (nI a2).toInt = ((a2 : Nat) : Int) ∧ (nI a3).toInt = ((a3 : Nat) : Int) ∧ (nI a4).toInt = ((a4 : Nat) : Int) ∧ (nI a5).toInt = ((a5 : Nat) : Int) := ⟨ha0 (), ha1 (), ha2 (), ha3 (), ha4 (), ha5 ()⟩
theorem nib7 {a0 a1 a2 a3 a4 a5 a6 : Nat} (ha0 : nIT a0) (ha1 : nIT a1) (ha2 : nIT a2) (ha3 : nIT a3) (ha4 : nIT a4) (ha5 : nIT a5) (ha6 : nIT a6) : (nI a0).toInt = ((a0 : Nat) : Int) ∧ (nI a1).toInt = ((a1 : Nat) : Int) ∧ (nI a2).toInt = ((a2 : Nat) : Int) ∧ (nI a3).toInt = ((a3 : Nat) : Int) ∧ (nI a4).toInt = ((a4 : Nat) : Int) ∧ (nI a5).toInt = ((a5 : Nat) : Int) ∧ (nI a6).toInt = ((a6 : Nat) : Int) := ⟨ha0 (), ha1 (), ha2 (), ha3 (), ha4 (), ha5 (), ha6 ()⟩
theorem nib8 {a0 a1 a2 a3 a4 a5 a6 a7 : Nat} (ha0 : nIT a0) (ha1 : nIT a1) (ha2 : nIT a2) (ha3 : nIT a3) (ha4 : nIT a4) (ha5 : nIT a5) (ha6 : nIT a6) (ha7 : nIT a7) : (nI a0).toInt = ((a0 : Nat) : Int) ∧ (nI a1).toInt = ((a1 : Nat) : Int) ∧ (nI a2).toInt = ((a2 : Nat) : Int) ∧ (nI a3).toInt = ((a3 : Nat) : Int) ∧ (nI a4).toInt = ((a4 : Nat) : Int) ∧ (nI a5).toInt = ((a5 : Nat) : Int) ∧ (nI a6).toInt = ((a6 : Nat) : Int) ∧ (nI a7).toInt = ((a7 : Nat) : Int) := ⟨ha0 (), ha1 (), ha2 (), ha3 (), ha4 (), ha5 (), ha6 (), ha7 ()⟩
theorem nib9 {a0 a1 a2 a3 a4 a5 a6 a7 a8 : Nat} (ha0 : nIT a0) (ha1 : nIT a1) (ha2 : nIT a2) (ha3 : nIT a3) (ha4 : nIT a4) (ha5 : nIT a5) (ha6 : nIT a6) (ha7 : nIT a7) (ha8 : nIT a8) : (nI a0).toInt = ((a0 : Nat) : Int) ∧ (nI a1).toInt = ((a1 : Nat) : Int) ∧ (nI a2).toInt = ((a2 : Nat) : Int) ∧ (nI a3).toInt = ((a3 : Nat) : Int) ∧ (nI a4).toInt = ((a4 : Nat) : Int) ∧ (nI a5).toInt = ((a5 : Nat) : Int) ∧ (nI a6).toInt = ((a6 : Nat) : Int) ∧ (nI a7).toInt = ((a7 : Nat) : Int) ∧ (nI a8).toInt = ((a8 : Nat) : Int) := ⟨ha0 (), ha1 (), ha2 (), ha3 (), ha4 (), ha5 (), ha6 (), ha7 (), ha8 ()⟩
theorem nib10 {a0 a1 a2 a3 a4 a5 a6 a7 a8 a9 : Nat} (ha0 : nIT a0) (ha1 : nIT a1) (ha2 : nIT a2) (ha3 : nIT a3) (ha4 : nIT a4) (ha5 : nIT a5) (ha6 : nIT a6) (ha7 : nIT a7) (ha8 : nIT a8) (ha9 : nIT a9) : (nI a0).toInt = ((a0 : Nat) : Int) ∧ (nI a1).toInt = ((a1 : Nat) : Int) ∧ (nI a2).toInt = ((a2 : Nat) : Int) ∧ (nI a3).toInt = ((a3 : Nat) : Int) ∧ (nI a4).toInt = ((a4 : Nat) : Int) ∧ (nI a5).toInt = ((a5 : Nat) : Int) ∧ (nI a6).toInt = ((a6 : Nat) : Int) ∧ (nI a7).toInt = ((a7 : Nat) : Int) ∧ (nI a8).toInt = ((a8 : Nat) : Int) ∧ (nI a9).toInt = ((a9 : Nat) : Int) := ⟨ha0 (), ha1 (), ha2 (), ha3 (), ha4 (), ha5 (), ha6 (), ha7 (), ha8 (), ha9 ()⟩
theorem nib11 {a0 a1 a2 a3 a4 a5 a6 a7 a8 a9 a10 : Nat} (ha0 : nIT a0) (ha1 : nIT a1) (ha2 : nIT a2) (ha3 : nIT a3) (ha4 : nIT a4) (ha5 : nIT a5) (ha6 : nIT a6) (ha7 : nIT a7) (ha8 : nIT a8) (ha9 : nIT a9) (ha10 : nIT a10) : (nI a0).toInt = ((a0 : Nat) : Int) ∧ (nI a1).toInt = ((a1 : Nat) : Int) ∧ (nI a2).toInt = ((a2 : Nat) : Int) ∧ (nI a3).toInt = ((a3 : Nat) : Int) ∧ (nI a4).toInt = ((a4 : Nat) : Int) ∧ (nI a5).toInt = ((a5 : Nat) : Int) ∧ (nI a6).toInt = ((a6 : Nat) : Int) ∧ (nI a7).toInt = ((a7 : Nat) : Int) ∧ (nI a8).toInt = ((a8 : Nat) : Int) ∧ (nI a9).toInt = ((a9 : Nat) : Int) ∧ (nI a10).toInt = ((a10 : Nat) : Int) := ⟨ha0 (), ha1 (), ha2 (), ha3 (), ha4 (), ha5 (), ha6 (), ha7 (), ha8 (), ha9 (), ha10 ()⟩
theorem nib12 {a0 a1 a2 a3 a4 a5 a6 a7 a8 a9 a10 a11 : Nat} (ha0 : nIT a0) (ha1 : nIT a1) (ha2 : nIT a2) (ha3 : nIT a3) (ha4 : nIT a4) (ha5 : nIT a5) (ha6 : nIT a6) (ha7 : nIT a7) (ha8 : nIT a8) (ha9 : nIT a9) (ha10 : nIT a10) (ha11 : nIT a11) : (nI a0).toInt = ((a0 : Nat) : Int) ∧ (nI a1).toInt = ((a1 : Nat) : Int) ∧ (nI a2).toInt = ((a2 : Nat) : Int) ∧ (nI a3).toInt = ((a3 : Nat) : Int) ∧ (nI a4).toInt = ((a4 : Nat) : Int) ∧ (nI a5).toInt = ((a5 : Nat) : Int) ∧ (nI a6).toInt = ((a6 : Nat) : Int) ∧ (nI a7).toInt = ((a7 : Nat) : Int) ∧ (nI a8).toInt = ((a8 : Nat) : Int) ∧ (nI a9).toInt = ((a9 : Nat) : Int) ∧ (nI a10).toInt = ((a10 : Nat) : Int) ∧ (nI a11).toInt = ((a11 : Nat) : Int) := ⟨ha0 (), ha1 (), ha2 (), ha3 (), ha4 (), ha5 (), ha6 (), ha7 (), ha8 (), ha9 (), ha10 (), ha11 ()⟩
theorem nib13 {a0 a1 a2 a3 a4 a5 a6 a7 a8 a9 a10 a11 a12 : Nat} (ha0 : nIT a0) (ha1 : nIT a1) (ha2 : nIT a2) (ha3 : nIT a3) (ha4 : nIT a4) (ha5 : nIT a5) (ha6 : nIT a6) (ha7 : nIT a7) (ha8 : nIT a8) (ha9 : nIT a9) (ha10 : nIT a10) (ha11 : nIT a11) (ha12 : nIT a12) : (nI a0).toInt = ((a0 : Nat) : Int) ∧ (nI a1).toInt = ((a1 : Nat) : Int) ∧ (nI a2).toInt = ((a2 : Nat) : Int) ∧ (nI a3).toInt = ((a3 : Nat) : Int) ∧ (nI a4).toInt = ((a4 : Nat) : Int) ∧ (nI a5).toInt = ((a5 : Nat) : Int) ∧ (nI a6).toInt = ((a6 : Nat) : Int) ∧ (nI a7).toInt = ((a7 : Nat) : Int) ∧ (nI a8).toInt = ((a8 : Nat) : Int) ∧ (nI a9).toInt = ((a9 : Nat) : Int) ∧ (nI a10).toInt = ((a10 : Nat) : Int) ∧ (nI a11).toInt = ((a11 : Nat) : Int) ∧ (nI a12).toInt = ((a12 : Nat) : Int) := ⟨ha0 (), ha1 (), ha2 (), ha3 (), ha4 (), ha5 (), ha6 (), ha7 (), ha8 (), ha9 (), ha10 (), ha11 (), ha12 ()⟩
