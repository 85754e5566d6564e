/-! ===== where the objects and arrays of the two systems lie ===== -/
def shL : List (Nat × Nat) := [(11, 0), (6, 0), (9, 0), (13, 96), (7, 0), (20, 8), (10, 0), (9, 0), (13, 96), (14, 96), (14, 5), (3, 0), (19, 6), (14, 6), (9, 0), (13, 3), (9, 0), (13, 177), (9, 0), (13, 12), (9, 0), (13, 4), (9, 0), (13, 4), (9, 0), (13, 4), (9, 0), (13, 4), (4, 0), (9, 0), (13, 160), (14, 5), (14, 5), (14, 5), (10, 0), (9, 0), (13, 96), (14, 96), (14, 5), (10, 0), (9, 0), (13, 96), (14, 96), (14, 5), (10, 0), (9, 0), (13, 96), (14, 96), (14, 5), (10, 0), (9, 0), (13, 96), (14, 96), (14, 5), (10, 0), (9, 0), (13, 96), (14, 96), (14, 5), (10, 0), (9, 0), (13, 96), (14, 96), (14, 5), (10, 0), (9, 0), (13, 96), (14, 96), (14, 5), (10, 0), (9, 0), (13, 96), (14, 96), (14, 5), (1, 0), (16, 12), (0, 0), (9, 0), (13, 12), (9, 0), (13, 12), (9, 0), (13, 12), (9, 0), (13, 12), (14, 12), (14, 12), (14, 12), (0, 0), (9, 0), (13, 12), (9, 0), (13, 12), (9, 0), (13, 12), (9, 0), (13, 12), (0, 0), (9, 0), (13, 12), (9, 0), (13, 12), (9, 0), (13, 12), (9, 0), (13, 12), (0, 0), (9, 0), (13, 12), (9, 0), (13, 12), (9, 0), (13, 12), (9, 0), (13, 12), (0, 0), (9, 0), (13, 12), (9, 0), (13, 12), (9, 0), (13, 12), (9, 0), (13, 12), (0, 0), (9, 0), (13, 12), (9, 0), (13, 12), (9, 0), (13, 12), (9, 0), (13, 12), (0, 0), (9, 0), (13, 12), (9, 0), (13, 12), (9, 0), (13, 12), (9, 0), (13, 12), (0, 0), (9, 0), (13, 12), (9, 0), (13, 12), (9, 0), (13, 12), (9, 0), (13, 12), (0, 0), (9, 0), (13, 12), (9, 0), (13, 12), (9, 0), (13, 12), (9, 0), (13, 12), (0, 0), (9, 0), (13, 12), (9, 0), (13, 12), (9, 0), (13, 12), (9, 0), (13, 12), (0, 0), (9, 0), (13, 12), (9, 0), (13, 12), (9, 0), (13, 12), (9, 0), (13, 12), (0, 0), (9, 0), (13, 12), (9, 0), (13, 12), (9, 0), (13, 12), (9, 0), (13, 12), (0, 0), (9, 0), (13, 12), (9, 0), (13, 12), (9, 0), (13, 12), (9, 0), (13, 12), (5, 0), (14, 13), (2, 0), (18, 8), (8, 0), (17, 12), (4, 0), (9, 0), (13, 160), (4, 0), (9, 0), (13, 160), (4, 0), (9, 0), (13, 160), (4, 0), (9, 0), (13, 160), (4, 0), (9, 0), (13, 160), (4, 0), (9, 0), (13, 160), (4, 0), (9, 0), (13, 160), (4, 0), (9, 0), (13, 160), (4, 0), (9, 0), (13, 160), (4, 0), (9, 0), (13, 160), (4, 0), (9, 0), (13, 160), (4, 0), (9, 0), (13, 160), (8, 0), (17, 12), (4, 0), (9, 0), (13, 160), (4, 0), (9, 0), (13, 160), (4, 0), (9, 0), (13, 160), (4, 0), (9, 0), (13, 160), (4, 0), (9, 0), (13, 160), (4, 0), (9, 0), (13, 160), (4, 0), (9, 0), (13, 160), (4, 0), (9, 0), (13, 160), (4, 0), (9, 0), (13, 160), (4, 0), (9, 0), (13, 160), (4, 0), (9, 0), (13, 160), (4, 0), (9, 0), (13, 160), (8, 0), (17, 12), (4, 0), (9, 0), (13, 160), (4, 0), (9, 0), (13, 160), (4, 0), (9, 0), (13, 160), (4, 0), (9, 0), (13, 160), (4, 0), (9, 0), (13, 160), (4, 0), (9, 0), (13, 160), (4, 0), (9, 0), (13, 160), (4, 0), (9, 0), (13, 160), (4, 0), (9, 0), (13, 160), (4, 0), (9, 0), (13, 160), (4, 0), (9, 0), (13, 160), (4, 0), (9, 0), (13, 160), (8, 0), (17, 12), (4, 0), (9, 0), (13, 160), (4, 0), (9, 0), (13, 160), (4, 0), (9, 0), (13, 160), (4, 0), (9, 0), (13, 160), (4, 0), (9, 0), (13, 160), (4, 0), (9, 0), (13, 160), (4, 0), (9, 0), (13, 160), (4, 0), (9, 0), (13, 160), (4, 0), (9, 0), (13, 160), (4, 0), (9, 0), (13, 160), (4, 0), (9, 0), (13, 160), (4, 0), (9, 0), (13, 160), (8, 0), (17, 12), (4, 0), (9, 0), (13, 160), (4, 0), (9, 0), (13, 160), (4, 0), (9, 0), (13, 160), (4, 0), (9, 0), (13, 160), (4, 0), (9, 0), (13, 160), (4, 0), (9, 0), (13, 160), (4, 0), (9, 0), (13, 160), (4, 0), (9, 0), (13, 160), (4, 0), (9, 0), (13, 160), (4, 0), (9, 0), (13, 160), (4, 0), (9, 0), (13, 160), (4, 0), (9, 0), (13, 160), (8, 0), (17, 12), (4, 0), (9, 0), (13, 160), (4, 0), (9, 0), (13, 160), (4, 0), (9, 0), (13, 160), (4, 0), (9, 0), (13, 160), (4, 0), (9, 0), (13, 160), (4, 0), (9, 0), (13, 160), (4, 0), (9, 0), (13, 160), (4, 0), (9, 0), (13, 160), (4, 0), (9, 0), (13, 160), (4, 0), (9, 0), (13, 160), (4, 0), (9, 0), (13, 160), (4, 0), (9, 0), (13, 160), (8, 0), (17, 12), (4, 0), (9, 0), (13, 160), (4, 0), (9, 0), (13, 160), (4, 0), (9, 0), (13, 160), (4, 0), (9, 0), (13, 160), (4, 0), (9, 0), (13, 160), (4, 0), (9, 0), (13, 160), (4, 0), (9, 0), (13, 160), (4, 0), (9, 0), (13, 160), (4, 0), (9, 0), (13, 160), (4, 0), (9, 0), (13, 160), (4, 0), (9, 0), (13, 160), (4, 0), (9, 0), (13, 160), (8, 0), (17, 12), (4, 0), (9, 0), (13, 160), (4, 0), (9, 0), (13, 160), (4, 0), (9, 0), (13, 160), (4, 0), (9, 0), (13, 160), (4, 0), (9, 0), (13, 160), (4, 0), (9, 0), (13, 160), (4, 0), (9, 0), (13, 160), (4, 0), (9, 0), (13, 160), (4, 0), (9, 0), (13, 160), (4, 0), (9, 0), (13, 160), (4, 0), (9, 0), (13, 160), (4, 0), (9, 0), (13, 160), (14, 40), (14, 60), (14, 12), (14, 12), (14, 12), (14, 2)]
def shF (a : Nat) : Nat × Nat := shL.getD a (99, 0)
def Sh : aS := (shF, none)
theorem sh_0 : (Sh.1 0).1 = 11 := by decide +kernel
theorem sh_1 : (Sh.1 1).1 = 6 := by decide +kernel
theorem sh_2 : (Sh.1 2).1 = 9 := by decide +kernel
theorem sh_3 : Sh.1 3 = (13, 96) := by decide +kernel
theorem sh_4 : (Sh.1 4).1 = 7 := by decide +kernel
theorem sh_5 : Sh.1 5 = (20, 8) := by decide +kernel
theorem sh_6 : (Sh.1 6).1 = 10 := by decide +kernel
theorem sh_7 : (Sh.1 7).1 = 9 := by decide +kernel
theorem sh_8 : Sh.1 8 = (13, 96) := by decide +kernel
theorem sh_9 : Sh.1 9 = (14, 96) := by decide +kernel
theorem sh_10 : Sh.1 10 = (14, 5) := by decide +kernel
theorem sh_11 : (Sh.1 11).1 = 3 := by decide +kernel
theorem sh_12 : Sh.1 12 = (19, 6) := by decide +kernel
theorem sh_13 : Sh.1 13 = (14, 6) := by decide +kernel
theorem sh_14 : (Sh.1 14).1 = 9 := by decide +kernel
theorem sh_15 : Sh.1 15 = (13, 3) := by decide +kernel
theorem sh_16 : (Sh.1 16).1 = 9 := by decide +kernel
theorem sh_17 : Sh.1 17 = (13, 177) := by decide +kernel
theorem sh_18 : (Sh.1 18).1 = 9 := by decide +kernel
theorem sh_19 : Sh.1 19 = (13, 12) := by decide +kernel
theorem sh_20 : (Sh.1 20).1 = 9 := by decide +kernel
theorem sh_21 : Sh.1 21 = (13, 4) := by decide +kernel
theorem sh_22 : (Sh.1 22).1 = 9 := by decide +kernel
theorem sh_23 : Sh.1 23 = (13, 4) := by decide +kernel
theorem sh_24 : (Sh.1 24).1 = 9 := by decide +kernel
theorem sh_25 : Sh.1 25 = (13, 4) := by decide +kernel
theorem sh_26 : (Sh.1 26).1 = 9 := by decide +kernel
theorem sh_27 : Sh.1 27 = (13, 4) := by decide +kernel
theorem sh_28 : (Sh.1 28).1 = 4 := by decide +kernel
theorem sh_29 : (Sh.1 29).1 = 9 := by decide +kernel
theorem sh_30 : Sh.1 30 = (13, 160) := by decide +kernel
theorem sh_31 : Sh.1 31 = (14, 5) := by decide +kernel
theorem sh_32 : Sh.1 32 = (14, 5) := by decide +kernel
theorem sh_33 : Sh.1 33 = (14, 5) := by decide +kernel
theorem sh_34 : (Sh.1 34).1 = 10 := by decide +kernel
theorem sh_35 : (Sh.1 35).1 = 9 := by decide +kernel
theorem sh_36 : Sh.1 36 = (13, 96) := by decide +kernel
theorem sh_37 : Sh.1 37 = (14, 96) := by decide +kernel
theorem sh_38 : Sh.1 38 = (14, 5) := by decide +kernel
theorem sh_39 : (Sh.1 39).1 = 10 := by decide +kernel
theorem sh_40 : (Sh.1 40).1 = 9 := by decide +kernel
theorem sh_41 : Sh.1 41 = (13, 96) := by decide +kernel
theorem sh_42 : Sh.1 42 = (14, 96) := by decide +kernel
theorem sh_43 : Sh.1 43 = (14, 5) := by decide +kernel
theorem sh_44 : (Sh.1 44).1 = 10 := by decide +kernel
theorem sh_45 : (Sh.1 45).1 = 9 := by decide +kernel
theorem sh_46 : Sh.1 46 = (13, 96) := by decide +kernel
theorem sh_47 : Sh.1 47 = (14, 96) := by decide +kernel
theorem sh_48 : Sh.1 48 = (14, 5) := by decide +kernel
theorem sh_49 : (Sh.1 49).1 = 10 := by decide +kernel
theorem sh_50 : (Sh.1 50).1 = 9 := by decide +kernel
theorem sh_51 : Sh.1 51 = (13, 96) := by decide +kernel
theorem sh_52 : Sh.1 52 = (14, 96) := by decide +kernel
theorem sh_53 : Sh.1 53 = (14, 5) := by decide +kernel
theorem sh_54 : (Sh.1 54).1 = 10 := by decide +kernel
theorem sh_55 : (Sh.1 55).1 = 9 := by decide +kernel
theorem sh_56 : Sh.1 56 = (13, 96) := by decide +kernel
theorem sh_57 : Sh.1 57 = (14, 96) := by decide +kernel
theorem sh_58 : Sh.1 58 = (14, 5) := by decide +kernel
theorem sh_59 : (Sh.1 59).1 = 10 := by decide +kernel
theorem sh_60 : (Sh.1 60).1 = 9 := by decide +kernel
theorem sh_61 : Sh.1 61 = (13, 96) := by decide +kernel
theorem sh_62 : Sh.1 62 = (14, 96) := by decide +kernel
theorem sh_63 : Sh.1 63 = (14, 5) := by decide +kernel
theorem sh_64 : (Sh.1 64).1 = 10 := by decide +kernel
theorem sh_65 : (Sh.1 65).1 = 9 := by decide +kernel
theorem sh_66 : Sh.1 66 = (13, 96) := by decide +kernel
theorem sh_67 : Sh.1 67 = (14, 96) := by decide +kernel
theorem sh_68 : Sh.1 68 = (14, 5) := by decide +kernel
theorem sh_69 : (Sh.1 69).1 = 10 := by decide +kernel
theorem sh_70 : (Sh.1 70).1 = 9 := by decide +kernel
theorem sh_71 : Sh.1 71 = (13, 96) := by decide +kernel
theorem sh_72 : Sh.1 72 = (14, 96) := by decide +kernel
theorem sh_73 : Sh.1 73 = (14, 5) := by decide +kernel
theorem sh_74 : (Sh.1 74).1 = 1 := by decide +kernel
theorem sh_75 : Sh.1 75 = (16, 12) := by decide +kernel
theorem sh_76 : (Sh.1 76).1 = 0 := by decide +kernel
theorem sh_77 : (Sh.1 77).1 = 9 := by decide +kernel
theorem sh_78 : Sh.1 78 = (13, 12) := by decide +kernel
theorem sh_79 : (Sh.1 79).1 = 9 := by decide +kernel
theorem sh_80 : Sh.1 80 = (13, 12) := by decide +kernel
theorem sh_81 : (Sh.1 81).1 = 9 := by decide +kernel
theorem sh_82 : Sh.1 82 = (13, 12) := by decide +kernel
theorem sh_83 : (Sh.1 83).1 = 9 := by decide +kernel
theorem sh_84 : Sh.1 84 = (13, 12) := by decide +kernel
theorem sh_85 : Sh.1 85 = (14, 12) := by decide +kernel
theorem sh_86 : Sh.1 86 = (14, 12) := by decide +kernel
theorem sh_87 : Sh.1 87 = (14, 12) := by decide +kernel
theorem sh_88 : (Sh.1 88).1 = 0 := by decide +kernel
theorem sh_89 : (Sh.1 89).1 = 9 := by decide +kernel
theorem sh_90 : Sh.1 90 = (13, 12) := by decide +kernel
theorem sh_91 : (Sh.1 91).1 = 9 := by decide +kernel
theorem sh_92 : Sh.1 92 = (13, 12) := by decide +kernel
theorem sh_93 : (Sh.1 93).1 = 9 := by decide +kernel
theorem sh_94 : Sh.1 94 = (13, 12) := by decide +kernel
theorem sh_95 : (Sh.1 95).1 = 9 := by decide +kernel
theorem sh_96 : Sh.1 96 = (13, 12) := by decide +kernel
theorem sh_97 : (Sh.1 97).1 = 0 := by decide +kernel
theorem sh_98 : (Sh.1 98).1 = 9 := by decide +kernel
theorem sh_99 : Sh.1 99 = (13, 12) := by decide +kernel
theorem sh_100 : (Sh.1 100).1 = 9 := by decide +kernel
theorem sh_101 : Sh.1 101 = (13, 12) := by decide +kernel
theorem sh_102 : (Sh.1 102).1 = 9 := by decide +kernel
theorem sh_103 : Sh.1 103 = (13, 12) := by decide +kernel
theorem sh_104 : (Sh.1 104).1 = 9 := by decide +kernel
theorem sh_105 : Sh.1 105 = (13, 12) := by decide +kernel
theorem sh_106 : (Sh.1 106).1 = 0 := by decide +kernel
theorem sh_107 : (Sh.1 107).1 = 9 := by decide +kernel
theorem sh_108 : Sh.1 108 = (13, 12) := by decide +kernel
theorem sh_109 : (Sh.1 109).1 = 9 := by decide +kernel
theorem sh_110 : Sh.1 110 = (13, 12) := by decide +kernel
theorem sh_111 : (Sh.1 111).1 = 9 := by decide +kernel
theorem sh_112 : Sh.1 112 = (13, 12) := by decide +kernel
theorem sh_113 : (Sh.1 113).1 = 9 := by decide +kernel
theorem sh_114 : Sh.1 114 = (13, 12) := by decide +kernel
theorem sh_115 : (Sh.1 115).1 = 0 := by decide +kernel
theorem sh_116 : (Sh.1 116).1 = 9 := by decide +kernel
theorem sh_117 : Sh.1 117 = (13, 12) := by decide +kernel
theorem sh_118 : (Sh.1 118).1 = 9 := by decide +kernel
theorem sh_119 : Sh.1 119 = (13, 12) := by decide +kernel
theorem sh_120 : (Sh.1 120).1 = 9 := by decide +kernel
theorem sh_121 : Sh.1 121 = (13, 12) := by decide +kernel
theorem sh_122 : (Sh.1 122).1 = 9 := by decide +kernel
theorem sh_123 : Sh.1 123 = (13, 12) := by decide +kernel
theorem sh_124 : (Sh.1 124).1 = 0 := by decide +kernel
theorem sh_125 : (Sh.1 125).1 = 9 := by decide +kernel
theorem sh_126 : Sh.1 126 = (13, 12) := by decide +kernel
theorem sh_127 : (Sh.1 127).1 = 9 := by decide +kernel
theorem sh_128 : Sh.1 128 = (13, 12) := by decide +kernel
theorem sh_129 : (Sh.1 129).1 = 9 := by decide +kernel
theorem sh_130 : Sh.1 130 = (13, 12) := by decide +kernel
theorem sh_131 : (Sh.1 131).1 = 9 := by decide +kernel
theorem sh_132 : Sh.1 132 = (13, 12) := by decide +kernel
theorem sh_133 : (Sh.1 133).1 = 0 := by decide +kernel
theorem sh_134 : (Sh.1 134).1 = 9 := by decide +kernel
theorem sh_135 : Sh.1 135 = (13, 12) := by decide +kernel
theorem sh_136 : (Sh.1 136).1 = 9 := by decide +kernel
theorem sh_137 : Sh.1 137 = (13, 12) := by decide +kernel
theorem sh_138 : (Sh.1 138).1 = 9 := by decide +kernel
theorem sh_139 : Sh.1 139 = (13, 12) := by decide +kernel
theorem sh_140 : (Sh.1 140).1 = 9 := by decide +kernel
theorem sh_141 : Sh.1 141 = (13, 12) := by decide +kernel
theorem sh_142 : (Sh.1 142).1 = 0 := by decide +kernel
theorem sh_143 : (Sh.1 143).1 = 9 := by decide +kernel
theorem sh_144 : Sh.1 144 = (13, 12) := by decide +kernel
theorem sh_145 : (Sh.1 145).1 = 9 := by decide +kernel
theorem sh_146 : Sh.1 146 = (13, 12) := by decide +kernel
theorem sh_147 : (Sh.1 147).1 = 9 := by decide +kernel
theorem sh_148 : Sh.1 148 = (13, 12) := by decide +kernel
theorem sh_149 : (Sh.1 149).1 = 9 := by decide +kernel
theorem sh_150 : Sh.1 150 = (13, 12) := by decide +kernel
theorem sh_151 : (Sh.1 151).1 = 0 := by decide +kernel
theorem sh_152 : (Sh.1 152).1 = 9 := by decide +kernel
theorem sh_153 : Sh.1 153 = (13, 12) := by decide +kernel
theorem sh_154 : (Sh.1 154).1 = 9 := by decide +kernel
theorem sh_155 : Sh.1 155 = (13, 12) := by decide +kernel
theorem sh_156 : (Sh.1 156).1 = 9 := by decide +kernel
theorem sh_157 : Sh.1 157 = (13, 12) := by decide +kernel
theorem sh_158 : (Sh.1 158).1 = 9 := by decide +kernel
theorem sh_159 : Sh.1 159 = (13, 12) := by decide +kernel
theorem sh_160 : (Sh.1 160).1 = 0 := by decide +kernel
theorem sh_161 : (Sh.1 161).1 = 9 := by decide +kernel
theorem sh_162 : Sh.1 162 = (13, 12) := by decide +kernel
theorem sh_163 : (Sh.1 163).1 = 9 := by decide +kernel
theorem sh_164 : Sh.1 164 = (13, 12) := by decide +kernel
theorem sh_165 : (Sh.1 165).1 = 9 := by decide +kernel
theorem sh_166 : Sh.1 166 = (13, 12) := by decide +kernel
theorem sh_167 : (Sh.1 167).1 = 9 := by decide +kernel
theorem sh_168 : Sh.1 168 = (13, 12) := by decide +kernel
theorem sh_169 : (Sh.1 169).1 = 0 := by decide +kernel
theorem sh_170 : (Sh.1 170).1 = 9 := by decide +kernel
theorem sh_171 : Sh.1 171 = (13, 12) := by decide +kernel
theorem sh_172 : (Sh.1 172).1 = 9 := by decide +kernel
theorem sh_173 : Sh.1 173 = (13, 12) := by decide +kernel
theorem sh_174 : (Sh.1 174).1 = 9 := by decide +kernel
theorem sh_175 : Sh.1 175 = (13, 12) := by decide +kernel
theorem sh_176 : (Sh.1 176).1 = 9 := by decide +kernel
theorem sh_177 : Sh.1 177 = (13, 12) := by decide +kernel
theorem sh_178 : (Sh.1 178).1 = 0 := by decide +kernel
theorem sh_179 : (Sh.1 179).1 = 9 := by decide +kernel
theorem sh_180 : Sh.1 180 = (13, 12) := by decide +kernel
theorem sh_181 : (Sh.1 181).1 = 9 := by decide +kernel
theorem sh_182 : Sh.1 182 = (13, 12) := by decide +kernel
theorem sh_183 : (Sh.1 183).1 = 9 := by decide +kernel
theorem sh_184 : Sh.1 184 = (13, 12) := by decide +kernel
theorem sh_185 : (Sh.1 185).1 = 9 := by decide +kernel
theorem sh_186 : Sh.1 186 = (13, 12) := by decide +kernel
theorem sh_187 : (Sh.1 187).1 = 0 := by decide +kernel
theorem sh_188 : (Sh.1 188).1 = 9 := by decide +kernel
theorem sh_189 : Sh.1 189 = (13, 12) := by decide +kernel
theorem sh_190 : (Sh.1 190).1 = 9 := by decide +kernel
theorem sh_191 : Sh.1 191 = (13, 12) := by decide +kernel
theorem sh_192 : (Sh.1 192).1 = 9 := by decide +kernel
theorem sh_193 : Sh.1 193 = (13, 12) := by decide +kernel
theorem sh_194 : (Sh.1 194).1 = 9 := by decide +kernel
theorem sh_195 : Sh.1 195 = (13, 12) := by decide +kernel
theorem sh_196 : (Sh.1 196).1 = 5 := by decide +kernel
theorem sh_197 : Sh.1 197 = (14, 13) := by decide +kernel
theorem sh_198 : (Sh.1 198).1 = 2 := by decide +kernel
theorem sh_199 : Sh.1 199 = (18, 8) := by decide +kernel
theorem sh_200 : (Sh.1 200).1 = 8 := by decide +kernel
theorem sh_201 : Sh.1 201 = (17, 12) := by decide +kernel
theorem sh_202 : (Sh.1 202).1 = 4 := by decide +kernel
theorem sh_203 : (Sh.1 203).1 = 9 := by decide +kernel
theorem sh_204 : Sh.1 204 = (13, 160) := by decide +kernel
theorem sh_205 : (Sh.1 205).1 = 4 := by decide +kernel
theorem sh_206 : (Sh.1 206).1 = 9 := by decide +kernel
theorem sh_207 : Sh.1 207 = (13, 160) := by decide +kernel
theorem sh_208 : (Sh.1 208).1 = 4 := by decide +kernel
theorem sh_209 : (Sh.1 209).1 = 9 := by decide +kernel
theorem sh_210 : Sh.1 210 = (13, 160) := by decide +kernel
theorem sh_211 : (Sh.1 211).1 = 4 := by decide +kernel
theorem sh_212 : (Sh.1 212).1 = 9 := by decide +kernel
theorem sh_213 : Sh.1 213 = (13, 160) := by decide +kernel
theorem sh_214 : (Sh.1 214).1 = 4 := by decide +kernel
theorem sh_215 : (Sh.1 215).1 = 9 := by decide +kernel
theorem sh_216 : Sh.1 216 = (13, 160) := by decide +kernel
theorem sh_217 : (Sh.1 217).1 = 4 := by decide +kernel
theorem sh_218 : (Sh.1 218).1 = 9 := by decide +kernel
theorem sh_219 : Sh.1 219 = (13, 160) := by decide +kernel
theorem sh_220 : (Sh.1 220).1 = 4 := by decide +kernel
theorem sh_221 : (Sh.1 221).1 = 9 := by decide +kernel
theorem sh_222 : Sh.1 222 = (13, 160) := by decide +kernel
theorem sh_223 : (Sh.1 223).1 = 4 := by decide +kernel
theorem sh_224 : (Sh.1 224).1 = 9 := by decide +kernel
theorem sh_225 : Sh.1 225 = (13, 160) := by decide +kernel
theorem sh_226 : (Sh.1 226).1 = 4 := by decide +kernel
theorem sh_227 : (Sh.1 227).1 = 9 := by decide +kernel
theorem sh_228 : Sh.1 228 = (13, 160) := by decide +kernel
theorem sh_229 : (Sh.1 229).1 = 4 := by decide +kernel
theorem sh_230 : (Sh.1 230).1 = 9 := by decide +kernel
theorem sh_231 : Sh.1 231 = (13, 160) := by decide +kernel
theorem sh_232 : (Sh.1 232).1 = 4 := by decide +kernel
theorem sh_233 : (Sh.1 233).1 = 9 := by decide +kernel
theorem sh_234 : Sh.1 234 = (13, 160) := by decide +kernel
theorem sh_235 : (Sh.1 235).1 = 4 := by decide +kernel
theorem sh_236 : (Sh.1 236).1 = 9 := by decide +kernel
theorem sh_237 : Sh.1 237 = (13, 160) := by decide +kernel
theorem sh_238 : (Sh.1 238).1 = 8 := by decide +kernel
theorem sh_239 : Sh.1 239 = (17, 12) := by decide +kernel
theorem sh_240 : (Sh.1 240).1 = 4 := by decide +kernel
theorem sh_241 : (Sh.1 241).1 = 9 := by decide +kernel
theorem sh_242 : Sh.1 242 = (13, 160) := by decide +kernel
theorem sh_243 : (Sh.1 243).1 = 4 := by decide +kernel
theorem sh_244 : (Sh.1 244).1 = 9 := by decide +kernel
theorem sh_245 : Sh.1 245 = (13, 160) := by decide +kernel
theorem sh_246 : (Sh.1 246).1 = 4 := by decide +kernel
theorem sh_247 : (Sh.1 247).1 = 9 := by decide +kernel
theorem sh_248 : Sh.1 248 = (13, 160) := by decide +kernel
theorem sh_249 : (Sh.1 249).1 = 4 := by decide +kernel
theorem sh_250 : (Sh.1 250).1 = 9 := by decide +kernel
theorem sh_251 : Sh.1 251 = (13, 160) := by decide +kernel
theorem sh_252 : (Sh.1 252).1 = 4 := by decide +kernel
theorem sh_253 : (Sh.1 253).1 = 9 := by decide +kernel
theorem sh_254 : Sh.1 254 = (13, 160) := by decide +kernel
theorem sh_255 : (Sh.1 255).1 = 4 := by decide +kernel
theorem sh_256 : (Sh.1 256).1 = 9 := by decide +kernel
theorem sh_257 : Sh.1 257 = (13, 160) := by decide +kernel
theorem sh_258 : (Sh.1 258).1 = 4 := by decide +kernel
theorem sh_259 : (Sh.1 259).1 = 9 := by decide +kernel
theorem sh_260 : Sh.1 260 = (13, 160) := by decide +kernel
theorem sh_261 : (Sh.1 261).1 = 4 := by decide +kernel
theorem sh_262 : (Sh.1 262).1 = 9 := by decide +kernel
theorem sh_263 : Sh.1 263 = (13, 160) := by decide +kernel
theorem sh_264 : (Sh.1 264).1 = 4 := by decide +kernel
theorem sh_265 : (Sh.1 265).1 = 9 := by decide +kernel
theorem sh_266 : Sh.1 266 = (13, 160) := by decide +kernel
theorem sh_267 : (Sh.1 267).1 = 4 := by decide +kernel
theorem sh_268 : (Sh.1 268).1 = 9 := by decide +kernel
theorem sh_269 : Sh.1 269 = (13, 160) := by decide +kernel
theorem sh_270 : (Sh.1 270).1 = 4 := by decide +kernel
theorem sh_271 : (Sh.1 271).1 = 9 := by decide +kernel
theorem sh_272 : Sh.1 272 = (13, 160) := by decide +kernel
theorem sh_273 : (Sh.1 273).1 = 4 := by decide +kernel
theorem sh_274 : (Sh.1 274).1 = 9 := by decide +kernel
theorem sh_275 : Sh.1 275 = (13, 160) := by decide +kernel
theorem sh_276 : (Sh.1 276).1 = 8 := by decide +kernel
theorem sh_277 : Sh.1 277 = (17, 12) := by decide +kernel
theorem sh_278 : (Sh.1 278).1 = 4 := by decide +kernel
theorem sh_279 : (Sh.1 279).1 = 9 := by decide +kernel
theorem sh_280 : Sh.1 280 = (13, 160) := by decide +kernel
theorem sh_281 : (Sh.1 281).1 = 4 := by decide +kernel
theorem sh_282 : (Sh.1 282).1 = 9 := by decide +kernel
theorem sh_283 : Sh.1 283 = (13, 160) := by decide +kernel
theorem sh_284 : (Sh.1 284).1 = 4 := by decide +kernel
theorem sh_285 : (Sh.1 285).1 = 9 := by decide +kernel
theorem sh_286 : Sh.1 286 = (13, 160) := by decide +kernel
theorem sh_287 : (Sh.1 287).1 = 4 := by decide +kernel
theorem sh_288 : (Sh.1 288).1 = 9 := by decide +kernel
theorem sh_289 : Sh.1 289 = (13, 160) := by decide +kernel
theorem sh_290 : (Sh.1 290).1 = 4 := by decide +kernel
theorem sh_291 : (Sh.1 291).1 = 9 := by decide +kernel
theorem sh_292 : Sh.1 292 = (13, 160) := by decide +kernel
theorem sh_293 : (Sh.1 293).1 = 4 := by decide +kernel
theorem sh_294 : (Sh.1 294).1 = 9 := by decide +kernel
theorem sh_295 : Sh.1 295 = (13, 160) := by decide +kernel
theorem sh_296 : (Sh.1 296).1 = 4 := by decide +kernel
theorem sh_297 : (Sh.1 297).1 = 9 := by decide +kernel
theorem sh_298 : Sh.1 298 = (13, 160) := by decide +kernel
theorem sh_299 : (Sh.1 299).1 = 4 := by decide +kernel
theorem sh_300 : (Sh.1 300).1 = 9 := by decide +kernel
theorem sh_301 : Sh.1 301 = (13, 160) := by decide +kernel
theorem sh_302 : (Sh.1 302).1 = 4 := by decide +kernel
theorem sh_303 : (Sh.1 303).1 = 9 := by decide +kernel
theorem sh_304 : Sh.1 304 = (13, 160) := by decide +kernel
theorem sh_305 : (Sh.1 305).1 = 4 := by decide +kernel
theorem sh_306 : (Sh.1 306).1 = 9 := by decide +kernel
theorem sh_307 : Sh.1 307 = (13, 160) := by decide +kernel
theorem sh_308 : (Sh.1 308).1 = 4 := by decide +kernel
theorem sh_309 : (Sh.1 309).1 = 9 := by decide +kernel
theorem sh_310 : Sh.1 310 = (13, 160) := by decide +kernel
theorem sh_311 : (Sh.1 311).1 = 4 := by decide +kernel
theorem sh_312 : (Sh.1 312).1 = 9 := by decide +kernel
theorem sh_313 : Sh.1 313 = (13, 160) := by decide +kernel
theorem sh_314 : (Sh.1 314).1 = 8 := by decide +kernel
theorem sh_315 : Sh.1 315 = (17, 12) := by decide +kernel
theorem sh_316 : (Sh.1 316).1 = 4 := by decide +kernel
theorem sh_317 : (Sh.1 317).1 = 9 := by decide +kernel
theorem sh_318 : Sh.1 318 = (13, 160) := by decide +kernel
theorem sh_319 : (Sh.1 319).1 = 4 := by decide +kernel
theorem sh_320 : (Sh.1 320).1 = 9 := by decide +kernel
theorem sh_321 : Sh.1 321 = (13, 160) := by decide +kernel
theorem sh_322 : (Sh.1 322).1 = 4 := by decide +kernel
theorem sh_323 : (Sh.1 323).1 = 9 := by decide +kernel
theorem sh_324 : Sh.1 324 = (13, 160) := by decide +kernel
theorem sh_325 : (Sh.1 325).1 = 4 := by decide +kernel
theorem sh_326 : (Sh.1 326).1 = 9 := by decide +kernel
theorem sh_327 : Sh.1 327 = (13, 160) := by decide +kernel
theorem sh_328 : (Sh.1 328).1 = 4 := by decide +kernel
theorem sh_329 : (Sh.1 329).1 = 9 := by decide +kernel
theorem sh_330 : Sh.1 330 = (13, 160) := by decide +kernel
theorem sh_331 : (Sh.1 331).1 = 4 := by decide +kernel
theorem sh_332 : (Sh.1 332).1 = 9 := by decide +kernel
theorem sh_333 : Sh.1 333 = (13, 160) := by decide +kernel
theorem sh_334 : (Sh.1 334).1 = 4 := by decide +kernel
theorem sh_335 : (Sh.1 335).1 = 9 := by decide +kernel
theorem sh_336 : Sh.1 336 = (13, 160) := by decide +kernel
theorem sh_337 : (Sh.1 337).1 = 4 := by decide +kernel
theorem sh_338 : (Sh.1 338).1 = 9 := by decide +kernel
theorem sh_339 : Sh.1 339 = (13, 160) := by decide +kernel
theorem sh_340 : (Sh.1 340).1 = 4 := by decide +kernel
theorem sh_341 : (Sh.1 341).1 = 9 := by decide +kernel
theorem sh_342 : Sh.1 342 = (13, 160) := by decide +kernel
theorem sh_343 : (Sh.1 343).1 = 4 := by decide +kernel
theorem sh_344 : (Sh.1 344).1 = 9 := by decide +kernel
theorem sh_345 : Sh.1 345 = (13, 160) := by decide +kernel
theorem sh_346 : (Sh.1 346).1 = 4 := by decide +kernel
theorem sh_347 : (Sh.1 347).1 = 9 := by decide +kernel
theorem sh_348 : Sh.1 348 = (13, 160) := by decide +kernel
theorem sh_349 : (Sh.1 349).1 = 4 := by decide +kernel
theorem sh_350 : (Sh.1 350).1 = 9 := by decide +kernel
theorem sh_351 : Sh.1 351 = (13, 160) := by decide +kernel
theorem sh_352 : (Sh.1 352).1 = 8 := by decide +kernel
theorem sh_353 : Sh.1 353 = (17, 12) := by decide +kernel
theorem sh_354 : (Sh.1 354).1 = 4 := by decide +kernel
theorem sh_355 : (Sh.1 355).1 = 9 := by decide +kernel
theorem sh_356 : Sh.1 356 = (13, 160) := by decide +kernel
theorem sh_357 : (Sh.1 357).1 = 4 := by decide +kernel
theorem sh_358 : (Sh.1 358).1 = 9 := by decide +kernel
theorem sh_359 : Sh.1 359 = (13, 160) := by decide +kernel
theorem sh_360 : (Sh.1 360).1 = 4 := by decide +kernel
theorem sh_361 : (Sh.1 361).1 = 9 := by decide +kernel
theorem sh_362 : Sh.1 362 = (13, 160) := by decide +kernel
theorem sh_363 : (Sh.1 363).1 = 4 := by decide +kernel
theorem sh_364 : (Sh.1 364).1 = 9 := by decide +kernel
theorem sh_365 : Sh.1 365 = (13, 160) := by decide +kernel
theorem sh_366 : (Sh.1 366).1 = 4 := by decide +kernel
theorem sh_367 : (Sh.1 367).1 = 9 := by decide +kernel
theorem sh_368 : Sh.1 368 = (13, 160) := by decide +kernel
theorem sh_369 : (Sh.1 369).1 = 4 := by decide +kernel
theorem sh_370 : (Sh.1 370).1 = 9 := by decide +kernel
theorem sh_371 : Sh.1 371 = (13, 160) := by decide +kernel
theorem sh_372 : (Sh.1 372).1 = 4 := by decide +kernel
theorem sh_373 : (Sh.1 373).1 = 9 := by decide +kernel
theorem sh_374 : Sh.1 374 = (13, 160) := by decide +kernel
theorem sh_375 : (Sh.1 375).1 = 4 := by decide +kernel
theorem sh_376 : (Sh.1 376).1 = 9 := by decide +kernel
theorem sh_377 : Sh.1 377 = (13, 160) := by decide +kernel
theorem sh_378 : (Sh.1 378).1 = 4 := by decide +kernel
theorem sh_379 : (Sh.1 379).1 = 9 := by decide +kernel
theorem sh_380 : Sh.1 380 = (13, 160) := by decide +kernel
theorem sh_381 : (Sh.1 381).1 = 4 := by decide +kernel
theorem sh_382 : (Sh.1 382).1 = 9 := by decide +kernel
theorem sh_383 : Sh.1 383 = (13, 160) := by decide +kernel
theorem sh_384 : (Sh.1 384).1 = 4 := by decide +kernel
theorem sh_385 : (Sh.1 385).1 = 9 := by decide +kernel
theorem sh_386 : Sh.1 386 = (13, 160) := by decide +kernel
theorem sh_387 : (Sh.1 387).1 = 4 := by decide +kernel
theorem sh_388 : (Sh.1 388).1 = 9 := by decide +kernel
theorem sh_389 : Sh.1 389 = (13, 160) := by decide +kernel
theorem sh_390 : (Sh.1 390).1 = 8 := by decide +kernel
theorem sh_391 : Sh.1 391 = (17, 12) := by decide +kernel
theorem sh_392 : (Sh.1 392).1 = 4 := by decide +kernel
theorem sh_393 : (Sh.1 393).1 = 9 := by decide +kernel
theorem sh_394 : Sh.1 394 = (13, 160) := by decide +kernel
theorem sh_395 : (Sh.1 395).1 = 4 := by decide +kernel
theorem sh_396 : (Sh.1 396).1 = 9 := by decide +kernel
theorem sh_397 : Sh.1 397 = (13, 160) := by decide +kernel
theorem sh_398 : (Sh.1 398).1 = 4 := by decide +kernel
theorem sh_399 : (Sh.1 399).1 = 9 := by decide +kernel
theorem sh_400 : Sh.1 400 = (13, 160) := by decide +kernel
theorem sh_401 : (Sh.1 401).1 = 4 := by decide +kernel
theorem sh_402 : (Sh.1 402).1 = 9 := by decide +kernel
theorem sh_403 : Sh.1 403 = (13, 160) := by decide +kernel
theorem sh_404 : (Sh.1 404).1 = 4 := by decide +kernel
theorem sh_405 : (Sh.1 405).1 = 9 := by decide +kernel
theorem sh_406 : Sh.1 406 = (13, 160) := by decide +kernel
theorem sh_407 : (Sh.1 407).1 = 4 := by decide +kernel
theorem sh_408 : (Sh.1 408).1 = 9 := by decide +kernel
theorem sh_409 : Sh.1 409 = (13, 160) := by decide +kernel
theorem sh_410 : (Sh.1 410).1 = 4 := by decide +kernel
theorem sh_411 : (Sh.1 411).1 = 9 := by decide +kernel
theorem sh_412 : Sh.1 412 = (13, 160) := by decide +kernel
theorem sh_413 : (Sh.1 413).1 = 4 := by decide +kernel
theorem sh_414 : (Sh.1 414).1 = 9 := by decide +kernel
theorem sh_415 : Sh.1 415 = (13, 160) := by decide +kernel
theorem sh_416 : (Sh.1 416).1 = 4 := by decide +kernel
theorem sh_417 : (Sh.1 417).1 = 9 := by decide +kernel
theorem sh_418 : Sh.1 418 = (13, 160) := by decide +kernel
theorem sh_419 : (Sh.1 419).1 = 4 := by decide +kernel
theorem sh_420 : (Sh.1 420).1 = 9 := by decide +kernel
theorem sh_421 : Sh.1 421 = (13, 160) := by decide +kernel
theorem sh_422 : (Sh.1 422).1 = 4 := by decide +kernel
theorem sh_423 : (Sh.1 423).1 = 9 := by decide +kernel
theorem sh_424 : Sh.1 424 = (13, 160) := by decide +kernel
theorem sh_425 : (Sh.1 425).1 = 4 := by decide +kernel
theorem sh_426 : (Sh.1 426).1 = 9 := by decide +kernel
theorem sh_427 : Sh.1 427 = (13, 160) := by decide +kernel
theorem sh_428 : (Sh.1 428).1 = 8 := by decide +kernel
theorem sh_429 : Sh.1 429 = (17, 12) := by decide +kernel
theorem sh_430 : (Sh.1 430).1 = 4 := by decide +kernel
theorem sh_431 : (Sh.1 431).1 = 9 := by decide +kernel
theorem sh_432 : Sh.1 432 = (13, 160) := by decide +kernel
theorem sh_433 : (Sh.1 433).1 = 4 := by decide +kernel
theorem sh_434 : (Sh.1 434).1 = 9 := by decide +kernel
theorem sh_435 : Sh.1 435 = (13, 160) := by decide +kernel
theorem sh_436 : (Sh.1 436).1 = 4 := by decide +kernel
theorem sh_437 : (Sh.1 437).1 = 9 := by decide +kernel
theorem sh_438 : Sh.1 438 = (13, 160) := by decide +kernel
theorem sh_439 : (Sh.1 439).1 = 4 := by decide +kernel
theorem sh_440 : (Sh.1 440).1 = 9 := by decide +kernel
theorem sh_441 : Sh.1 441 = (13, 160) := by decide +kernel
theorem sh_442 : (Sh.1 442).1 = 4 := by decide +kernel
theorem sh_443 : (Sh.1 443).1 = 9 := by decide +kernel
theorem sh_444 : Sh.1 444 = (13, 160) := by decide +kernel
theorem sh_445 : (Sh.1 445).1 = 4 := by decide +kernel
theorem sh_446 : (Sh.1 446).1 = 9 := by decide +kernel
theorem sh_447 : Sh.1 447 = (13, 160) := by decide +kernel
theorem sh_448 : (Sh.1 448).1 = 4 := by decide +kernel
theorem sh_449 : (Sh.1 449).1 = 9 := by decide +kernel
theorem sh_450 : Sh.1 450 = (13, 160) := by decide +kernel
theorem sh_451 : (Sh.1 451).1 = 4 := by decide +kernel
theorem sh_452 : (Sh.1 452).1 = 9 := by decide +kernel
theorem sh_453 : Sh.1 453 = (13, 160) := by decide +kernel
theorem sh_454 : (Sh.1 454).1 = 4 := by decide +kernel
theorem sh_455 : (Sh.1 455).1 = 9 := by decide +kernel
theorem sh_456 : Sh.1 456 = (13, 160) := by decide +kernel
theorem sh_457 : (Sh.1 457).1 = 4 := by decide +kernel
theorem sh_458 : (Sh.1 458).1 = 9 := by decide +kernel
theorem sh_459 : Sh.1 459 = (13, 160) := by decide +kernel
theorem sh_460 : (Sh.1 460).1 = 4 := by decide +kernel
theorem sh_461 : (Sh.1 461).1 = 9 := by decide +kernel
theorem sh_462 : Sh.1 462 = (13, 160) := by decide +kernel
theorem sh_463 : (Sh.1 463).1 = 4 := by decide +kernel
theorem sh_464 : (Sh.1 464).1 = 9 := by decide +kernel
theorem sh_465 : Sh.1 465 = (13, 160) := by decide +kernel
theorem sh_466 : (Sh.1 466).1 = 8 := by decide +kernel
theorem sh_467 : Sh.1 467 = (17, 12) := by decide +kernel
theorem sh_468 : (Sh.1 468).1 = 4 := by decide +kernel
theorem sh_469 : (Sh.1 469).1 = 9 := by decide +kernel
theorem sh_470 : Sh.1 470 = (13, 160) := by decide +kernel
theorem sh_471 : (Sh.1 471).1 = 4 := by decide +kernel
theorem sh_472 : (Sh.1 472).1 = 9 := by decide +kernel
theorem sh_473 : Sh.1 473 = (13, 160) := by decide +kernel
theorem sh_474 : (Sh.1 474).1 = 4 := by decide +kernel
theorem sh_475 : (Sh.1 475).1 = 9 := by decide +kernel
theorem sh_476 : Sh.1 476 = (13, 160) := by decide +kernel
theorem sh_477 : (Sh.1 477).1 = 4 := by decide +kernel
theorem sh_478 : (Sh.1 478).1 = 9 := by decide +kernel
theorem sh_479 : Sh.1 479 = (13, 160) := by decide +kernel
theorem sh_480 : (Sh.1 480).1 = 4 := by decide +kernel
theorem sh_481 : (Sh.1 481).1 = 9 := by decide +kernel
theorem sh_482 : Sh.1 482 = (13, 160) := by decide +kernel
theorem sh_483 : (Sh.1 483).1 = 4 := by decide +kernel
theorem sh_484 : (Sh.1 484).1 = 9 := by decide +kernel
theorem sh_485 : Sh.1 485 = (13, 160) := by decide +kernel
theorem sh_486 : (Sh.1 486).1 = 4 := by decide +kernel
theorem sh_487 : (Sh.1 487).1 = 9 := by decide +kernel
theorem sh_488 : Sh.1 488 = (13, 160) := by decide +kernel
theorem sh_489 : (Sh.1 489).1 = 4 := by decide +kernel
theorem sh_490 : (Sh.1 490).1 = 9 := by decide +kernel
theorem sh_491 : Sh.1 491 = (13, 160) := by decide +kernel
theorem sh_492 : (Sh.1 492).1 = 4 := by decide +kernel
theorem sh_493 : (Sh.1 493).1 = 9 := by decide +kernel
theorem sh_494 : Sh.1 494 = (13, 160) := by decide +kernel
theorem sh_495 : (Sh.1 495).1 = 4 := by decide +kernel
theorem sh_496 : (Sh.1 496).1 = 9 := by decide +kernel
theorem sh_497 : Sh.1 497 = (13, 160) := by decide +kernel
theorem sh_498 : (Sh.1 498).1 = 4 := by decide +kernel
theorem sh_499 : (Sh.1 499).1 = 9 := by decide +kernel
theorem sh_500 : Sh.1 500 = (13, 160) := by decide +kernel
theorem sh_501 : (Sh.1 501).1 = 4 := by decide +kernel
theorem sh_502 : (Sh.1 502).1 = 9 := by decide +kernel
theorem sh_503 : Sh.1 503 = (13, 160) := by decide +kernel
theorem sh_504 : Sh.1 504 = (14, 40) := by decide +kernel
theorem sh_505 : Sh.1 505 = (14, 60) := by decide +kernel
theorem sh_506 : Sh.1 506 = (14, 12) := by decide +kernel
theorem sh_507 : Sh.1 507 = (14, 12) := by decide +kernel
theorem sh_508 : Sh.1 508 = (14, 12) := by decide +kernel
theorem sh_509 : Sh.1 509 = (14, 2) := by decide +kernel
