theorem tw_0 : Cond.initialized RL ∈ TT := tt_tb 0 (by decide +kernel) (by decide +kernel)
theorem tw_1 : Cond.initialized RX11 ∈ TT := tt_tb 1 (by decide +kernel) (by decide +kernel)
theorem tw_2 : Cond.initialized RX6 ∈ TT := tt_tb 2 (by decide +kernel) (by decide +kernel)
theorem tw_3 : Cond.initialized RX9 ∈ TT := tt_tb 3 (by decide +kernel) (by decide +kernel)
theorem tw_4 : Cond.initialized RX10 ∈ TT := tt_tb 4 (by decide +kernel) (by decide +kernel)
theorem tw_5 : Cond.initialized RX4 ∈ TT := tt_tb 5 (by decide +kernel) (by decide +kernel)
theorem tw_6 : Cond.initialized RX1 ∈ TT := tt_tb 6 (by decide +kernel) (by decide +kernel)
theorem tw_7 : Cond.initialized RX3 ∈ TT := tt_tb 7 (by decide +kernel) (by decide +kernel)
theorem tw_8 : Cond.initialized RX8 ∈ TT := tt_tb 8 (by decide +kernel) (by decide +kernel)
theorem tw_9 : Cond.initialized RX7 ∈ TT := tt_tb 9 (by decide +kernel) (by decide +kernel)
theorem tw_10 : Cond.initialized RX5 ∈ TT := tt_tb 10 (by decide +kernel) (by decide +kernel)
theorem tw_11 : Cond.initialized RX2 ∈ TT := tt_tb 11 (by decide +kernel) (by decide +kernel)
theorem tw_12 : Cond.initialized RX0 ∈ TT := tt_tb 12 (by decide +kernel) (by decide +kernel)
theorem tw_13 : Cond.initialized RX12 ∈ TT := tt_tb 13 (by decide +kernel) (by decide +kernel)
theorem tw_14 : Cond.initialized "java/lang/System" ∈ TT := tt_tb 14 (by decide +kernel) (by decide +kernel)
theorem tw_15 : Cond.initialized RJ9 ∈ TT := tt_tb 15 (by decide +kernel) (by decide +kernel)
theorem tw_16 : Cond.initialized RJ6 ∈ TT := tt_tb 16 (by decide +kernel) (by decide +kernel)
theorem tw_17 : Cond.classLink RL 7 RX11 ∈ TT := tt_tb 17 (by decide +kernel) (by decide +kernel)
theorem tw_18 : Cond.instantiable RX11 13 ∈ TT := tt_tb 18 (by decide +kernel) (by decide +kernel)
theorem tw_19 : Cond.methodLink RL 9 yX11_init ∈ TT := tt_tb 19 (by decide +kernel) (by decide +kernel)
theorem tw_20 : Cond.instanceMethod yX11_init ∈ TT := tt_tb 20 (by decide +kernel) (by decide +kernel)
theorem tw_21 : Cond.code yX11_init cX11_init 2 none ∈ TT := tt_tb 21 (by decide +kernel) (by decide +kernel)
theorem tw_22 : Cond.methodLink RX11 1 objectInit ∈ TT := tt_tb 22 (by decide +kernel) (by decide +kernel)
theorem tw_23 : Cond.instanceMethod objectInit ∈ TT := tt_tb 23 (by decide +kernel) (by decide +kernel)
theorem tw_25 : Cond.classLink RX11 7 RX6 ∈ TT := tt_tb 25 (by decide +kernel) (by decide +kernel)
theorem tw_26 : Cond.instantiable RX6 3 ∈ TT := tt_tb 26 (by decide +kernel) (by decide +kernel)
theorem tw_27 : Cond.methodLink RX11 9 yX6_init ∈ TT := tt_tb 27 (by decide +kernel) (by decide +kernel)
theorem tw_28 : Cond.instanceMethod yX6_init ∈ TT := tt_tb 28 (by decide +kernel) (by decide +kernel)
theorem tw_29 : Cond.code yX6_init cX6_init 2 none ∈ TT := tt_tb 29 (by decide +kernel) (by decide +kernel)
theorem tw_30 : Cond.methodLink RX6 3 objectInit ∈ TT := tt_tb 30 (by decide +kernel) (by decide +kernel)
theorem tw_31 : Cond.classLink RX6 9 "[[I" ∈ TT := tt_tb 31 (by decide +kernel) (by decide +kernel)
theorem tw_33 : Cond.fieldLink RX6 11 RX6 "items" "[[I" ∈ TT := tt_tb 33 (by decide +kernel) (by decide +kernel)
theorem tw_34 : Cond.fieldLink RX11 117 RX6 "items" "[[I" ∈ TT := tt_tb 34 (by decide +kernel) (by decide +kernel)
theorem tw_35 : Cond.fieldLink RX6 16 RX6 "lanes" "[I" ∈ TT := tt_tb 35 (by decide +kernel) (by decide +kernel)
theorem tw_36 : Cond.fieldLink RX11 110 RX6 "lanes" "[I" ∈ TT := tt_tb 36 (by decide +kernel) (by decide +kernel)
theorem tw_37 : Cond.fieldLink RX6 20 RX6 "sizes" "[I" ∈ TT := tt_tb 37 (by decide +kernel) (by decide +kernel)
theorem tw_38 : Cond.fieldLink RX11 126 RX6 "sizes" "[I" ∈ TT := tt_tb 38 (by decide +kernel) (by decide +kernel)
theorem tw_39 : Cond.laysFinal RX6 RX6 "items" "[[I" ∈ TT := tt_tb 39 (by decide +kernel) (by decide +kernel)
theorem tw_41 : Cond.laysFinal RX6 RX6 "lanes" "[I" ∈ TT := tt_tb 41 (by decide +kernel) (by decide +kernel)
theorem tw_43 : Cond.laysFinal RX6 RX6 "sizes" "[I" ∈ TT := tt_tb 43 (by decide +kernel) (by decide +kernel)
theorem tw_45 : Cond.superclass RX6 "java/lang/Object" ∈ TT := tt_tb 45 (by decide +kernel) (by decide +kernel)
theorem tw_46 : Cond.arrayClass .int ∈ TT := tt_tb 46 (by decide +kernel) (by decide +kernel)
theorem tw_47 : Cond.classLink RX11 16 RX9 ∈ TT := tt_tb 47 (by decide +kernel) (by decide +kernel)
theorem tw_48 : Cond.instantiable RX9 8 ∈ TT := tt_tb 48 (by decide +kernel) (by decide +kernel)
theorem tw_49 : Cond.methodLink RX11 18 yX9_init ∈ TT := tt_tb 49 (by decide +kernel) (by decide +kernel)
theorem tw_50 : Cond.instanceMethod yX9_init ∈ TT := tt_tb 50 (by decide +kernel) (by decide +kernel)
theorem tw_51 : Cond.code yX9_init cX9_init 1 none ∈ TT := tt_tb 51 (by decide +kernel) (by decide +kernel)
theorem tw_52 : Cond.methodLink RX9 3 objectInit ∈ TT := tt_tb 52 (by decide +kernel) (by decide +kernel)
theorem tw_53 : Cond.fieldLink RX9 9 RX9 "bytes" "[I" ∈ TT := tt_tb 53 (by decide +kernel) (by decide +kernel)
theorem tw_54 : Cond.fieldLink RX9 15 RX9 "size" "I" ∈ TT := tt_tb 54 (by decide +kernel) (by decide +kernel)
theorem tw_55 : Cond.fieldLink RX11 129 RX9 "size" "I" ∈ TT := tt_tb 55 (by decide +kernel) (by decide +kernel)
theorem tw_56 : Cond.fieldLink RX9 87 RX9 "fault" "I" ∈ TT := tt_tb 56 (by decide +kernel) (by decide +kernel)
theorem tw_57 : Cond.fieldLink RX11 156 RX9 "fault" "I" ∈ TT := tt_tb 57 (by decide +kernel) (by decide +kernel)
theorem tw_58 : Cond.fieldLink RX11 143 RX9 "place" "I" ∈ TT := tt_tb 58 (by decide +kernel) (by decide +kernel)
theorem tw_59 : Cond.fieldLink RX9 93 RX9 "place" "I" ∈ TT := tt_tb 59 (by decide +kernel) (by decide +kernel)
theorem tw_60 : Cond.fieldLink RX9 90 RX9 "at" "I" ∈ TT := tt_tb 60 (by decide +kernel) (by decide +kernel)
theorem tw_61 : Cond.fieldLink RX9 34 RX9 "token" "I" ∈ TT := tt_tb 61 (by decide +kernel) (by decide +kernel)
theorem tw_62 : Cond.fieldLink RX9 62 RX9 "value" "I" ∈ TT := tt_tb 62 (by decide +kernel) (by decide +kernel)
theorem tw_63 : Cond.fieldLink RX9 24 RX9 "next" "I" ∈ TT := tt_tb 63 (by decide +kernel) (by decide +kernel)
theorem tw_64 : Cond.laysFinal RX9 RX9 "bytes" "[I" ∈ TT := tt_tb 64 (by decide +kernel) (by decide +kernel)
theorem tw_66 : Cond.lays RX9 RX9 "size" "I" ∈ TT := tt_tb 66 (by decide +kernel) (by decide +kernel)
theorem tw_68 : Cond.lays RX9 RX9 "fault" "I" ∈ TT := tt_tb 68 (by decide +kernel) (by decide +kernel)
theorem tw_70 : Cond.lays RX9 RX9 "place" "I" ∈ TT := tt_tb 70 (by decide +kernel) (by decide +kernel)
theorem tw_72 : Cond.lays RX9 RX9 "at" "I" ∈ TT := tt_tb 72 (by decide +kernel) (by decide +kernel)
theorem tw_74 : Cond.lays RX9 RX9 "token" "I" ∈ TT := tt_tb 74 (by decide +kernel) (by decide +kernel)
theorem tw_76 : Cond.lays RX9 RX9 "value" "I" ∈ TT := tt_tb 76 (by decide +kernel) (by decide +kernel)
theorem tw_78 : Cond.lays RX9 RX9 "next" "I" ∈ TT := tt_tb 78 (by decide +kernel) (by decide +kernel)
theorem tw_80 : Cond.superclass RX9 "java/lang/Object" ∈ TT := tt_tb 80 (by decide +kernel) (by decide +kernel)
theorem tw_81 : Cond.classLink RX11 23 RX10 ∈ TT := tt_tb 81 (by decide +kernel) (by decide +kernel)
theorem tw_83 : Cond.instantiable RX10 0 ∈ TT := tt_tb 83 (by decide +kernel) (by decide +kernel)
theorem tw_85 : Cond.instanceMethod yX10_init ∈ TT := tt_tb 85 (by decide +kernel) (by decide +kernel)
theorem tw_86 : Cond.code yX10_init cX10_init 1 none ∈ TT := tt_tb 86 (by decide +kernel) (by decide +kernel)
theorem tw_87 : Cond.methodLink RX10 1 objectInit ∈ TT := tt_tb 87 (by decide +kernel) (by decide +kernel)
theorem tw_88 : Cond.superclass RX10 "java/lang/Object" ∈ TT := tt_tb 88 (by decide +kernel) (by decide +kernel)
theorem tw_89 : Cond.classLink RX11 30 RX4 ∈ TT := tt_tb 89 (by decide +kernel) (by decide +kernel)
theorem tw_90 : Cond.instantiable RX4 0 ∈ TT := tt_tb 90 (by decide +kernel) (by decide +kernel)
theorem tw_92 : Cond.instanceMethod yX4_init ∈ TT := tt_tb 92 (by decide +kernel) (by decide +kernel)
theorem tw_93 : Cond.code yX4_init cX4_init 1 none ∈ TT := tt_tb 93 (by decide +kernel) (by decide +kernel)
theorem tw_95 : Cond.superclass RX4 RX10 ∈ TT := tt_tb 95 (by decide +kernel) (by decide +kernel)
theorem tw_96 : Cond.classLink RX11 33 RX1 ∈ TT := tt_tb 96 (by decide +kernel) (by decide +kernel)
theorem tw_97 : Cond.instantiable RX1 0 ∈ TT := tt_tb 97 (by decide +kernel) (by decide +kernel)
theorem tw_99 : Cond.instanceMethod yX1_init ∈ TT := tt_tb 99 (by decide +kernel) (by decide +kernel)
theorem tw_100 : Cond.code yX1_init cX1_init 1 none ∈ TT := tt_tb 100 (by decide +kernel) (by decide +kernel)
theorem tw_102 : Cond.superclass RX1 RX4 ∈ TT := tt_tb 102 (by decide +kernel) (by decide +kernel)
theorem tw_103 : Cond.classLink RX11 36 RX3 ∈ TT := tt_tb 103 (by decide +kernel) (by decide +kernel)
theorem tw_104 : Cond.instantiable RX3 0 ∈ TT := tt_tb 104 (by decide +kernel) (by decide +kernel)
theorem tw_106 : Cond.instanceMethod yX3_init ∈ TT := tt_tb 106 (by decide +kernel) (by decide +kernel)
theorem tw_107 : Cond.code yX3_init cX3_init 1 none ∈ TT := tt_tb 107 (by decide +kernel) (by decide +kernel)
theorem tw_109 : Cond.superclass RX3 RX4 ∈ TT := tt_tb 109 (by decide +kernel) (by decide +kernel)
theorem tw_110 : Cond.classLink RX11 39 RX8 ∈ TT := tt_tb 110 (by decide +kernel) (by decide +kernel)
theorem tw_111 : Cond.instantiable RX8 0 ∈ TT := tt_tb 111 (by decide +kernel) (by decide +kernel)
theorem tw_113 : Cond.instanceMethod yX8_init ∈ TT := tt_tb 113 (by decide +kernel) (by decide +kernel)
theorem tw_114 : Cond.code yX8_init cX8_init 1 none ∈ TT := tt_tb 114 (by decide +kernel) (by decide +kernel)
theorem tw_116 : Cond.superclass RX8 RX10 ∈ TT := tt_tb 116 (by decide +kernel) (by decide +kernel)
theorem tw_117 : Cond.classLink RX11 42 RX7 ∈ TT := tt_tb 117 (by decide +kernel) (by decide +kernel)
theorem tw_118 : Cond.instantiable RX7 0 ∈ TT := tt_tb 118 (by decide +kernel) (by decide +kernel)
theorem tw_120 : Cond.instanceMethod yX7_init ∈ TT := tt_tb 120 (by decide +kernel) (by decide +kernel)
theorem tw_121 : Cond.code yX7_init cX7_init 1 none ∈ TT := tt_tb 121 (by decide +kernel) (by decide +kernel)
theorem tw_123 : Cond.superclass RX7 RX8 ∈ TT := tt_tb 123 (by decide +kernel) (by decide +kernel)
theorem tw_124 : Cond.classLink RX11 45 RX5 ∈ TT := tt_tb 124 (by decide +kernel) (by decide +kernel)
theorem tw_125 : Cond.instantiable RX5 15 ∈ TT := tt_tb 125 (by decide +kernel) (by decide +kernel)
theorem tw_126 : Cond.methodLink RX11 47 yX5_init ∈ TT := tt_tb 126 (by decide +kernel) (by decide +kernel)
theorem tw_127 : Cond.instanceMethod yX5_init ∈ TT := tt_tb 127 (by decide +kernel) (by decide +kernel)
theorem tw_128 : Cond.code yX5_init cX5_init 2 none ∈ TT := tt_tb 128 (by decide +kernel) (by decide +kernel)
theorem tw_129 : Cond.methodLink RX5 3 objectInit ∈ TT := tt_tb 129 (by decide +kernel) (by decide +kernel)
theorem tw_130 : Cond.fieldLink RX5 9 RX5 "kinds" "[LCoffinWays$Witness;" ∈ TT := tt_tb 130 (by decide +kernel) (by decide +kernel)
theorem tw_131 : Cond.fieldLink RX5 50 RX5 "there" "Z" ∈ TT := tt_tb 131 (by decide +kernel) (by decide +kernel)
theorem tw_132 : Cond.fieldLink RX9 51 RX5 "there" "Z" ∈ TT := tt_tb 132 (by decide +kernel) (by decide +kernel)
theorem tw_133 : Cond.fieldLink RX11 170 RX5 "there" "Z" ∈ TT := tt_tb 133 (by decide +kernel) (by decide +kernel)
theorem tw_134 : Cond.fieldLink RX2 30 RX5 "church" "I" ∈ TT := tt_tb 134 (by decide +kernel) (by decide +kernel)
theorem tw_135 : Cond.fieldLink RX5 54 RX5 "church" "I" ∈ TT := tt_tb 135 (by decide +kernel) (by decide +kernel)
theorem tw_136 : Cond.fieldLink RX1 11 RX5 "church" "I" ∈ TT := tt_tb 136 (by decide +kernel) (by decide +kernel)
theorem tw_137 : Cond.fieldLink RX9 65 RX5 "church" "I" ∈ TT := tt_tb 137 (by decide +kernel) (by decide +kernel)
theorem tw_138 : Cond.fieldLink RX11 244 RX5 "church" "I" ∈ TT := tt_tb 138 (by decide +kernel) (by decide +kernel)
theorem tw_139 : Cond.fieldLink RX5 57 RX5 "lives" "I" ∈ TT := tt_tb 139 (by decide +kernel) (by decide +kernel)
theorem tw_140 : Cond.fieldLink RX9 68 RX5 "lives" "I" ∈ TT := tt_tb 140 (by decide +kernel) (by decide +kernel)
theorem tw_141 : Cond.fieldLink RX11 343 RX5 "lives" "I" ∈ TT := tt_tb 141 (by decide +kernel) (by decide +kernel)
theorem tw_142 : Cond.fieldLink RX5 37 RX5 "year" "I" ∈ TT := tt_tb 142 (by decide +kernel) (by decide +kernel)
theorem tw_143 : Cond.fieldLink RX11 192 RX5 "year" "I" ∈ TT := tt_tb 143 (by decide +kernel) (by decide +kernel)
theorem tw_144 : Cond.fieldLink RX5 41 RX5 "paths" "I" ∈ TT := tt_tb 144 (by decide +kernel) (by decide +kernel)
theorem tw_145 : Cond.fieldLink RX2 65 RX5 "paths" "I" ∈ TT := tt_tb 145 (by decide +kernel) (by decide +kernel)
theorem tw_146 : Cond.fieldLink RX9 71 RX5 "paths" "I" ∈ TT := tt_tb 146 (by decide +kernel) (by decide +kernel)
theorem tw_147 : Cond.fieldLink RX11 153 RX5 "paths" "I" ∈ TT := tt_tb 147 (by decide +kernel) (by decide +kernel)
theorem tw_148 : Cond.fieldLink RX5 44 RX5 "witnesses" "I" ∈ TT := tt_tb 148 (by decide +kernel) (by decide +kernel)
theorem tw_149 : Cond.fieldLink RX9 81 RX5 "witnesses" "I" ∈ TT := tt_tb 149 (by decide +kernel) (by decide +kernel)
theorem tw_150 : Cond.fieldLink RX11 273 RX5 "witnesses" "I" ∈ TT := tt_tb 150 (by decide +kernel) (by decide +kernel)
theorem tw_151 : Cond.fieldLink RX3 13 RX5 "gates" "I" ∈ TT := tt_tb 151 (by decide +kernel) (by decide +kernel)
theorem tw_152 : Cond.fieldLink RX5 47 RX5 "gates" "I" ∈ TT := tt_tb 152 (by decide +kernel) (by decide +kernel)
theorem tw_153 : Cond.fieldLink RX11 207 RX5 "gates" "I" ∈ TT := tt_tb 153 (by decide +kernel) (by decide +kernel)
theorem tw_154 : Cond.fieldLink RX5 15 RX5 "starts" "[I" ∈ TT := tt_tb 154 (by decide +kernel) (by decide +kernel)
theorem tw_155 : Cond.fieldLink RX2 72 RX5 "starts" "[I" ∈ TT := tt_tb 155 (by decide +kernel) (by decide +kernel)
theorem tw_156 : Cond.fieldLink RX11 232 RX5 "starts" "[I" ∈ TT := tt_tb 156 (by decide +kernel) (by decide +kernel)
theorem tw_157 : Cond.fieldLink RX5 19 RX5 "ends" "[I" ∈ TT := tt_tb 157 (by decide +kernel) (by decide +kernel)
theorem tw_158 : Cond.fieldLink RX2 75 RX5 "ends" "[I" ∈ TT := tt_tb 158 (by decide +kernel) (by decide +kernel)
theorem tw_159 : Cond.fieldLink RX11 235 RX5 "ends" "[I" ∈ TT := tt_tb 159 (by decide +kernel) (by decide +kernel)
theorem tw_160 : Cond.fieldLink RX5 22 RX5 "longs" "[I" ∈ TT := tt_tb 160 (by decide +kernel) (by decide +kernel)
theorem tw_161 : Cond.fieldLink RX2 78 RX5 "longs" "[I" ∈ TT := tt_tb 161 (by decide +kernel) (by decide +kernel)
theorem tw_162 : Cond.fieldLink RX11 238 RX5 "longs" "[I" ∈ TT := tt_tb 162 (by decide +kernel) (by decide +kernel)
theorem tw_163 : Cond.fieldLink RX5 25 RX5 "sorts" "[I" ∈ TT := tt_tb 163 (by decide +kernel) (by decide +kernel)
theorem tw_164 : Cond.fieldLink RX11 313 RX5 "sorts" "[I" ∈ TT := tt_tb 164 (by decide +kernel) (by decide +kernel)
theorem tw_165 : Cond.fieldLink RX5 28 RX5 "homes" "[I" ∈ TT := tt_tb 165 (by decide +kernel) (by decide +kernel)
theorem tw_166 : Cond.fieldLink RX11 226 RX5 "homes" "[I" ∈ TT := tt_tb 166 (by decide +kernel) (by decide +kernel)
theorem tw_167 : Cond.fieldLink RX5 31 RX5 "ages" "[I" ∈ TT := tt_tb 167 (by decide +kernel) (by decide +kernel)
theorem tw_168 : Cond.fieldLink RX11 220 RX5 "ages" "[I" ∈ TT := tt_tb 168 (by decide +kernel) (by decide +kernel)
theorem tw_169 : Cond.fieldLink RX5 34 RX5 "saw" "[I" ∈ TT := tt_tb 169 (by decide +kernel) (by decide +kernel)
theorem tw_170 : Cond.fieldLink RX11 223 RX5 "saw" "[I" ∈ TT := tt_tb 170 (by decide +kernel) (by decide +kernel)
theorem tw_171 : Cond.laysFinal RX5 RX5 "kinds" "[LCoffinWays$Witness;" ∈ TT := tt_tb 171 (by decide +kernel) (by decide +kernel)
theorem tw_173 : Cond.lays RX5 RX5 "there" "Z" ∈ TT := tt_tb 173 (by decide +kernel) (by decide +kernel)
theorem tw_175 : Cond.lays RX5 RX5 "church" "I" ∈ TT := tt_tb 175 (by decide +kernel) (by decide +kernel)
theorem tw_177 : Cond.lays RX5 RX5 "lives" "I" ∈ TT := tt_tb 177 (by decide +kernel) (by decide +kernel)
theorem tw_179 : Cond.lays RX5 RX5 "year" "I" ∈ TT := tt_tb 179 (by decide +kernel) (by decide +kernel)
theorem tw_181 : Cond.lays RX5 RX5 "paths" "I" ∈ TT := tt_tb 181 (by decide +kernel) (by decide +kernel)
theorem tw_183 : Cond.lays RX5 RX5 "witnesses" "I" ∈ TT := tt_tb 183 (by decide +kernel) (by decide +kernel)
theorem tw_185 : Cond.lays RX5 RX5 "gates" "I" ∈ TT := tt_tb 185 (by decide +kernel) (by decide +kernel)
theorem tw_187 : Cond.laysFinal RX5 RX5 "starts" "[I" ∈ TT := tt_tb 187 (by decide +kernel) (by decide +kernel)
theorem tw_189 : Cond.laysFinal RX5 RX5 "ends" "[I" ∈ TT := tt_tb 189 (by decide +kernel) (by decide +kernel)
theorem tw_191 : Cond.laysFinal RX5 RX5 "longs" "[I" ∈ TT := tt_tb 191 (by decide +kernel) (by decide +kernel)
theorem tw_193 : Cond.laysFinal RX5 RX5 "sorts" "[I" ∈ TT := tt_tb 193 (by decide +kernel) (by decide +kernel)
theorem tw_195 : Cond.laysFinal RX5 RX5 "homes" "[I" ∈ TT := tt_tb 195 (by decide +kernel) (by decide +kernel)
theorem tw_197 : Cond.laysFinal RX5 RX5 "ages" "[I" ∈ TT := tt_tb 197 (by decide +kernel) (by decide +kernel)
theorem tw_199 : Cond.laysFinal RX5 RX5 "saw" "[I" ∈ TT := tt_tb 199 (by decide +kernel) (by decide +kernel)
theorem tw_201 : Cond.superclass RX5 "java/lang/Object" ∈ TT := tt_tb 201 (by decide +kernel) (by decide +kernel)
theorem tw_203 : Cond.classLink RX11 61 "[[I" ∈ TT := tt_tb 203 (by decide +kernel) (by decide +kernel)
theorem tw_204 : Cond.classLink RX11 66 RX2 ∈ TT := tt_tb 204 (by decide +kernel) (by decide +kernel)
theorem tw_205 : Cond.instantiable RX2 8 ∈ TT := tt_tb 205 (by decide +kernel) (by decide +kernel)
theorem tw_206 : Cond.methodLink RX11 68 yX2_init ∈ TT := tt_tb 206 (by decide +kernel) (by decide +kernel)
theorem tw_207 : Cond.instanceMethod yX2_init ∈ TT := tt_tb 207 (by decide +kernel) (by decide +kernel)
theorem tw_208 : Cond.code yX2_init cX2_init 4 none ∈ TT := tt_tb 208 (by decide +kernel) (by decide +kernel)
theorem tw_209 : Cond.methodLink RX2 3 objectInit ∈ TT := tt_tb 209 (by decide +kernel) (by decide +kernel)
theorem tw_210 : Cond.constantLong RX2 28 (10) ∈ TT := tt_tb 210 (by decide +kernel) (by decide +kernel)
theorem tw_211 : Cond.fieldLink RX2 48 RX2 "length" "I" ∈ TT := tt_tb 211 (by decide +kernel) (by decide +kernel)
theorem tw_212 : Cond.fieldLink RX11 255 RX2 "length" "I" ∈ TT := tt_tb 212 (by decide +kernel) (by decide +kernel)
theorem tw_213 : Cond.fieldLink RX4 7 RX2 "route" "I" ∈ TT := tt_tb 213 (by decide +kernel) (by decide +kernel)
theorem tw_214 : Cond.fieldLink RX8 7 RX2 "route" "I" ∈ TT := tt_tb 214 (by decide +kernel) (by decide +kernel)
theorem tw_215 : Cond.fieldLink RX2 51 RX2 "route" "I" ∈ TT := tt_tb 215 (by decide +kernel) (by decide +kernel)
theorem tw_216 : Cond.fieldLink RX1 17 RX2 "route" "I" ∈ TT := tt_tb 216 (by decide +kernel) (by decide +kernel)
theorem tw_217 : Cond.fieldLink RX11 258 RX2 "route" "I" ∈ TT := tt_tb 217 (by decide +kernel) (by decide +kernel)
theorem tw_218 : Cond.fieldLink RX7 7 RX2 "first" "I" ∈ TT := tt_tb 218 (by decide +kernel) (by decide +kernel)
theorem tw_219 : Cond.fieldLink RX2 54 RX2 "first" "I" ∈ TT := tt_tb 219 (by decide +kernel) (by decide +kernel)
theorem tw_220 : Cond.fieldLink RX2 9 RX2 "far" "[I" ∈ TT := tt_tb 220 (by decide +kernel) (by decide +kernel)
theorem tw_221 : Cond.fieldLink RX2 15 RX2 "within" "[I" ∈ TT := tt_tb 221 (by decide +kernel) (by decide +kernel)
theorem tw_222 : Cond.fieldLink RX2 18 RX2 "joined" "[J" ∈ TT := tt_tb 222 (by decide +kernel) (by decide +kernel)
theorem tw_223 : Cond.fieldLink RX2 22 RX2 "tens" "[J" ∈ TT := tt_tb 223 (by decide +kernel) (by decide +kernel)
theorem tw_224 : Cond.fieldLink RX11 298 RX2 "tens" "[J" ∈ TT := tt_tb 224 (by decide +kernel) (by decide +kernel)
theorem tw_225 : Cond.fieldLink RX2 25 RX2 "powers" "[J" ∈ TT := tt_tb 225 (by decide +kernel) (by decide +kernel)
theorem tw_226 : Cond.lays RX2 RX2 "length" "I" ∈ TT := tt_tb 226 (by decide +kernel) (by decide +kernel)
theorem tw_228 : Cond.lays RX2 RX2 "route" "I" ∈ TT := tt_tb 228 (by decide +kernel) (by decide +kernel)
theorem tw_230 : Cond.lays RX2 RX2 "first" "I" ∈ TT := tt_tb 230 (by decide +kernel) (by decide +kernel)
theorem tw_232 : Cond.laysFinal RX2 RX2 "far" "[I" ∈ TT := tt_tb 232 (by decide +kernel) (by decide +kernel)
theorem tw_234 : Cond.laysFinal RX2 RX2 "within" "[I" ∈ TT := tt_tb 234 (by decide +kernel) (by decide +kernel)
theorem tw_236 : Cond.laysFinal RX2 RX2 "joined" "[J" ∈ TT := tt_tb 236 (by decide +kernel) (by decide +kernel)
theorem tw_238 : Cond.laysFinal RX2 RX2 "tens" "[J" ∈ TT := tt_tb 238 (by decide +kernel) (by decide +kernel)
theorem tw_240 : Cond.laysFinal RX2 RX2 "powers" "[J" ∈ TT := tt_tb 240 (by decide +kernel) (by decide +kernel)
theorem tw_242 : Cond.superclass RX2 "java/lang/Object" ∈ TT := tt_tb 242 (by decide +kernel) (by decide +kernel)
theorem tw_243 : Cond.arrayClass .long ∈ TT := tt_tb 243 (by decide +kernel) (by decide +kernel)
theorem tw_244 : Cond.classLink RX11 73 RX0 ∈ TT := tt_tb 244 (by decide +kernel) (by decide +kernel)
theorem tw_245 : Cond.instantiable RX0 5 ∈ TT := tt_tb 245 (by decide +kernel) (by decide +kernel)
theorem tw_246 : Cond.methodLink RX11 75 yX0_init ∈ TT := tt_tb 246 (by decide +kernel) (by decide +kernel)
theorem tw_247 : Cond.instanceMethod yX0_init ∈ TT := tt_tb 247 (by decide +kernel) (by decide +kernel)
theorem tw_248 : Cond.code yX0_init cX0_init 1 none ∈ TT := tt_tb 248 (by decide +kernel) (by decide +kernel)
theorem tw_249 : Cond.methodLink RX0 3 objectInit ∈ TT := tt_tb 249 (by decide +kernel) (by decide +kernel)
theorem tw_250 : Cond.fieldLink RX10 17 RX0 "number" "I" ∈ TT := tt_tb 250 (by decide +kernel) (by decide +kernel)
theorem tw_251 : Cond.fieldLink RX11 320 RX0 "number" "I" ∈ TT := tt_tb 251 (by decide +kernel) (by decide +kernel)
theorem tw_252 : Cond.fieldLink RX4 35 RX0 "age" "I" ∈ TT := tt_tb 252 (by decide +kernel) (by decide +kernel)
theorem tw_253 : Cond.fieldLink RX11 323 RX0 "age" "I" ∈ TT := tt_tb 253 (by decide +kernel) (by decide +kernel)
theorem tw_254 : Cond.fieldLink RX10 13 RX0 "sworn" "I" ∈ TT := tt_tb 254 (by decide +kernel) (by decide +kernel)
theorem tw_255 : Cond.fieldLink RX11 326 RX0 "sworn" "I" ∈ TT := tt_tb 255 (by decide +kernel) (by decide +kernel)
theorem tw_256 : Cond.fieldLink RX0 15 RX0 "traced" "I" ∈ TT := tt_tb 256 (by decide +kernel) (by decide +kernel)
theorem tw_257 : Cond.fieldLink RX11 328 RX0 "traced" "I" ∈ TT := tt_tb 257 (by decide +kernel) (by decide +kernel)
theorem tw_258 : Cond.fieldLink RX0 9 RX0 "bodies" "[I" ∈ TT := tt_tb 258 (by decide +kernel) (by decide +kernel)
theorem tw_259 : Cond.fieldLink RX11 337 RX0 "bodies" "[I" ∈ TT := tt_tb 259 (by decide +kernel) (by decide +kernel)
theorem tw_260 : Cond.lays RX0 RX0 "number" "I" ∈ TT := tt_tb 260 (by decide +kernel) (by decide +kernel)
theorem tw_262 : Cond.lays RX0 RX0 "age" "I" ∈ TT := tt_tb 262 (by decide +kernel) (by decide +kernel)
theorem tw_264 : Cond.lays RX0 RX0 "sworn" "I" ∈ TT := tt_tb 264 (by decide +kernel) (by decide +kernel)
theorem tw_266 : Cond.lays RX0 RX0 "traced" "I" ∈ TT := tt_tb 266 (by decide +kernel) (by decide +kernel)
theorem tw_268 : Cond.laysFinal RX0 RX0 "bodies" "[I" ∈ TT := tt_tb 268 (by decide +kernel) (by decide +kernel)
theorem tw_270 : Cond.superclass RX0 "java/lang/Object" ∈ TT := tt_tb 270 (by decide +kernel) (by decide +kernel)
theorem tw_271 : Cond.fieldLink RX11 10 RX11 "rows" "LCoffinWays$Rows;" ∈ TT := tt_tb 271 (by decide +kernel) (by decide +kernel)
theorem tw_272 : Cond.fieldLink RX11 19 RX11 "tape" "LCoffinWays$Tape;" ∈ TT := tt_tb 272 (by decide +kernel) (by decide +kernel)
theorem tw_273 : Cond.fieldLink RX11 25 RX11 "kinds" "[LCoffinWays$Witness;" ∈ TT := tt_tb 273 (by decide +kernel) (by decide +kernel)
theorem tw_274 : Cond.fieldLink RX11 50 RX11 "now" "LCoffinWays$Parish;" ∈ TT := tt_tb 274 (by decide +kernel) (by decide +kernel)
theorem tw_275 : Cond.fieldLink RX11 54 RX11 "draft" "LCoffinWays$Parish;" ∈ TT := tt_tb 275 (by decide +kernel) (by decide +kernel)
theorem tw_276 : Cond.fieldLink RX11 57 RX11 "images" "[LCoffinWays$Parish;" ∈ TT := tt_tb 276 (by decide +kernel) (by decide +kernel)
theorem tw_277 : Cond.fieldLink RX11 63 RX11 "acts" "[[I" ∈ TT := tt_tb 277 (by decide +kernel) (by decide +kernel)
theorem tw_278 : Cond.fieldLink RX11 159 RX11 "actsKept" "I" ∈ TT := tt_tb 278 (by decide +kernel) (by decide +kernel)
theorem tw_279 : Cond.fieldLink RX11 163 RX11 "nextAct" "I" ∈ TT := tt_tb 279 (by decide +kernel) (by decide +kernel)
theorem tw_280 : Cond.fieldLink RX11 69 RX11 "coffin" "LCoffinWays$Coffin;" ∈ TT := tt_tb 280 (by decide +kernel) (by decide +kernel)
theorem tw_281 : Cond.fieldLink RX11 76 RX11 "asked" "LCoffinWays$Asked;" ∈ TT := tt_tb 281 (by decide +kernel) (by decide +kernel)
theorem tw_282 : Cond.fieldLink RX11 80 RX11 "sawAs" "[I" ∈ TT := tt_tb 282 (by decide +kernel) (by decide +kernel)
theorem tw_283 : Cond.fieldLink RX11 346 RX11 "finding" "I" ∈ TT := tt_tb 283 (by decide +kernel) (by decide +kernel)
theorem tw_284 : Cond.laysFinal RX11 RX11 "rows" "LCoffinWays$Rows;" ∈ TT := tt_tb 284 (by decide +kernel) (by decide +kernel)
theorem tw_286 : Cond.laysFinal RX11 RX11 "tape" "LCoffinWays$Tape;" ∈ TT := tt_tb 286 (by decide +kernel) (by decide +kernel)
theorem tw_288 : Cond.laysFinal RX11 RX11 "kinds" "[LCoffinWays$Witness;" ∈ TT := tt_tb 288 (by decide +kernel) (by decide +kernel)
theorem tw_290 : Cond.laysFinal RX11 RX11 "now" "LCoffinWays$Parish;" ∈ TT := tt_tb 290 (by decide +kernel) (by decide +kernel)
theorem tw_292 : Cond.laysFinal RX11 RX11 "draft" "LCoffinWays$Parish;" ∈ TT := tt_tb 292 (by decide +kernel) (by decide +kernel)
theorem tw_294 : Cond.laysFinal RX11 RX11 "images" "[LCoffinWays$Parish;" ∈ TT := tt_tb 294 (by decide +kernel) (by decide +kernel)
theorem tw_296 : Cond.laysFinal RX11 RX11 "acts" "[[I" ∈ TT := tt_tb 296 (by decide +kernel) (by decide +kernel)
theorem tw_298 : Cond.lays RX11 RX11 "actsKept" "I" ∈ TT := tt_tb 298 (by decide +kernel) (by decide +kernel)
theorem tw_300 : Cond.lays RX11 RX11 "nextAct" "I" ∈ TT := tt_tb 300 (by decide +kernel) (by decide +kernel)
theorem tw_302 : Cond.laysFinal RX11 RX11 "coffin" "LCoffinWays$Coffin;" ∈ TT := tt_tb 302 (by decide +kernel) (by decide +kernel)
theorem tw_304 : Cond.laysFinal RX11 RX11 "asked" "LCoffinWays$Asked;" ∈ TT := tt_tb 304 (by decide +kernel) (by decide +kernel)
theorem tw_306 : Cond.laysFinal RX11 RX11 "sawAs" "[I" ∈ TT := tt_tb 306 (by decide +kernel) (by decide +kernel)
theorem tw_308 : Cond.lays RX11 RX11 "finding" "I" ∈ TT := tt_tb 308 (by decide +kernel) (by decide +kernel)
theorem tw_310 : Cond.superclass RX11 "java/lang/Object" ∈ TT := tt_tb 310 (by decide +kernel) (by decide +kernel)
theorem tw_311 : Cond.methodLink RL 13 yX11_row ∈ TT := tt_tb 311 (by decide +kernel) (by decide +kernel)
theorem tw_312 : Cond.instanceMethod yX11_row ∈ TT := tt_tb 312 (by decide +kernel) (by decide +kernel)
theorem tw_313 : Cond.selects RX11 yX11_row yX11_row ∈ TT := tt_tb 313 (by decide +kernel) (by decide +kernel)
theorem tw_314 : Cond.code yX11_row cX11_row 4 (some .int) ∈ TT := tt_tb 314 (by decide +kernel) (by decide +kernel)
theorem tw_315 : Cond.methodLink RX11 84 yX11_isRow ∈ TT := tt_tb 315 (by decide +kernel) (by decide +kernel)
theorem tw_316 : Cond.static yX11_isRow ∈ TT := tt_tb 316 (by decide +kernel) (by decide +kernel)
theorem tw_317 : Cond.code yX11_isRow cX11_isRow 1 (some .boolean) ∈ TT := tt_tb 317 (by decide +kernel) (by decide +kernel)
theorem tw_318 : Cond.constant RX11 88 (-1000001) ∈ TT := tt_tb 318 (by decide +kernel) (by decide +kernel)
theorem tw_319 : Cond.methodLink RX11 89 yX11_found ∈ TT := tt_tb 319 (by decide +kernel) (by decide +kernel)
theorem tw_321 : Cond.instanceMethod yX11_found ∈ TT := tt_tb 321 (by decide +kernel) (by decide +kernel)
theorem tw_322 : Cond.code yX11_found cX11_found 2 (some .int) ∈ TT := tt_tb 322 (by decide +kernel) (by decide +kernel)
theorem tw_323 : Cond.constant RX11 349 (-1000010) ∈ TT := tt_tb 323 (by decide +kernel) (by decide +kernel)
theorem tw_324 : Cond.methodLink RX11 93 yX6_lay ∈ TT := tt_tb 324 (by decide +kernel) (by decide +kernel)
theorem tw_325 : Cond.instanceMethod yX6_lay ∈ TT := tt_tb 325 (by decide +kernel) (by decide +kernel)
theorem tw_326 : Cond.selects RX6 yX6_lay yX6_lay ∈ TT := tt_tb 326 (by decide +kernel) (by decide +kernel)
theorem tw_327 : Cond.code yX6_lay cX6_lay 5 none ∈ TT := tt_tb 327 (by decide +kernel) (by decide +kernel)
theorem tw_328 : Cond.methodLink RX11 97 yX11_unfound ∈ TT := tt_tb 328 (by decide +kernel) (by decide +kernel)
theorem tw_330 : Cond.instanceMethod yX11_unfound ∈ TT := tt_tb 330 (by decide +kernel) (by decide +kernel)
theorem tw_331 : Cond.code yX11_unfound cX11_unfound 2 (some .int) ∈ TT := tt_tb 331 (by decide +kernel) (by decide +kernel)
theorem tw_332 : Cond.methodLink RL 18 yX11_set ∈ TT := tt_tb 332 (by decide +kernel) (by decide +kernel)
theorem tw_333 : Cond.instanceMethod yX11_set ∈ TT := tt_tb 333 (by decide +kernel) (by decide +kernel)
theorem tw_334 : Cond.selects RX11 yX11_set yX11_set ∈ TT := tt_tb 334 (by decide +kernel) (by decide +kernel)
theorem tw_335 : Cond.code yX11_set cX11_set 5 (some .int) ∈ TT := tt_tb 335 (by decide +kernel) (by decide +kernel)
theorem tw_336 : Cond.methodLink RX11 100 yX6_amiss ∈ TT := tt_tb 336 (by decide +kernel) (by decide +kernel)
theorem tw_337 : Cond.instanceMethod yX6_amiss ∈ TT := tt_tb 337 (by decide +kernel) (by decide +kernel)
theorem tw_338 : Cond.selects RX6 yX6_amiss yX6_amiss ∈ TT := tt_tb 338 (by decide +kernel) (by decide +kernel)
theorem tw_339 : Cond.code yX6_amiss cX6_amiss 4 (some .int) ∈ TT := tt_tb 339 (by decide +kernel) (by decide +kernel)
theorem tw_340 : Cond.methodLink RX6 23 yX6_isMissing ∈ TT := tt_tb 340 (by decide +kernel) (by decide +kernel)
theorem tw_341 : Cond.instanceMethod yX6_isMissing ∈ TT := tt_tb 341 (by decide +kernel) (by decide +kernel)
theorem tw_342 : Cond.selects RX6 yX6_isMissing yX6_isMissing ∈ TT := tt_tb 342 (by decide +kernel) (by decide +kernel)
theorem tw_343 : Cond.code yX6_isMissing cX6_isMissing 2 (some .boolean) ∈ TT := tt_tb 343 (by decide +kernel) (by decide +kernel)
theorem tw_344 : Cond.methodLink RX6 27 yX6_has ∈ TT := tt_tb 344 (by decide +kernel) (by decide +kernel)
theorem tw_345 : Cond.instanceMethod yX6_has ∈ TT := tt_tb 345 (by decide +kernel) (by decide +kernel)
theorem tw_346 : Cond.selects RX6 yX6_has yX6_has ∈ TT := tt_tb 346 (by decide +kernel) (by decide +kernel)
theorem tw_347 : Cond.code yX6_has cX6_has 4 (some .boolean) ∈ TT := tt_tb 347 (by decide +kernel) (by decide +kernel)
theorem tw_348 : Cond.methodLink RX11 104 yX6_put ∈ TT := tt_tb 348 (by decide +kernel) (by decide +kernel)
theorem tw_349 : Cond.instanceMethod yX6_put ∈ TT := tt_tb 349 (by decide +kernel) (by decide +kernel)
theorem tw_350 : Cond.selects RX6 yX6_put yX6_put ∈ TT := tt_tb 350 (by decide +kernel) (by decide +kernel)
theorem tw_351 : Cond.code yX6_put cX6_put 5 (some .int) ∈ TT := tt_tb 351 (by decide +kernel) (by decide +kernel)
theorem tw_352 : Cond.methodLink RL 22 yX11_copy ∈ TT := tt_tb 352 (by decide +kernel) (by decide +kernel)
theorem tw_353 : Cond.instanceMethod yX11_copy ∈ TT := tt_tb 353 (by decide +kernel) (by decide +kernel)
theorem tw_354 : Cond.selects RX11 yX11_copy yX11_copy ∈ TT := tt_tb 354 (by decide +kernel) (by decide +kernel)
theorem tw_355 : Cond.code yX11_copy cX11_copy 6 (some .int) ∈ TT := tt_tb 355 (by decide +kernel) (by decide +kernel)
theorem tw_356 : Cond.methodLink RX11 107 yX6_isMissing ∈ TT := tt_tb 356 (by decide +kernel) (by decide +kernel)
theorem tw_357 : Cond.methodLink RX11 113 yX6_has ∈ TT := tt_tb 357 (by decide +kernel) (by decide +kernel)
theorem tw_358 : Cond.methodLink RX11 120 arraycopyName ∈ TT := tt_tb 358 (by decide +kernel) (by decide +kernel)
theorem tw_359 : Cond.static arraycopyName ∈ TT := tt_tb 359 (by decide +kernel) (by decide +kernel)
theorem tw_360 : Cond.native arraycopyName ∈ TT := tt_tb 360 (by decide +kernel) (by decide +kernel)
theorem tw_361 : Cond.methodLink RL 27 yX11_drop ∈ TT := tt_tb 361 (by decide +kernel) (by decide +kernel)
theorem tw_362 : Cond.instanceMethod yX11_drop ∈ TT := tt_tb 362 (by decide +kernel) (by decide +kernel)
theorem tw_363 : Cond.selects RX11 yX11_drop yX11_drop ∈ TT := tt_tb 363 (by decide +kernel) (by decide +kernel)
theorem tw_364 : Cond.code yX11_drop cX11_drop 3 (some .int) ∈ TT := tt_tb 364 (by decide +kernel) (by decide +kernel)
theorem tw_365 : Cond.methodLink RL 32 yX11_feed ∈ TT := tt_tb 365 (by decide +kernel) (by decide +kernel)
theorem tw_366 : Cond.instanceMethod yX11_feed ∈ TT := tt_tb 366 (by decide +kernel) (by decide +kernel)
theorem tw_367 : Cond.selects RX11 yX11_feed yX11_feed ∈ TT := tt_tb 367 (by decide +kernel) (by decide +kernel)
theorem tw_368 : Cond.code yX11_feed cX11_feed 2 (some .int) ∈ TT := tt_tb 368 (by decide +kernel) (by decide +kernel)
theorem tw_369 : Cond.constant RX11 133 (-1000003) ∈ TT := tt_tb 369 (by decide +kernel) (by decide +kernel)
theorem tw_370 : Cond.methodLink RX11 134 yX9_append ∈ TT := tt_tb 370 (by decide +kernel) (by decide +kernel)
theorem tw_371 : Cond.instanceMethod yX9_append ∈ TT := tt_tb 371 (by decide +kernel) (by decide +kernel)
theorem tw_372 : Cond.selects RX9 yX9_append yX9_append ∈ TT := tt_tb 372 (by decide +kernel) (by decide +kernel)
theorem tw_373 : Cond.code yX9_append cX9_append 2 none ∈ TT := tt_tb 373 (by decide +kernel) (by decide +kernel)
theorem tw_374 : Cond.methodLink RL 36 yX11_parish ∈ TT := tt_tb 374 (by decide +kernel) (by decide +kernel)
theorem tw_375 : Cond.instanceMethod yX11_parish ∈ TT := tt_tb 375 (by decide +kernel) (by decide +kernel)
theorem tw_376 : Cond.selects RX11 yX11_parish yX11_parish ∈ TT := tt_tb 376 (by decide +kernel) (by decide +kernel)
theorem tw_377 : Cond.code yX11_parish cX11_parish 2 (some .int) ∈ TT := tt_tb 377 (by decide +kernel) (by decide +kernel)
theorem tw_378 : Cond.methodLink RX11 138 yX9_read ∈ TT := tt_tb 378 (by decide +kernel) (by decide +kernel)
theorem tw_379 : Cond.instanceMethod yX9_read ∈ TT := tt_tb 379 (by decide +kernel) (by decide +kernel)
theorem tw_380 : Cond.selects RX9 yX9_read yX9_read ∈ TT := tt_tb 380 (by decide +kernel) (by decide +kernel)
theorem tw_381 : Cond.code yX9_read cX9_read 3 (some .boolean) ∈ TT := tt_tb 381 (by decide +kernel) (by decide +kernel)
theorem tw_382 : Cond.methodLink RX9 19 yX5_clear ∈ TT := tt_tb 382 (by decide +kernel) (by decide +kernel)
theorem tw_383 : Cond.instanceMethod yX5_clear ∈ TT := tt_tb 383 (by decide +kernel) (by decide +kernel)
theorem tw_384 : Cond.selects RX5 yX5_clear yX5_clear ∈ TT := tt_tb 384 (by decide +kernel) (by decide +kernel)
theorem tw_385 : Cond.code yX5_clear cX5_clear 1 none ∈ TT := tt_tb 385 (by decide +kernel) (by decide +kernel)
theorem tw_386 : Cond.methodLink RX9 27 yX9_take ∈ TT := tt_tb 386 (by decide +kernel) (by decide +kernel)
theorem tw_388 : Cond.instanceMethod yX9_take ∈ TT := tt_tb 388 (by decide +kernel) (by decide +kernel)
theorem tw_389 : Cond.code yX9_take cX9_take 2 none ∈ TT := tt_tb 389 (by decide +kernel) (by decide +kernel)
theorem tw_390 : Cond.methodLink RX9 96 yX9_isFigure ∈ TT := tt_tb 390 (by decide +kernel) (by decide +kernel)
theorem tw_391 : Cond.static yX9_isFigure ∈ TT := tt_tb 391 (by decide +kernel) (by decide +kernel)
theorem tw_392 : Cond.code yX9_isFigure cX9_isFigure 1 (some .boolean) ∈ TT := tt_tb 392 (by decide +kernel) (by decide +kernel)
theorem tw_393 : Cond.methodLink RX9 99 yX9_takeNumber ∈ TT := tt_tb 393 (by decide +kernel) (by decide +kernel)
theorem tw_395 : Cond.instanceMethod yX9_takeNumber ∈ TT := tt_tb 395 (by decide +kernel) (by decide +kernel)
theorem tw_396 : Cond.code yX9_takeNumber cX9_takeNumber 1 none ∈ TT := tt_tb 396 (by decide +kernel) (by decide +kernel)
theorem tw_397 : Cond.methodLink RX9 30 yX9_readLaw ∈ TT := tt_tb 397 (by decide +kernel) (by decide +kernel)
theorem tw_399 : Cond.instanceMethod yX9_readLaw ∈ TT := tt_tb 399 (by decide +kernel) (by decide +kernel)
theorem tw_400 : Cond.code yX9_readLaw cX9_readLaw 2 (some .boolean) ∈ TT := tt_tb 400 (by decide +kernel) (by decide +kernel)
theorem tw_401 : Cond.methodLink RX9 55 yX9_takes ∈ TT := tt_tb 401 (by decide +kernel) (by decide +kernel)
theorem tw_403 : Cond.instanceMethod yX9_takes ∈ TT := tt_tb 403 (by decide +kernel) (by decide +kernel)
theorem tw_404 : Cond.code yX9_takes cX9_takes 2 (some .boolean) ∈ TT := tt_tb 404 (by decide +kernel) (by decide +kernel)
theorem tw_405 : Cond.methodLink RX9 47 yX9_fails ∈ TT := tt_tb 405 (by decide +kernel) (by decide +kernel)
theorem tw_407 : Cond.instanceMethod yX9_fails ∈ TT := tt_tb 407 (by decide +kernel) (by decide +kernel)
theorem tw_408 : Cond.code yX9_fails cX9_fails 2 (some .boolean) ∈ TT := tt_tb 408 (by decide +kernel) (by decide +kernel)
theorem tw_409 : Cond.methodLink RX9 58 yX9_isNumber ∈ TT := tt_tb 409 (by decide +kernel) (by decide +kernel)
theorem tw_411 : Cond.instanceMethod yX9_isNumber ∈ TT := tt_tb 411 (by decide +kernel) (by decide +kernel)
theorem tw_412 : Cond.code yX9_isNumber cX9_isNumber 3 (some .boolean) ∈ TT := tt_tb 412 (by decide +kernel) (by decide +kernel)
theorem tw_413 : Cond.methodLink RX9 37 yX9_readPath ∈ TT := tt_tb 413 (by decide +kernel) (by decide +kernel)
theorem tw_415 : Cond.instanceMethod yX9_readPath ∈ TT := tt_tb 415 (by decide +kernel) (by decide +kernel)
theorem tw_416 : Cond.code yX9_readPath cX9_readPath 4 (some .boolean) ∈ TT := tt_tb 416 (by decide +kernel) (by decide +kernel)
theorem tw_417 : Cond.methodLink RX9 74 yX5_isJoined ∈ TT := tt_tb 417 (by decide +kernel) (by decide +kernel)
theorem tw_418 : Cond.instanceMethod yX5_isJoined ∈ TT := tt_tb 418 (by decide +kernel) (by decide +kernel)
theorem tw_419 : Cond.selects RX5 yX5_isJoined yX5_isJoined ∈ TT := tt_tb 419 (by decide +kernel) (by decide +kernel)
theorem tw_420 : Cond.code yX5_isJoined cX5_isJoined 3 (some .boolean) ∈ TT := tt_tb 420 (by decide +kernel) (by decide +kernel)
theorem tw_421 : Cond.methodLink RX5 66 yX5_pathsAt ∈ TT := tt_tb 421 (by decide +kernel) (by decide +kernel)
theorem tw_422 : Cond.instanceMethod yX5_pathsAt ∈ TT := tt_tb 422 (by decide +kernel) (by decide +kernel)
theorem tw_423 : Cond.selects RX5 yX5_pathsAt yX5_pathsAt ∈ TT := tt_tb 423 (by decide +kernel) (by decide +kernel)
theorem tw_424 : Cond.code yX5_pathsAt cX5_pathsAt 4 (some .int) ∈ TT := tt_tb 424 (by decide +kernel) (by decide +kernel)
theorem tw_425 : Cond.methodLink RX9 77 yX5_addPath ∈ TT := tt_tb 425 (by decide +kernel) (by decide +kernel)
theorem tw_426 : Cond.instanceMethod yX5_addPath ∈ TT := tt_tb 426 (by decide +kernel) (by decide +kernel)
theorem tw_427 : Cond.selects RX5 yX5_addPath yX5_addPath ∈ TT := tt_tb 427 (by decide +kernel) (by decide +kernel)
theorem tw_428 : Cond.code yX5_addPath cX5_addPath 4 none ∈ TT := tt_tb 428 (by decide +kernel) (by decide +kernel)
theorem tw_429 : Cond.methodLink RX9 40 yX9_sortOf ∈ TT := tt_tb 429 (by decide +kernel) (by decide +kernel)
theorem tw_430 : Cond.static yX9_sortOf ∈ TT := tt_tb 430 (by decide +kernel) (by decide +kernel)
theorem tw_431 : Cond.code yX9_sortOf cX9_sortOf 1 (some .int) ∈ TT := tt_tb 431 (by decide +kernel) (by decide +kernel)
theorem tw_432 : Cond.methodLink RX9 44 yX9_readWitness ∈ TT := tt_tb 432 (by decide +kernel) (by decide +kernel)
theorem tw_434 : Cond.instanceMethod yX9_readWitness ∈ TT := tt_tb 434 (by decide +kernel) (by decide +kernel)
theorem tw_435 : Cond.code yX9_readWitness cX9_readWitness 4 (some .boolean) ∈ TT := tt_tb 435 (by decide +kernel) (by decide +kernel)
theorem tw_436 : Cond.methodLink RX9 84 yX5_addWitness ∈ TT := tt_tb 436 (by decide +kernel) (by decide +kernel)
theorem tw_437 : Cond.instanceMethod yX5_addWitness ∈ TT := tt_tb 437 (by decide +kernel) (by decide +kernel)
theorem tw_438 : Cond.selects RX5 yX5_addWitness yX5_addWitness ∈ TT := tt_tb 438 (by decide +kernel) (by decide +kernel)
theorem tw_439 : Cond.code yX5_addWitness cX5_addWitness 4 none ∈ TT := tt_tb 439 (by decide +kernel) (by decide +kernel)
theorem tw_440 : Cond.constant RX11 142 (-1000100) ∈ TT := tt_tb 440 (by decide +kernel) (by decide +kernel)
theorem tw_441 : Cond.methodLink RX11 146 yX5_become ∈ TT := tt_tb 441 (by decide +kernel) (by decide +kernel)
theorem tw_442 : Cond.instanceMethod yX5_become ∈ TT := tt_tb 442 (by decide +kernel) (by decide +kernel)
theorem tw_443 : Cond.selects RX5 yX5_become yX5_become ∈ TT := tt_tb 443 (by decide +kernel) (by decide +kernel)
theorem tw_444 : Cond.code yX5_become cX5_become 2 none ∈ TT := tt_tb 444 (by decide +kernel) (by decide +kernel)
theorem tw_445 : Cond.methodLink RX5 60 arraycopyName ∈ TT := tt_tb 445 (by decide +kernel) (by decide +kernel)
theorem tw_446 : Cond.methodLink RX11 150 yX11_forgetActs ∈ TT := tt_tb 446 (by decide +kernel) (by decide +kernel)
theorem tw_448 : Cond.instanceMethod yX11_forgetActs ∈ TT := tt_tb 448 (by decide +kernel) (by decide +kernel)
theorem tw_449 : Cond.code yX11_forgetActs cX11_forgetActs 1 none ∈ TT := tt_tb 449 (by decide +kernel) (by decide +kernel)
theorem tw_450 : Cond.methodLink RL 41 yX11_fault ∈ TT := tt_tb 450 (by decide +kernel) (by decide +kernel)
theorem tw_451 : Cond.instanceMethod yX11_fault ∈ TT := tt_tb 451 (by decide +kernel) (by decide +kernel)
theorem tw_452 : Cond.selects RX11 yX11_fault yX11_fault ∈ TT := tt_tb 452 (by decide +kernel) (by decide +kernel)
theorem tw_453 : Cond.code yX11_fault cX11_fault 1 (some .int) ∈ TT := tt_tb 453 (by decide +kernel) (by decide +kernel)
theorem tw_454 : Cond.methodLink RL 45 yX11_undo ∈ TT := tt_tb 454 (by decide +kernel) (by decide +kernel)
theorem tw_455 : Cond.instanceMethod yX11_undo ∈ TT := tt_tb 455 (by decide +kernel) (by decide +kernel)
theorem tw_456 : Cond.selects RX11 yX11_undo yX11_undo ∈ TT := tt_tb 456 (by decide +kernel) (by decide +kernel)
theorem tw_457 : Cond.code yX11_undo cX11_undo 1 (some .int) ∈ TT := tt_tb 457 (by decide +kernel) (by decide +kernel)
theorem tw_458 : Cond.constant RX11 162 (-1000002) ∈ TT := tt_tb 458 (by decide +kernel) (by decide +kernel)
theorem tw_459 : Cond.methodLink RX11 166 yX5_load ∈ TT := tt_tb 459 (by decide +kernel) (by decide +kernel)
theorem tw_460 : Cond.instanceMethod yX5_load ∈ TT := tt_tb 460 (by decide +kernel) (by decide +kernel)
theorem tw_461 : Cond.selects RX5 yX5_load yX5_load ∈ TT := tt_tb 461 (by decide +kernel) (by decide +kernel)
theorem tw_462 : Cond.code yX5_load cX5_load 2 none ∈ TT := tt_tb 462 (by decide +kernel) (by decide +kernel)
theorem tw_463 : Cond.methodLink RL 49 yX11_bury ∈ TT := tt_tb 463 (by decide +kernel) (by decide +kernel)
theorem tw_464 : Cond.instanceMethod yX11_bury ∈ TT := tt_tb 464 (by decide +kernel) (by decide +kernel)
theorem tw_465 : Cond.selects RX11 yX11_bury yX11_bury ∈ TT := tt_tb 465 (by decide +kernel) (by decide +kernel)
theorem tw_466 : Cond.code yX11_bury cX11_bury 2 (some .int) ∈ TT := tt_tb 466 (by decide +kernel) (by decide +kernel)
theorem tw_467 : Cond.methodLink RX11 174 yX11_isField ∈ TT := tt_tb 467 (by decide +kernel) (by decide +kernel)
theorem tw_468 : Cond.static yX11_isField ∈ TT := tt_tb 468 (by decide +kernel) (by decide +kernel)
theorem tw_469 : Cond.code yX11_isField cX11_isField 1 (some .boolean) ∈ TT := tt_tb 469 (by decide +kernel) (by decide +kernel)
theorem tw_470 : Cond.methodLink RX11 177 yX2_isBurial ∈ TT := tt_tb 470 (by decide +kernel) (by decide +kernel)
theorem tw_471 : Cond.instanceMethod yX2_isBurial ∈ TT := tt_tb 471 (by decide +kernel) (by decide +kernel)
theorem tw_472 : Cond.selects RX2 yX2_isBurial yX2_isBurial ∈ TT := tt_tb 472 (by decide +kernel) (by decide +kernel)
theorem tw_473 : Cond.code yX2_isBurial cX2_isBurial 3 (some .boolean) ∈ TT := tt_tb 473 (by decide +kernel) (by decide +kernel)
theorem tw_474 : Cond.methodLink RX2 36 yX5_open ∈ TT := tt_tb 474 (by decide +kernel) (by decide +kernel)
theorem tw_475 : Cond.instanceMethod yX5_open ∈ TT := tt_tb 475 (by decide +kernel) (by decide +kernel)
theorem tw_476 : Cond.selects RX5 yX5_open yX5_open ∈ TT := tt_tb 476 (by decide +kernel) (by decide +kernel)
theorem tw_477 : Cond.code yX5_open cX5_open 1 (some .int) ∈ TT := tt_tb 477 (by decide +kernel) (by decide +kernel)
theorem tw_478 : Cond.methodLink RX5 70 yX5_allPaths ∈ TT := tt_tb 478 (by decide +kernel) (by decide +kernel)
theorem tw_479 : Cond.instanceMethod yX5_allPaths ∈ TT := tt_tb 479 (by decide +kernel) (by decide +kernel)
theorem tw_480 : Cond.selects RX5 yX5_allPaths yX5_allPaths ∈ TT := tt_tb 480 (by decide +kernel) (by decide +kernel)
theorem tw_481 : Cond.code yX5_allPaths cX5_allPaths 1 (some .int) ∈ TT := tt_tb 481 (by decide +kernel) (by decide +kernel)
theorem tw_482 : Cond.methodLink RX2 40 yX2_carry ∈ TT := tt_tb 482 (by decide +kernel) (by decide +kernel)
theorem tw_483 : Cond.instanceMethod yX2_carry ∈ TT := tt_tb 483 (by decide +kernel) (by decide +kernel)
theorem tw_484 : Cond.selects RX2 yX2_carry yX2_carry ∈ TT := tt_tb 484 (by decide +kernel) (by decide +kernel)
theorem tw_485 : Cond.code yX2_carry cX2_carry 8 (some .boolean) ∈ TT := tt_tb 485 (by decide +kernel) (by decide +kernel)
theorem tw_486 : Cond.methodLink RX2 44 yX2_measure ∈ TT := tt_tb 486 (by decide +kernel) (by decide +kernel)
theorem tw_488 : Cond.instanceMethod yX2_measure ∈ TT := tt_tb 488 (by decide +kernel) (by decide +kernel)
theorem tw_489 : Cond.code yX2_measure cX2_measure 6 none ∈ TT := tt_tb 489 (by decide +kernel) (by decide +kernel)
theorem tw_491 : Cond.static yX11_bitOf ∈ TT := tt_tb 491 (by decide +kernel) (by decide +kernel)
theorem tw_492 : Cond.code yX11_bitOf cX11_bitOf 2 (some .int) ∈ TT := tt_tb 492 (by decide +kernel) (by decide +kernel)
theorem tw_493 : Cond.methodLink RX2 81 yX2_shorten ∈ TT := tt_tb 493 (by decide +kernel) (by decide +kernel)
theorem tw_495 : Cond.instanceMethod yX2_shorten ∈ TT := tt_tb 495 (by decide +kernel) (by decide +kernel)
theorem tw_496 : Cond.code yX2_shorten cX2_shorten 4 (some .boolean) ∈ TT := tt_tb 496 (by decide +kernel) (by decide +kernel)
theorem tw_497 : Cond.methodLink RX2 57 yX2_nextField ∈ TT := tt_tb 497 (by decide +kernel) (by decide +kernel)
theorem tw_499 : Cond.instanceMethod yX2_nextField ∈ TT := tt_tb 499 (by decide +kernel) (by decide +kernel)
theorem tw_500 : Cond.code yX2_nextField cX2_nextField 7 (some .int) ∈ TT := tt_tb 500 (by decide +kernel) (by decide +kernel)
theorem tw_501 : Cond.methodLink RX2 61 yX5_pathsAt ∈ TT := tt_tb 501 (by decide +kernel) (by decide +kernel)
theorem tw_502 : Cond.methodLink RX11 181 yX11_keepAct ∈ TT := tt_tb 502 (by decide +kernel) (by decide +kernel)
theorem tw_504 : Cond.instanceMethod yX11_keepAct ∈ TT := tt_tb 504 (by decide +kernel) (by decide +kernel)
theorem tw_505 : Cond.code yX11_keepAct cX11_keepAct 1 none ∈ TT := tt_tb 505 (by decide +kernel) (by decide +kernel)
theorem tw_506 : Cond.methodLink RX11 350 yX5_save ∈ TT := tt_tb 506 (by decide +kernel) (by decide +kernel)
theorem tw_507 : Cond.instanceMethod yX5_save ∈ TT := tt_tb 507 (by decide +kernel) (by decide +kernel)
theorem tw_508 : Cond.selects RX5 yX5_save yX5_save ∈ TT := tt_tb 508 (by decide +kernel) (by decide +kernel)
theorem tw_509 : Cond.code yX5_save cX5_save 2 none ∈ TT := tt_tb 509 (by decide +kernel) (by decide +kernel)
theorem tw_510 : Cond.methodLink RX11 353 yJ9_min_7cf53 ∈ TT := tt_tb 510 (by decide +kernel) (by decide +kernel)
theorem tw_511 : Cond.static yJ9_min_7cf53 ∈ TT := tt_tb 511 (by decide +kernel) (by decide +kernel)
theorem tw_512 : Cond.code yJ9_min_7cf53 cJ9_min_7cf53 2 (some .int) ∈ TT := tt_tb 512 (by decide +kernel) (by decide +kernel)
theorem tw_513 : Cond.methodLink RX11 184 yX5_see ∈ TT := tt_tb 513 (by decide +kernel) (by decide +kernel)
theorem tw_514 : Cond.instanceMethod yX5_see ∈ TT := tt_tb 514 (by decide +kernel) (by decide +kernel)
theorem tw_515 : Cond.selects RX5 yX5_see yX5_see ∈ TT := tt_tb 515 (by decide +kernel) (by decide +kernel)
theorem tw_516 : Cond.code yX5_see cX5_see 3 none ∈ TT := tt_tb 516 (by decide +kernel) (by decide +kernel)
theorem tw_517 : Cond.methodLink RX5 97 yX5_seenBy ∈ TT := tt_tb 517 (by decide +kernel) (by decide +kernel)
theorem tw_518 : Cond.instanceMethod yX5_seenBy ∈ TT := tt_tb 518 (by decide +kernel) (by decide +kernel)
theorem tw_519 : Cond.selects RX5 yX5_seenBy yX5_seenBy ∈ TT := tt_tb 519 (by decide +kernel) (by decide +kernel)
theorem tw_520 : Cond.code yX5_seenBy cX5_seenBy 3 (some .int) ∈ TT := tt_tb 520 (by decide +kernel) (by decide +kernel)
theorem tw_521 : Cond.methodLink RX5 79 yX5_isAlive ∈ TT := tt_tb 521 (by decide +kernel) (by decide +kernel)
theorem tw_522 : Cond.instanceMethod yX5_isAlive ∈ TT := tt_tb 522 (by decide +kernel) (by decide +kernel)
theorem tw_523 : Cond.selects RX5 yX5_isAlive yX5_isAlive ∈ TT := tt_tb 523 (by decide +kernel) (by decide +kernel)
theorem tw_524 : Cond.code yX5_isAlive cX5_isAlive 2 (some .boolean) ∈ TT := tt_tb 524 (by decide +kernel) (by decide +kernel)
theorem tw_525 : Cond.methodLink RX5 74 yX10_span ∈ TT := tt_tb 525 (by decide +kernel) (by decide +kernel)
theorem tw_526 : Cond.instanceMethod yX10_span ∈ TT := tt_tb 526 (by decide +kernel) (by decide +kernel)
theorem tw_527 : Cond.selects RX10 yX10_span yX10_span ∈ TT := tt_tb 527 (by decide +kernel) (by decide +kernel)
theorem tw_528 : Cond.sameMethod RX10 RX10 "span" "(I)I" ∈ TT := tt_tb 528 (by decide +kernel) (by decide +kernel)
theorem tw_529 : Cond.selects RX1 yX10_span yX1_span ∈ TT := tt_tb 529 (by decide +kernel) (by decide +kernel)
theorem tw_530 : Cond.instanceMethod yX1_span ∈ TT := tt_tb 530 (by decide +kernel) (by decide +kernel)
theorem tw_531 : Cond.code yX1_span cX1_span 2 (some .int) ∈ TT := tt_tb 531 (by decide +kernel) (by decide +kernel)
theorem tw_532 : Cond.selects RX3 yX10_span yX10_span ∈ TT := tt_tb 532 (by decide +kernel) (by decide +kernel)
theorem tw_533 : Cond.selects RX4 yX10_span yX10_span ∈ TT := tt_tb 533 (by decide +kernel) (by decide +kernel)
theorem tw_534 : Cond.selects RX7 yX10_span yX10_span ∈ TT := tt_tb 534 (by decide +kernel) (by decide +kernel)
theorem tw_535 : Cond.selects RX8 yX10_span yX10_span ∈ TT := tt_tb 535 (by decide +kernel) (by decide +kernel)
theorem tw_536 : Cond.code yX10_span cX10_span 2 (some .int) ∈ TT := tt_tb 536 (by decide +kernel) (by decide +kernel)
theorem tw_537 : Cond.methodLink RX5 93 yX10_sees ∈ TT := tt_tb 537 (by decide +kernel) (by decide +kernel)
theorem tw_538 : Cond.instanceMethod yX10_sees ∈ TT := tt_tb 538 (by decide +kernel) (by decide +kernel)
theorem tw_539 : Cond.selects RX10 yX10_sees yX10_sees ∈ TT := tt_tb 539 (by decide +kernel) (by decide +kernel)
theorem tw_540 : Cond.sameMethod RX10 RX10 "sees" "(LCoffinWays$Parish;ILCoffinWays$Coffin;)I" ∈ TT := tt_tb 540 (by decide +kernel) (by decide +kernel)
theorem tw_541 : Cond.selects RX1 yX10_sees yX1_sees ∈ TT := tt_tb 541 (by decide +kernel) (by decide +kernel)
theorem tw_542 : Cond.instanceMethod yX1_sees ∈ TT := tt_tb 542 (by decide +kernel) (by decide +kernel)
theorem tw_543 : Cond.code yX1_sees cX1_sees 5 (some .int) ∈ TT := tt_tb 543 (by decide +kernel) (by decide +kernel)
theorem tw_544 : Cond.methodLink RX1 7 yX4_sees ∈ TT := tt_tb 544 (by decide +kernel) (by decide +kernel)
theorem tw_545 : Cond.instanceMethod yX4_sees ∈ TT := tt_tb 545 (by decide +kernel) (by decide +kernel)
theorem tw_546 : Cond.code yX4_sees cX4_sees 4 (some .int) ∈ TT := tt_tb 546 (by decide +kernel) (by decide +kernel)
theorem tw_547 : Cond.methodLink RX4 13 yX5_pathsAt ∈ TT := tt_tb 547 (by decide +kernel) (by decide +kernel)
theorem tw_548 : Cond.selects RX3 yX10_sees yX3_sees ∈ TT := tt_tb 548 (by decide +kernel) (by decide +kernel)
theorem tw_549 : Cond.instanceMethod yX3_sees ∈ TT := tt_tb 549 (by decide +kernel) (by decide +kernel)
theorem tw_550 : Cond.code yX3_sees cX3_sees 5 (some .int) ∈ TT := tt_tb 550 (by decide +kernel) (by decide +kernel)
theorem tw_551 : Cond.methodLink RX3 7 yX5_pathsAt ∈ TT := tt_tb 551 (by decide +kernel) (by decide +kernel)
theorem tw_552 : Cond.methodLink RX3 17 yX4_sees ∈ TT := tt_tb 552 (by decide +kernel) (by decide +kernel)
theorem tw_553 : Cond.selects RX4 yX10_sees yX4_sees ∈ TT := tt_tb 553 (by decide +kernel) (by decide +kernel)
theorem tw_554 : Cond.selects RX7 yX10_sees yX7_sees ∈ TT := tt_tb 554 (by decide +kernel) (by decide +kernel)
theorem tw_555 : Cond.instanceMethod yX7_sees ∈ TT := tt_tb 555 (by decide +kernel) (by decide +kernel)
theorem tw_556 : Cond.code yX7_sees cX7_sees 4 (some .int) ∈ TT := tt_tb 556 (by decide +kernel) (by decide +kernel)
theorem tw_557 : Cond.selects RX8 yX10_sees yX8_sees ∈ TT := tt_tb 557 (by decide +kernel) (by decide +kernel)
theorem tw_558 : Cond.instanceMethod yX8_sees ∈ TT := tt_tb 558 (by decide +kernel) (by decide +kernel)
theorem tw_559 : Cond.code yX8_sees cX8_sees 4 (some .int) ∈ TT := tt_tb 559 (by decide +kernel) (by decide +kernel)
theorem tw_560 : Cond.code yX10_sees cX10_sees 4 (some .int) ∈ TT := tt_tb 560 (by decide +kernel) (by decide +kernel)
theorem tw_561 : Cond.methodLink RX11 188 yX5_ways ∈ TT := tt_tb 561 (by decide +kernel) (by decide +kernel)
theorem tw_562 : Cond.instanceMethod yX5_ways ∈ TT := tt_tb 562 (by decide +kernel) (by decide +kernel)
theorem tw_563 : Cond.selects RX5 yX5_ways yX5_ways ∈ TT := tt_tb 563 (by decide +kernel) (by decide +kernel)
theorem tw_564 : Cond.code yX5_ways cX5_ways 1 (some .int) ∈ TT := tt_tb 564 (by decide +kernel) (by decide +kernel)
theorem tw_565 : Cond.methodLink RX5 90 yX5_sworn ∈ TT := tt_tb 565 (by decide +kernel) (by decide +kernel)
theorem tw_566 : Cond.instanceMethod yX5_sworn ∈ TT := tt_tb 566 (by decide +kernel) (by decide +kernel)
theorem tw_567 : Cond.selects RX5 yX5_sworn yX5_sworn ∈ TT := tt_tb 567 (by decide +kernel) (by decide +kernel)
theorem tw_568 : Cond.code yX5_sworn cX5_sworn 4 (some .int) ∈ TT := tt_tb 568 (by decide +kernel) (by decide +kernel)
theorem tw_570 : Cond.methodLink RX5 83 yX5_swears ∈ TT := tt_tb 570 (by decide +kernel) (by decide +kernel)
theorem tw_571 : Cond.instanceMethod yX5_swears ∈ TT := tt_tb 571 (by decide +kernel) (by decide +kernel)
theorem tw_572 : Cond.selects RX5 yX5_swears yX5_swears ∈ TT := tt_tb 572 (by decide +kernel) (by decide +kernel)
theorem tw_573 : Cond.code yX5_swears cX5_swears 2 (some .int) ∈ TT := tt_tb 573 (by decide +kernel) (by decide +kernel)
theorem tw_574 : Cond.methodLink RL 53 yX11_years ∈ TT := tt_tb 574 (by decide +kernel) (by decide +kernel)
theorem tw_575 : Cond.instanceMethod yX11_years ∈ TT := tt_tb 575 (by decide +kernel) (by decide +kernel)
theorem tw_576 : Cond.selects RX11 yX11_years yX11_years ∈ TT := tt_tb 576 (by decide +kernel) (by decide +kernel)
theorem tw_577 : Cond.code yX11_years cX11_years 3 (some .int) ∈ TT := tt_tb 577 (by decide +kernel) (by decide +kernel)
theorem tw_578 : Cond.methodLink RX11 195 yX5_pass ∈ TT := tt_tb 578 (by decide +kernel) (by decide +kernel)
theorem tw_579 : Cond.instanceMethod yX5_pass ∈ TT := tt_tb 579 (by decide +kernel) (by decide +kernel)
theorem tw_580 : Cond.selects RX5 yX5_pass yX5_pass ∈ TT := tt_tb 580 (by decide +kernel) (by decide +kernel)
theorem tw_581 : Cond.code yX5_pass cX5_pass 2 none ∈ TT := tt_tb 581 (by decide +kernel) (by decide +kernel)
theorem tw_582 : Cond.methodLink RX5 101 yX10_keeps ∈ TT := tt_tb 582 (by decide +kernel) (by decide +kernel)
theorem tw_583 : Cond.instanceMethod yX10_keeps ∈ TT := tt_tb 583 (by decide +kernel) (by decide +kernel)
theorem tw_584 : Cond.selects RX10 yX10_keeps yX10_keeps ∈ TT := tt_tb 584 (by decide +kernel) (by decide +kernel)
theorem tw_585 : Cond.sameMethod RX10 RX10 "keeps" "(II)I" ∈ TT := tt_tb 585 (by decide +kernel) (by decide +kernel)
theorem tw_586 : Cond.selects RX1 yX10_keeps yX10_keeps ∈ TT := tt_tb 586 (by decide +kernel) (by decide +kernel)
theorem tw_587 : Cond.selects RX3 yX10_keeps yX10_keeps ∈ TT := tt_tb 587 (by decide +kernel) (by decide +kernel)
theorem tw_588 : Cond.selects RX4 yX10_keeps yX10_keeps ∈ TT := tt_tb 588 (by decide +kernel) (by decide +kernel)
theorem tw_589 : Cond.selects RX7 yX10_keeps yX7_keeps ∈ TT := tt_tb 589 (by decide +kernel) (by decide +kernel)
theorem tw_590 : Cond.instanceMethod yX7_keeps ∈ TT := tt_tb 590 (by decide +kernel) (by decide +kernel)
theorem tw_591 : Cond.code yX7_keeps cX7_keeps 3 (some .int) ∈ TT := tt_tb 591 (by decide +kernel) (by decide +kernel)
theorem tw_592 : Cond.selects RX8 yX10_keeps yX8_keeps ∈ TT := tt_tb 592 (by decide +kernel) (by decide +kernel)
theorem tw_593 : Cond.instanceMethod yX8_keeps ∈ TT := tt_tb 593 (by decide +kernel) (by decide +kernel)
theorem tw_594 : Cond.code yX8_keeps cX8_keeps 3 (some .int) ∈ TT := tt_tb 594 (by decide +kernel) (by decide +kernel)
theorem tw_595 : Cond.code yX10_keeps cX10_keeps 3 (some .int) ∈ TT := tt_tb 595 (by decide +kernel) (by decide +kernel)
theorem tw_596 : Cond.methodLink RX11 198 yX5_living ∈ TT := tt_tb 596 (by decide +kernel) (by decide +kernel)
theorem tw_597 : Cond.instanceMethod yX5_living ∈ TT := tt_tb 597 (by decide +kernel) (by decide +kernel)
theorem tw_598 : Cond.selects RX5 yX5_living yX5_living ∈ TT := tt_tb 598 (by decide +kernel) (by decide +kernel)
theorem tw_599 : Cond.code yX5_living cX5_living 3 (some .int) ∈ TT := tt_tb 599 (by decide +kernel) (by decide +kernel)
theorem tw_600 : Cond.methodLink RL 57 yX11_lock ∈ TT := tt_tb 600 (by decide +kernel) (by decide +kernel)
theorem tw_601 : Cond.instanceMethod yX11_lock ∈ TT := tt_tb 601 (by decide +kernel) (by decide +kernel)
theorem tw_602 : Cond.selects RX11 yX11_lock yX11_lock ∈ TT := tt_tb 602 (by decide +kernel) (by decide +kernel)
theorem tw_603 : Cond.code yX11_lock cX11_lock 3 (some .int) ∈ TT := tt_tb 603 (by decide +kernel) (by decide +kernel)
theorem tw_604 : Cond.methodLink RX11 201 yX5_hasPath ∈ TT := tt_tb 604 (by decide +kernel) (by decide +kernel)
theorem tw_605 : Cond.instanceMethod yX5_hasPath ∈ TT := tt_tb 605 (by decide +kernel) (by decide +kernel)
theorem tw_606 : Cond.selects RX5 yX5_hasPath yX5_hasPath ∈ TT := tt_tb 606 (by decide +kernel) (by decide +kernel)
theorem tw_607 : Cond.code yX5_hasPath cX5_hasPath 2 (some .boolean) ∈ TT := tt_tb 607 (by decide +kernel) (by decide +kernel)
theorem tw_608 : Cond.methodLink RX11 204 yX11_isOneOfTwo ∈ TT := tt_tb 608 (by decide +kernel) (by decide +kernel)
theorem tw_609 : Cond.static yX11_isOneOfTwo ∈ TT := tt_tb 609 (by decide +kernel) (by decide +kernel)
theorem tw_610 : Cond.code yX11_isOneOfTwo cX11_isOneOfTwo 1 (some .boolean) ∈ TT := tt_tb 610 (by decide +kernel) (by decide +kernel)
theorem tw_611 : Cond.methodLink RX11 210 yX11_bitOf ∈ TT := tt_tb 611 (by decide +kernel) (by decide +kernel)
theorem tw_612 : Cond.methodLink RL 62 yX11_follow ∈ TT := tt_tb 612 (by decide +kernel) (by decide +kernel)
theorem tw_613 : Cond.instanceMethod yX11_follow ∈ TT := tt_tb 613 (by decide +kernel) (by decide +kernel)
theorem tw_614 : Cond.selects RX11 yX11_follow yX11_follow ∈ TT := tt_tb 614 (by decide +kernel) (by decide +kernel)
theorem tw_615 : Cond.code yX11_follow cX11_follow 2 (some .int) ∈ TT := tt_tb 615 (by decide +kernel) (by decide +kernel)
theorem tw_616 : Cond.methodLink RX11 214 yX5_hasWitness ∈ TT := tt_tb 616 (by decide +kernel) (by decide +kernel)
theorem tw_617 : Cond.instanceMethod yX5_hasWitness ∈ TT := tt_tb 617 (by decide +kernel) (by decide +kernel)
theorem tw_618 : Cond.selects RX5 yX5_hasWitness yX5_hasWitness ∈ TT := tt_tb 618 (by decide +kernel) (by decide +kernel)
theorem tw_619 : Cond.code yX5_hasWitness cX5_hasWitness 2 (some .boolean) ∈ TT := tt_tb 619 (by decide +kernel) (by decide +kernel)
theorem tw_620 : Cond.methodLink RX11 217 yX5_isAlive ∈ TT := tt_tb 620 (by decide +kernel) (by decide +kernel)
theorem tw_621 : Cond.methodLink RL 66 yX11_witness ∈ TT := tt_tb 621 (by decide +kernel) (by decide +kernel)
theorem tw_622 : Cond.instanceMethod yX11_witness ∈ TT := tt_tb 622 (by decide +kernel) (by decide +kernel)
theorem tw_623 : Cond.selects RX11 yX11_witness yX11_witness ∈ TT := tt_tb 623 (by decide +kernel) (by decide +kernel)
theorem tw_624 : Cond.code yX11_witness cX11_witness 3 (some .int) ∈ TT := tt_tb 624 (by decide +kernel) (by decide +kernel)
theorem tw_625 : Cond.methodLink RX11 229 yX5_swears ∈ TT := tt_tb 625 (by decide +kernel) (by decide +kernel)
theorem tw_626 : Cond.methodLink RL 70 yX11_path ∈ TT := tt_tb 626 (by decide +kernel) (by decide +kernel)
theorem tw_627 : Cond.instanceMethod yX11_path ∈ TT := tt_tb 627 (by decide +kernel) (by decide +kernel)
theorem tw_628 : Cond.selects RX11 yX11_path yX11_path ∈ TT := tt_tb 628 (by decide +kernel) (by decide +kernel)
theorem tw_629 : Cond.code yX11_path cX11_path 3 (some .int) ∈ TT := tt_tb 629 (by decide +kernel) (by decide +kernel)
theorem tw_630 : Cond.methodLink RX11 241 yX5_swearing ∈ TT := tt_tb 630 (by decide +kernel) (by decide +kernel)
theorem tw_631 : Cond.instanceMethod yX5_swearing ∈ TT := tt_tb 631 (by decide +kernel) (by decide +kernel)
theorem tw_632 : Cond.selects RX5 yX5_swearing yX5_swearing ∈ TT := tt_tb 632 (by decide +kernel) (by decide +kernel)
theorem tw_633 : Cond.code yX5_swearing cX5_swearing 4 (some .int) ∈ TT := tt_tb 633 (by decide +kernel) (by decide +kernel)
theorem tw_634 : Cond.methodLink RL 74 yX11_stand ∈ TT := tt_tb 634 (by decide +kernel) (by decide +kernel)
theorem tw_635 : Cond.instanceMethod yX11_stand ∈ TT := tt_tb 635 (by decide +kernel) (by decide +kernel)
theorem tw_636 : Cond.selects RX11 yX11_stand yX11_stand ∈ TT := tt_tb 636 (by decide +kernel) (by decide +kernel)
theorem tw_637 : Cond.code yX11_stand cX11_stand 2 (some .int) ∈ TT := tt_tb 637 (by decide +kernel) (by decide +kernel)
theorem tw_638 : Cond.methodLink RL 78 yX11_ahead ∈ TT := tt_tb 638 (by decide +kernel) (by decide +kernel)
theorem tw_639 : Cond.instanceMethod yX11_ahead ∈ TT := tt_tb 639 (by decide +kernel) (by decide +kernel)
theorem tw_640 : Cond.selects RX11 yX11_ahead yX11_ahead ∈ TT := tt_tb 640 (by decide +kernel) (by decide +kernel)
theorem tw_641 : Cond.code yX11_ahead cX11_ahead 3 (some .int) ∈ TT := tt_tb 641 (by decide +kernel) (by decide +kernel)
theorem tw_642 : Cond.methodLink RL 82 yX11_lost ∈ TT := tt_tb 642 (by decide +kernel) (by decide +kernel)
theorem tw_643 : Cond.instanceMethod yX11_lost ∈ TT := tt_tb 643 (by decide +kernel) (by decide +kernel)
theorem tw_644 : Cond.selects RX11 yX11_lost yX11_lost ∈ TT := tt_tb 644 (by decide +kernel) (by decide +kernel)
theorem tw_645 : Cond.code yX11_lost cX11_lost 3 (some .int) ∈ TT := tt_tb 645 (by decide +kernel) (by decide +kernel)
theorem tw_646 : Cond.constant RX11 247 (-1000000) ∈ TT := tt_tb 646 (by decide +kernel) (by decide +kernel)
theorem tw_647 : Cond.methodLink RL 86 yX11_goes ∈ TT := tt_tb 647 (by decide +kernel) (by decide +kernel)
theorem tw_648 : Cond.instanceMethod yX11_goes ∈ TT := tt_tb 648 (by decide +kernel) (by decide +kernel)
theorem tw_649 : Cond.selects RX11 yX11_goes yX11_goes ∈ TT := tt_tb 649 (by decide +kernel) (by decide +kernel)
theorem tw_650 : Cond.code yX11_goes cX11_goes 3 (some .int) ∈ TT := tt_tb 650 (by decide +kernel) (by decide +kernel)
theorem tw_651 : Cond.methodLink RX11 248 yX5_open ∈ TT := tt_tb 651 (by decide +kernel) (by decide +kernel)
theorem tw_652 : Cond.methodLink RX11 251 yX2_carry ∈ TT := tt_tb 652 (by decide +kernel) (by decide +kernel)
theorem tw_653 : Cond.methodLink RL 90 yX11_stop ∈ TT := tt_tb 653 (by decide +kernel) (by decide +kernel)
theorem tw_654 : Cond.instanceMethod yX11_stop ∈ TT := tt_tb 654 (by decide +kernel) (by decide +kernel)
theorem tw_655 : Cond.selects RX11 yX11_stop yX11_stop ∈ TT := tt_tb 655 (by decide +kernel) (by decide +kernel)
theorem tw_656 : Cond.code yX11_stop cX11_stop 4 (some .int) ∈ TT := tt_tb 656 (by decide +kernel) (by decide +kernel)
theorem tw_657 : Cond.methodLink RX11 261 yX2_fewestGates ∈ TT := tt_tb 657 (by decide +kernel) (by decide +kernel)
theorem tw_658 : Cond.instanceMethod yX2_fewestGates ∈ TT := tt_tb 658 (by decide +kernel) (by decide +kernel)
theorem tw_659 : Cond.selects RX2 yX2_fewestGates yX2_fewestGates ∈ TT := tt_tb 659 (by decide +kernel) (by decide +kernel)
theorem tw_660 : Cond.code yX2_fewestGates cX2_fewestGates 8 (some .int) ∈ TT := tt_tb 660 (by decide +kernel) (by decide +kernel)
theorem tw_661 : Cond.methodLink RX2 85 yX2_between ∈ TT := tt_tb 661 (by decide +kernel) (by decide +kernel)
theorem tw_662 : Cond.static yX2_between ∈ TT := tt_tb 662 (by decide +kernel) (by decide +kernel)
theorem tw_663 : Cond.code yX2_between cX2_between 5 (some .int) ∈ TT := tt_tb 663 (by decide +kernel) (by decide +kernel)
theorem tw_664 : Cond.methodLink RX2 88 yJ6_bitCount_0f7a4 ∈ TT := tt_tb 664 (by decide +kernel) (by decide +kernel)
theorem tw_665 : Cond.static yJ6_bitCount_0f7a4 ∈ TT := tt_tb 665 (by decide +kernel) (by decide +kernel)
theorem tw_666 : Cond.code yJ6_bitCount_0f7a4 cJ6_bitCount_0f7a4 1 (some .int) ∈ TT := tt_tb 666 (by decide +kernel) (by decide +kernel)
theorem tw_667 : Cond.constant RJ6 265 (1431655765) ∈ TT := tt_tb 667 (by decide +kernel) (by decide +kernel)
theorem tw_668 : Cond.constant RJ6 266 (858993459) ∈ TT := tt_tb 668 (by decide +kernel) (by decide +kernel)
theorem tw_669 : Cond.constant RJ6 267 (252645135) ∈ TT := tt_tb 669 (by decide +kernel) (by decide +kernel)
theorem tw_670 : Cond.methodLink RX11 265 yJ6_bitCount_0f7a4 ∈ TT := tt_tb 670 (by decide +kernel) (by decide +kernel)
theorem tw_671 : Cond.methodLink RL 94 yX11_must ∈ TT := tt_tb 671 (by decide +kernel) (by decide +kernel)
theorem tw_672 : Cond.instanceMethod yX11_must ∈ TT := tt_tb 672 (by decide +kernel) (by decide +kernel)
theorem tw_673 : Cond.selects RX11 yX11_must yX11_must ∈ TT := tt_tb 673 (by decide +kernel) (by decide +kernel)
theorem tw_674 : Cond.code yX11_must cX11_must 6 (some .int) ∈ TT := tt_tb 674 (by decide +kernel) (by decide +kernel)
theorem tw_675 : Cond.methodLink RL 98 yX11_live ∈ TT := tt_tb 675 (by decide +kernel) (by decide +kernel)
theorem tw_676 : Cond.instanceMethod yX11_live ∈ TT := tt_tb 676 (by decide +kernel) (by decide +kernel)
theorem tw_677 : Cond.selects RX11 yX11_live yX11_live ∈ TT := tt_tb 677 (by decide +kernel) (by decide +kernel)
theorem tw_678 : Cond.code yX11_live cX11_live 6 (some .int) ∈ TT := tt_tb 678 (by decide +kernel) (by decide +kernel)
theorem tw_679 : Cond.methodLink RX11 270 yX5_allPaths ∈ TT := tt_tb 679 (by decide +kernel) (by decide +kernel)
theorem tw_680 : Cond.methodLink RX11 276 yX5_sworn ∈ TT := tt_tb 680 (by decide +kernel) (by decide +kernel)
theorem tw_681 : Cond.methodLink RL 102 yX11_makes ∈ TT := tt_tb 681 (by decide +kernel) (by decide +kernel)
theorem tw_682 : Cond.instanceMethod yX11_makes ∈ TT := tt_tb 682 (by decide +kernel) (by decide +kernel)
theorem tw_683 : Cond.selects RX11 yX11_makes yX11_makes ∈ TT := tt_tb 683 (by decide +kernel) (by decide +kernel)
theorem tw_684 : Cond.code yX11_makes cX11_makes 2 (some .int) ∈ TT := tt_tb 684 (by decide +kernel) (by decide +kernel)
theorem tw_685 : Cond.methodLink RX11 279 yX11_newWays ∈ TT := tt_tb 685 (by decide +kernel) (by decide +kernel)
theorem tw_687 : Cond.instanceMethod yX11_newWays ∈ TT := tt_tb 687 (by decide +kernel) (by decide +kernel)
theorem tw_688 : Cond.code yX11_newWays cX11_newWays 2 (some .int) ∈ TT := tt_tb 688 (by decide +kernel) (by decide +kernel)
theorem tw_689 : Cond.methodLink RX11 282 yX5_waysBehind ∈ TT := tt_tb 689 (by decide +kernel) (by decide +kernel)
theorem tw_690 : Cond.instanceMethod yX5_waysBehind ∈ TT := tt_tb 690 (by decide +kernel) (by decide +kernel)
theorem tw_691 : Cond.selects RX5 yX5_waysBehind yX5_waysBehind ∈ TT := tt_tb 691 (by decide +kernel) (by decide +kernel)
theorem tw_692 : Cond.code yX5_waysBehind cX5_waysBehind 4 (some .int) ∈ TT := tt_tb 692 (by decide +kernel) (by decide +kernel)
theorem tw_693 : Cond.methodLink RL 106 yX11_best ∈ TT := tt_tb 693 (by decide +kernel) (by decide +kernel)
theorem tw_694 : Cond.instanceMethod yX11_best ∈ TT := tt_tb 694 (by decide +kernel) (by decide +kernel)
theorem tw_695 : Cond.selects RX11 yX11_best yX11_best ∈ TT := tt_tb 695 (by decide +kernel) (by decide +kernel)
theorem tw_696 : Cond.code yX11_best cX11_best 6 (some .int) ∈ TT := tt_tb 696 (by decide +kernel) (by decide +kernel)
theorem tw_697 : Cond.methodLink RL 110 yX11_from ∈ TT := tt_tb 697 (by decide +kernel) (by decide +kernel)
theorem tw_698 : Cond.instanceMethod yX11_from ∈ TT := tt_tb 698 (by decide +kernel) (by decide +kernel)
theorem tw_699 : Cond.selects RX11 yX11_from yX11_from ∈ TT := tt_tb 699 (by decide +kernel) (by decide +kernel)
theorem tw_700 : Cond.code yX11_from cX11_from 7 (some .int) ∈ TT := tt_tb 700 (by decide +kernel) (by decide +kernel)
theorem tw_701 : Cond.methodLink RL 114 yX11_who ∈ TT := tt_tb 701 (by decide +kernel) (by decide +kernel)
theorem tw_702 : Cond.instanceMethod yX11_who ∈ TT := tt_tb 702 (by decide +kernel) (by decide +kernel)
theorem tw_703 : Cond.selects RX11 yX11_who yX11_who ∈ TT := tt_tb 703 (by decide +kernel) (by decide +kernel)
theorem tw_704 : Cond.code yX11_who cX11_who 7 (some .int) ∈ TT := tt_tb 704 (by decide +kernel) (by decide +kernel)
theorem tw_705 : Cond.methodLink RX11 286 yX11_fittingKinds ∈ TT := tt_tb 705 (by decide +kernel) (by decide +kernel)
theorem tw_707 : Cond.instanceMethod yX11_fittingKinds ∈ TT := tt_tb 707 (by decide +kernel) (by decide +kernel)
theorem tw_708 : Cond.code yX11_fittingKinds cX11_fittingKinds 10 (some .int) ∈ TT := tt_tb 708 (by decide +kernel) (by decide +kernel)
theorem tw_709 : Cond.methodLink RX11 358 yX10_sees ∈ TT := tt_tb 709 (by decide +kernel) (by decide +kernel)
theorem tw_710 : Cond.methodLink RX11 362 yX10_span ∈ TT := tt_tb 710 (by decide +kernel) (by decide +kernel)
theorem tw_711 : Cond.methodLink RL 119 yX11_far ∈ TT := tt_tb 711 (by decide +kernel) (by decide +kernel)
theorem tw_712 : Cond.instanceMethod yX11_far ∈ TT := tt_tb 712 (by decide +kernel) (by decide +kernel)
theorem tw_713 : Cond.selects RX11 yX11_far yX11_far ∈ TT := tt_tb 713 (by decide +kernel) (by decide +kernel)
theorem tw_714 : Cond.code yX11_far cX11_far 2 (some .int) ∈ TT := tt_tb 714 (by decide +kernel) (by decide +kernel)
theorem tw_715 : Cond.methodLink RL 123 yX11_pairs ∈ TT := tt_tb 715 (by decide +kernel) (by decide +kernel)
theorem tw_716 : Cond.instanceMethod yX11_pairs ∈ TT := tt_tb 716 (by decide +kernel) (by decide +kernel)
theorem tw_717 : Cond.selects RX11 yX11_pairs yX11_pairs ∈ TT := tt_tb 717 (by decide +kernel) (by decide +kernel)
theorem tw_718 : Cond.code yX11_pairs cX11_pairs 5 (some .int) ∈ TT := tt_tb 718 (by decide +kernel) (by decide +kernel)
theorem tw_719 : Cond.methodLink RL 127 yX11_locked ∈ TT := tt_tb 719 (by decide +kernel) (by decide +kernel)
theorem tw_720 : Cond.instanceMethod yX11_locked ∈ TT := tt_tb 720 (by decide +kernel) (by decide +kernel)
theorem tw_721 : Cond.selects RX11 yX11_locked yX11_locked ∈ TT := tt_tb 721 (by decide +kernel) (by decide +kernel)
theorem tw_722 : Cond.code yX11_locked cX11_locked 10 (some .long) ∈ TT := tt_tb 722 (by decide +kernel) (by decide +kernel)
theorem tw_723 : Cond.constantLong RX11 290 (-1000002) ∈ TT := tt_tb 723 (by decide +kernel) (by decide +kernel)
theorem tw_724 : Cond.constantLong RX11 292 (-1000001) ∈ TT := tt_tb 724 (by decide +kernel) (by decide +kernel)
theorem tw_725 : Cond.methodLink RX11 294 yX2_casesThrough ∈ TT := tt_tb 725 (by decide +kernel) (by decide +kernel)
theorem tw_726 : Cond.instanceMethod yX2_casesThrough ∈ TT := tt_tb 726 (by decide +kernel) (by decide +kernel)
theorem tw_727 : Cond.selects RX2 yX2_casesThrough yX2_casesThrough ∈ TT := tt_tb 727 (by decide +kernel) (by decide +kernel)
theorem tw_728 : Cond.code yX2_casesThrough cX2_casesThrough 8 (some .long) ∈ TT := tt_tb 728 (by decide +kernel) (by decide +kernel)
theorem tw_729 : Cond.methodLink RX2 93 yX2_countWithin ∈ TT := tt_tb 729 (by decide +kernel) (by decide +kernel)
theorem tw_731 : Cond.instanceMethod yX2_countWithin ∈ TT := tt_tb 731 (by decide +kernel) (by decide +kernel)
theorem tw_732 : Cond.code yX2_countWithin cX2_countWithin 5 none ∈ TT := tt_tb 732 (by decide +kernel) (by decide +kernel)
theorem tw_733 : Cond.methodLink RX2 97 yX2_fillPowers ∈ TT := tt_tb 733 (by decide +kernel) (by decide +kernel)
theorem tw_735 : Cond.instanceMethod yX2_fillPowers ∈ TT := tt_tb 735 (by decide +kernel) (by decide +kernel)
theorem tw_736 : Cond.code yX2_fillPowers cX2_fillPowers 5 none ∈ TT := tt_tb 736 (by decide +kernel) (by decide +kernel)
theorem tw_737 : Cond.methodLink RX2 101 yX2_casesJoined ∈ TT := tt_tb 737 (by decide +kernel) (by decide +kernel)
theorem tw_739 : Cond.instanceMethod yX2_casesJoined ∈ TT := tt_tb 739 (by decide +kernel) (by decide +kernel)
theorem tw_740 : Cond.code yX2_casesJoined cX2_casesJoined 7 (some .long) ∈ TT := tt_tb 740 (by decide +kernel) (by decide +kernel)
theorem tw_741 : Cond.methodLink RX2 105 yX2_casesParted ∈ TT := tt_tb 741 (by decide +kernel) (by decide +kernel)
theorem tw_743 : Cond.instanceMethod yX2_casesParted ∈ TT := tt_tb 743 (by decide +kernel) (by decide +kernel)
theorem tw_744 : Cond.code yX2_casesParted cX2_casesParted 5 (some .long) ∈ TT := tt_tb 744 (by decide +kernel) (by decide +kernel)
theorem tw_745 : Cond.methodLink RX11 302 yX11_commonDivisor ∈ TT := tt_tb 745 (by decide +kernel) (by decide +kernel)
theorem tw_746 : Cond.static yX11_commonDivisor ∈ TT := tt_tb 746 (by decide +kernel) (by decide +kernel)
theorem tw_747 : Cond.code yX11_commonDivisor cX11_commonDivisor 11 (some .long) ∈ TT := tt_tb 747 (by decide +kernel) (by decide +kernel)
theorem tw_748 : Cond.methodLink RL 132 yX11_drawn ∈ TT := tt_tb 748 (by decide +kernel) (by decide +kernel)
theorem tw_749 : Cond.instanceMethod yX11_drawn ∈ TT := tt_tb 749 (by decide +kernel) (by decide +kernel)
theorem tw_750 : Cond.selects RX11 yX11_drawn yX11_drawn ∈ TT := tt_tb 750 (by decide +kernel) (by decide +kernel)
theorem tw_751 : Cond.code yX11_drawn cX11_drawn 8 (some .int) ∈ TT := tt_tb 751 (by decide +kernel) (by decide +kernel)
theorem tw_752 : Cond.constant RX11 306 (999999) ∈ TT := tt_tb 752 (by decide +kernel) (by decide +kernel)
theorem tw_753 : Cond.constantLong RX11 307 (16807) ∈ TT := tt_tb 753 (by decide +kernel) (by decide +kernel)
theorem tw_754 : Cond.constantLong RX11 309 (2147483647) ∈ TT := tt_tb 754 (by decide +kernel) (by decide +kernel)
theorem tw_755 : Cond.constantLong RX11 311 (8) ∈ TT := tt_tb 755 (by decide +kernel) (by decide +kernel)
theorem tw_756 : Cond.methodLink RL 136 yX11_image ∈ TT := tt_tb 756 (by decide +kernel) (by decide +kernel)
theorem tw_757 : Cond.instanceMethod yX11_image ∈ TT := tt_tb 757 (by decide +kernel) (by decide +kernel)
theorem tw_758 : Cond.selects RX11 yX11_image yX11_image ∈ TT := tt_tb 758 (by decide +kernel) (by decide +kernel)
theorem tw_759 : Cond.code yX11_image cX11_image 2 (some .int) ∈ TT := tt_tb 759 (by decide +kernel) (by decide +kernel)
theorem tw_760 : Cond.methodLink RL 140 yX11_restore ∈ TT := tt_tb 760 (by decide +kernel) (by decide +kernel)
theorem tw_761 : Cond.instanceMethod yX11_restore ∈ TT := tt_tb 761 (by decide +kernel) (by decide +kernel)
theorem tw_762 : Cond.selects RX11 yX11_restore yX11_restore ∈ TT := tt_tb 762 (by decide +kernel) (by decide +kernel)
theorem tw_763 : Cond.code yX11_restore cX11_restore 2 (some .int) ∈ TT := tt_tb 763 (by decide +kernel) (by decide +kernel)
theorem tw_764 : Cond.methodLink RL 144 yX11_kind ∈ TT := tt_tb 764 (by decide +kernel) (by decide +kernel)
theorem tw_765 : Cond.instanceMethod yX11_kind ∈ TT := tt_tb 765 (by decide +kernel) (by decide +kernel)
theorem tw_766 : Cond.selects RX11 yX11_kind yX11_kind ∈ TT := tt_tb 766 (by decide +kernel) (by decide +kernel)
theorem tw_767 : Cond.code yX11_kind cX11_kind 2 (some .int) ∈ TT := tt_tb 767 (by decide +kernel) (by decide +kernel)
theorem tw_768 : Cond.methodLink RL 148 yX11_as ∈ TT := tt_tb 768 (by decide +kernel) (by decide +kernel)
theorem tw_769 : Cond.instanceMethod yX11_as ∈ TT := tt_tb 769 (by decide +kernel) (by decide +kernel)
theorem tw_770 : Cond.selects RX11 yX11_as yX11_as ∈ TT := tt_tb 770 (by decide +kernel) (by decide +kernel)
theorem tw_771 : Cond.code yX11_as cX11_as 3 (some .int) ∈ TT := tt_tb 771 (by decide +kernel) (by decide +kernel)
theorem tw_772 : Cond.methodLink RX11 316 yX11_isOfKind ∈ TT := tt_tb 772 (by decide +kernel) (by decide +kernel)
theorem tw_773 : Cond.static yX11_isOfKind ∈ TT := tt_tb 773 (by decide +kernel) (by decide +kernel)
theorem tw_774 : Cond.code yX11_isOfKind cX11_isOfKind 2 (some .boolean) ∈ TT := tt_tb 774 (by decide +kernel) (by decide +kernel)
theorem tw_775 : Cond.methodLink RL 152 yX11_ask ∈ TT := tt_tb 775 (by decide +kernel) (by decide +kernel)
theorem tw_776 : Cond.instanceMethod yX11_ask ∈ TT := tt_tb 776 (by decide +kernel) (by decide +kernel)
theorem tw_777 : Cond.selects RX11 yX11_ask yX11_ask ∈ TT := tt_tb 777 (by decide +kernel) (by decide +kernel)
theorem tw_778 : Cond.code yX11_ask cX11_ask 4 (some .int) ∈ TT := tt_tb 778 (by decide +kernel) (by decide +kernel)
theorem tw_779 : Cond.methodLink RX11 331 yX10_size ∈ TT := tt_tb 779 (by decide +kernel) (by decide +kernel)
theorem tw_780 : Cond.instanceMethod yX10_size ∈ TT := tt_tb 780 (by decide +kernel) (by decide +kernel)
theorem tw_781 : Cond.selects RX10 yX10_size yX10_size ∈ TT := tt_tb 781 (by decide +kernel) (by decide +kernel)
theorem tw_782 : Cond.sameMethod RX10 RX10 "size" "(LCoffinWays$Asked;)I" ∈ TT := tt_tb 782 (by decide +kernel) (by decide +kernel)
theorem tw_783 : Cond.selects RX1 yX10_size yX1_size ∈ TT := tt_tb 783 (by decide +kernel) (by decide +kernel)
theorem tw_784 : Cond.instanceMethod yX1_size ∈ TT := tt_tb 784 (by decide +kernel) (by decide +kernel)
theorem tw_785 : Cond.code yX1_size cX1_size 2 (some .int) ∈ TT := tt_tb 785 (by decide +kernel) (by decide +kernel)
theorem tw_786 : Cond.methodLink RX1 22 yX0_begin ∈ TT := tt_tb 786 (by decide +kernel) (by decide +kernel)
theorem tw_787 : Cond.instanceMethod yX0_begin ∈ TT := tt_tb 787 (by decide +kernel) (by decide +kernel)
theorem tw_788 : Cond.selects RX0 yX0_begin yX0_begin ∈ TT := tt_tb 788 (by decide +kernel) (by decide +kernel)
theorem tw_789 : Cond.code yX0_begin cX0_begin 2 none ∈ TT := tt_tb 789 (by decide +kernel) (by decide +kernel)
theorem tw_790 : Cond.methodLink RX1 28 yX4_size ∈ TT := tt_tb 790 (by decide +kernel) (by decide +kernel)
theorem tw_791 : Cond.instanceMethod yX4_size ∈ TT := tt_tb 791 (by decide +kernel) (by decide +kernel)
theorem tw_792 : Cond.code yX4_size cX4_size 3 (some .int) ∈ TT := tt_tb 792 (by decide +kernel) (by decide +kernel)
theorem tw_793 : Cond.methodLink RX4 19 yX0_begin ∈ TT := tt_tb 793 (by decide +kernel) (by decide +kernel)
theorem tw_794 : Cond.methodLink RX4 25 yX10_size ∈ TT := tt_tb 794 (by decide +kernel) (by decide +kernel)
theorem tw_795 : Cond.methodLink RX4 29 yX4_mark ∈ TT := tt_tb 795 (by decide +kernel) (by decide +kernel)
theorem tw_796 : Cond.instanceMethod yX4_mark ∈ TT := tt_tb 796 (by decide +kernel) (by decide +kernel)
theorem tw_797 : Cond.selects RX4 yX4_mark yX4_mark ∈ TT := tt_tb 797 (by decide +kernel) (by decide +kernel)
theorem tw_798 : Cond.sameMethod RX4 RX4 "mark" "(LCoffinWays$Asked;)I" ∈ TT := tt_tb 798 (by decide +kernel) (by decide +kernel)
theorem tw_799 : Cond.selects RX1 yX4_mark yX1_mark ∈ TT := tt_tb 799 (by decide +kernel) (by decide +kernel)
theorem tw_800 : Cond.instanceMethod yX1_mark ∈ TT := tt_tb 800 (by decide +kernel) (by decide +kernel)
theorem tw_801 : Cond.code yX1_mark cX1_mark 2 (some .int) ∈ TT := tt_tb 801 (by decide +kernel) (by decide +kernel)
theorem tw_802 : Cond.methodLink RX1 32 yX4_mark ∈ TT := tt_tb 802 (by decide +kernel) (by decide +kernel)
theorem tw_803 : Cond.selects RX3 yX4_mark yX3_mark ∈ TT := tt_tb 803 (by decide +kernel) (by decide +kernel)
theorem tw_804 : Cond.instanceMethod yX3_mark ∈ TT := tt_tb 804 (by decide +kernel) (by decide +kernel)
theorem tw_805 : Cond.code yX3_mark cX3_mark 2 (some .int) ∈ TT := tt_tb 805 (by decide +kernel) (by decide +kernel)
theorem tw_806 : Cond.methodLink RX3 21 yX0_begin ∈ TT := tt_tb 806 (by decide +kernel) (by decide +kernel)
theorem tw_807 : Cond.methodLink RX3 27 yX4_mark ∈ TT := tt_tb 807 (by decide +kernel) (by decide +kernel)
theorem tw_808 : Cond.code yX4_mark cX4_mark 2 (some .int) ∈ TT := tt_tb 808 (by decide +kernel) (by decide +kernel)
theorem tw_809 : Cond.methodLink RX4 34 yX10_mark ∈ TT := tt_tb 809 (by decide +kernel) (by decide +kernel)
theorem tw_810 : Cond.instanceMethod yX10_mark ∈ TT := tt_tb 810 (by decide +kernel) (by decide +kernel)
theorem tw_811 : Cond.code yX10_mark cX10_mark 2 (some .int) ∈ TT := tt_tb 811 (by decide +kernel) (by decide +kernel)
theorem tw_812 : Cond.methodLink RX10 7 yX0_begin ∈ TT := tt_tb 812 (by decide +kernel) (by decide +kernel)
theorem tw_813 : Cond.selects RX3 yX10_size yX4_size ∈ TT := tt_tb 813 (by decide +kernel) (by decide +kernel)
theorem tw_814 : Cond.selects RX4 yX10_size yX4_size ∈ TT := tt_tb 814 (by decide +kernel) (by decide +kernel)
theorem tw_815 : Cond.selects RX7 yX10_size yX7_size ∈ TT := tt_tb 815 (by decide +kernel) (by decide +kernel)
theorem tw_816 : Cond.instanceMethod yX7_size ∈ TT := tt_tb 816 (by decide +kernel) (by decide +kernel)
theorem tw_817 : Cond.code yX7_size cX7_size 2 (some .int) ∈ TT := tt_tb 817 (by decide +kernel) (by decide +kernel)
theorem tw_818 : Cond.methodLink RX7 13 yX0_begin ∈ TT := tt_tb 818 (by decide +kernel) (by decide +kernel)
theorem tw_819 : Cond.methodLink RX7 19 yX8_size ∈ TT := tt_tb 819 (by decide +kernel) (by decide +kernel)
theorem tw_820 : Cond.instanceMethod yX8_size ∈ TT := tt_tb 820 (by decide +kernel) (by decide +kernel)
theorem tw_821 : Cond.code yX8_size cX8_size 2 (some .int) ∈ TT := tt_tb 821 (by decide +kernel) (by decide +kernel)
theorem tw_822 : Cond.methodLink RX8 13 yX0_begin ∈ TT := tt_tb 822 (by decide +kernel) (by decide +kernel)
theorem tw_823 : Cond.methodLink RX8 19 yX10_size ∈ TT := tt_tb 823 (by decide +kernel) (by decide +kernel)
theorem tw_824 : Cond.selects RX8 yX10_size yX8_size ∈ TT := tt_tb 824 (by decide +kernel) (by decide +kernel)
theorem tw_825 : Cond.code yX10_size cX10_size 2 (some .int) ∈ TT := tt_tb 825 (by decide +kernel) (by decide +kernel)
theorem tw_826 : Cond.methodLink RX11 334 yX10_mark ∈ TT := tt_tb 826 (by decide +kernel) (by decide +kernel)
theorem tw_827 : Cond.instanceMethod yX8_mark ∈ TT := tt_tb 827 (by decide +kernel) (by decide +kernel)
theorem tw_828 : Cond.code yX8_mark cX8_mark 3 (some .int) ∈ TT := tt_tb 828 (by decide +kernel) (by decide +kernel)
theorem tw_829 : Cond.methodLink RX8 23 yX10_mark ∈ TT := tt_tb 829 (by decide +kernel) (by decide +kernel)
theorem tw_830 : Cond.methodLink RX8 26 yX8_size ∈ TT := tt_tb 830 (by decide +kernel) (by decide +kernel)
theorem tw_831 : Cond.methodLink RL 156 yX11_trace ∈ TT := tt_tb 831 (by decide +kernel) (by decide +kernel)
theorem tw_832 : Cond.instanceMethod yX11_trace ∈ TT := tt_tb 832 (by decide +kernel) (by decide +kernel)
theorem tw_833 : Cond.selects RX11 yX11_trace yX11_trace ∈ TT := tt_tb 833 (by decide +kernel) (by decide +kernel)
theorem tw_834 : Cond.code yX11_trace cX11_trace 2 (some .int) ∈ TT := tt_tb 834 (by decide +kernel) (by decide +kernel)
theorem tw_835 : Cond.methodLink RL 160 yX11_count ∈ TT := tt_tb 835 (by decide +kernel) (by decide +kernel)
theorem tw_836 : Cond.instanceMethod yX11_count ∈ TT := tt_tb 836 (by decide +kernel) (by decide +kernel)
theorem tw_837 : Cond.selects RX11 yX11_count yX11_count ∈ TT := tt_tb 837 (by decide +kernel) (by decide +kernel)
theorem tw_838 : Cond.code yX11_count cX11_count 2 (some .int) ∈ TT := tt_tb 838 (by decide +kernel) (by decide +kernel)
theorem tw_839 : Cond.methodLink RX11 340 yX6_standing ∈ TT := tt_tb 839 (by decide +kernel) (by decide +kernel)
theorem tw_840 : Cond.instanceMethod yX6_standing ∈ TT := tt_tb 840 (by decide +kernel) (by decide +kernel)
theorem tw_841 : Cond.selects RX6 yX6_standing yX6_standing ∈ TT := tt_tb 841 (by decide +kernel) (by decide +kernel)
theorem tw_842 : Cond.code yX6_standing cX6_standing 3 (some .int) ∈ TT := tt_tb 842 (by decide +kernel) (by decide +kernel)
theorem tw_843 : Cond.methodLink RL 164 yX11_status ∈ TT := tt_tb 843 (by decide +kernel) (by decide +kernel)
theorem tw_844 : Cond.instanceMethod yX11_status ∈ TT := tt_tb 844 (by decide +kernel) (by decide +kernel)
theorem tw_845 : Cond.selects RX11 yX11_status yX11_status ∈ TT := tt_tb 845 (by decide +kernel) (by decide +kernel)
theorem tw_846 : Cond.code yX11_status cX11_status 1 (some .int) ∈ TT := tt_tb 846 (by decide +kernel) (by decide +kernel)
theorem tw_847 : Cond.classLink RL 10 RX12 ∈ TT := tt_tb 847 (by decide +kernel) (by decide +kernel)
theorem tw_848 : Cond.instantiable RX12 27 ∈ TT := tt_tb 848 (by decide +kernel) (by decide +kernel)
theorem tw_849 : Cond.methodLink RL 12 yX12_init ∈ TT := tt_tb 849 (by decide +kernel) (by decide +kernel)
theorem tw_850 : Cond.instanceMethod yX12_init ∈ TT := tt_tb 850 (by decide +kernel) (by decide +kernel)
theorem tw_851 : Cond.code yX12_init cX12_init 1 none ∈ TT := tt_tb 851 (by decide +kernel) (by decide +kernel)
theorem tw_852 : Cond.methodLink RX12 1 objectInit ∈ TT := tt_tb 852 (by decide +kernel) (by decide +kernel)
theorem tw_853 : Cond.fieldLink RX12 47 RX12 "thrown" "I" ∈ TT := tt_tb 853 (by decide +kernel) (by decide +kernel)
theorem tw_854 : Cond.fieldLink RX12 51 RX12 "status" "I" ∈ TT := tt_tb 854 (by decide +kernel) (by decide +kernel)
theorem tw_855 : Cond.fieldLink RX12 7 RX12 "lane" "[I" ∈ TT := tt_tb 855 (by decide +kernel) (by decide +kernel)
theorem tw_856 : Cond.fieldLink RX12 13 RX12 "many" "[I" ∈ TT := tt_tb 856 (by decide +kernel) (by decide +kernel)
theorem tw_857 : Cond.fieldLink RX12 16 RX12 "item" "[I" ∈ TT := tt_tb 857 (by decide +kernel) (by decide +kernel)
theorem tw_858 : Cond.fieldLink RX12 19 RX12 "parish" "[I" ∈ TT := tt_tb 858 (by decide +kernel) (by decide +kernel)
theorem tw_859 : Cond.fieldLink RX12 22 RX12 "fresh" "[I" ∈ TT := tt_tb 859 (by decide +kernel) (by decide +kernel)
theorem tw_860 : Cond.fieldLink RX12 25 RX12 "then" "[I" ∈ TT := tt_tb 860 (by decide +kernel) (by decide +kernel)
theorem tw_861 : Cond.fieldLink RX12 28 RX12 "was" "[I" ∈ TT := tt_tb 861 (by decide +kernel) (by decide +kernel)
theorem tw_862 : Cond.fieldLink RX12 150 RX12 "acts" "I" ∈ TT := tt_tb 862 (by decide +kernel) (by decide +kernel)
theorem tw_863 : Cond.fieldLink RX12 31 RX12 "tape" "[I" ∈ TT := tt_tb 863 (by decide +kernel) (by decide +kernel)
theorem tw_864 : Cond.fieldLink RX12 74 RX12 "taped" "I" ∈ TT := tt_tb 864 (by decide +kernel) (by decide +kernel)
theorem tw_865 : Cond.fieldLink RX12 87 RX12 "cursor" "I" ∈ TT := tt_tb 865 (by decide +kernel) (by decide +kernel)
theorem tw_866 : Cond.fieldLink RX12 81 RX12 "start" "I" ∈ TT := tt_tb 866 (by decide +kernel) (by decide +kernel)
theorem tw_867 : Cond.fieldLink RX12 102 RX12 "token" "I" ∈ TT := tt_tb 867 (by decide +kernel) (by decide +kernel)
theorem tw_868 : Cond.fieldLink RX12 91 RX12 "value" "I" ∈ TT := tt_tb 868 (by decide +kernel) (by decide +kernel)
theorem tw_869 : Cond.fieldLink RX12 78 RX12 "fault" "I" ∈ TT := tt_tb 869 (by decide +kernel) (by decide +kernel)
theorem tw_870 : Cond.fieldLink RX12 84 RX12 "faultAt" "I" ∈ TT := tt_tb 870 (by decide +kernel) (by decide +kernel)
theorem tw_871 : Cond.fieldLink RX12 116 RX12 "latest" "I" ∈ TT := tt_tb 871 (by decide +kernel) (by decide +kernel)
theorem tw_872 : Cond.fieldLink RX12 34 RX12 "fars" "[I" ∈ TT := tt_tb 872 (by decide +kernel) (by decide +kernel)
theorem tw_873 : Cond.fieldLink RX12 164 RX12 "way" "I" ∈ TT := tt_tb 873 (by decide +kernel) (by decide +kernel)
theorem tw_874 : Cond.fieldLink RX12 167 RX12 "begins" "I" ∈ TT := tt_tb 874 (by decide +kernel) (by decide +kernel)
theorem tw_875 : Cond.fieldLink RX12 170 RX12 "length" "I" ∈ TT := tt_tb 875 (by decide +kernel) (by decide +kernel)
theorem tw_876 : Cond.fieldLink RX12 37 RX12 "isKept" "[Z" ∈ TT := tt_tb 876 (by decide +kernel) (by decide +kernel)
theorem tw_877 : Cond.fieldLink RX12 41 RX12 "kept" "[I" ∈ TT := tt_tb 877 (by decide +kernel) (by decide +kernel)
theorem tw_878 : Cond.fieldLink RX12 44 RX12 "trace" "[I" ∈ TT := tt_tb 878 (by decide +kernel) (by decide +kernel)
theorem tw_879 : Cond.fieldLink RX12 277 RX12 "traced" "I" ∈ TT := tt_tb 879 (by decide +kernel) (by decide +kernel)
theorem tw_880 : Cond.lays RX12 RX12 "thrown" "I" ∈ TT := tt_tb 880 (by decide +kernel) (by decide +kernel)
theorem tw_882 : Cond.lays RX12 RX12 "status" "I" ∈ TT := tt_tb 882 (by decide +kernel) (by decide +kernel)
theorem tw_884 : Cond.laysFinal RX12 RX12 "lane" "[I" ∈ TT := tt_tb 884 (by decide +kernel) (by decide +kernel)
theorem tw_886 : Cond.laysFinal RX12 RX12 "many" "[I" ∈ TT := tt_tb 886 (by decide +kernel) (by decide +kernel)
theorem tw_888 : Cond.laysFinal RX12 RX12 "item" "[I" ∈ TT := tt_tb 888 (by decide +kernel) (by decide +kernel)
theorem tw_890 : Cond.laysFinal RX12 RX12 "parish" "[I" ∈ TT := tt_tb 890 (by decide +kernel) (by decide +kernel)
theorem tw_892 : Cond.laysFinal RX12 RX12 "fresh" "[I" ∈ TT := tt_tb 892 (by decide +kernel) (by decide +kernel)
theorem tw_894 : Cond.laysFinal RX12 RX12 "then" "[I" ∈ TT := tt_tb 894 (by decide +kernel) (by decide +kernel)
theorem tw_896 : Cond.laysFinal RX12 RX12 "was" "[I" ∈ TT := tt_tb 896 (by decide +kernel) (by decide +kernel)
theorem tw_898 : Cond.lays RX12 RX12 "acts" "I" ∈ TT := tt_tb 898 (by decide +kernel) (by decide +kernel)
theorem tw_900 : Cond.laysFinal RX12 RX12 "tape" "[I" ∈ TT := tt_tb 900 (by decide +kernel) (by decide +kernel)
theorem tw_902 : Cond.lays RX12 RX12 "taped" "I" ∈ TT := tt_tb 902 (by decide +kernel) (by decide +kernel)
theorem tw_904 : Cond.lays RX12 RX12 "cursor" "I" ∈ TT := tt_tb 904 (by decide +kernel) (by decide +kernel)
theorem tw_906 : Cond.lays RX12 RX12 "start" "I" ∈ TT := tt_tb 906 (by decide +kernel) (by decide +kernel)
theorem tw_908 : Cond.lays RX12 RX12 "token" "I" ∈ TT := tt_tb 908 (by decide +kernel) (by decide +kernel)
theorem tw_910 : Cond.lays RX12 RX12 "value" "I" ∈ TT := tt_tb 910 (by decide +kernel) (by decide +kernel)
theorem tw_912 : Cond.lays RX12 RX12 "fault" "I" ∈ TT := tt_tb 912 (by decide +kernel) (by decide +kernel)
theorem tw_914 : Cond.lays RX12 RX12 "faultAt" "I" ∈ TT := tt_tb 914 (by decide +kernel) (by decide +kernel)
theorem tw_916 : Cond.lays RX12 RX12 "latest" "I" ∈ TT := tt_tb 916 (by decide +kernel) (by decide +kernel)
theorem tw_918 : Cond.laysFinal RX12 RX12 "fars" "[I" ∈ TT := tt_tb 918 (by decide +kernel) (by decide +kernel)
theorem tw_920 : Cond.lays RX12 RX12 "way" "I" ∈ TT := tt_tb 920 (by decide +kernel) (by decide +kernel)
theorem tw_922 : Cond.lays RX12 RX12 "begins" "I" ∈ TT := tt_tb 922 (by decide +kernel) (by decide +kernel)
theorem tw_924 : Cond.lays RX12 RX12 "length" "I" ∈ TT := tt_tb 924 (by decide +kernel) (by decide +kernel)
theorem tw_926 : Cond.laysFinal RX12 RX12 "isKept" "[Z" ∈ TT := tt_tb 926 (by decide +kernel) (by decide +kernel)
theorem tw_928 : Cond.laysFinal RX12 RX12 "kept" "[I" ∈ TT := tt_tb 928 (by decide +kernel) (by decide +kernel)
theorem tw_930 : Cond.laysFinal RX12 RX12 "trace" "[I" ∈ TT := tt_tb 930 (by decide +kernel) (by decide +kernel)
theorem tw_932 : Cond.lays RX12 RX12 "traced" "I" ∈ TT := tt_tb 932 (by decide +kernel) (by decide +kernel)
theorem tw_934 : Cond.superclass RX12 "java/lang/Object" ∈ TT := tt_tb 934 (by decide +kernel) (by decide +kernel)
theorem tw_935 : Cond.arrayClass .boolean ∈ TT := tt_tb 935 (by decide +kernel) (by decide +kernel)
theorem tw_936 : Cond.methodLink RL 17 yX12_row ∈ TT := tt_tb 936 (by decide +kernel) (by decide +kernel)
theorem tw_937 : Cond.instanceMethod yX12_row ∈ TT := tt_tb 937 (by decide +kernel) (by decide +kernel)
theorem tw_938 : Cond.selects RX12 yX12_row yX12_row ∈ TT := tt_tb 938 (by decide +kernel) (by decide +kernel)
theorem tw_939 : Cond.code yX12_row cX12_row 5 (some .int) ∈ TT := tt_tb 939 (by decide +kernel) (by decide +kernel)
theorem tw_940 : Cond.methodLink RX12 61 yX12_isRow ∈ TT := tt_tb 940 (by decide +kernel) (by decide +kernel)
theorem tw_941 : Cond.static yX12_isRow ∈ TT := tt_tb 941 (by decide +kernel) (by decide +kernel)
theorem tw_942 : Cond.code yX12_isRow cX12_isRow 1 (some .boolean) ∈ TT := tt_tb 942 (by decide +kernel) (by decide +kernel)
theorem tw_943 : Cond.constantLong RX12 55 (7) ∈ TT := tt_tb 943 (by decide +kernel) (by decide +kernel)
theorem tw_944 : Cond.methodLink RX12 57 yX12_in ∈ TT := tt_tb 944 (by decide +kernel) (by decide +kernel)
theorem tw_945 : Cond.static yX12_in ∈ TT := tt_tb 945 (by decide +kernel) (by decide +kernel)
theorem tw_946 : Cond.code yX12_in cX12_in 6 (some .boolean) ∈ TT := tt_tb 946 (by decide +kernel) (by decide +kernel)
theorem tw_947 : Cond.constantLong RX12 65 (2) ∈ TT := tt_tb 947 (by decide +kernel) (by decide +kernel)
theorem tw_948 : Cond.constant RX12 67 (-1000001) ∈ TT := tt_tb 948 (by decide +kernel) (by decide +kernel)
theorem tw_949 : Cond.methodLink RX12 68 yX12_finding ∈ TT := tt_tb 949 (by decide +kernel) (by decide +kernel)
theorem tw_951 : Cond.instanceMethod yX12_finding ∈ TT := tt_tb 951 (by decide +kernel) (by decide +kernel)
theorem tw_952 : Cond.code yX12_finding cX12_finding 2 (some .int) ∈ TT := tt_tb 952 (by decide +kernel) (by decide +kernel)
theorem tw_953 : Cond.constant RX12 54 (-1000010) ∈ TT := tt_tb 953 (by decide +kernel) (by decide +kernel)
theorem tw_954 : Cond.methodLink RL 21 yX12_set ∈ TT := tt_tb 954 (by decide +kernel) (by decide +kernel)
theorem tw_955 : Cond.instanceMethod yX12_set ∈ TT := tt_tb 955 (by decide +kernel) (by decide +kernel)
theorem tw_956 : Cond.selects RX12 yX12_set yX12_set ∈ TT := tt_tb 956 (by decide +kernel) (by decide +kernel)
theorem tw_957 : Cond.code yX12_set cX12_set 4 (some .int) ∈ TT := tt_tb 957 (by decide +kernel) (by decide +kernel)
theorem tw_958 : Cond.methodLink RL 26 yX12_copy ∈ TT := tt_tb 958 (by decide +kernel) (by decide +kernel)
theorem tw_959 : Cond.instanceMethod yX12_copy ∈ TT := tt_tb 959 (by decide +kernel) (by decide +kernel)
theorem tw_960 : Cond.selects RX12 yX12_copy yX12_copy ∈ TT := tt_tb 960 (by decide +kernel) (by decide +kernel)
theorem tw_961 : Cond.code yX12_copy cX12_copy 9 (some .int) ∈ TT := tt_tb 961 (by decide +kernel) (by decide +kernel)
theorem tw_962 : Cond.methodLink RL 31 yX12_drop ∈ TT := tt_tb 962 (by decide +kernel) (by decide +kernel)
theorem tw_963 : Cond.instanceMethod yX12_drop ∈ TT := tt_tb 963 (by decide +kernel) (by decide +kernel)
theorem tw_964 : Cond.selects RX12 yX12_drop yX12_drop ∈ TT := tt_tb 964 (by decide +kernel) (by decide +kernel)
theorem tw_965 : Cond.code yX12_drop cX12_drop 2 (some .int) ∈ TT := tt_tb 965 (by decide +kernel) (by decide +kernel)
theorem tw_966 : Cond.methodLink RL 35 yX12_feed ∈ TT := tt_tb 966 (by decide +kernel) (by decide +kernel)
theorem tw_967 : Cond.instanceMethod yX12_feed ∈ TT := tt_tb 967 (by decide +kernel) (by decide +kernel)
theorem tw_968 : Cond.selects RX12 yX12_feed yX12_feed ∈ TT := tt_tb 968 (by decide +kernel) (by decide +kernel)
theorem tw_969 : Cond.code yX12_feed cX12_feed 2 (some .int) ∈ TT := tt_tb 969 (by decide +kernel) (by decide +kernel)
theorem tw_970 : Cond.constantLong RX12 72 (255) ∈ TT := tt_tb 970 (by decide +kernel) (by decide +kernel)
theorem tw_971 : Cond.constant RX12 77 (-1000003) ∈ TT := tt_tb 971 (by decide +kernel) (by decide +kernel)
theorem tw_972 : Cond.methodLink RL 44 yX12_fault ∈ TT := tt_tb 972 (by decide +kernel) (by decide +kernel)
theorem tw_973 : Cond.instanceMethod yX12_fault ∈ TT := tt_tb 973 (by decide +kernel) (by decide +kernel)
theorem tw_974 : Cond.selects RX12 yX12_fault yX12_fault ∈ TT := tt_tb 974 (by decide +kernel) (by decide +kernel)
theorem tw_975 : Cond.code yX12_fault cX12_fault 1 (some .int) ∈ TT := tt_tb 975 (by decide +kernel) (by decide +kernel)
theorem tw_976 : Cond.methodLink RL 40 yX12_parish ∈ TT := tt_tb 976 (by decide +kernel) (by decide +kernel)
theorem tw_977 : Cond.instanceMethod yX12_parish ∈ TT := tt_tb 977 (by decide +kernel) (by decide +kernel)
theorem tw_978 : Cond.selects RX12 yX12_parish yX12_parish ∈ TT := tt_tb 978 (by decide +kernel) (by decide +kernel)
theorem tw_979 : Cond.code yX12_parish cX12_parish 2 (some .int) ∈ TT := tt_tb 979 (by decide +kernel) (by decide +kernel)
theorem tw_980 : Cond.methodLink RX12 136 yX12_begin ∈ TT := tt_tb 980 (by decide +kernel) (by decide +kernel)
theorem tw_982 : Cond.instanceMethod yX12_begin ∈ TT := tt_tb 982 (by decide +kernel) (by decide +kernel)
theorem tw_983 : Cond.code yX12_begin cX12_begin 1 none ∈ TT := tt_tb 983 (by decide +kernel) (by decide +kernel)
theorem tw_984 : Cond.methodLink RX12 109 yX12_nextToken ∈ TT := tt_tb 984 (by decide +kernel) (by decide +kernel)
theorem tw_986 : Cond.instanceMethod yX12_nextToken ∈ TT := tt_tb 986 (by decide +kernel) (by decide +kernel)
theorem tw_987 : Cond.code yX12_nextToken cX12_nextToken 1 none ∈ TT := tt_tb 987 (by decide +kernel) (by decide +kernel)
theorem tw_988 : Cond.constant RX12 90 (-1000000) ∈ TT := tt_tb 988 (by decide +kernel) (by decide +kernel)
theorem tw_989 : Cond.constantLong RX12 94 (97) ∈ TT := tt_tb 989 (by decide +kernel) (by decide +kernel)
theorem tw_990 : Cond.constantLong RX12 96 (122) ∈ TT := tt_tb 990 (by decide +kernel) (by decide +kernel)
theorem tw_991 : Cond.constantLong RX12 98 (48) ∈ TT := tt_tb 991 (by decide +kernel) (by decide +kernel)
theorem tw_992 : Cond.constantLong RX12 100 (57) ∈ TT := tt_tb 992 (by decide +kernel) (by decide +kernel)
theorem tw_993 : Cond.methodLink RX12 119 yX12_isLetter ∈ TT := tt_tb 993 (by decide +kernel) (by decide +kernel)
theorem tw_995 : Cond.instanceMethod yX12_isLetter ∈ TT := tt_tb 995 (by decide +kernel) (by decide +kernel)
theorem tw_996 : Cond.code yX12_isLetter cX12_isLetter 2 (some .boolean) ∈ TT := tt_tb 996 (by decide +kernel) (by decide +kernel)
theorem tw_997 : Cond.methodLink RX12 112 yX12_must ∈ TT := tt_tb 997 (by decide +kernel) (by decide +kernel)
theorem tw_999 : Cond.instanceMethod yX12_must ∈ TT := tt_tb 999 (by decide +kernel) (by decide +kernel)
theorem tw_1000 : Cond.code yX12_must cX12_must 2 none ∈ TT := tt_tb 1000 (by decide +kernel) (by decide +kernel)
theorem tw_1001 : Cond.methodLink RX12 105 yX12_bad ∈ TT := tt_tb 1001 (by decide +kernel) (by decide +kernel)
theorem tw_1003 : Cond.instanceMethod yX12_bad ∈ TT := tt_tb 1003 (by decide +kernel) (by decide +kernel)
theorem tw_1004 : Cond.code yX12_bad cX12_bad 2 none ∈ TT := tt_tb 1004 (by decide +kernel) (by decide +kernel)
theorem tw_1005 : Cond.methodLink RX12 122 yX12_number ∈ TT := tt_tb 1005 (by decide +kernel) (by decide +kernel)
theorem tw_1007 : Cond.instanceMethod yX12_number ∈ TT := tt_tb 1007 (by decide +kernel) (by decide +kernel)
theorem tw_1008 : Cond.code yX12_number cX12_number 4 (some .int) ∈ TT := tt_tb 1008 (by decide +kernel) (by decide +kernel)
theorem tw_1009 : Cond.methodLink RX12 126 yX12_mustSign ∈ TT := tt_tb 1009 (by decide +kernel) (by decide +kernel)
theorem tw_1011 : Cond.instanceMethod yX12_mustSign ∈ TT := tt_tb 1011 (by decide +kernel) (by decide +kernel)
theorem tw_1012 : Cond.code yX12_mustSign cX12_mustSign 2 none ∈ TT := tt_tb 1012 (by decide +kernel) (by decide +kernel)
theorem tw_1013 : Cond.methodLink RX12 139 yX12_readPath ∈ TT := tt_tb 1013 (by decide +kernel) (by decide +kernel)
theorem tw_1015 : Cond.instanceMethod yX12_readPath ∈ TT := tt_tb 1015 (by decide +kernel) (by decide +kernel)
theorem tw_1016 : Cond.code yX12_readPath cX12_readPath 5 none ∈ TT := tt_tb 1016 (by decide +kernel) (by decide +kernel)
theorem tw_1017 : Cond.methodLink RX12 129 yX12_isTold ∈ TT := tt_tb 1017 (by decide +kernel) (by decide +kernel)
theorem tw_1019 : Cond.instanceMethod yX12_isTold ∈ TT := tt_tb 1019 (by decide +kernel) (by decide +kernel)
theorem tw_1020 : Cond.code yX12_isTold cX12_isTold 7 (some .boolean) ∈ TT := tt_tb 1020 (by decide +kernel) (by decide +kernel)
theorem tw_1021 : Cond.methodLink RX12 133 yX12_kindBy ∈ TT := tt_tb 1021 (by decide +kernel) (by decide +kernel)
theorem tw_1022 : Cond.static yX12_kindBy ∈ TT := tt_tb 1022 (by decide +kernel) (by decide +kernel)
theorem tw_1023 : Cond.code yX12_kindBy cX12_kindBy 1 (some .int) ∈ TT := tt_tb 1023 (by decide +kernel) (by decide +kernel)
theorem tw_1024 : Cond.methodLink RX12 142 yX12_readWitness ∈ TT := tt_tb 1024 (by decide +kernel) (by decide +kernel)
theorem tw_1026 : Cond.instanceMethod yX12_readWitness ∈ TT := tt_tb 1026 (by decide +kernel) (by decide +kernel)
theorem tw_1027 : Cond.code yX12_readWitness cX12_readWitness 5 none ∈ TT := tt_tb 1027 (by decide +kernel) (by decide +kernel)
theorem tw_1028 : Cond.methodLink RX12 145 yX12_failed ∈ TT := tt_tb 1028 (by decide +kernel) (by decide +kernel)
theorem tw_1030 : Cond.instanceMethod yX12_failed ∈ TT := tt_tb 1030 (by decide +kernel) (by decide +kernel)
theorem tw_1031 : Cond.code yX12_failed cX12_failed 1 (some .boolean) ∈ TT := tt_tb 1031 (by decide +kernel) (by decide +kernel)
theorem tw_1032 : Cond.constant RX12 149 (-1000100) ∈ TT := tt_tb 1032 (by decide +kernel) (by decide +kernel)
theorem tw_1033 : Cond.methodLink RL 52 yX12_bury ∈ TT := tt_tb 1033 (by decide +kernel) (by decide +kernel)
theorem tw_1034 : Cond.instanceMethod yX12_bury ∈ TT := tt_tb 1034 (by decide +kernel) (by decide +kernel)
theorem tw_1035 : Cond.selects RX12 yX12_bury yX12_bury ∈ TT := tt_tb 1035 (by decide +kernel) (by decide +kernel)
theorem tw_1036 : Cond.code yX12_bury cX12_bury 2 (some .int) ∈ TT := tt_tb 1036 (by decide +kernel) (by decide +kernel)
theorem tw_1037 : Cond.methodLink RX12 203 yX12_isThere ∈ TT := tt_tb 1037 (by decide +kernel) (by decide +kernel)
theorem tw_1039 : Cond.instanceMethod yX12_isThere ∈ TT := tt_tb 1039 (by decide +kernel) (by decide +kernel)
theorem tw_1040 : Cond.code yX12_isThere cX12_isThere 1 (some .boolean) ∈ TT := tt_tb 1040 (by decide +kernel) (by decide +kernel)
theorem tw_1041 : Cond.constant RX12 206 (-1000002) ∈ TT := tt_tb 1041 (by decide +kernel) (by decide +kernel)
theorem tw_1042 : Cond.methodLink RX12 207 yX12_isField ∈ TT := tt_tb 1042 (by decide +kernel) (by decide +kernel)
theorem tw_1043 : Cond.static yX12_isField ∈ TT := tt_tb 1043 (by decide +kernel) (by decide +kernel)
theorem tw_1044 : Cond.code yX12_isField cX12_isField 2 (some .boolean) ∈ TT := tt_tb 1044 (by decide +kernel) (by decide +kernel)
theorem tw_1045 : Cond.methodLink RX12 211 yX12_isBurial ∈ TT := tt_tb 1045 (by decide +kernel) (by decide +kernel)
theorem tw_1047 : Cond.instanceMethod yX12_isBurial ∈ TT := tt_tb 1047 (by decide +kernel) (by decide +kernel)
theorem tw_1048 : Cond.code yX12_isBurial cX12_isBurial 3 (some .boolean) ∈ TT := tt_tb 1048 (by decide +kernel) (by decide +kernel)
theorem tw_1049 : Cond.methodLink RX12 176 yX12_layWay ∈ TT := tt_tb 1049 (by decide +kernel) (by decide +kernel)
theorem tw_1051 : Cond.instanceMethod yX12_layWay ∈ TT := tt_tb 1051 (by decide +kernel) (by decide +kernel)
theorem tw_1052 : Cond.code yX12_layWay cX12_layWay 10 none ∈ TT := tt_tb 1052 (by decide +kernel) (by decide +kernel)
theorem tw_1053 : Cond.methodLink RX12 157 yX12_allPaths ∈ TT := tt_tb 1053 (by decide +kernel) (by decide +kernel)
theorem tw_1055 : Cond.instanceMethod yX12_allPaths ∈ TT := tt_tb 1055 (by decide +kernel) (by decide +kernel)
theorem tw_1056 : Cond.code yX12_allPaths cX12_allPaths 1 (some .int) ∈ TT := tt_tb 1056 (by decide +kernel) (by decide +kernel)
theorem tw_1057 : Cond.methodLink RX12 161 yX12_layFars ∈ TT := tt_tb 1057 (by decide +kernel) (by decide +kernel)
theorem tw_1059 : Cond.instanceMethod yX12_layFars ∈ TT := tt_tb 1059 (by decide +kernel) (by decide +kernel)
theorem tw_1060 : Cond.code yX12_layFars cX12_layFars 8 none ∈ TT := tt_tb 1060 (by decide +kernel) (by decide +kernel)
theorem tw_1061 : Cond.methodLink RX12 153 yX12_has ∈ TT := tt_tb 1061 (by decide +kernel) (by decide +kernel)
theorem tw_1062 : Cond.static yX12_has ∈ TT := tt_tb 1062 (by decide +kernel) (by decide +kernel)
theorem tw_1063 : Cond.code yX12_has cX12_has 2 (some .boolean) ∈ TT := tt_tb 1063 (by decide +kernel) (by decide +kernel)
theorem tw_1064 : Cond.methodLink RX12 173 yX12_other ∈ TT := tt_tb 1064 (by decide +kernel) (by decide +kernel)
theorem tw_1066 : Cond.instanceMethod yX12_other ∈ TT := tt_tb 1066 (by decide +kernel) (by decide +kernel)
theorem tw_1067 : Cond.code yX12_other cX12_other 4 (some .int) ∈ TT := tt_tb 1067 (by decide +kernel) (by decide +kernel)
theorem tw_1068 : Cond.methodLink RX12 214 yX12_keep ∈ TT := tt_tb 1068 (by decide +kernel) (by decide +kernel)
theorem tw_1070 : Cond.instanceMethod yX12_keep ∈ TT := tt_tb 1070 (by decide +kernel) (by decide +kernel)
theorem tw_1071 : Cond.code yX12_keep cX12_keep 2 none ∈ TT := tt_tb 1071 (by decide +kernel) (by decide +kernel)
theorem tw_1072 : Cond.methodLink RX12 217 yX12_see ∈ TT := tt_tb 1072 (by decide +kernel) (by decide +kernel)
theorem tw_1074 : Cond.instanceMethod yX12_see ∈ TT := tt_tb 1074 (by decide +kernel) (by decide +kernel)
theorem tw_1075 : Cond.code yX12_see cX12_see 3 none ∈ TT := tt_tb 1075 (by decide +kernel) (by decide +kernel)
theorem tw_1076 : Cond.methodLink RX12 191 yX12_lives ∈ TT := tt_tb 1076 (by decide +kernel) (by decide +kernel)
theorem tw_1077 : Cond.static yX12_lives ∈ TT := tt_tb 1077 (by decide +kernel) (by decide +kernel)
theorem tw_1078 : Cond.code yX12_lives cX12_lives 2 (some .boolean) ∈ TT := tt_tb 1078 (by decide +kernel) (by decide +kernel)
theorem tw_1079 : Cond.methodLink RX12 183 yX12_of ∈ TT := tt_tb 1079 (by decide +kernel) (by decide +kernel)
theorem tw_1080 : Cond.static yX12_of ∈ TT := tt_tb 1080 (by decide +kernel) (by decide +kernel)
theorem tw_1081 : Cond.code yX12_of cX12_of 3 (some .int) ∈ TT := tt_tb 1081 (by decide +kernel) (by decide +kernel)
theorem tw_1082 : Cond.methodLink RX12 187 yX12_livesBy ∈ TT := tt_tb 1082 (by decide +kernel) (by decide +kernel)
theorem tw_1083 : Cond.static yX12_livesBy ∈ TT := tt_tb 1083 (by decide +kernel) (by decide +kernel)
theorem tw_1084 : Cond.code yX12_livesBy cX12_livesBy 3 (some .boolean) ∈ TT := tt_tb 1084 (by decide +kernel) (by decide +kernel)
theorem tw_1085 : Cond.methodLink RX12 199 yX12_sees ∈ TT := tt_tb 1085 (by decide +kernel) (by decide +kernel)
theorem tw_1087 : Cond.instanceMethod yX12_sees ∈ TT := tt_tb 1087 (by decide +kernel) (by decide +kernel)
theorem tw_1088 : Cond.code yX12_sees cX12_sees 5 (some .int) ∈ TT := tt_tb 1088 (by decide +kernel) (by decide +kernel)
theorem tw_1089 : Cond.methodLink RX12 180 yX12_pathsAt ∈ TT := tt_tb 1089 (by decide +kernel) (by decide +kernel)
theorem tw_1091 : Cond.instanceMethod yX12_pathsAt ∈ TT := tt_tb 1091 (by decide +kernel) (by decide +kernel)
theorem tw_1092 : Cond.code yX12_pathsAt cX12_pathsAt 4 (some .int) ∈ TT := tt_tb 1092 (by decide +kernel) (by decide +kernel)
theorem tw_1093 : Cond.methodLink RX12 221 yX12_waysOf ∈ TT := tt_tb 1093 (by decide +kernel) (by decide +kernel)
theorem tw_1094 : Cond.static yX12_waysOf ∈ TT := tt_tb 1094 (by decide +kernel) (by decide +kernel)
theorem tw_1095 : Cond.code yX12_waysOf cX12_waysOf 3 (some .int) ∈ TT := tt_tb 1095 (by decide +kernel) (by decide +kernel)
theorem tw_1096 : Cond.methodLink RX12 195 yX12_swears ∈ TT := tt_tb 1096 (by decide +kernel) (by decide +kernel)
theorem tw_1097 : Cond.static yX12_swears ∈ TT := tt_tb 1097 (by decide +kernel) (by decide +kernel)
theorem tw_1098 : Cond.code yX12_swears cX12_swears 2 (some .int) ∈ TT := tt_tb 1098 (by decide +kernel) (by decide +kernel)
theorem tw_1099 : Cond.methodLink RL 56 yX12_years ∈ TT := tt_tb 1099 (by decide +kernel) (by decide +kernel)
theorem tw_1100 : Cond.instanceMethod yX12_years ∈ TT := tt_tb 1100 (by decide +kernel) (by decide +kernel)
theorem tw_1101 : Cond.selects RX12 yX12_years yX12_years ∈ TT := tt_tb 1101 (by decide +kernel) (by decide +kernel)
theorem tw_1102 : Cond.code yX12_years cX12_years 3 (some .int) ∈ TT := tt_tb 1102 (by decide +kernel) (by decide +kernel)
theorem tw_1103 : Cond.constantLong RX12 225 (24) ∈ TT := tt_tb 1103 (by decide +kernel) (by decide +kernel)
theorem tw_1104 : Cond.methodLink RX12 227 yX12_year ∈ TT := tt_tb 1104 (by decide +kernel) (by decide +kernel)
theorem tw_1105 : Cond.static yX12_year ∈ TT := tt_tb 1105 (by decide +kernel) (by decide +kernel)
theorem tw_1106 : Cond.code yX12_year cX12_year 4 none ∈ TT := tt_tb 1106 (by decide +kernel) (by decide +kernel)
theorem tw_1107 : Cond.methodLink RX12 230 yX12_living ∈ TT := tt_tb 1107 (by decide +kernel) (by decide +kernel)
theorem tw_1108 : Cond.static yX12_living ∈ TT := tt_tb 1108 (by decide +kernel) (by decide +kernel)
theorem tw_1109 : Cond.code yX12_living cX12_living 3 (some .int) ∈ TT := tt_tb 1109 (by decide +kernel) (by decide +kernel)
theorem tw_1110 : Cond.methodLink RL 61 yX12_lock ∈ TT := tt_tb 1110 (by decide +kernel) (by decide +kernel)
theorem tw_1111 : Cond.instanceMethod yX12_lock ∈ TT := tt_tb 1111 (by decide +kernel) (by decide +kernel)
theorem tw_1112 : Cond.selects RX12 yX12_lock yX12_lock ∈ TT := tt_tb 1112 (by decide +kernel) (by decide +kernel)
theorem tw_1113 : Cond.code yX12_lock cX12_lock 3 (some .int) ∈ TT := tt_tb 1113 (by decide +kernel) (by decide +kernel)
theorem tw_1114 : Cond.methodLink RX12 233 yX12_isPath ∈ TT := tt_tb 1114 (by decide +kernel) (by decide +kernel)
theorem tw_1116 : Cond.instanceMethod yX12_isPath ∈ TT := tt_tb 1116 (by decide +kernel) (by decide +kernel)
theorem tw_1117 : Cond.code yX12_isPath cX12_isPath 2 (some .boolean) ∈ TT := tt_tb 1117 (by decide +kernel) (by decide +kernel)
theorem tw_1118 : Cond.methodLink RL 65 yX12_follow ∈ TT := tt_tb 1118 (by decide +kernel) (by decide +kernel)
theorem tw_1119 : Cond.instanceMethod yX12_follow ∈ TT := tt_tb 1119 (by decide +kernel) (by decide +kernel)
theorem tw_1120 : Cond.selects RX12 yX12_follow yX12_follow ∈ TT := tt_tb 1120 (by decide +kernel) (by decide +kernel)
theorem tw_1121 : Cond.code yX12_follow cX12_follow 2 (some .int) ∈ TT := tt_tb 1121 (by decide +kernel) (by decide +kernel)
theorem tw_1122 : Cond.methodLink RX12 236 yX12_isWitness ∈ TT := tt_tb 1122 (by decide +kernel) (by decide +kernel)
theorem tw_1124 : Cond.instanceMethod yX12_isWitness ∈ TT := tt_tb 1124 (by decide +kernel) (by decide +kernel)
theorem tw_1125 : Cond.code yX12_isWitness cX12_isWitness 2 (some .boolean) ∈ TT := tt_tb 1125 (by decide +kernel) (by decide +kernel)
theorem tw_1126 : Cond.methodLink RL 48 yX12_undo ∈ TT := tt_tb 1126 (by decide +kernel) (by decide +kernel)
theorem tw_1127 : Cond.instanceMethod yX12_undo ∈ TT := tt_tb 1127 (by decide +kernel) (by decide +kernel)
theorem tw_1128 : Cond.selects RX12 yX12_undo yX12_undo ∈ TT := tt_tb 1128 (by decide +kernel) (by decide +kernel)
theorem tw_1129 : Cond.code yX12_undo cX12_undo 2 (some .int) ∈ TT := tt_tb 1129 (by decide +kernel) (by decide +kernel)
theorem tw_1130 : Cond.methodLink RL 69 yX12_witness ∈ TT := tt_tb 1130 (by decide +kernel) (by decide +kernel)
theorem tw_1131 : Cond.instanceMethod yX12_witness ∈ TT := tt_tb 1131 (by decide +kernel) (by decide +kernel)
theorem tw_1132 : Cond.selects RX12 yX12_witness yX12_witness ∈ TT := tt_tb 1132 (by decide +kernel) (by decide +kernel)
theorem tw_1133 : Cond.code yX12_witness cX12_witness 3 (some .int) ∈ TT := tt_tb 1133 (by decide +kernel) (by decide +kernel)
theorem tw_1134 : Cond.methodLink RL 73 yX12_path ∈ TT := tt_tb 1134 (by decide +kernel) (by decide +kernel)
theorem tw_1135 : Cond.instanceMethod yX12_path ∈ TT := tt_tb 1135 (by decide +kernel) (by decide +kernel)
theorem tw_1136 : Cond.selects RX12 yX12_path yX12_path ∈ TT := tt_tb 1136 (by decide +kernel) (by decide +kernel)
theorem tw_1137 : Cond.code yX12_path cX12_path 5 (some .int) ∈ TT := tt_tb 1137 (by decide +kernel) (by decide +kernel)
theorem tw_1138 : Cond.constantLong RX12 239 (4) ∈ TT := tt_tb 1138 (by decide +kernel) (by decide +kernel)
theorem tw_1139 : Cond.methodLink RL 77 yX12_stand ∈ TT := tt_tb 1139 (by decide +kernel) (by decide +kernel)
theorem tw_1140 : Cond.instanceMethod yX12_stand ∈ TT := tt_tb 1140 (by decide +kernel) (by decide +kernel)
theorem tw_1141 : Cond.selects RX12 yX12_stand yX12_stand ∈ TT := tt_tb 1141 (by decide +kernel) (by decide +kernel)
theorem tw_1142 : Cond.code yX12_stand cX12_stand 2 (some .int) ∈ TT := tt_tb 1142 (by decide +kernel) (by decide +kernel)
theorem tw_1143 : Cond.methodLink RL 81 yX12_ahead ∈ TT := tt_tb 1143 (by decide +kernel) (by decide +kernel)
theorem tw_1144 : Cond.instanceMethod yX12_ahead ∈ TT := tt_tb 1144 (by decide +kernel) (by decide +kernel)
theorem tw_1145 : Cond.selects RX12 yX12_ahead yX12_ahead ∈ TT := tt_tb 1145 (by decide +kernel) (by decide +kernel)
theorem tw_1146 : Cond.code yX12_ahead cX12_ahead 3 (some .int) ∈ TT := tt_tb 1146 (by decide +kernel) (by decide +kernel)
theorem tw_1147 : Cond.constantLong RX12 241 (60) ∈ TT := tt_tb 1147 (by decide +kernel) (by decide +kernel)
theorem tw_1148 : Cond.methodLink RX12 243 yX12_layThen ∈ TT := tt_tb 1148 (by decide +kernel) (by decide +kernel)
theorem tw_1150 : Cond.instanceMethod yX12_layThen ∈ TT := tt_tb 1150 (by decide +kernel) (by decide +kernel)
theorem tw_1151 : Cond.code yX12_layThen cX12_layThen 2 none ∈ TT := tt_tb 1151 (by decide +kernel) (by decide +kernel)
theorem tw_1152 : Cond.methodLink RL 85 yX12_lost ∈ TT := tt_tb 1152 (by decide +kernel) (by decide +kernel)
theorem tw_1153 : Cond.instanceMethod yX12_lost ∈ TT := tt_tb 1153 (by decide +kernel) (by decide +kernel)
theorem tw_1154 : Cond.selects RX12 yX12_lost yX12_lost ∈ TT := tt_tb 1154 (by decide +kernel) (by decide +kernel)
theorem tw_1155 : Cond.code yX12_lost cX12_lost 3 (some .int) ∈ TT := tt_tb 1155 (by decide +kernel) (by decide +kernel)
theorem tw_1156 : Cond.methodLink RL 89 yX12_goes ∈ TT := tt_tb 1156 (by decide +kernel) (by decide +kernel)
theorem tw_1157 : Cond.instanceMethod yX12_goes ∈ TT := tt_tb 1157 (by decide +kernel) (by decide +kernel)
theorem tw_1158 : Cond.selects RX12 yX12_goes yX12_goes ∈ TT := tt_tb 1158 (by decide +kernel) (by decide +kernel)
theorem tw_1159 : Cond.code yX12_goes cX12_goes 3 (some .int) ∈ TT := tt_tb 1159 (by decide +kernel) (by decide +kernel)
theorem tw_1160 : Cond.methodLink RL 93 yX12_stop ∈ TT := tt_tb 1160 (by decide +kernel) (by decide +kernel)
theorem tw_1161 : Cond.instanceMethod yX12_stop ∈ TT := tt_tb 1161 (by decide +kernel) (by decide +kernel)
theorem tw_1162 : Cond.selects RX12 yX12_stop yX12_stop ∈ TT := tt_tb 1162 (by decide +kernel) (by decide +kernel)
theorem tw_1163 : Cond.code yX12_stop cX12_stop 6 (some .int) ∈ TT := tt_tb 1163 (by decide +kernel) (by decide +kernel)
theorem tw_1164 : Cond.methodLink RX12 246 yX12_bits ∈ TT := tt_tb 1164 (by decide +kernel) (by decide +kernel)
theorem tw_1165 : Cond.static yX12_bits ∈ TT := tt_tb 1165 (by decide +kernel) (by decide +kernel)
theorem tw_1166 : Cond.code yX12_bits cX12_bits 3 (some .int) ∈ TT := tt_tb 1166 (by decide +kernel) (by decide +kernel)
theorem tw_1167 : Cond.methodLink RX12 249 yX12_comesThrough ∈ TT := tt_tb 1167 (by decide +kernel) (by decide +kernel)
theorem tw_1169 : Cond.instanceMethod yX12_comesThrough ∈ TT := tt_tb 1169 (by decide +kernel) (by decide +kernel)
theorem tw_1170 : Cond.code yX12_comesThrough cX12_comesThrough 3 (some .boolean) ∈ TT := tt_tb 1170 (by decide +kernel) (by decide +kernel)
theorem tw_1171 : Cond.methodLink RL 97 yX12_must_ ∈ TT := tt_tb 1171 (by decide +kernel) (by decide +kernel)
theorem tw_1172 : Cond.instanceMethod yX12_must_ ∈ TT := tt_tb 1172 (by decide +kernel) (by decide +kernel)
theorem tw_1173 : Cond.selects RX12 yX12_must_ yX12_must_ ∈ TT := tt_tb 1173 (by decide +kernel) (by decide +kernel)
theorem tw_1174 : Cond.code yX12_must_ cX12_must_ 5 (some .int) ∈ TT := tt_tb 1174 (by decide +kernel) (by decide +kernel)
theorem tw_1175 : Cond.methodLink RL 101 yX12_live ∈ TT := tt_tb 1175 (by decide +kernel) (by decide +kernel)
theorem tw_1176 : Cond.instanceMethod yX12_live ∈ TT := tt_tb 1176 (by decide +kernel) (by decide +kernel)
theorem tw_1177 : Cond.selects RX12 yX12_live yX12_live ∈ TT := tt_tb 1177 (by decide +kernel) (by decide +kernel)
theorem tw_1178 : Cond.code yX12_live cX12_live 8 (some .int) ∈ TT := tt_tb 1178 (by decide +kernel) (by decide +kernel)
theorem tw_1179 : Cond.methodLink RL 105 yX12_makes ∈ TT := tt_tb 1179 (by decide +kernel) (by decide +kernel)
theorem tw_1180 : Cond.instanceMethod yX12_makes ∈ TT := tt_tb 1180 (by decide +kernel) (by decide +kernel)
theorem tw_1181 : Cond.selects RX12 yX12_makes yX12_makes ∈ TT := tt_tb 1181 (by decide +kernel) (by decide +kernel)
theorem tw_1182 : Cond.code yX12_makes cX12_makes 2 (some .int) ∈ TT := tt_tb 1182 (by decide +kernel) (by decide +kernel)
theorem tw_1183 : Cond.methodLink RX12 255 yX12_makesBy ∈ TT := tt_tb 1183 (by decide +kernel) (by decide +kernel)
theorem tw_1185 : Cond.instanceMethod yX12_makesBy ∈ TT := tt_tb 1185 (by decide +kernel) (by decide +kernel)
theorem tw_1186 : Cond.code yX12_makesBy cX12_makesBy 3 (some .int) ∈ TT := tt_tb 1186 (by decide +kernel) (by decide +kernel)
theorem tw_1187 : Cond.methodLink RX12 252 yX12_waysBehind ∈ TT := tt_tb 1187 (by decide +kernel) (by decide +kernel)
theorem tw_1189 : Cond.instanceMethod yX12_waysBehind ∈ TT := tt_tb 1189 (by decide +kernel) (by decide +kernel)
theorem tw_1190 : Cond.code yX12_waysBehind cX12_waysBehind 2 (some .int) ∈ TT := tt_tb 1190 (by decide +kernel) (by decide +kernel)
theorem tw_1191 : Cond.methodLink RL 109 yX12_best ∈ TT := tt_tb 1191 (by decide +kernel) (by decide +kernel)
theorem tw_1192 : Cond.instanceMethod yX12_best ∈ TT := tt_tb 1192 (by decide +kernel) (by decide +kernel)
theorem tw_1193 : Cond.selects RX12 yX12_best yX12_best ∈ TT := tt_tb 1193 (by decide +kernel) (by decide +kernel)
theorem tw_1194 : Cond.code yX12_best cX12_best 6 (some .int) ∈ TT := tt_tb 1194 (by decide +kernel) (by decide +kernel)
theorem tw_1195 : Cond.methodLink RL 113 yX12_from ∈ TT := tt_tb 1195 (by decide +kernel) (by decide +kernel)
theorem tw_1196 : Cond.instanceMethod yX12_from ∈ TT := tt_tb 1196 (by decide +kernel) (by decide +kernel)
theorem tw_1197 : Cond.selects RX12 yX12_from yX12_from ∈ TT := tt_tb 1197 (by decide +kernel) (by decide +kernel)
theorem tw_1198 : Cond.code yX12_from cX12_from 6 (some .int) ∈ TT := tt_tb 1198 (by decide +kernel) (by decide +kernel)
theorem tw_1199 : Cond.methodLink RL 118 yX12_who ∈ TT := tt_tb 1199 (by decide +kernel) (by decide +kernel)
theorem tw_1200 : Cond.instanceMethod yX12_who ∈ TT := tt_tb 1200 (by decide +kernel) (by decide +kernel)
theorem tw_1201 : Cond.selects RX12 yX12_who yX12_who ∈ TT := tt_tb 1201 (by decide +kernel) (by decide +kernel)
theorem tw_1202 : Cond.code yX12_who cX12_who 13 (some .int) ∈ TT := tt_tb 1202 (by decide +kernel) (by decide +kernel)
theorem tw_1203 : Cond.methodLink RL 122 yX12_far ∈ TT := tt_tb 1203 (by decide +kernel) (by decide +kernel)
theorem tw_1204 : Cond.instanceMethod yX12_far ∈ TT := tt_tb 1204 (by decide +kernel) (by decide +kernel)
theorem tw_1205 : Cond.selects RX12 yX12_far yX12_far ∈ TT := tt_tb 1205 (by decide +kernel) (by decide +kernel)
theorem tw_1206 : Cond.code yX12_far cX12_far 2 (some .int) ∈ TT := tt_tb 1206 (by decide +kernel) (by decide +kernel)
theorem tw_1207 : Cond.methodLink RL 126 yX12_pairs ∈ TT := tt_tb 1207 (by decide +kernel) (by decide +kernel)
theorem tw_1208 : Cond.instanceMethod yX12_pairs ∈ TT := tt_tb 1208 (by decide +kernel) (by decide +kernel)
theorem tw_1209 : Cond.selects RX12 yX12_pairs yX12_pairs ∈ TT := tt_tb 1209 (by decide +kernel) (by decide +kernel)
theorem tw_1210 : Cond.code yX12_pairs cX12_pairs 4 (some .int) ∈ TT := tt_tb 1210 (by decide +kernel) (by decide +kernel)
theorem tw_1211 : Cond.methodLink RL 131 yX12_locked ∈ TT := tt_tb 1211 (by decide +kernel) (by decide +kernel)
theorem tw_1212 : Cond.instanceMethod yX12_locked ∈ TT := tt_tb 1212 (by decide +kernel) (by decide +kernel)
theorem tw_1213 : Cond.selects RX12 yX12_locked yX12_locked ∈ TT := tt_tb 1213 (by decide +kernel) (by decide +kernel)
theorem tw_1214 : Cond.code yX12_locked cX12_locked 15 (some .long) ∈ TT := tt_tb 1214 (by decide +kernel) (by decide +kernel)
theorem tw_1215 : Cond.constantLong RX12 258 (-1000002) ∈ TT := tt_tb 1215 (by decide +kernel) (by decide +kernel)
theorem tw_1216 : Cond.constantLong RX12 260 (10) ∈ TT := tt_tb 1216 (by decide +kernel) (by decide +kernel)
theorem tw_1217 : Cond.constantLong RX12 262 (-1000001) ∈ TT := tt_tb 1217 (by decide +kernel) (by decide +kernel)
theorem tw_1218 : Cond.methodLink RL 135 yX12_drawn ∈ TT := tt_tb 1218 (by decide +kernel) (by decide +kernel)
theorem tw_1219 : Cond.instanceMethod yX12_drawn ∈ TT := tt_tb 1219 (by decide +kernel) (by decide +kernel)
theorem tw_1220 : Cond.selects RX12 yX12_drawn yX12_drawn ∈ TT := tt_tb 1220 (by decide +kernel) (by decide +kernel)
theorem tw_1221 : Cond.code yX12_drawn cX12_drawn 8 (some .int) ∈ TT := tt_tb 1221 (by decide +kernel) (by decide +kernel)
theorem tw_1222 : Cond.constantLong RX12 264 (999999) ∈ TT := tt_tb 1222 (by decide +kernel) (by decide +kernel)
theorem tw_1223 : Cond.constantLong RX12 266 (16807) ∈ TT := tt_tb 1223 (by decide +kernel) (by decide +kernel)
theorem tw_1224 : Cond.constantLong RX12 268 (2147483647) ∈ TT := tt_tb 1224 (by decide +kernel) (by decide +kernel)
theorem tw_1225 : Cond.constantLong RX12 270 (8) ∈ TT := tt_tb 1225 (by decide +kernel) (by decide +kernel)
theorem tw_1226 : Cond.methodLink RL 139 yX12_image ∈ TT := tt_tb 1226 (by decide +kernel) (by decide +kernel)
theorem tw_1227 : Cond.instanceMethod yX12_image ∈ TT := tt_tb 1227 (by decide +kernel) (by decide +kernel)
theorem tw_1228 : Cond.selects RX12 yX12_image yX12_image ∈ TT := tt_tb 1228 (by decide +kernel) (by decide +kernel)
theorem tw_1229 : Cond.code yX12_image cX12_image 3 (some .int) ∈ TT := tt_tb 1229 (by decide +kernel) (by decide +kernel)
theorem tw_1230 : Cond.methodLink RL 143 yX12_restore ∈ TT := tt_tb 1230 (by decide +kernel) (by decide +kernel)
theorem tw_1231 : Cond.instanceMethod yX12_restore ∈ TT := tt_tb 1231 (by decide +kernel) (by decide +kernel)
theorem tw_1232 : Cond.selects RX12 yX12_restore yX12_restore ∈ TT := tt_tb 1232 (by decide +kernel) (by decide +kernel)
theorem tw_1233 : Cond.code yX12_restore cX12_restore 3 (some .int) ∈ TT := tt_tb 1233 (by decide +kernel) (by decide +kernel)
theorem tw_1234 : Cond.methodLink RL 147 yX12_kind ∈ TT := tt_tb 1234 (by decide +kernel) (by decide +kernel)
theorem tw_1235 : Cond.instanceMethod yX12_kind ∈ TT := tt_tb 1235 (by decide +kernel) (by decide +kernel)
theorem tw_1236 : Cond.selects RX12 yX12_kind yX12_kind ∈ TT := tt_tb 1236 (by decide +kernel) (by decide +kernel)
theorem tw_1237 : Cond.code yX12_kind cX12_kind 2 (some .int) ∈ TT := tt_tb 1237 (by decide +kernel) (by decide +kernel)
theorem tw_1238 : Cond.methodLink RL 151 yX12_as ∈ TT := tt_tb 1238 (by decide +kernel) (by decide +kernel)
theorem tw_1239 : Cond.instanceMethod yX12_as ∈ TT := tt_tb 1239 (by decide +kernel) (by decide +kernel)
theorem tw_1240 : Cond.selects RX12 yX12_as yX12_as ∈ TT := tt_tb 1240 (by decide +kernel) (by decide +kernel)
theorem tw_1241 : Cond.code yX12_as cX12_as 3 (some .int) ∈ TT := tt_tb 1241 (by decide +kernel) (by decide +kernel)
theorem tw_1242 : Cond.constantLong RX12 272 (5) ∈ TT := tt_tb 1242 (by decide +kernel) (by decide +kernel)
theorem tw_1243 : Cond.methodLink RX12 274 yX12_isOf ∈ TT := tt_tb 1243 (by decide +kernel) (by decide +kernel)
theorem tw_1244 : Cond.static yX12_isOf ∈ TT := tt_tb 1244 (by decide +kernel) (by decide +kernel)
theorem tw_1245 : Cond.code yX12_isOf cX12_isOf 2 (some .boolean) ∈ TT := tt_tb 1245 (by decide +kernel) (by decide +kernel)
theorem tw_1246 : Cond.methodLink RL 155 yX12_ask ∈ TT := tt_tb 1246 (by decide +kernel) (by decide +kernel)
theorem tw_1247 : Cond.instanceMethod yX12_ask ∈ TT := tt_tb 1247 (by decide +kernel) (by decide +kernel)
theorem tw_1248 : Cond.selects RX12 yX12_ask yX12_ask ∈ TT := tt_tb 1248 (by decide +kernel) (by decide +kernel)
theorem tw_1249 : Cond.code yX12_ask cX12_ask 3 (some .int) ∈ TT := tt_tb 1249 (by decide +kernel) (by decide +kernel)
theorem tw_1250 : Cond.methodLink RX12 292 yX12_sizeOf ∈ TT := tt_tb 1250 (by decide +kernel) (by decide +kernel)
theorem tw_1252 : Cond.instanceMethod yX12_sizeOf ∈ TT := tt_tb 1252 (by decide +kernel) (by decide +kernel)
theorem tw_1253 : Cond.code yX12_sizeOf cX12_sizeOf 4 (some .int) ∈ TT := tt_tb 1253 (by decide +kernel) (by decide +kernel)
theorem tw_1254 : Cond.methodLink RX12 286 yX12_strangerSize ∈ TT := tt_tb 1254 (by decide +kernel) (by decide +kernel)
theorem tw_1256 : Cond.instanceMethod yX12_strangerSize ∈ TT := tt_tb 1256 (by decide +kernel) (by decide +kernel)
theorem tw_1257 : Cond.code yX12_strangerSize cX12_strangerSize 4 (some .int) ∈ TT := tt_tb 1257 (by decide +kernel) (by decide +kernel)
theorem tw_1258 : Cond.methodLink RX12 280 yX12_began ∈ TT := tt_tb 1258 (by decide +kernel) (by decide +kernel)
theorem tw_1260 : Cond.instanceMethod yX12_began ∈ TT := tt_tb 1260 (by decide +kernel) (by decide +kernel)
theorem tw_1261 : Cond.code yX12_began cX12_began 2 none ∈ TT := tt_tb 1261 (by decide +kernel) (by decide +kernel)
theorem tw_1262 : Cond.methodLink RX12 283 yX12_plainSize ∈ TT := tt_tb 1262 (by decide +kernel) (by decide +kernel)
theorem tw_1264 : Cond.instanceMethod yX12_plainSize ∈ TT := tt_tb 1264 (by decide +kernel) (by decide +kernel)
theorem tw_1265 : Cond.code yX12_plainSize cX12_plainSize 2 (some .int) ∈ TT := tt_tb 1265 (by decide +kernel) (by decide +kernel)
theorem tw_1266 : Cond.methodLink RX12 289 yX12_markOf ∈ TT := tt_tb 1266 (by decide +kernel) (by decide +kernel)
theorem tw_1268 : Cond.instanceMethod yX12_markOf ∈ TT := tt_tb 1268 (by decide +kernel) (by decide +kernel)
theorem tw_1269 : Cond.code yX12_markOf cX12_markOf 4 (some .int) ∈ TT := tt_tb 1269 (by decide +kernel) (by decide +kernel)
theorem tw_1270 : Cond.methodLink RL 159 yX12_trace ∈ TT := tt_tb 1270 (by decide +kernel) (by decide +kernel)
theorem tw_1271 : Cond.instanceMethod yX12_trace ∈ TT := tt_tb 1271 (by decide +kernel) (by decide +kernel)
theorem tw_1272 : Cond.selects RX12 yX12_trace yX12_trace ∈ TT := tt_tb 1272 (by decide +kernel) (by decide +kernel)
theorem tw_1273 : Cond.code yX12_trace cX12_trace 2 (some .int) ∈ TT := tt_tb 1273 (by decide +kernel) (by decide +kernel)
theorem tw_1274 : Cond.methodLink RL 163 yX12_count ∈ TT := tt_tb 1274 (by decide +kernel) (by decide +kernel)
theorem tw_1275 : Cond.instanceMethod yX12_count ∈ TT := tt_tb 1275 (by decide +kernel) (by decide +kernel)
theorem tw_1276 : Cond.selects RX12 yX12_count yX12_count ∈ TT := tt_tb 1276 (by decide +kernel) (by decide +kernel)
theorem tw_1277 : Cond.code yX12_count cX12_count 4 (some .int) ∈ TT := tt_tb 1277 (by decide +kernel) (by decide +kernel)
theorem tw_1278 : Cond.methodLink RL 167 yX12_status ∈ TT := tt_tb 1278 (by decide +kernel) (by decide +kernel)
theorem tw_1279 : Cond.instanceMethod yX12_status ∈ TT := tt_tb 1279 (by decide +kernel) (by decide +kernel)
theorem tw_1280 : Cond.selects RX12 yX12_status yX12_status ∈ TT := tt_tb 1280 (by decide +kernel) (by decide +kernel)
theorem tw_1281 : Cond.code yX12_status cX12_status 1 (some .int) ∈ TT := tt_tb 1281 (by decide +kernel) (by decide +kernel)
theorem tw_1282 : Cond.sameMethod RX4 RX4 "sees" "(LCoffinWays$Parish;ILCoffinWays$Coffin;)I" ∈ TT := tt_tb 1282 (by decide +kernel) (by decide +kernel)
theorem tw_1283 : Cond.sameMethod RX4 RX4 "size" "(LCoffinWays$Asked;)I" ∈ TT := tt_tb 1283 (by decide +kernel) (by decide +kernel)
theorem tw_1284 : Cond.sameMethod RX10 RX10 "mark" "(LCoffinWays$Asked;)I" ∈ TT := tt_tb 1284 (by decide +kernel) (by decide +kernel)
theorem tw_1285 : Cond.sameMethod RX8 RX8 "size" "(LCoffinWays$Asked;)I" ∈ TT := tt_tb 1285 (by decide +kernel) (by decide +kernel)
theorem tw_1286 : Cond.selects RX1 yX10_mark yX1_mark ∈ TT := tt_tb 1286 (by decide +kernel) (by decide +kernel)
theorem tw_1287 : Cond.selects RX3 yX10_mark yX3_mark ∈ TT := tt_tb 1287 (by decide +kernel) (by decide +kernel)
theorem tw_1288 : Cond.selects RX4 yX10_mark yX4_mark ∈ TT := tt_tb 1288 (by decide +kernel) (by decide +kernel)
theorem tw_1289 : Cond.selects RX7 yX10_mark yX8_mark ∈ TT := tt_tb 1289 (by decide +kernel) (by decide +kernel)
theorem tw_1290 : Cond.selects RX7 yX8_size yX7_size ∈ TT := tt_tb 1290 (by decide +kernel) (by decide +kernel)
theorem tw_1291 : Cond.selects RX8 yX8_size yX8_size ∈ TT := tt_tb 1291 (by decide +kernel) (by decide +kernel)
theorem tw_1292 : Cond.selects RX8 yX10_mark yX8_mark ∈ TT := tt_tb 1292 (by decide +kernel) (by decide +kernel)
theorem tw_1293 : Cond.selects RX10 yX10_mark yX10_mark ∈ TT := tt_tb 1293 (by decide +kernel) (by decide +kernel)
theorem ts_0 : Cond.selects RX11 yX11_found yX11_found ∈ TT := tt_sel (q := (yX11_found, 13)) 0 (by decide +kernel)
theorem ts_1 : Cond.selects RX11 yX11_unfound yX11_unfound ∈ TT := tt_sel (q := (yX11_unfound, 13)) 1 (by decide +kernel)
theorem ts_2 : Cond.selects RX9 yX9_take yX9_take ∈ TT := tt_sel (q := (yX9_take, 8)) 2 (by decide +kernel)
theorem ts_3 : Cond.selects RX9 yX9_takeNumber yX9_takeNumber ∈ TT := tt_sel (q := (yX9_takeNumber, 8)) 3 (by decide +kernel)
theorem ts_4 : Cond.selects RX9 yX9_readLaw yX9_readLaw ∈ TT := tt_sel (q := (yX9_readLaw, 8)) 4 (by decide +kernel)
theorem ts_5 : Cond.selects RX9 yX9_takes yX9_takes ∈ TT := tt_sel (q := (yX9_takes, 8)) 5 (by decide +kernel)
theorem ts_6 : Cond.selects RX9 yX9_fails yX9_fails ∈ TT := tt_sel (q := (yX9_fails, 8)) 6 (by decide +kernel)
theorem ts_7 : Cond.selects RX9 yX9_isNumber yX9_isNumber ∈ TT := tt_sel (q := (yX9_isNumber, 8)) 7 (by decide +kernel)
theorem ts_8 : Cond.selects RX9 yX9_readPath yX9_readPath ∈ TT := tt_sel (q := (yX9_readPath, 8)) 8 (by decide +kernel)
theorem ts_9 : Cond.selects RX9 yX9_readWitness yX9_readWitness ∈ TT := tt_sel (q := (yX9_readWitness, 8)) 9 (by decide +kernel)
theorem ts_10 : Cond.selects RX11 yX11_forgetActs yX11_forgetActs ∈ TT := tt_sel (q := (yX11_forgetActs, 13)) 10 (by decide +kernel)
theorem ts_11 : Cond.selects RX2 yX2_measure yX2_measure ∈ TT := tt_sel (q := (yX2_measure, 8)) 11 (by decide +kernel)
theorem ts_12 : Cond.selects RX2 yX2_shorten yX2_shorten ∈ TT := tt_sel (q := (yX2_shorten, 8)) 12 (by decide +kernel)
theorem ts_13 : Cond.selects RX2 yX2_nextField yX2_nextField ∈ TT := tt_sel (q := (yX2_nextField, 8)) 13 (by decide +kernel)
theorem ts_14 : Cond.selects RX11 yX11_keepAct yX11_keepAct ∈ TT := tt_sel (q := (yX11_keepAct, 13)) 14 (by decide +kernel)
theorem ts_15 : Cond.selects RX11 yX11_newWays yX11_newWays ∈ TT := tt_sel (q := (yX11_newWays, 13)) 15 (by decide +kernel)
theorem ts_16 : Cond.selects RX11 yX11_fittingKinds yX11_fittingKinds ∈ TT := tt_sel (q := (yX11_fittingKinds, 13)) 16 (by decide +kernel)
theorem ts_17 : Cond.selects RX2 yX2_countWithin yX2_countWithin ∈ TT := tt_sel (q := (yX2_countWithin, 8)) 17 (by decide +kernel)
theorem ts_18 : Cond.selects RX2 yX2_fillPowers yX2_fillPowers ∈ TT := tt_sel (q := (yX2_fillPowers, 8)) 18 (by decide +kernel)
theorem ts_19 : Cond.selects RX2 yX2_casesJoined yX2_casesJoined ∈ TT := tt_sel (q := (yX2_casesJoined, 8)) 19 (by decide +kernel)
theorem ts_20 : Cond.selects RX2 yX2_casesParted yX2_casesParted ∈ TT := tt_sel (q := (yX2_casesParted, 8)) 20 (by decide +kernel)
theorem ts_21 : Cond.selects RX12 yX12_finding yX12_finding ∈ TT := tt_sel (q := (yX12_finding, 27)) 21 (by decide +kernel)
theorem ts_22 : Cond.selects RX12 yX12_begin yX12_begin ∈ TT := tt_sel (q := (yX12_begin, 27)) 22 (by decide +kernel)
theorem ts_23 : Cond.selects RX12 yX12_nextToken yX12_nextToken ∈ TT := tt_sel (q := (yX12_nextToken, 27)) 23 (by decide +kernel)
theorem ts_24 : Cond.selects RX12 yX12_isLetter yX12_isLetter ∈ TT := tt_sel (q := (yX12_isLetter, 27)) 24 (by decide +kernel)
theorem ts_25 : Cond.selects RX12 yX12_must yX12_must ∈ TT := tt_sel (q := (yX12_must, 27)) 25 (by decide +kernel)
theorem ts_26 : Cond.selects RX12 yX12_bad yX12_bad ∈ TT := tt_sel (q := (yX12_bad, 27)) 26 (by decide +kernel)
theorem ts_27 : Cond.selects RX12 yX12_number yX12_number ∈ TT := tt_sel (q := (yX12_number, 27)) 27 (by decide +kernel)
theorem ts_28 : Cond.selects RX12 yX12_mustSign yX12_mustSign ∈ TT := tt_sel (q := (yX12_mustSign, 27)) 28 (by decide +kernel)
theorem ts_29 : Cond.selects RX12 yX12_readPath yX12_readPath ∈ TT := tt_sel (q := (yX12_readPath, 27)) 29 (by decide +kernel)
theorem ts_30 : Cond.selects RX12 yX12_isTold yX12_isTold ∈ TT := tt_sel (q := (yX12_isTold, 27)) 30 (by decide +kernel)
theorem ts_31 : Cond.selects RX12 yX12_readWitness yX12_readWitness ∈ TT := tt_sel (q := (yX12_readWitness, 27)) 31 (by decide +kernel)
theorem ts_32 : Cond.selects RX12 yX12_failed yX12_failed ∈ TT := tt_sel (q := (yX12_failed, 27)) 32 (by decide +kernel)
theorem ts_33 : Cond.selects RX12 yX12_isThere yX12_isThere ∈ TT := tt_sel (q := (yX12_isThere, 27)) 33 (by decide +kernel)
theorem ts_34 : Cond.selects RX12 yX12_isBurial yX12_isBurial ∈ TT := tt_sel (q := (yX12_isBurial, 27)) 34 (by decide +kernel)
theorem ts_35 : Cond.selects RX12 yX12_layWay yX12_layWay ∈ TT := tt_sel (q := (yX12_layWay, 27)) 35 (by decide +kernel)
theorem ts_36 : Cond.selects RX12 yX12_allPaths yX12_allPaths ∈ TT := tt_sel (q := (yX12_allPaths, 27)) 36 (by decide +kernel)
theorem ts_37 : Cond.selects RX12 yX12_layFars yX12_layFars ∈ TT := tt_sel (q := (yX12_layFars, 27)) 37 (by decide +kernel)
theorem ts_38 : Cond.selects RX12 yX12_other yX12_other ∈ TT := tt_sel (q := (yX12_other, 27)) 38 (by decide +kernel)
theorem ts_39 : Cond.selects RX12 yX12_keep yX12_keep ∈ TT := tt_sel (q := (yX12_keep, 27)) 39 (by decide +kernel)
theorem ts_40 : Cond.selects RX12 yX12_see yX12_see ∈ TT := tt_sel (q := (yX12_see, 27)) 40 (by decide +kernel)
theorem ts_41 : Cond.selects RX12 yX12_sees yX12_sees ∈ TT := tt_sel (q := (yX12_sees, 27)) 41 (by decide +kernel)
theorem ts_42 : Cond.selects RX12 yX12_pathsAt yX12_pathsAt ∈ TT := tt_sel (q := (yX12_pathsAt, 27)) 42 (by decide +kernel)
theorem ts_43 : Cond.selects RX12 yX12_isPath yX12_isPath ∈ TT := tt_sel (q := (yX12_isPath, 27)) 43 (by decide +kernel)
theorem ts_44 : Cond.selects RX12 yX12_isWitness yX12_isWitness ∈ TT := tt_sel (q := (yX12_isWitness, 27)) 44 (by decide +kernel)
theorem ts_45 : Cond.selects RX12 yX12_layThen yX12_layThen ∈ TT := tt_sel (q := (yX12_layThen, 27)) 45 (by decide +kernel)
theorem ts_46 : Cond.selects RX12 yX12_comesThrough yX12_comesThrough ∈ TT := tt_sel (q := (yX12_comesThrough, 27)) 46 (by decide +kernel)
theorem ts_47 : Cond.selects RX12 yX12_makesBy yX12_makesBy ∈ TT := tt_sel (q := (yX12_makesBy, 27)) 47 (by decide +kernel)
theorem ts_48 : Cond.selects RX12 yX12_waysBehind yX12_waysBehind ∈ TT := tt_sel (q := (yX12_waysBehind, 27)) 48 (by decide +kernel)
theorem ts_49 : Cond.selects RX12 yX12_sizeOf yX12_sizeOf ∈ TT := tt_sel (q := (yX12_sizeOf, 27)) 49 (by decide +kernel)
theorem ts_50 : Cond.selects RX12 yX12_strangerSize yX12_strangerSize ∈ TT := tt_sel (q := (yX12_strangerSize, 27)) 50 (by decide +kernel)
theorem ts_51 : Cond.selects RX12 yX12_began yX12_began ∈ TT := tt_sel (q := (yX12_began, 27)) 51 (by decide +kernel)
theorem ts_52 : Cond.selects RX12 yX12_plainSize yX12_plainSize ∈ TT := tt_sel (q := (yX12_plainSize, 27)) 52 (by decide +kernel)
theorem ts_53 : Cond.selects RX12 yX12_markOf yX12_markOf ∈ TT := tt_sel (q := (yX12_markOf, 27)) 53 (by decide +kernel)
theorem inT_0 : ∀ w ∈ u_ws RX0 TX0 5, w ∈ TT := fun w h => by
  obtain ⟨k, hk, rfl⟩ := List.mem_map.mp h
  have hk := List.mem_range.mp hk
  rcases (show k = 0 ∨ k = 1 ∨ k = 2 ∨ k = 3 ∨ k = 4 by omega) with rfl | rfl | rfl | rfl | rfl
  · exact tw_260
  · exact tw_262
  · exact tw_264
  · exact tw_266
  · exact tw_268
theorem inT_1 : ∀ w ∈ u_ws RX1 TX1 0, w ∈ TT := fun w h => by cases h
theorem inT_2 : ∀ w ∈ u_ws RX2 TX2 8, w ∈ TT := fun w h => by
  obtain ⟨k, hk, rfl⟩ := List.mem_map.mp h
  have hk := List.mem_range.mp hk
  rcases (show k = 0 ∨ k = 1 ∨ k = 2 ∨ k = 3 ∨ k = 4 ∨ k = 5 ∨ k = 6 ∨ k = 7 by omega) with rfl | rfl | rfl | rfl | rfl | rfl | rfl | rfl
  · exact tw_226
  · exact tw_228
  · exact tw_230
  · exact tw_232
  · exact tw_234
  · exact tw_236
  · exact tw_238
  · exact tw_240
theorem inT_3 : ∀ w ∈ u_ws RX3 TX3 0, w ∈ TT := fun w h => by cases h
theorem inT_4 : ∀ w ∈ u_ws RX4 TX4 0, w ∈ TT := fun w h => by cases h
theorem inT_5 : ∀ w ∈ u_ws RX5 TX5 15, w ∈ TT := fun w h => by
  obtain ⟨k, hk, rfl⟩ := List.mem_map.mp h
  have hk := List.mem_range.mp hk
  rcases (show k = 0 ∨ k = 1 ∨ k = 2 ∨ k = 3 ∨ k = 4 ∨ k = 5 ∨ k = 6 ∨ k = 7 ∨ k = 8 ∨ k = 9 ∨ k = 10 ∨ k = 11 ∨ k = 12 ∨ k = 13 ∨ k = 14 by omega) with rfl | rfl | rfl | rfl | rfl | rfl | rfl | rfl | rfl | rfl | rfl | rfl | rfl | rfl | rfl
  · exact tw_171
  · exact tw_173
  · exact tw_175
  · exact tw_177
  · exact tw_179
  · exact tw_181
  · exact tw_183
  · exact tw_185
  · exact tw_187
  · exact tw_189
  · exact tw_191
  · exact tw_193
  · exact tw_195
  · exact tw_197
  · exact tw_199
theorem inT_6 : ∀ w ∈ u_ws RX6 TX6 3, w ∈ TT := fun w h => by
  obtain ⟨k, hk, rfl⟩ := List.mem_map.mp h
  have hk := List.mem_range.mp hk
  rcases (show k = 0 ∨ k = 1 ∨ k = 2 by omega) with rfl | rfl | rfl
  · exact tw_39
  · exact tw_41
  · exact tw_43
theorem inT_7 : ∀ w ∈ u_ws RX7 TX7 0, w ∈ TT := fun w h => by cases h
theorem inT_8 : ∀ w ∈ u_ws RX8 TX8 0, w ∈ TT := fun w h => by cases h
theorem inT_9 : ∀ w ∈ u_ws RX9 TX9 8, w ∈ TT := fun w h => by
  obtain ⟨k, hk, rfl⟩ := List.mem_map.mp h
  have hk := List.mem_range.mp hk
  rcases (show k = 0 ∨ k = 1 ∨ k = 2 ∨ k = 3 ∨ k = 4 ∨ k = 5 ∨ k = 6 ∨ k = 7 by omega) with rfl | rfl | rfl | rfl | rfl | rfl | rfl | rfl
  · exact tw_64
  · exact tw_66
  · exact tw_68
  · exact tw_70
  · exact tw_72
  · exact tw_74
  · exact tw_76
  · exact tw_78
theorem inT_10 : ∀ w ∈ u_ws RX10 TX10 0, w ∈ TT := fun w h => by cases h
theorem inT_11 : ∀ w ∈ u_ws RX11 TX11 13, w ∈ TT := fun w h => by
  obtain ⟨k, hk, rfl⟩ := List.mem_map.mp h
  have hk := List.mem_range.mp hk
  rcases (show k = 0 ∨ k = 1 ∨ k = 2 ∨ k = 3 ∨ k = 4 ∨ k = 5 ∨ k = 6 ∨ k = 7 ∨ k = 8 ∨ k = 9 ∨ k = 10 ∨ k = 11 ∨ k = 12 by omega) with rfl | rfl | rfl | rfl | rfl | rfl | rfl | rfl | rfl | rfl | rfl | rfl | rfl
  · exact tw_284
  · exact tw_286
  · exact tw_288
  · exact tw_290
  · exact tw_292
  · exact tw_294
  · exact tw_296
  · exact tw_298
  · exact tw_300
  · exact tw_302
  · exact tw_304
  · exact tw_306
  · exact tw_308
theorem inT_12 : ∀ w ∈ u_ws RX12 TX12 27, w ∈ TT := fun w h => by
  obtain ⟨k, hk, rfl⟩ := List.mem_map.mp h
  have hk := List.mem_range.mp hk
  rcases (show k = 0 ∨ k = 1 ∨ k = 2 ∨ k = 3 ∨ k = 4 ∨ k = 5 ∨ k = 6 ∨ k = 7 ∨ k = 8 ∨ k = 9 ∨ k = 10 ∨ k = 11 ∨ k = 12 ∨ k = 13 ∨ k = 14 ∨ k = 15 ∨ k = 16 ∨ k = 17 ∨ k = 18 ∨ k = 19 ∨ k = 20 ∨ k = 21 ∨ k = 22 ∨ k = 23 ∨ k = 24 ∨ k = 25 ∨ k = 26 by omega) with rfl | rfl | rfl | rfl | rfl | rfl | rfl | rfl | rfl | rfl | rfl | rfl | rfl | rfl | rfl | rfl | rfl | rfl | rfl | rfl | rfl | rfl | rfl | rfl | rfl | rfl | rfl
  · exact tw_880
  · exact tw_882
  · exact tw_884
  · exact tw_886
  · exact tw_888
  · exact tw_890
  · exact tw_892
  · exact tw_894
  · exact tw_896
  · exact tw_898
  · exact tw_900
  · exact tw_902
  · exact tw_904
  · exact tw_906
  · exact tw_908
  · exact tw_910
  · exact tw_912
  · exact tw_914
  · exact tw_916
  · exact tw_918
  · exact tw_920
  · exact tw_922
  · exact tw_924
  · exact tw_926
  · exact tw_928
  · exact tw_930
  · exact tw_932
theorem fg_RX6_11 : jFG RX6 11 6 0 := ⟨RX6, TX6, 3, rfl, inT_6, by decide, rfl, tw_33⟩
theorem fg_RX11_117 : jFG RX11 117 6 0 := ⟨RX6, TX6, 3, rfl, inT_6, by decide, rfl, tw_34⟩
theorem fg_RX6_16 : jFG RX6 16 6 1 := ⟨RX6, TX6, 3, rfl, inT_6, by decide, rfl, tw_35⟩
theorem fg_RX11_110 : jFG RX11 110 6 1 := ⟨RX6, TX6, 3, rfl, inT_6, by decide, rfl, tw_36⟩
theorem fg_RX6_20 : jFG RX6 20 6 2 := ⟨RX6, TX6, 3, rfl, inT_6, by decide, rfl, tw_37⟩
theorem fg_RX11_126 : jFG RX11 126 6 2 := ⟨RX6, TX6, 3, rfl, inT_6, by decide, rfl, tw_38⟩
theorem fg_RX9_9 : jFG RX9 9 9 0 := ⟨RX9, TX9, 8, rfl, inT_9, by decide, rfl, tw_53⟩
theorem fg_RX9_15 : jFG RX9 15 9 1 := ⟨RX9, TX9, 8, rfl, inT_9, by decide, rfl, tw_54⟩
theorem fp_RX9_15 : jFP RX9 15 9 1 .int := ⟨RX9, TX9, 8, tyX9, rfl, inT_9, by decide, rfl, tw_54, tyX9_ok, nmX9, rfl, by decide +kernel⟩
theorem fg_RX11_129 : jFG RX11 129 9 1 := ⟨RX9, TX9, 8, rfl, inT_9, by decide, rfl, tw_55⟩
theorem fp_RX11_129 : jFP RX11 129 9 1 .int := ⟨RX9, TX9, 8, tyX9, rfl, inT_9, by decide, rfl, tw_55, tyX9_ok, nmX9, rfl, by decide +kernel⟩
theorem fg_RX9_87 : jFG RX9 87 9 2 := ⟨RX9, TX9, 8, rfl, inT_9, by decide, rfl, tw_56⟩
theorem fp_RX9_87 : jFP RX9 87 9 2 .int := ⟨RX9, TX9, 8, tyX9, rfl, inT_9, by decide, rfl, tw_56, tyX9_ok, nmX9, rfl, by decide +kernel⟩
theorem fg_RX11_156 : jFG RX11 156 9 2 := ⟨RX9, TX9, 8, rfl, inT_9, by decide, rfl, tw_57⟩
theorem fp_RX11_156 : jFP RX11 156 9 2 .int := ⟨RX9, TX9, 8, tyX9, rfl, inT_9, by decide, rfl, tw_57, tyX9_ok, nmX9, rfl, by decide +kernel⟩
theorem fg_RX11_143 : jFG RX11 143 9 3 := ⟨RX9, TX9, 8, rfl, inT_9, by decide, rfl, tw_58⟩
theorem fp_RX11_143 : jFP RX11 143 9 3 .int := ⟨RX9, TX9, 8, tyX9, rfl, inT_9, by decide, rfl, tw_58, tyX9_ok, nmX9, rfl, by decide +kernel⟩
theorem fg_RX9_93 : jFG RX9 93 9 3 := ⟨RX9, TX9, 8, rfl, inT_9, by decide, rfl, tw_59⟩
theorem fp_RX9_93 : jFP RX9 93 9 3 .int := ⟨RX9, TX9, 8, tyX9, rfl, inT_9, by decide, rfl, tw_59, tyX9_ok, nmX9, rfl, by decide +kernel⟩
theorem fg_RX9_90 : jFG RX9 90 9 4 := ⟨RX9, TX9, 8, rfl, inT_9, by decide, rfl, tw_60⟩
theorem fp_RX9_90 : jFP RX9 90 9 4 .int := ⟨RX9, TX9, 8, tyX9, rfl, inT_9, by decide, rfl, tw_60, tyX9_ok, nmX9, rfl, by decide +kernel⟩
theorem fg_RX9_34 : jFG RX9 34 9 5 := ⟨RX9, TX9, 8, rfl, inT_9, by decide, rfl, tw_61⟩
theorem fp_RX9_34 : jFP RX9 34 9 5 .int := ⟨RX9, TX9, 8, tyX9, rfl, inT_9, by decide, rfl, tw_61, tyX9_ok, nmX9, rfl, by decide +kernel⟩
theorem fg_RX9_62 : jFG RX9 62 9 6 := ⟨RX9, TX9, 8, rfl, inT_9, by decide, rfl, tw_62⟩
theorem fp_RX9_62 : jFP RX9 62 9 6 .int := ⟨RX9, TX9, 8, tyX9, rfl, inT_9, by decide, rfl, tw_62, tyX9_ok, nmX9, rfl, by decide +kernel⟩
theorem fg_RX9_24 : jFG RX9 24 9 7 := ⟨RX9, TX9, 8, rfl, inT_9, by decide, rfl, tw_63⟩
theorem fp_RX9_24 : jFP RX9 24 9 7 .int := ⟨RX9, TX9, 8, tyX9, rfl, inT_9, by decide, rfl, tw_63, tyX9_ok, nmX9, rfl, by decide +kernel⟩
theorem fg_RX5_9 : jFG RX5 9 5 0 := ⟨RX5, TX5, 15, rfl, inT_5, by decide, rfl, tw_130⟩
theorem fg_RX5_50 : jFG RX5 50 5 1 := ⟨RX5, TX5, 15, rfl, inT_5, by decide, rfl, tw_131⟩
theorem fp_RX5_50 : jFP RX5 50 5 1 .boolean := ⟨RX5, TX5, 15, tyX5, rfl, inT_5, by decide, rfl, tw_131, tyX5_ok, nmX5, rfl, by decide +kernel⟩
theorem fg_RX9_51 : jFG RX9 51 5 1 := ⟨RX5, TX5, 15, rfl, inT_5, by decide, rfl, tw_132⟩
theorem fp_RX9_51 : jFP RX9 51 5 1 .boolean := ⟨RX5, TX5, 15, tyX5, rfl, inT_5, by decide, rfl, tw_132, tyX5_ok, nmX5, rfl, by decide +kernel⟩
theorem fg_RX11_170 : jFG RX11 170 5 1 := ⟨RX5, TX5, 15, rfl, inT_5, by decide, rfl, tw_133⟩
theorem fp_RX11_170 : jFP RX11 170 5 1 .boolean := ⟨RX5, TX5, 15, tyX5, rfl, inT_5, by decide, rfl, tw_133, tyX5_ok, nmX5, rfl, by decide +kernel⟩
theorem fg_RX2_30 : jFG RX2 30 5 2 := ⟨RX5, TX5, 15, rfl, inT_5, by decide, rfl, tw_134⟩
theorem fp_RX2_30 : jFP RX2 30 5 2 .int := ⟨RX5, TX5, 15, tyX5, rfl, inT_5, by decide, rfl, tw_134, tyX5_ok, nmX5, rfl, by decide +kernel⟩
theorem fg_RX5_54 : jFG RX5 54 5 2 := ⟨RX5, TX5, 15, rfl, inT_5, by decide, rfl, tw_135⟩
theorem fp_RX5_54 : jFP RX5 54 5 2 .int := ⟨RX5, TX5, 15, tyX5, rfl, inT_5, by decide, rfl, tw_135, tyX5_ok, nmX5, rfl, by decide +kernel⟩
theorem fg_RX1_11 : jFG RX1 11 5 2 := ⟨RX5, TX5, 15, rfl, inT_5, by decide, rfl, tw_136⟩
theorem fp_RX1_11 : jFP RX1 11 5 2 .int := ⟨RX5, TX5, 15, tyX5, rfl, inT_5, by decide, rfl, tw_136, tyX5_ok, nmX5, rfl, by decide +kernel⟩
theorem fg_RX9_65 : jFG RX9 65 5 2 := ⟨RX5, TX5, 15, rfl, inT_5, by decide, rfl, tw_137⟩
theorem fp_RX9_65 : jFP RX9 65 5 2 .int := ⟨RX5, TX5, 15, tyX5, rfl, inT_5, by decide, rfl, tw_137, tyX5_ok, nmX5, rfl, by decide +kernel⟩
theorem fg_RX11_244 : jFG RX11 244 5 2 := ⟨RX5, TX5, 15, rfl, inT_5, by decide, rfl, tw_138⟩
theorem fp_RX11_244 : jFP RX11 244 5 2 .int := ⟨RX5, TX5, 15, tyX5, rfl, inT_5, by decide, rfl, tw_138, tyX5_ok, nmX5, rfl, by decide +kernel⟩
theorem fg_RX5_57 : jFG RX5 57 5 3 := ⟨RX5, TX5, 15, rfl, inT_5, by decide, rfl, tw_139⟩
theorem fp_RX5_57 : jFP RX5 57 5 3 .int := ⟨RX5, TX5, 15, tyX5, rfl, inT_5, by decide, rfl, tw_139, tyX5_ok, nmX5, rfl, by decide +kernel⟩
theorem fg_RX9_68 : jFG RX9 68 5 3 := ⟨RX5, TX5, 15, rfl, inT_5, by decide, rfl, tw_140⟩
theorem fp_RX9_68 : jFP RX9 68 5 3 .int := ⟨RX5, TX5, 15, tyX5, rfl, inT_5, by decide, rfl, tw_140, tyX5_ok, nmX5, rfl, by decide +kernel⟩
theorem fg_RX11_343 : jFG RX11 343 5 3 := ⟨RX5, TX5, 15, rfl, inT_5, by decide, rfl, tw_141⟩
theorem fp_RX11_343 : jFP RX11 343 5 3 .int := ⟨RX5, TX5, 15, tyX5, rfl, inT_5, by decide, rfl, tw_141, tyX5_ok, nmX5, rfl, by decide +kernel⟩
theorem fg_RX5_37 : jFG RX5 37 5 4 := ⟨RX5, TX5, 15, rfl, inT_5, by decide, rfl, tw_142⟩
theorem fp_RX5_37 : jFP RX5 37 5 4 .int := ⟨RX5, TX5, 15, tyX5, rfl, inT_5, by decide, rfl, tw_142, tyX5_ok, nmX5, rfl, by decide +kernel⟩
theorem fg_RX11_192 : jFG RX11 192 5 4 := ⟨RX5, TX5, 15, rfl, inT_5, by decide, rfl, tw_143⟩
theorem fp_RX11_192 : jFP RX11 192 5 4 .int := ⟨RX5, TX5, 15, tyX5, rfl, inT_5, by decide, rfl, tw_143, tyX5_ok, nmX5, rfl, by decide +kernel⟩
theorem fg_RX5_41 : jFG RX5 41 5 5 := ⟨RX5, TX5, 15, rfl, inT_5, by decide, rfl, tw_144⟩
theorem fp_RX5_41 : jFP RX5 41 5 5 .int := ⟨RX5, TX5, 15, tyX5, rfl, inT_5, by decide, rfl, tw_144, tyX5_ok, nmX5, rfl, by decide +kernel⟩
theorem fg_RX2_65 : jFG RX2 65 5 5 := ⟨RX5, TX5, 15, rfl, inT_5, by decide, rfl, tw_145⟩
theorem fp_RX2_65 : jFP RX2 65 5 5 .int := ⟨RX5, TX5, 15, tyX5, rfl, inT_5, by decide, rfl, tw_145, tyX5_ok, nmX5, rfl, by decide +kernel⟩
theorem fg_RX9_71 : jFG RX9 71 5 5 := ⟨RX5, TX5, 15, rfl, inT_5, by decide, rfl, tw_146⟩
theorem fp_RX9_71 : jFP RX9 71 5 5 .int := ⟨RX5, TX5, 15, tyX5, rfl, inT_5, by decide, rfl, tw_146, tyX5_ok, nmX5, rfl, by decide +kernel⟩
theorem fg_RX11_153 : jFG RX11 153 5 5 := ⟨RX5, TX5, 15, rfl, inT_5, by decide, rfl, tw_147⟩
theorem fp_RX11_153 : jFP RX11 153 5 5 .int := ⟨RX5, TX5, 15, tyX5, rfl, inT_5, by decide, rfl, tw_147, tyX5_ok, nmX5, rfl, by decide +kernel⟩
theorem fg_RX5_44 : jFG RX5 44 5 6 := ⟨RX5, TX5, 15, rfl, inT_5, by decide, rfl, tw_148⟩
theorem fp_RX5_44 : jFP RX5 44 5 6 .int := ⟨RX5, TX5, 15, tyX5, rfl, inT_5, by decide, rfl, tw_148, tyX5_ok, nmX5, rfl, by decide +kernel⟩
theorem fg_RX9_81 : jFG RX9 81 5 6 := ⟨RX5, TX5, 15, rfl, inT_5, by decide, rfl, tw_149⟩
theorem fp_RX9_81 : jFP RX9 81 5 6 .int := ⟨RX5, TX5, 15, tyX5, rfl, inT_5, by decide, rfl, tw_149, tyX5_ok, nmX5, rfl, by decide +kernel⟩
theorem fg_RX11_273 : jFG RX11 273 5 6 := ⟨RX5, TX5, 15, rfl, inT_5, by decide, rfl, tw_150⟩
theorem fp_RX11_273 : jFP RX11 273 5 6 .int := ⟨RX5, TX5, 15, tyX5, rfl, inT_5, by decide, rfl, tw_150, tyX5_ok, nmX5, rfl, by decide +kernel⟩
theorem fg_RX3_13 : jFG RX3 13 5 7 := ⟨RX5, TX5, 15, rfl, inT_5, by decide, rfl, tw_151⟩
theorem fp_RX3_13 : jFP RX3 13 5 7 .int := ⟨RX5, TX5, 15, tyX5, rfl, inT_5, by decide, rfl, tw_151, tyX5_ok, nmX5, rfl, by decide +kernel⟩
theorem fg_RX5_47 : jFG RX5 47 5 7 := ⟨RX5, TX5, 15, rfl, inT_5, by decide, rfl, tw_152⟩
theorem fp_RX5_47 : jFP RX5 47 5 7 .int := ⟨RX5, TX5, 15, tyX5, rfl, inT_5, by decide, rfl, tw_152, tyX5_ok, nmX5, rfl, by decide +kernel⟩
theorem fg_RX11_207 : jFG RX11 207 5 7 := ⟨RX5, TX5, 15, rfl, inT_5, by decide, rfl, tw_153⟩
theorem fp_RX11_207 : jFP RX11 207 5 7 .int := ⟨RX5, TX5, 15, tyX5, rfl, inT_5, by decide, rfl, tw_153, tyX5_ok, nmX5, rfl, by decide +kernel⟩
theorem fg_RX5_15 : jFG RX5 15 5 8 := ⟨RX5, TX5, 15, rfl, inT_5, by decide, rfl, tw_154⟩
theorem fg_RX2_72 : jFG RX2 72 5 8 := ⟨RX5, TX5, 15, rfl, inT_5, by decide, rfl, tw_155⟩
theorem fg_RX11_232 : jFG RX11 232 5 8 := ⟨RX5, TX5, 15, rfl, inT_5, by decide, rfl, tw_156⟩
theorem fg_RX5_19 : jFG RX5 19 5 9 := ⟨RX5, TX5, 15, rfl, inT_5, by decide, rfl, tw_157⟩
theorem fg_RX2_75 : jFG RX2 75 5 9 := ⟨RX5, TX5, 15, rfl, inT_5, by decide, rfl, tw_158⟩
theorem fg_RX11_235 : jFG RX11 235 5 9 := ⟨RX5, TX5, 15, rfl, inT_5, by decide, rfl, tw_159⟩
theorem fg_RX5_22 : jFG RX5 22 5 10 := ⟨RX5, TX5, 15, rfl, inT_5, by decide, rfl, tw_160⟩
theorem fg_RX2_78 : jFG RX2 78 5 10 := ⟨RX5, TX5, 15, rfl, inT_5, by decide, rfl, tw_161⟩
theorem fg_RX11_238 : jFG RX11 238 5 10 := ⟨RX5, TX5, 15, rfl, inT_5, by decide, rfl, tw_162⟩
theorem fg_RX5_25 : jFG RX5 25 5 11 := ⟨RX5, TX5, 15, rfl, inT_5, by decide, rfl, tw_163⟩
theorem fg_RX11_313 : jFG RX11 313 5 11 := ⟨RX5, TX5, 15, rfl, inT_5, by decide, rfl, tw_164⟩
theorem fg_RX5_28 : jFG RX5 28 5 12 := ⟨RX5, TX5, 15, rfl, inT_5, by decide, rfl, tw_165⟩
theorem fg_RX11_226 : jFG RX11 226 5 12 := ⟨RX5, TX5, 15, rfl, inT_5, by decide, rfl, tw_166⟩
theorem fg_RX5_31 : jFG RX5 31 5 13 := ⟨RX5, TX5, 15, rfl, inT_5, by decide, rfl, tw_167⟩
theorem fg_RX11_220 : jFG RX11 220 5 13 := ⟨RX5, TX5, 15, rfl, inT_5, by decide, rfl, tw_168⟩
theorem fg_RX5_34 : jFG RX5 34 5 14 := ⟨RX5, TX5, 15, rfl, inT_5, by decide, rfl, tw_169⟩
theorem fg_RX11_223 : jFG RX11 223 5 14 := ⟨RX5, TX5, 15, rfl, inT_5, by decide, rfl, tw_170⟩
theorem fg_RX2_48 : jFG RX2 48 2 0 := ⟨RX2, TX2, 8, rfl, inT_2, by decide, rfl, tw_211⟩
theorem fp_RX2_48 : jFP RX2 48 2 0 .int := ⟨RX2, TX2, 8, tyX2, rfl, inT_2, by decide, rfl, tw_211, tyX2_ok, nmX2, rfl, by decide +kernel⟩
theorem fg_RX11_255 : jFG RX11 255 2 0 := ⟨RX2, TX2, 8, rfl, inT_2, by decide, rfl, tw_212⟩
theorem fp_RX11_255 : jFP RX11 255 2 0 .int := ⟨RX2, TX2, 8, tyX2, rfl, inT_2, by decide, rfl, tw_212, tyX2_ok, nmX2, rfl, by decide +kernel⟩
theorem fg_RX4_7 : jFG RX4 7 2 1 := ⟨RX2, TX2, 8, rfl, inT_2, by decide, rfl, tw_213⟩
theorem fp_RX4_7 : jFP RX4 7 2 1 .int := ⟨RX2, TX2, 8, tyX2, rfl, inT_2, by decide, rfl, tw_213, tyX2_ok, nmX2, rfl, by decide +kernel⟩
theorem fg_RX8_7 : jFG RX8 7 2 1 := ⟨RX2, TX2, 8, rfl, inT_2, by decide, rfl, tw_214⟩
theorem fp_RX8_7 : jFP RX8 7 2 1 .int := ⟨RX2, TX2, 8, tyX2, rfl, inT_2, by decide, rfl, tw_214, tyX2_ok, nmX2, rfl, by decide +kernel⟩
theorem fg_RX2_51 : jFG RX2 51 2 1 := ⟨RX2, TX2, 8, rfl, inT_2, by decide, rfl, tw_215⟩
theorem fp_RX2_51 : jFP RX2 51 2 1 .int := ⟨RX2, TX2, 8, tyX2, rfl, inT_2, by decide, rfl, tw_215, tyX2_ok, nmX2, rfl, by decide +kernel⟩
theorem fg_RX1_17 : jFG RX1 17 2 1 := ⟨RX2, TX2, 8, rfl, inT_2, by decide, rfl, tw_216⟩
theorem fp_RX1_17 : jFP RX1 17 2 1 .int := ⟨RX2, TX2, 8, tyX2, rfl, inT_2, by decide, rfl, tw_216, tyX2_ok, nmX2, rfl, by decide +kernel⟩
theorem fg_RX11_258 : jFG RX11 258 2 1 := ⟨RX2, TX2, 8, rfl, inT_2, by decide, rfl, tw_217⟩
theorem fp_RX11_258 : jFP RX11 258 2 1 .int := ⟨RX2, TX2, 8, tyX2, rfl, inT_2, by decide, rfl, tw_217, tyX2_ok, nmX2, rfl, by decide +kernel⟩
theorem fg_RX7_7 : jFG RX7 7 2 2 := ⟨RX2, TX2, 8, rfl, inT_2, by decide, rfl, tw_218⟩
theorem fp_RX7_7 : jFP RX7 7 2 2 .int := ⟨RX2, TX2, 8, tyX2, rfl, inT_2, by decide, rfl, tw_218, tyX2_ok, nmX2, rfl, by decide +kernel⟩
theorem fg_RX2_54 : jFG RX2 54 2 2 := ⟨RX2, TX2, 8, rfl, inT_2, by decide, rfl, tw_219⟩
theorem fp_RX2_54 : jFP RX2 54 2 2 .int := ⟨RX2, TX2, 8, tyX2, rfl, inT_2, by decide, rfl, tw_219, tyX2_ok, nmX2, rfl, by decide +kernel⟩
theorem fg_RX2_9 : jFG RX2 9 2 3 := ⟨RX2, TX2, 8, rfl, inT_2, by decide, rfl, tw_220⟩
theorem fg_RX2_15 : jFG RX2 15 2 4 := ⟨RX2, TX2, 8, rfl, inT_2, by decide, rfl, tw_221⟩
theorem fg_RX2_18 : jFG RX2 18 2 5 := ⟨RX2, TX2, 8, rfl, inT_2, by decide, rfl, tw_222⟩
theorem fg_RX2_22 : jFG RX2 22 2 6 := ⟨RX2, TX2, 8, rfl, inT_2, by decide, rfl, tw_223⟩
theorem fg_RX11_298 : jFG RX11 298 2 6 := ⟨RX2, TX2, 8, rfl, inT_2, by decide, rfl, tw_224⟩
theorem fg_RX2_25 : jFG RX2 25 2 7 := ⟨RX2, TX2, 8, rfl, inT_2, by decide, rfl, tw_225⟩
theorem fg_RX10_17 : jFG RX10 17 0 0 := ⟨RX0, TX0, 5, rfl, inT_0, by decide, rfl, tw_250⟩
theorem fp_RX10_17 : jFP RX10 17 0 0 .int := ⟨RX0, TX0, 5, tyX0, rfl, inT_0, by decide, rfl, tw_250, tyX0_ok, nmX0, rfl, by decide +kernel⟩
theorem fg_RX11_320 : jFG RX11 320 0 0 := ⟨RX0, TX0, 5, rfl, inT_0, by decide, rfl, tw_251⟩
theorem fp_RX11_320 : jFP RX11 320 0 0 .int := ⟨RX0, TX0, 5, tyX0, rfl, inT_0, by decide, rfl, tw_251, tyX0_ok, nmX0, rfl, by decide +kernel⟩
theorem fg_RX4_35 : jFG RX4 35 0 1 := ⟨RX0, TX0, 5, rfl, inT_0, by decide, rfl, tw_252⟩
theorem fp_RX4_35 : jFP RX4 35 0 1 .int := ⟨RX0, TX0, 5, tyX0, rfl, inT_0, by decide, rfl, tw_252, tyX0_ok, nmX0, rfl, by decide +kernel⟩
theorem fg_RX11_323 : jFG RX11 323 0 1 := ⟨RX0, TX0, 5, rfl, inT_0, by decide, rfl, tw_253⟩
theorem fp_RX11_323 : jFP RX11 323 0 1 .int := ⟨RX0, TX0, 5, tyX0, rfl, inT_0, by decide, rfl, tw_253, tyX0_ok, nmX0, rfl, by decide +kernel⟩
theorem fg_RX10_13 : jFG RX10 13 0 2 := ⟨RX0, TX0, 5, rfl, inT_0, by decide, rfl, tw_254⟩
theorem fp_RX10_13 : jFP RX10 13 0 2 .int := ⟨RX0, TX0, 5, tyX0, rfl, inT_0, by decide, rfl, tw_254, tyX0_ok, nmX0, rfl, by decide +kernel⟩
theorem fg_RX11_326 : jFG RX11 326 0 2 := ⟨RX0, TX0, 5, rfl, inT_0, by decide, rfl, tw_255⟩
theorem fp_RX11_326 : jFP RX11 326 0 2 .int := ⟨RX0, TX0, 5, tyX0, rfl, inT_0, by decide, rfl, tw_255, tyX0_ok, nmX0, rfl, by decide +kernel⟩
theorem fg_RX0_15 : jFG RX0 15 0 3 := ⟨RX0, TX0, 5, rfl, inT_0, by decide, rfl, tw_256⟩
theorem fp_RX0_15 : jFP RX0 15 0 3 .int := ⟨RX0, TX0, 5, tyX0, rfl, inT_0, by decide, rfl, tw_256, tyX0_ok, nmX0, rfl, by decide +kernel⟩
theorem fg_RX11_328 : jFG RX11 328 0 3 := ⟨RX0, TX0, 5, rfl, inT_0, by decide, rfl, tw_257⟩
theorem fp_RX11_328 : jFP RX11 328 0 3 .int := ⟨RX0, TX0, 5, tyX0, rfl, inT_0, by decide, rfl, tw_257, tyX0_ok, nmX0, rfl, by decide +kernel⟩
theorem fg_RX0_9 : jFG RX0 9 0 4 := ⟨RX0, TX0, 5, rfl, inT_0, by decide, rfl, tw_258⟩
theorem fg_RX11_337 : jFG RX11 337 0 4 := ⟨RX0, TX0, 5, rfl, inT_0, by decide, rfl, tw_259⟩
theorem fg_RX11_10 : jFG RX11 10 11 0 := ⟨RX11, TX11, 13, rfl, inT_11, by decide, rfl, tw_271⟩
theorem fg_RX11_19 : jFG RX11 19 11 1 := ⟨RX11, TX11, 13, rfl, inT_11, by decide, rfl, tw_272⟩
theorem fg_RX11_25 : jFG RX11 25 11 2 := ⟨RX11, TX11, 13, rfl, inT_11, by decide, rfl, tw_273⟩
theorem fg_RX11_50 : jFG RX11 50 11 3 := ⟨RX11, TX11, 13, rfl, inT_11, by decide, rfl, tw_274⟩
theorem fg_RX11_54 : jFG RX11 54 11 4 := ⟨RX11, TX11, 13, rfl, inT_11, by decide, rfl, tw_275⟩
theorem fg_RX11_57 : jFG RX11 57 11 5 := ⟨RX11, TX11, 13, rfl, inT_11, by decide, rfl, tw_276⟩
theorem fg_RX11_63 : jFG RX11 63 11 6 := ⟨RX11, TX11, 13, rfl, inT_11, by decide, rfl, tw_277⟩
theorem fg_RX11_159 : jFG RX11 159 11 7 := ⟨RX11, TX11, 13, rfl, inT_11, by decide, rfl, tw_278⟩
theorem fp_RX11_159 : jFP RX11 159 11 7 .int := ⟨RX11, TX11, 13, tyX11, rfl, inT_11, by decide, rfl, tw_278, tyX11_ok, nmX11, rfl, by decide +kernel⟩
theorem fg_RX11_163 : jFG RX11 163 11 8 := ⟨RX11, TX11, 13, rfl, inT_11, by decide, rfl, tw_279⟩
theorem fp_RX11_163 : jFP RX11 163 11 8 .int := ⟨RX11, TX11, 13, tyX11, rfl, inT_11, by decide, rfl, tw_279, tyX11_ok, nmX11, rfl, by decide +kernel⟩
theorem fg_RX11_69 : jFG RX11 69 11 9 := ⟨RX11, TX11, 13, rfl, inT_11, by decide, rfl, tw_280⟩
theorem fg_RX11_76 : jFG RX11 76 11 10 := ⟨RX11, TX11, 13, rfl, inT_11, by decide, rfl, tw_281⟩
theorem fg_RX11_80 : jFG RX11 80 11 11 := ⟨RX11, TX11, 13, rfl, inT_11, by decide, rfl, tw_282⟩
theorem fg_RX11_346 : jFG RX11 346 11 12 := ⟨RX11, TX11, 13, rfl, inT_11, by decide, rfl, tw_283⟩
theorem fp_RX11_346 : jFP RX11 346 11 12 .int := ⟨RX11, TX11, 13, tyX11, rfl, inT_11, by decide, rfl, tw_283, tyX11_ok, nmX11, rfl, by decide +kernel⟩
theorem fg_RX12_47 : jFG RX12 47 12 0 := ⟨RX12, TX12, 27, rfl, inT_12, by decide, rfl, tw_853⟩
theorem fp_RX12_47 : jFP RX12 47 12 0 .int := ⟨RX12, TX12, 27, tyX12, rfl, inT_12, by decide, rfl, tw_853, tyX12_ok, nmX12, rfl, by decide +kernel⟩
theorem fg_RX12_51 : jFG RX12 51 12 1 := ⟨RX12, TX12, 27, rfl, inT_12, by decide, rfl, tw_854⟩
theorem fp_RX12_51 : jFP RX12 51 12 1 .int := ⟨RX12, TX12, 27, tyX12, rfl, inT_12, by decide, rfl, tw_854, tyX12_ok, nmX12, rfl, by decide +kernel⟩
theorem fg_RX12_7 : jFG RX12 7 12 2 := ⟨RX12, TX12, 27, rfl, inT_12, by decide, rfl, tw_855⟩
theorem fg_RX12_13 : jFG RX12 13 12 3 := ⟨RX12, TX12, 27, rfl, inT_12, by decide, rfl, tw_856⟩
theorem fg_RX12_16 : jFG RX12 16 12 4 := ⟨RX12, TX12, 27, rfl, inT_12, by decide, rfl, tw_857⟩
theorem fg_RX12_19 : jFG RX12 19 12 5 := ⟨RX12, TX12, 27, rfl, inT_12, by decide, rfl, tw_858⟩
theorem fg_RX12_22 : jFG RX12 22 12 6 := ⟨RX12, TX12, 27, rfl, inT_12, by decide, rfl, tw_859⟩
theorem fg_RX12_25 : jFG RX12 25 12 7 := ⟨RX12, TX12, 27, rfl, inT_12, by decide, rfl, tw_860⟩
theorem fg_RX12_28 : jFG RX12 28 12 8 := ⟨RX12, TX12, 27, rfl, inT_12, by decide, rfl, tw_861⟩
theorem fg_RX12_150 : jFG RX12 150 12 9 := ⟨RX12, TX12, 27, rfl, inT_12, by decide, rfl, tw_862⟩
theorem fp_RX12_150 : jFP RX12 150 12 9 .int := ⟨RX12, TX12, 27, tyX12, rfl, inT_12, by decide, rfl, tw_862, tyX12_ok, nmX12, rfl, by decide +kernel⟩
theorem fg_RX12_31 : jFG RX12 31 12 10 := ⟨RX12, TX12, 27, rfl, inT_12, by decide, rfl, tw_863⟩
theorem fg_RX12_74 : jFG RX12 74 12 11 := ⟨RX12, TX12, 27, rfl, inT_12, by decide, rfl, tw_864⟩
theorem fp_RX12_74 : jFP RX12 74 12 11 .int := ⟨RX12, TX12, 27, tyX12, rfl, inT_12, by decide, rfl, tw_864, tyX12_ok, nmX12, rfl, by decide +kernel⟩
theorem fg_RX12_87 : jFG RX12 87 12 12 := ⟨RX12, TX12, 27, rfl, inT_12, by decide, rfl, tw_865⟩
theorem fp_RX12_87 : jFP RX12 87 12 12 .int := ⟨RX12, TX12, 27, tyX12, rfl, inT_12, by decide, rfl, tw_865, tyX12_ok, nmX12, rfl, by decide +kernel⟩
theorem fg_RX12_81 : jFG RX12 81 12 13 := ⟨RX12, TX12, 27, rfl, inT_12, by decide, rfl, tw_866⟩
theorem fp_RX12_81 : jFP RX12 81 12 13 .int := ⟨RX12, TX12, 27, tyX12, rfl, inT_12, by decide, rfl, tw_866, tyX12_ok, nmX12, rfl, by decide +kernel⟩
theorem fg_RX12_102 : jFG RX12 102 12 14 := ⟨RX12, TX12, 27, rfl, inT_12, by decide, rfl, tw_867⟩
theorem fp_RX12_102 : jFP RX12 102 12 14 .int := ⟨RX12, TX12, 27, tyX12, rfl, inT_12, by decide, rfl, tw_867, tyX12_ok, nmX12, rfl, by decide +kernel⟩
theorem fg_RX12_91 : jFG RX12 91 12 15 := ⟨RX12, TX12, 27, rfl, inT_12, by decide, rfl, tw_868⟩
theorem fp_RX12_91 : jFP RX12 91 12 15 .int := ⟨RX12, TX12, 27, tyX12, rfl, inT_12, by decide, rfl, tw_868, tyX12_ok, nmX12, rfl, by decide +kernel⟩
theorem fg_RX12_78 : jFG RX12 78 12 16 := ⟨RX12, TX12, 27, rfl, inT_12, by decide, rfl, tw_869⟩
theorem fp_RX12_78 : jFP RX12 78 12 16 .int := ⟨RX12, TX12, 27, tyX12, rfl, inT_12, by decide, rfl, tw_869, tyX12_ok, nmX12, rfl, by decide +kernel⟩
theorem fg_RX12_84 : jFG RX12 84 12 17 := ⟨RX12, TX12, 27, rfl, inT_12, by decide, rfl, tw_870⟩
theorem fp_RX12_84 : jFP RX12 84 12 17 .int := ⟨RX12, TX12, 27, tyX12, rfl, inT_12, by decide, rfl, tw_870, tyX12_ok, nmX12, rfl, by decide +kernel⟩
theorem fg_RX12_116 : jFG RX12 116 12 18 := ⟨RX12, TX12, 27, rfl, inT_12, by decide, rfl, tw_871⟩
theorem fp_RX12_116 : jFP RX12 116 12 18 .int := ⟨RX12, TX12, 27, tyX12, rfl, inT_12, by decide, rfl, tw_871, tyX12_ok, nmX12, rfl, by decide +kernel⟩
theorem fg_RX12_34 : jFG RX12 34 12 19 := ⟨RX12, TX12, 27, rfl, inT_12, by decide, rfl, tw_872⟩
theorem fg_RX12_164 : jFG RX12 164 12 20 := ⟨RX12, TX12, 27, rfl, inT_12, by decide, rfl, tw_873⟩
theorem fp_RX12_164 : jFP RX12 164 12 20 .int := ⟨RX12, TX12, 27, tyX12, rfl, inT_12, by decide, rfl, tw_873, tyX12_ok, nmX12, rfl, by decide +kernel⟩
theorem fg_RX12_167 : jFG RX12 167 12 21 := ⟨RX12, TX12, 27, rfl, inT_12, by decide, rfl, tw_874⟩
theorem fp_RX12_167 : jFP RX12 167 12 21 .int := ⟨RX12, TX12, 27, tyX12, rfl, inT_12, by decide, rfl, tw_874, tyX12_ok, nmX12, rfl, by decide +kernel⟩
theorem fg_RX12_170 : jFG RX12 170 12 22 := ⟨RX12, TX12, 27, rfl, inT_12, by decide, rfl, tw_875⟩
theorem fp_RX12_170 : jFP RX12 170 12 22 .int := ⟨RX12, TX12, 27, tyX12, rfl, inT_12, by decide, rfl, tw_875, tyX12_ok, nmX12, rfl, by decide +kernel⟩
theorem fg_RX12_37 : jFG RX12 37 12 23 := ⟨RX12, TX12, 27, rfl, inT_12, by decide, rfl, tw_876⟩
theorem fg_RX12_41 : jFG RX12 41 12 24 := ⟨RX12, TX12, 27, rfl, inT_12, by decide, rfl, tw_877⟩
theorem fg_RX12_44 : jFG RX12 44 12 25 := ⟨RX12, TX12, 27, rfl, inT_12, by decide, rfl, tw_878⟩
theorem fg_RX12_277 : jFG RX12 277 12 26 := ⟨RX12, TX12, 27, rfl, inT_12, by decide, rfl, tw_879⟩
theorem fp_RX12_277 : jFP RX12 277 12 26 .int := ⟨RX12, TX12, 27, tyX12, rfl, inT_12, by decide, rfl, tw_879, tyX12_ok, nmX12, rfl, by decide +kernel⟩
