/-! THE STRING OF WORDS, BY THE JDK'S OWN METHODS -/
def cwy : List (Nat × Cond) := [(149, .fieldLink RJ0 38 "java/lang/String" "COMPACT_STRINGS" "Z"), (1995, .fieldLink RJ0 15 "java/lang/String" "coder" "B"), (1994, .fieldLink RJ0 9 "java/lang/String" "value" "[B"), (148, .code yJ0_coder_7d493 cJ0_coder_7d493 1 (some .byte)), (103, .initialized "java/lang/String"), (145, .methodLink RJ0 335 yJ0_coder_7d493), (146, .instanceMethod yJ0_coder_7d493), (147, .selects RJ0 yJ0_coder_7d493 yJ0_coder_7d493), (169, .code yJ3_checkIndex_8e157 cJ3_checkIndex_8e157 3 (some .int)), (105, .initialized "jdk/internal/util/Preconditions"), (167, .methodLink RJ0 1059 yJ3_checkIndex_8e157), (165, .fieldLink RJ0 1053 "jdk/internal/util/Preconditions" "SIOOBE_FORMATTER" "Ljava/util/function/BiFunction;"), (168, .static yJ3_checkIndex_8e157), (164, .code yJ0_checkIndex_df160 cJ0_checkIndex_df160 2 none), (162, .methodLink RJ1 9 yJ0_checkIndex_df160), (163, .static yJ0_checkIndex_df160), (158, .code yJ0_isLatin1_aae02 cJ0_isLatin1_aae02 1 (some .boolean)), (155, .methodLink RJ0 492 yJ0_isLatin1_aae02), (156, .instanceMethod yJ0_isLatin1_aae02), (157, .selects RJ0 yJ0_isLatin1_aae02 yJ0_isLatin1_aae02), (161, .code yJ1_charAt_3b067 cJ1_charAt_3b067 2 (some .char)), (104, .initialized "java/lang/StringLatin1"), (159, .methodLink RJ0 495 yJ1_charAt_3b067), (160, .static yJ1_charAt_3b067), (139, .methodLink RX9 3 objectInit), (192, .fieldLink RX9 9 "BargeRaft$Tape" "bytes" "[I"), (196, .fieldLink RX9 15 "BargeRaft$Tape" "wordCodes" "[I"), (144, .code yJ0_length_8abf5 cJ0_length_8abf5 1 (some .int)), (141, .methodLink RX9 20 yJ0_length_8abf5), (142, .instanceMethod yJ0_length_8abf5), (143, .selects RJ0 yJ0_length_8abf5 yJ0_length_8abf5), (154, .code yJ0_charAt_5068e cJ0_charAt_5068e 2 (some .char)), (151, .methodLink RX9 26 yJ0_charAt_5068e), (152, .instanceMethod yJ0_charAt_5068e), (153, .selects RJ0 yJ0_charAt_5068e yJ0_charAt_5068e), (189, .methodLink RX9 30 yX9_withLetter), (131, .methodLink RX11 1 objectInit), (134, .classLink RX11 7 RX9), (135, .instantiable RX9 11), (102, .initialized "BargeRaft$Tape"), (138, .code yX9_init cX9_init 4 none), (136, .methodLink RX11 9 yX9_init), (137, .instanceMethod yX9_init), (683, .fieldLink RX11 10 "BargeRaft" "tape" "LBargeRaft$Tape;"), (235, .classLink RX11 16 RX7), (236, .instantiable RX7 6), (107, .initialized "BargeRaft$State"), (239, .code yX7_init cX7_init 1 none), (237, .methodLink RX11 18 yX7_init), (238, .instanceMethod yX7_init), (684, .fieldLink RX11 19 "BargeRaft" "now" "LBargeRaft$State;"), (685, .fieldLink RX11 23 "BargeRaft" "kept" "[LBargeRaft$State;"), (348, .classLink RX11 27 RX0), (349, .instantiable RX0 7), (110, .initialized "BargeRaft$Grid"), (352, .code yX0_init cX0_init 1 none), (351, .instanceMethod yX0_init), (686, .fieldLink RX11 30 "BargeRaft" "grid" "LBargeRaft$Grid;"), (323, .fieldLink RX11 34 "BargeRaft$State" "river" "LBargeRaft$River;"), (264, .fieldLink RX11 38 "BargeRaft$River" "broad" "I"), (267, .fieldLink RX11 44 "BargeRaft$River" "rows" "I"), (384, .methodLink RX11 47 yX0_shape), (395, .classLink RX11 51 RX10), (396, .instantiable RX10 7), (112, .initialized "BargeRaft$Texts"), (399, .code yX10_init cX10_init 2 none), (397, .methodLink RX11 53 yX10_init), (398, .instanceMethod yX10_init), (687, .fieldLink RX11 56 "BargeRaft" "texts" "LBargeRaft$Texts;"), (429, .classLink RX11 60 RX4), (430, .instantiable RX4 10), (113, .initialized "BargeRaft$Rules"), (433, .code yX4_init cX4_init 3 none), (431, .methodLink RX11 62 yX4_init), (432, .instanceMethod yX4_init), (688, .fieldLink RX11 65 "BargeRaft" "rules" "LBargeRaft$Rules;"), (468, .classLink RX11 69 RX8), (470, .methodLink RX11 71 yX8_init), (689, .fieldLink RX11 74 "BargeRaft" "told" "LBargeRaft$Taking;"), (505, .classLink RX11 78 RX1), (506, .instantiable RX1 18), (115, .initialized "BargeRaft$Judge"), (509, .code yX1_init cX1_init 4 none), (507, .methodLink RX11 80 yX1_init), (508, .instanceMethod yX1_init), (690, .fieldLink RX11 83 "BargeRaft" "judgement" "LBargeRaft$Judge;"), (570, .classLink RX11 87 RX6), (571, .instantiable RX6 7), (116, .initialized "BargeRaft$Seating"), (574, .code yX6_init cX6_init 4 none), (572, .methodLink RX11 89 yX6_init), (573, .instanceMethod yX6_init), (691, .fieldLink RX11 92 "BargeRaft" "seating" "LBargeRaft$Seating;"), (600, .classLink RX11 96 RX5), (601, .instantiable RX5 17), (117, .initialized "BargeRaft$Search"), (604, .code yX5_init cX5_init 4 none), (602, .methodLink RX11 98 yX5_init), (603, .instanceMethod yX5_init), (692, .fieldLink RX11 99 "BargeRaft" "search" "LBargeRaft$Search;"), (693, .fieldLink RX11 103 "BargeRaft" "passedKnots" "I"), (694, .fieldLink RX11 106 "BargeRaft" "hiredMinutes" "I")]
theorem cwy_ok : cwy.all (fun q => atb q.1 q.2) = true := by decide +kernel
theorem cwy_at {k i : Nat} {w : Cond} (h : cwy[k]? = some (i, w)) : w ∈ gtb := atb_mem (i := i) (List.all_eq_true.mp cwy_ok _ (List.mem_of_getElem? h))
theorem cwm_140 : (.fieldLink RJ0 38 "java/lang/String" "COMPACT_STRINGS" "Z" : Cond) ∈ gtb := cwy_at (k := 0) rfl
theorem cwm_141 : (.fieldLink RJ0 15 "java/lang/String" "coder" "B" : Cond) ∈ gtb := cwy_at (k := 1) rfl
theorem cwm_142 : (.fieldLink RJ0 9 "java/lang/String" "value" "[B" : Cond) ∈ gtb := cwy_at (k := 2) rfl
theorem cwm_143 : (.code yJ0_coder_7d493 cJ0_coder_7d493 1 (some .byte) : Cond) ∈ gtb := cwy_at (k := 3) rfl
theorem cwm_144 : (.initialized "java/lang/String" : Cond) ∈ gtb := cwy_at (k := 4) rfl
theorem cwm_145 : (.methodLink RJ0 335 yJ0_coder_7d493 : Cond) ∈ gtb := cwy_at (k := 5) rfl
theorem cwm_146 : (.instanceMethod yJ0_coder_7d493 : Cond) ∈ gtb := cwy_at (k := 6) rfl
theorem cwm_147 : (.selects RJ0 yJ0_coder_7d493 yJ0_coder_7d493 : Cond) ∈ gtb := cwy_at (k := 7) rfl
theorem cwm_148 : (.code yJ3_checkIndex_8e157 cJ3_checkIndex_8e157 3 (some .int) : Cond) ∈ gtb := cwy_at (k := 8) rfl
theorem cwm_149 : (.initialized "jdk/internal/util/Preconditions" : Cond) ∈ gtb := cwy_at (k := 9) rfl
theorem cwm_150 : (.methodLink RJ0 1059 yJ3_checkIndex_8e157 : Cond) ∈ gtb := cwy_at (k := 10) rfl
theorem cwm_151 : (.fieldLink RJ0 1053 "jdk/internal/util/Preconditions" "SIOOBE_FORMATTER" "Ljava/util/function/BiFunction;" : Cond) ∈ gtb := cwy_at (k := 11) rfl
theorem cwm_152 : (.static yJ3_checkIndex_8e157 : Cond) ∈ gtb := cwy_at (k := 12) rfl
theorem cwm_153 : (.code yJ0_checkIndex_df160 cJ0_checkIndex_df160 2 none : Cond) ∈ gtb := cwy_at (k := 13) rfl
theorem cwm_154 : (.methodLink RJ1 9 yJ0_checkIndex_df160 : Cond) ∈ gtb := cwy_at (k := 14) rfl
theorem cwm_155 : (.static yJ0_checkIndex_df160 : Cond) ∈ gtb := cwy_at (k := 15) rfl
theorem cwm_156 : (.code yJ0_isLatin1_aae02 cJ0_isLatin1_aae02 1 (some .boolean) : Cond) ∈ gtb := cwy_at (k := 16) rfl
theorem cwm_157 : (.methodLink RJ0 492 yJ0_isLatin1_aae02 : Cond) ∈ gtb := cwy_at (k := 17) rfl
theorem cwm_158 : (.instanceMethod yJ0_isLatin1_aae02 : Cond) ∈ gtb := cwy_at (k := 18) rfl
theorem cwm_159 : (.selects RJ0 yJ0_isLatin1_aae02 yJ0_isLatin1_aae02 : Cond) ∈ gtb := cwy_at (k := 19) rfl
theorem cwm_160 : (.code yJ1_charAt_3b067 cJ1_charAt_3b067 2 (some .char) : Cond) ∈ gtb := cwy_at (k := 20) rfl
theorem cwm_161 : (.initialized "java/lang/StringLatin1" : Cond) ∈ gtb := cwy_at (k := 21) rfl
theorem cwm_162 : (.methodLink RJ0 495 yJ1_charAt_3b067 : Cond) ∈ gtb := cwy_at (k := 22) rfl
theorem cwm_163 : (.static yJ1_charAt_3b067 : Cond) ∈ gtb := cwy_at (k := 23) rfl
theorem cwm_164 : (.methodLink RX9 3 objectInit : Cond) ∈ gtb := cwy_at (k := 24) rfl
theorem cwm_165 : (.fieldLink RX9 9 "BargeRaft$Tape" "bytes" "[I" : Cond) ∈ gtb := cwy_at (k := 25) rfl
theorem cwm_166 : (.fieldLink RX9 15 "BargeRaft$Tape" "wordCodes" "[I" : Cond) ∈ gtb := cwy_at (k := 26) rfl
theorem cwm_167 : (.code yJ0_length_8abf5 cJ0_length_8abf5 1 (some .int) : Cond) ∈ gtb := cwy_at (k := 27) rfl
theorem cwm_168 : (.methodLink RX9 20 yJ0_length_8abf5 : Cond) ∈ gtb := cwy_at (k := 28) rfl
theorem cwm_169 : (.instanceMethod yJ0_length_8abf5 : Cond) ∈ gtb := cwy_at (k := 29) rfl
theorem cwm_170 : (.selects RJ0 yJ0_length_8abf5 yJ0_length_8abf5 : Cond) ∈ gtb := cwy_at (k := 30) rfl
theorem cwm_171 : (.code yJ0_charAt_5068e cJ0_charAt_5068e 2 (some .char) : Cond) ∈ gtb := cwy_at (k := 31) rfl
theorem cwm_172 : (.methodLink RX9 26 yJ0_charAt_5068e : Cond) ∈ gtb := cwy_at (k := 32) rfl
theorem cwm_173 : (.instanceMethod yJ0_charAt_5068e : Cond) ∈ gtb := cwy_at (k := 33) rfl
theorem cwm_174 : (.selects RJ0 yJ0_charAt_5068e yJ0_charAt_5068e : Cond) ∈ gtb := cwy_at (k := 34) rfl
theorem cwm_175 : (.methodLink RX9 30 yX9_withLetter : Cond) ∈ gtb := cwy_at (k := 35) rfl
theorem cwm_176 : (.methodLink RX11 1 objectInit : Cond) ∈ gtb := cwy_at (k := 36) rfl
theorem cwm_177 : (.classLink RX11 7 RX9 : Cond) ∈ gtb := cwy_at (k := 37) rfl
theorem cwm_178 : (.instantiable RX9 11 : Cond) ∈ gtb := cwy_at (k := 38) rfl
theorem cwm_179 : (.initialized "BargeRaft$Tape" : Cond) ∈ gtb := cwy_at (k := 39) rfl
theorem cwm_180 : (.code yX9_init cX9_init 4 none : Cond) ∈ gtb := cwy_at (k := 40) rfl
theorem cwm_181 : (.methodLink RX11 9 yX9_init : Cond) ∈ gtb := cwy_at (k := 41) rfl
theorem cwm_182 : (.instanceMethod yX9_init : Cond) ∈ gtb := cwy_at (k := 42) rfl
theorem cwm_183 : (.fieldLink RX11 10 "BargeRaft" "tape" "LBargeRaft$Tape;" : Cond) ∈ gtb := cwy_at (k := 43) rfl
theorem cwm_184 : (.classLink RX11 16 RX7 : Cond) ∈ gtb := cwy_at (k := 44) rfl
theorem cwm_185 : (.instantiable RX7 6 : Cond) ∈ gtb := cwy_at (k := 45) rfl
theorem cwm_186 : (.initialized "BargeRaft$State" : Cond) ∈ gtb := cwy_at (k := 46) rfl
theorem cwm_187 : (.code yX7_init cX7_init 1 none : Cond) ∈ gtb := cwy_at (k := 47) rfl
theorem cwm_188 : (.methodLink RX11 18 yX7_init : Cond) ∈ gtb := cwy_at (k := 48) rfl
theorem cwm_189 : (.instanceMethod yX7_init : Cond) ∈ gtb := cwy_at (k := 49) rfl
theorem cwm_190 : (.fieldLink RX11 19 "BargeRaft" "now" "LBargeRaft$State;" : Cond) ∈ gtb := cwy_at (k := 50) rfl
theorem cwm_191 : (.fieldLink RX11 23 "BargeRaft" "kept" "[LBargeRaft$State;" : Cond) ∈ gtb := cwy_at (k := 51) rfl
theorem cwm_192 : (.classLink RX11 27 RX0 : Cond) ∈ gtb := cwy_at (k := 52) rfl
theorem cwm_193 : (.instantiable RX0 7 : Cond) ∈ gtb := cwy_at (k := 53) rfl
theorem cwm_194 : (.initialized "BargeRaft$Grid" : Cond) ∈ gtb := cwy_at (k := 54) rfl
theorem cwm_195 : (.code yX0_init cX0_init 1 none : Cond) ∈ gtb := cwy_at (k := 55) rfl
theorem cwm_196 : (.instanceMethod yX0_init : Cond) ∈ gtb := cwy_at (k := 56) rfl
theorem cwm_197 : (.fieldLink RX11 30 "BargeRaft" "grid" "LBargeRaft$Grid;" : Cond) ∈ gtb := cwy_at (k := 57) rfl
theorem cwm_198 : (.fieldLink RX11 34 "BargeRaft$State" "river" "LBargeRaft$River;" : Cond) ∈ gtb := cwy_at (k := 58) rfl
theorem cwm_199 : (.fieldLink RX11 38 "BargeRaft$River" "broad" "I" : Cond) ∈ gtb := cwy_at (k := 59) rfl
theorem cwm_200 : (.fieldLink RX11 44 "BargeRaft$River" "rows" "I" : Cond) ∈ gtb := cwy_at (k := 60) rfl
theorem cwm_201 : (.methodLink RX11 47 yX0_shape : Cond) ∈ gtb := cwy_at (k := 61) rfl
theorem cwm_202 : (.classLink RX11 51 RX10 : Cond) ∈ gtb := cwy_at (k := 62) rfl
theorem cwm_203 : (.instantiable RX10 7 : Cond) ∈ gtb := cwy_at (k := 63) rfl
theorem cwm_204 : (.initialized "BargeRaft$Texts" : Cond) ∈ gtb := cwy_at (k := 64) rfl
theorem cwm_205 : (.code yX10_init cX10_init 2 none : Cond) ∈ gtb := cwy_at (k := 65) rfl
theorem cwm_206 : (.methodLink RX11 53 yX10_init : Cond) ∈ gtb := cwy_at (k := 66) rfl
theorem cwm_207 : (.instanceMethod yX10_init : Cond) ∈ gtb := cwy_at (k := 67) rfl
theorem cwm_208 : (.fieldLink RX11 56 "BargeRaft" "texts" "LBargeRaft$Texts;" : Cond) ∈ gtb := cwy_at (k := 68) rfl
theorem cwm_209 : (.classLink RX11 60 RX4 : Cond) ∈ gtb := cwy_at (k := 69) rfl
theorem cwm_210 : (.instantiable RX4 10 : Cond) ∈ gtb := cwy_at (k := 70) rfl
theorem cwm_211 : (.initialized "BargeRaft$Rules" : Cond) ∈ gtb := cwy_at (k := 71) rfl
theorem cwm_212 : (.code yX4_init cX4_init 3 none : Cond) ∈ gtb := cwy_at (k := 72) rfl
theorem cwm_213 : (.methodLink RX11 62 yX4_init : Cond) ∈ gtb := cwy_at (k := 73) rfl
theorem cwm_214 : (.instanceMethod yX4_init : Cond) ∈ gtb := cwy_at (k := 74) rfl
theorem cwm_215 : (.fieldLink RX11 65 "BargeRaft" "rules" "LBargeRaft$Rules;" : Cond) ∈ gtb := cwy_at (k := 75) rfl
theorem cwm_216 : (.classLink RX11 69 RX8 : Cond) ∈ gtb := cwy_at (k := 76) rfl
theorem cwm_217 : (.methodLink RX11 71 yX8_init : Cond) ∈ gtb := cwy_at (k := 77) rfl
theorem cwm_218 : (.fieldLink RX11 74 "BargeRaft" "told" "LBargeRaft$Taking;" : Cond) ∈ gtb := cwy_at (k := 78) rfl
theorem cwm_219 : (.classLink RX11 78 RX1 : Cond) ∈ gtb := cwy_at (k := 79) rfl
theorem cwm_220 : (.instantiable RX1 18 : Cond) ∈ gtb := cwy_at (k := 80) rfl
theorem cwm_221 : (.initialized "BargeRaft$Judge" : Cond) ∈ gtb := cwy_at (k := 81) rfl
theorem cwm_222 : (.code yX1_init cX1_init 4 none : Cond) ∈ gtb := cwy_at (k := 82) rfl
theorem cwm_223 : (.methodLink RX11 80 yX1_init : Cond) ∈ gtb := cwy_at (k := 83) rfl
theorem cwm_224 : (.instanceMethod yX1_init : Cond) ∈ gtb := cwy_at (k := 84) rfl
theorem cwm_225 : (.fieldLink RX11 83 "BargeRaft" "judgement" "LBargeRaft$Judge;" : Cond) ∈ gtb := cwy_at (k := 85) rfl
theorem cwm_226 : (.classLink RX11 87 RX6 : Cond) ∈ gtb := cwy_at (k := 86) rfl
theorem cwm_227 : (.instantiable RX6 7 : Cond) ∈ gtb := cwy_at (k := 87) rfl
theorem cwm_228 : (.initialized "BargeRaft$Seating" : Cond) ∈ gtb := cwy_at (k := 88) rfl
theorem cwm_229 : (.code yX6_init cX6_init 4 none : Cond) ∈ gtb := cwy_at (k := 89) rfl
theorem cwm_230 : (.methodLink RX11 89 yX6_init : Cond) ∈ gtb := cwy_at (k := 90) rfl
theorem cwm_231 : (.instanceMethod yX6_init : Cond) ∈ gtb := cwy_at (k := 91) rfl
theorem cwm_232 : (.fieldLink RX11 92 "BargeRaft" "seating" "LBargeRaft$Seating;" : Cond) ∈ gtb := cwy_at (k := 92) rfl
theorem cwm_233 : (.classLink RX11 96 RX5 : Cond) ∈ gtb := cwy_at (k := 93) rfl
theorem cwm_234 : (.instantiable RX5 17 : Cond) ∈ gtb := cwy_at (k := 94) rfl
theorem cwm_235 : (.initialized "BargeRaft$Search" : Cond) ∈ gtb := cwy_at (k := 95) rfl
theorem cwm_236 : (.code yX5_init cX5_init 4 none : Cond) ∈ gtb := cwy_at (k := 96) rfl
theorem cwm_237 : (.methodLink RX11 98 yX5_init : Cond) ∈ gtb := cwy_at (k := 97) rfl
theorem cwm_238 : (.instanceMethod yX5_init : Cond) ∈ gtb := cwy_at (k := 98) rfl
theorem cwm_239 : (.fieldLink RX11 99 "BargeRaft" "search" "LBargeRaft$Search;" : Cond) ∈ gtb := cwy_at (k := 99) rfl
theorem cwm_240 : (.fieldLink RX11 103 "BargeRaft" "passedKnots" "I" : Cond) ∈ gtb := cwy_at (k := 100) rfl
theorem cwm_241 : (.fieldLink RX11 106 "BargeRaft" "hiredMinutes" "I" : Cond) ∈ gtb := cwy_at (k := 101) rfl
def wordsB : List Nat := [113, 117, 97, 121, 32, 108, 101, 103, 32, 98, 97, 114, 103, 101, 32, 114, 97, 102, 116, 32, 107, 110, 111, 116, 32, 104, 111, 108, 100, 32, 116, 117, 114, 110, 32, 108, 101, 102, 116, 32, 114, 105, 103, 104, 116, 32, 98, 111, 116, 104, 32, 111, 112, 101, 110, 32, 108, 111, 99, 107, 32, 97, 112, 97, 114, 116, 32, 111, 102, 102, 32, 111, 110, 32, 115, 104, 105, 102, 116, 32, 103, 111, 32]
def wbI (k : Nat) : Int := ((wordsB.getD k 0 : Nat) : Int)
def wbf (k : Nat) : Int32 := Int32.ofInt (wbI k)
def no9 : Nat → Prop := fun _ => False
def wordsT : String := "quay leg barge raft knot hold turn left right both open lock apart off on shift go "
def strU (q v : Nat) (A : Nat → Prop) (U : State) (H : Heap) : Prop :=
  va_O RJ0 q A U H ∧ va_OF RJ0 "coder" "B" (.int 0) q A U H ∧ va_OF RJ0 "value" "[B" (.ref v) q A U H ∧ va_T .byte v 83 (fun j => .int (wbf j)) A U H ∧ va_Z RJ0 "COMPACT_STRINGS" "Z" (.int 1) A U H ∧ va_Zq RJ3 "SIOOBE_FORMATTER" "Ljava/util/function/BiFunction;" A U H
theorem strU.moved {q v : Nat} {A : Nat → Prop} {u U : State} {H : Heap} (hvm : u.vm.Alike U.vm) (h : strU q v A u H) : strU q v A U H :=
  ⟨va_O.moved hvm h.1, va_OF.moved hvm h.2.1, va_OF.moved hvm h.2.2.1, va_T.moved hvm h.2.2.2.1, va_Z.moved hvm h.2.2.2.2.1, va_Zq.moved hvm h.2.2.2.2.2⟩
theorem strU.kept {q v : Nat} {A : Nat → Prop} {U : State} {H H1 : Heap} (h : strU q v A U H) (hq : ∀ a : Nat, a < H.size → ¬ A a → H1[a]? = H[a]?) : strU q v A U H1 :=
  ⟨h.1.kept hq, h.2.1.kept hq, h.2.2.1.kept hq, h.2.2.2.1.kept hq, h.2.2.2.2.1.kept hq, h.2.2.2.2.2.kept hq⟩
theorem strU.narrow {q v : Nat} {A B : Nat → Prop} {U : State} {H : Heap} (h : strU q v A U H) (hAB : ∀ q, B q → A q) : strU q v B U H :=
  ⟨h.1.narrow hAB, h.2.1.narrow hAB, h.2.2.1.narrow hAB, h.2.2.2.1.narrow hAB, h.2.2.2.2.1.narrow hAB, h.2.2.2.2.2.narrow hAB⟩
theorem str_blind {q v : Nat} {as : List Value} : FrameBlind (va_Pc as (fun U => strU q v no9 U U.heap)) :=
  fun a U g mk h => ⟨h.1, h.2.moved (u := U) (U := U.calling g mk a) (Vm.Alike.refl U.vm)⟩
theorem str_recv {q v : Nat} {A : Nat → Prop} {s : State} {H : Heap} {locs : List Loc} (hE : strU q v A s s.heap) (hS : va_S A s.heap H locs) : ∃ cell : Cell, H[q]? = some cell ∧ cell.vm.isStatics = false ∧ s.vm.findClass RJ0 = some cell.cls := by
  obtain ⟨cell, h1, h2, h3, -⟩ := hE.1.kept hS.2.1
  exact ⟨cell, h1, h2, h3⟩
theorem P_kept {D : va_G} {ws : va_W} {H H1 : Heap} (hP : va_P D classes ws H) (hk : ∀ q : Nat, q < H.size → ¬ no9 q → H1[q]? = H[q]?) : va_P D classes ws H1 :=
  hP.kept fun k q hq => hk q.1 (hP k q hq).lt (fun h => h)
theorem wb_32 : ∀ k, k < 83 → decide (wbf k = 32) = decide (wordsB.getD k 0 = 32) := by decide +kernel
theorem wb_char : ∀ k, k < 83 → ((wbf k &&& 255).toUInt32 % 65536).toInt32 = wbf k := by decide +kernel
theorem wb_nar : ∀ k, k < 83 → decide (narrow .char (.int (wbf k)) = .int (wbf k)) = true := by decide +kernel
theorem dcoder_0 : decode cJ0_coder_7d493 0 = .ok (.getstatic 38, 3) := by decide +kernel
theorem dcoder_3 : decode cJ0_coder_7d493 3 = .ok (.ifCond .eq 10, 3) := by decide +kernel
theorem dcoder_6 : decode cJ0_coder_7d493 6 = .ok (.aload_n 0, 1) := by decide +kernel
theorem dcoder_7 : decode cJ0_coder_7d493 7 = .ok (.getfield 15, 3) := by decide +kernel
theorem dcoder_10 : decode cJ0_coder_7d493 10 = .ok (.goto 4, 3) := by decide +kernel
theorem dcoder_13 : decode cJ0_coder_7d493 13 = .ok (.iconst 1, 1) := by decide +kernel
theorem dcoder_14 : decode cJ0_coder_7d493 14 = .ok (.ireturn, 1) := by decide +kernel
set_option maxHeartbeats 4000000 in
set_option maxRecDepth 100000 in
theorem c_coder (l : Launch) (q v : Nat) : Met l yJ0_coder_7d493 (.code yJ0_coder_7d493 cJ0_coder_7d493 1 (some .byte) :: gtb) ({ frames := 1, cells := 0, slots := 0, locals := 12 } : Room) (va_Pc [.ref q] (fun U => strU q v no9 U U.heap)) (va_Qi (fun (r : Int32) (_ : Unit) => r = 0) (fun _ _ => True) no9) 0 0 no9 := by
  refine Met_ofF (cc := cJ0_coder_7d493) (maxL := 1) (ret := (some .byte)) (by decide +kernel) rfl ?_
  intro p e s m args below meth c s₁ B hml hv
  obtain ⟨rfl, hE⟩ := hv
  have hx := B.exec
  have hb := B.bytes
  have hr := B.returns
  have hts0 := atoms_spec (ws := .code yJ0_coder_7d493 cJ0_coder_7d493 1 (some .byte) :: gtb) B.pre
  have hts : ∀ w ∈ gtb, w.before _ s = true := fun w hw => hts0 w (List.mem_cons_of_mem _ hw)
  have hown : s.vm.findClass RJ0 = some m.cls := findClass_of_methodNamed B.named
  have hlocks := B.notSynchronized
  have hS : va_S no9 s.heap s.heap [] := va_S.rf
  have hl := lv_entry ([.ref q]) (n := 1) (Nat.le_of_ble_eq_true rfl)
  rw [lg_entry_eq]
  generalize (lg_sl ([.ref q]) ++ List.replicate (1 - (lg_sl ([.ref q])).length) Slot.unset).toArray = ls at hl ⊢
  have hl : lv_has ls 1 [(0, .ref q)] := hl
  refine va_gets hx hb hE.2.2.2.2.1 hS hown (hts _ cwm_140) (fun _ h9 => h9) dcoder_0 ?_
  refine lv_if_eq hx hb dcoder_3 (tgt := 13) (by decide) (fun h => absurd h (by decide)) (fun _ => ?_)
  refine lv_aload_n hx hb dcoder_6 rfl (lv_at hl 0 rfl) ?_
  refine vk_getf hx hb hE.2.1 hS hown (hts _ cwm_141) (fun _ h9 => h9) dcoder_7 ?_
  refine lv_goto hx hb dcoder_10 (tgt := 14) (by decide) ?_
  exact W.zret hx hb hr rfl (fun t ht hW => ⟨⟨0, (), rfl, rfl, trivial⟩, hS.F ht⟩) hS.2.2 dcoder_14
theorem disLatin1_0 : decode cJ0_isLatin1_aae02 0 = .ok (.getstatic 38, 3) := by decide +kernel
theorem disLatin1_3 : decode cJ0_isLatin1_aae02 3 = .ok (.ifCond .eq 14, 3) := by decide +kernel
theorem disLatin1_6 : decode cJ0_isLatin1_aae02 6 = .ok (.aload_n 0, 1) := by decide +kernel
theorem disLatin1_7 : decode cJ0_isLatin1_aae02 7 = .ok (.getfield 15, 3) := by decide +kernel
theorem disLatin1_10 : decode cJ0_isLatin1_aae02 10 = .ok (.ifCond .ne 7, 3) := by decide +kernel
theorem disLatin1_13 : decode cJ0_isLatin1_aae02 13 = .ok (.iconst 1, 1) := by decide +kernel
theorem disLatin1_14 : decode cJ0_isLatin1_aae02 14 = .ok (.goto 4, 3) := by decide +kernel
theorem disLatin1_17 : decode cJ0_isLatin1_aae02 17 = .ok (.iconst 0, 1) := by decide +kernel
theorem disLatin1_18 : decode cJ0_isLatin1_aae02 18 = .ok (.ireturn, 1) := by decide +kernel
set_option maxHeartbeats 4000000 in
set_option maxRecDepth 100000 in
theorem c_isLatin1 (l : Launch) (q v : Nat) : Met l yJ0_isLatin1_aae02 (.code yJ0_isLatin1_aae02 cJ0_isLatin1_aae02 1 (some .boolean) :: gtb) ({ frames := 1, cells := 0, slots := 0, locals := 12 } : Room) (va_Pc [.ref q] (fun U => strU q v no9 U U.heap)) (va_Qi (fun (r : Int32) (_ : Unit) => r = 1) (fun _ _ => True) no9) 0 0 no9 := by
  refine Met_ofF (cc := cJ0_isLatin1_aae02) (maxL := 1) (ret := (some .boolean)) (by decide +kernel) rfl ?_
  intro p e s m args below meth c s₁ B hml hv
  obtain ⟨rfl, hE⟩ := hv
  have hx := B.exec
  have hb := B.bytes
  have hr := B.returns
  have hts0 := atoms_spec (ws := .code yJ0_isLatin1_aae02 cJ0_isLatin1_aae02 1 (some .boolean) :: gtb) B.pre
  have hts : ∀ w ∈ gtb, w.before _ s = true := fun w hw => hts0 w (List.mem_cons_of_mem _ hw)
  have hown : s.vm.findClass RJ0 = some m.cls := findClass_of_methodNamed B.named
  have hlocks := B.notSynchronized
  have hS : va_S no9 s.heap s.heap [] := va_S.rf
  have hl := lv_entry ([.ref q]) (n := 1) (Nat.le_of_ble_eq_true rfl)
  rw [lg_entry_eq]
  generalize (lg_sl ([.ref q]) ++ List.replicate (1 - (lg_sl ([.ref q])).length) Slot.unset).toArray = ls at hl ⊢
  have hl : lv_has ls 1 [(0, .ref q)] := hl
  refine va_gets hx hb hE.2.2.2.2.1 hS hown (hts _ cwm_140) (fun _ h9 => h9) disLatin1_0 ?_
  refine lv_if_eq hx hb disLatin1_3 (tgt := 17) (by decide) (fun h => absurd h (by decide)) (fun _ => ?_)
  refine lv_aload_n hx hb disLatin1_6 rfl (lv_at hl 0 rfl) ?_
  refine vk_getf hx hb hE.2.1 hS hown (hts _ cwm_141) (fun _ h9 => h9) disLatin1_7 ?_
  refine lv_if_ne hx hb disLatin1_10 (tgt := 17) (by decide) (fun h => absurd h (by decide)) (fun _ => ?_)
  refine lv_iconst (v := 1) hx hb disLatin1_13 (by decide) ?_
  refine lv_goto hx hb disLatin1_14 (tgt := 18) (by decide) ?_
  exact W.zret hx hb hr rfl (fun t ht hW => ⟨⟨1, (), rfl, rfl, trivial⟩, hS.F ht⟩) hS.2.2 disLatin1_18
theorem dlength_0 : decode cJ0_length_8abf5 0 = .ok (.aload_n 0, 1) := by decide +kernel
theorem dlength_1 : decode cJ0_length_8abf5 1 = .ok (.getfield 9, 3) := by decide +kernel
theorem dlength_4 : decode cJ0_length_8abf5 4 = .ok (.arraylength, 1) := by decide +kernel
theorem dlength_5 : decode cJ0_length_8abf5 5 = .ok (.aload_n 0, 1) := by decide +kernel
theorem dlength_6 : decode cJ0_length_8abf5 6 = .ok (.invokevirtual 335, 3) := by decide +kernel
theorem dlength_9 : decode cJ0_length_8abf5 9 = .ok (.ishr, 1) := by decide +kernel
theorem dlength_10 : decode cJ0_length_8abf5 10 = .ok (.ireturn, 1) := by decide +kernel
set_option maxHeartbeats 4000000 in
set_option maxRecDepth 100000 in
theorem c_length (l : Launch) (q v : Nat) : Met l yJ0_length_8abf5 (.code yJ0_length_8abf5 cJ0_length_8abf5 1 (some .int) :: gtb) ({ frames := 2, cells := 0, slots := 0, locals := 32 } : Room) (va_Pc [.ref q] (fun U => strU q v no9 U U.heap)) (va_Qi (fun (r : Int32) (_ : Unit) => r = Int32.ofInt 83) (fun _ _ => True) no9) 0 0 no9 := by
  refine Met_ofF (cc := cJ0_length_8abf5) (maxL := 1) (ret := (some .int)) (by decide +kernel) rfl ?_
  intro p e s m args below meth c s₁ B hml hv
  obtain ⟨rfl, hE⟩ := hv
  have hx := B.exec
  have hb := B.bytes
  have hr := B.returns
  have hts0 := atoms_spec (ws := .code yJ0_length_8abf5 cJ0_length_8abf5 1 (some .int) :: gtb) B.pre
  have hts : ∀ w ∈ gtb, w.before _ s = true := fun w hw => hts0 w (List.mem_cons_of_mem _ hw)
  have hown : s.vm.findClass RJ0 = some m.cls := findClass_of_methodNamed B.named
  have hlocks := B.notSynchronized
  have hS : va_S no9 s.heap s.heap [] := va_S.rf
  have hl := lv_entry ([.ref q]) (n := 1) (Nat.le_of_ble_eq_true rfl)
  rw [lg_entry_eq]
  generalize (lg_sl ([.ref q]) ++ List.replicate (1 - (lg_sl ([.ref q])).length) Slot.unset).toArray = ls at hl ⊢
  have hl : lv_has ls 1 [(0, .ref q)] := hl
  refine lv_aload_n hx hb dlength_0 rfl (lv_at hl 0 rfl) ?_
  refine vk_getf hx hb hE.2.2.1 hS hown (hts _ cwm_142) (fun _ h9 => h9) dlength_1 ?_
  refine va_tlen hx hb hE.2.2.2.1 hS (v := Int32.ofInt 83) (by decide) dlength_4 ?_
  refine lv_aload_n hx hb dlength_5 rfl (lv_at hl 0 rfl) ?_
  have cb := callB_of (R := (headSpec (.code yJ0_length_8abf5 cJ0_length_8abf5 1 (some .int) :: gtb) ({ frames := 2, cells := 0, slots := 0, locals := 32 } : Room)).room) (own := RJ0) (index := 335) (mc := 0) (ms := 0) (y := yJ0_coder_7d493) 0 hts (ctor_good cwm_143) (ws' := gtb) (rm := ({ frames := 1, cells := 0, slots := 0, locals := 12 } : Room)) rfl rfl rfl (hts _ cwm_144) (hts _ cwm_145) (by decide +kernel) ⟨Nat.le_of_ble_eq_true rfl, Nat.le_of_ble_eq_true rfl⟩
  refine va_calli (va_runV (As := []) (b := q) (rest := [.int (Int32.ofInt 83)]) (C := RJ0) ⟨hx, hb, hml, hown, hts⟩ (c_coder l q v) ⟨cb, hts _ cwm_146, hts _ cwm_147⟩ ⟨str_blind, str_recv hE hS, fun U hU hW => ⟨rfl, by show strU q v no9 U U.heap; rw [hU]; exact ((hE.kept hS.2.1).moved hW.alike)⟩⟩ rfl rfl hl.1 rfl (Nat.le_of_ble_eq_true rfl) dlength_6 ⟨Nat.le_of_ble_eq_true rfl, Nat.le_of_ble_eq_true rfl⟩) hS (fun q9 _ h => h) (fun q9 h => h) (fun r u t H1 locs1 ht hvm hr9 hB hz hk hS => ?_)
  subst hr9
  refine lv_ishr hx hb dlength_9 ?_
  exact W.zret hx hb hr rfl (fun t ht hW => ⟨⟨_, (), rfl, by decide, trivial⟩, hS.F ht⟩) hS.2.2 dlength_10
theorem dpreCheck_0 : decode cJ3_checkIndex_8e157 0 = .ok (.iload_n 0, 1) := by decide +kernel
theorem dpreCheck_1 : decode cJ3_checkIndex_8e157 1 = .ok (.ifCond .lt 8, 3) := by decide +kernel
theorem dpreCheck_4 : decode cJ3_checkIndex_8e157 4 = .ok (.iload_n 0, 1) := by decide +kernel
theorem dpreCheck_5 : decode cJ3_checkIndex_8e157 5 = .ok (.iload_n 1, 1) := by decide +kernel
theorem dpreCheck_6 : decode cJ3_checkIndex_8e157 6 = .ok (.if_icmp .lt 10, 3) := by decide +kernel
theorem dpreCheck_9 : decode cJ3_checkIndex_8e157 9 = .ok (.aload_n 2, 1) := by decide +kernel
theorem dpreCheck_10 : decode cJ3_checkIndex_8e157 10 = .ok (.iload_n 0, 1) := by decide +kernel
theorem dpreCheck_11 : decode cJ3_checkIndex_8e157 11 = .ok (.iload_n 1, 1) := by decide +kernel
theorem dpreCheck_12 : decode cJ3_checkIndex_8e157 12 = .ok (.invokestatic 95, 3) := by decide +kernel
theorem dpreCheck_15 : decode cJ3_checkIndex_8e157 15 = .ok (.athrow, 1) := by decide +kernel
theorem dpreCheck_16 : decode cJ3_checkIndex_8e157 16 = .ok (.iload_n 0, 1) := by decide +kernel
theorem dpreCheck_17 : decode cJ3_checkIndex_8e157 17 = .ok (.ireturn, 1) := by decide +kernel
set_option maxHeartbeats 4000000 in
set_option maxRecDepth 100000 in
theorem c_preCheck (l : Launch) (i n : Int32) (w : Value) (h1 : ¬ i < 0) (h2 : i < n) (hw : w = .null ∨ ∃ t : Nat, w = .ref t) : Met l yJ3_checkIndex_8e157 (.code yJ3_checkIndex_8e157 cJ3_checkIndex_8e157 3 (some .int) :: gtb) ({ frames := 1, cells := 0, slots := 0, locals := 12 } : Room) (va_Pc [.int i, .int n, w] (fun U => True)) (va_Qi (fun (r : Int32) (_ : Unit) => r = i) (fun _ _ => True) no9) 0 0 no9 := by
  rcases hw with rfl | ⟨t9, rfl⟩
  · refine Met_ofF (cc := cJ3_checkIndex_8e157) (maxL := 3) (ret := (some .int)) (by decide +kernel) rfl ?_
    intro p e s m args below meth c s₁ B hml hv
    obtain ⟨rfl, -⟩ := hv
    have hx := B.exec
    have hb := B.bytes
    have hr := B.returns
    have hts0 := atoms_spec (ws := .code yJ3_checkIndex_8e157 cJ3_checkIndex_8e157 3 (some .int) :: gtb) B.pre
    have hts : ∀ w ∈ gtb, w.before _ s = true := fun w hw => hts0 w (List.mem_cons_of_mem _ hw)
    have hown : s.vm.findClass RJ3 = some m.cls := findClass_of_methodNamed B.named
    have hlocks := B.notSynchronized
    have hS : va_S no9 s.heap s.heap [] := va_S.rf
    have hl := lv_entry ([.int i, .int n, .null]) (n := 3) (Nat.le_of_ble_eq_true rfl)
    rw [lg_entry_eq]
    generalize (lg_sl ([.int i, .int n, .null]) ++ List.replicate (3 - (lg_sl ([.int i, .int n, .null])).length) Slot.unset).toArray = ls at hl ⊢
    have hl : lv_has ls 3 [(0, .int i), (1, .int n), (2, .null)] := hl
    refine lv_iload_n hx hb dpreCheck_0 rfl (lv_at hl 0 rfl) ?_
    refine lv_if_lt hx hb dpreCheck_1 (tgt := 9) (by decide) (fun h => absurd h h1) (fun _ => ?_)
    refine lv_iload_n hx hb dpreCheck_4 rfl (lv_at hl 0 rfl) ?_
    refine lv_iload_n hx hb dpreCheck_5 rfl (lv_at hl 1 rfl) ?_
    refine lv_icmp_lt hx hb dpreCheck_6 (tgt := 16) (by decide) (fun _ => ?_) (fun h => absurd h2 h)
    refine lv_iload_n hx hb dpreCheck_16 rfl (lv_at hl 0 rfl) ?_
    exact W.zret hx hb hr rfl (fun t ht hW => ⟨⟨i, (), rfl, rfl, trivial⟩, hS.F ht⟩) hS.2.2 dpreCheck_17
  · refine Met_ofF (cc := cJ3_checkIndex_8e157) (maxL := 3) (ret := (some .int)) (by decide +kernel) rfl ?_
    intro p e s m args below meth c s₁ B hml hv
    obtain ⟨rfl, -⟩ := hv
    have hx := B.exec
    have hb := B.bytes
    have hr := B.returns
    have hts0 := atoms_spec (ws := .code yJ3_checkIndex_8e157 cJ3_checkIndex_8e157 3 (some .int) :: gtb) B.pre
    have hts : ∀ w ∈ gtb, w.before _ s = true := fun w hw => hts0 w (List.mem_cons_of_mem _ hw)
    have hown : s.vm.findClass RJ3 = some m.cls := findClass_of_methodNamed B.named
    have hlocks := B.notSynchronized
    have hS : va_S no9 s.heap s.heap [] := va_S.rf
    have hl := lv_entry ([.int i, .int n, .ref t9]) (n := 3) (Nat.le_of_ble_eq_true rfl)
    rw [lg_entry_eq]
    generalize (lg_sl ([.int i, .int n, .ref t9]) ++ List.replicate (3 - (lg_sl ([.int i, .int n, .ref t9])).length) Slot.unset).toArray = ls at hl ⊢
    have hl : lv_has ls 3 [(0, .int i), (1, .int n), (2, .ref t9)] := hl
    refine lv_iload_n hx hb dpreCheck_0 rfl (lv_at hl 0 rfl) ?_
    refine lv_if_lt hx hb dpreCheck_1 (tgt := 9) (by decide) (fun h => absurd h h1) (fun _ => ?_)
    refine lv_iload_n hx hb dpreCheck_4 rfl (lv_at hl 0 rfl) ?_
    refine lv_iload_n hx hb dpreCheck_5 rfl (lv_at hl 1 rfl) ?_
    refine lv_icmp_lt hx hb dpreCheck_6 (tgt := 16) (by decide) (fun _ => ?_) (fun h => absurd h2 h)
    refine lv_iload_n hx hb dpreCheck_16 rfl (lv_at hl 0 rfl) ?_
    exact W.zret hx hb hr rfl (fun t ht hW => ⟨⟨i, (), rfl, rfl, trivial⟩, hS.F ht⟩) hS.2.2 dpreCheck_17
theorem dcheckIndex_0 : decode cJ0_checkIndex_df160 0 = .ok (.iload_n 0, 1) := by decide +kernel
theorem dcheckIndex_1 : decode cJ0_checkIndex_df160 1 = .ok (.iload_n 1, 1) := by decide +kernel
theorem dcheckIndex_2 : decode cJ0_checkIndex_df160 2 = .ok (.getstatic 1053, 3) := by decide +kernel
theorem dcheckIndex_5 : decode cJ0_checkIndex_df160 5 = .ok (.invokestatic 1059, 3) := by decide +kernel
theorem dcheckIndex_8 : decode cJ0_checkIndex_df160 8 = .ok (.pop, 1) := by decide +kernel
theorem dcheckIndex_9 : decode cJ0_checkIndex_df160 9 = .ok (.return_, 1) := by decide +kernel
set_option maxHeartbeats 4000000 in
set_option maxRecDepth 100000 in
theorem c_checkIndex (l : Launch) (i n : Int32) (h1 : ¬ i < 0) (h2 : i < n) : Met l yJ0_checkIndex_df160 (.code yJ0_checkIndex_df160 cJ0_checkIndex_df160 2 none :: gtb) ({ frames := 2, cells := 0, slots := 0, locals := 34 } : Room) (va_Pc [.int i, .int n] (fun U => va_Zq RJ3 "SIOOBE_FORMATTER" "Ljava/util/function/BiFunction;" no9 U U.heap)) (va_Qv (fun _ : Unit => True) (fun _ _ => True) no9) 0 0 no9 := by
  refine Met_ofF (cc := cJ0_checkIndex_df160) (maxL := 2) (ret := none) (by decide +kernel) rfl ?_
  intro p e s m args below meth c s₁ B hml hv
  obtain ⟨rfl, hE⟩ := hv
  have hx := B.exec
  have hb := B.bytes
  have hr := B.returns
  have hts0 := atoms_spec (ws := .code yJ0_checkIndex_df160 cJ0_checkIndex_df160 2 none :: gtb) B.pre
  have hts : ∀ w ∈ gtb, w.before _ s = true := fun w hw => hts0 w (List.mem_cons_of_mem _ hw)
  have hown : s.vm.findClass RJ0 = some m.cls := findClass_of_methodNamed B.named
  have hlocks := B.notSynchronized
  have hS : va_S no9 s.heap s.heap [] := va_S.rf
  have hl := lv_entry ([.int i, .int n]) (n := 2) (Nat.le_of_ble_eq_true rfl)
  rw [lg_entry_eq]
  generalize (lg_sl ([.int i, .int n]) ++ List.replicate (2 - (lg_sl ([.int i, .int n])).length) Slot.unset).toArray = ls at hl ⊢
  have hl : lv_has ls 2 [(0, .int i), (1, .int n)] := hl
  refine lv_iload_n hx hb dcheckIndex_0 rfl (lv_at hl 0 rfl) ?_
  refine lv_iload_n hx hb dcheckIndex_1 rfl (lv_at hl 1 rfl) ?_
  have cb := callB_of (R := (headSpec (.code yJ0_checkIndex_df160 cJ0_checkIndex_df160 2 none :: gtb) ({ frames := 2, cells := 0, slots := 0, locals := 34 } : Room)).room) (own := RJ0) (index := 1059) (mc := 0) (ms := 0) (y := yJ3_checkIndex_8e157) 3 hts (ctor_good cwm_148) (ws' := gtb) (rm := ({ frames := 1, cells := 0, slots := 0, locals := 12 } : Room)) rfl rfl rfl (hts _ cwm_149) (hts _ cwm_150) (by decide +kernel) ⟨Nat.le_of_ble_eq_true rfl, Nat.le_of_ble_eq_true rfl⟩
  obtain ⟨w, hw, hZ⟩ : ∃ w : Value, (w = .null ∨ ∃ t : Nat, w = .ref t) ∧ va_Z RJ3 "SIOOBE_FORMATTER" "Ljava/util/function/BiFunction;" w no9 s s.heap := by
    rcases hE with h | ⟨t, h⟩
    · exact ⟨_, Or.inl rfl, h⟩
    · exact ⟨_, Or.inr ⟨t, rfl⟩, h⟩
  refine va_gets hx hb hZ hS hown (hts _ cwm_151) (fun _ h9 => h9) dcheckIndex_2 ?_
  refine va_calli (va_runS (As := [.int i, .int n, w]) (rest := []) ⟨hx, hb, hml, hown, hts⟩ (c_preCheck l i n w h1 h2 hw) ⟨cb, hts _ cwm_152⟩ ⟨fun a U g mk h => ⟨h.1, trivial⟩, fun U hU hW => ⟨rfl, trivial⟩⟩ rfl rfl hl.1 rfl (Nat.le_of_ble_eq_true rfl) dcheckIndex_5 ⟨Nat.le_of_ble_eq_true rfl, Nat.le_of_ble_eq_true rfl⟩) hS (fun q9 _ h => h) (fun q9 h => h) (fun r u t H1 locs1 ht hvm hr9 hB hz hk hS => ?_)
  refine lv_pop hx hb dcheckIndex_8 rfl ?_
  exact W.vret hx hb hr (fun t ht hW => ⟨⟨(), rfl, trivial, trivial⟩, hS.F ht⟩) hS.2.2 dcheckIndex_9
theorem dl1charAt_0 : decode cJ1_charAt_3b067 0 = .ok (.iload_n 1, 1) := by decide +kernel
theorem dl1charAt_1 : decode cJ1_charAt_3b067 1 = .ok (.aload_n 0, 1) := by decide +kernel
theorem dl1charAt_2 : decode cJ1_charAt_3b067 2 = .ok (.arraylength, 1) := by decide +kernel
theorem dl1charAt_3 : decode cJ1_charAt_3b067 3 = .ok (.invokestatic 9, 3) := by decide +kernel
theorem dl1charAt_6 : decode cJ1_charAt_3b067 6 = .ok (.aload_n 0, 1) := by decide +kernel
theorem dl1charAt_7 : decode cJ1_charAt_3b067 7 = .ok (.iload_n 1, 1) := by decide +kernel
theorem dl1charAt_8 : decode cJ1_charAt_3b067 8 = .ok (.baload, 1) := by decide +kernel
theorem dl1charAt_9 : decode cJ1_charAt_3b067 9 = .ok (.sipush 255, 3) := by decide +kernel
theorem dl1charAt_12 : decode cJ1_charAt_3b067 12 = .ok (.iand, 1) := by decide +kernel
theorem dl1charAt_13 : decode cJ1_charAt_3b067 13 = .ok (.i2c, 1) := by decide +kernel
theorem dl1charAt_14 : decode cJ1_charAt_3b067 14 = .ok (.ireturn, 1) := by decide +kernel
set_option maxHeartbeats 4000000 in
set_option maxRecDepth 100000 in
theorem c_l1charAt (l : Launch) (q v : Nat) (k : Nat) (hk9 : k < 83) : Met l yJ1_charAt_3b067 (.code yJ1_charAt_3b067 cJ1_charAt_3b067 2 (some .char) :: gtb) ({ frames := 3, cells := 0, slots := 0, locals := 55 } : Room) (va_Pc [.ref v, .int (Int32.ofInt (k : Int))] (fun U => strU q v no9 U U.heap)) (va_Qi (fun (r : Int32) (_ : Unit) => r = wbf k) (fun _ _ => True) no9) 0 0 no9 := by
  refine Met_ofF (cc := cJ1_charAt_3b067) (maxL := 2) (ret := (some .char)) (by decide +kernel) rfl ?_
  intro p e s m args below meth c s₁ B hml hv
  obtain ⟨rfl, hE⟩ := hv
  have hx := B.exec
  have hb := B.bytes
  have hr := B.returns
  have hts0 := atoms_spec (ws := .code yJ1_charAt_3b067 cJ1_charAt_3b067 2 (some .char) :: gtb) B.pre
  have hts : ∀ w ∈ gtb, w.before _ s = true := fun w hw => hts0 w (List.mem_cons_of_mem _ hw)
  have hown : s.vm.findClass RJ1 = some m.cls := findClass_of_methodNamed B.named
  have hlocks := B.notSynchronized
  have hS : va_S no9 s.heap s.heap [] := va_S.rf
  have hl := lv_entry ([.ref v, .int (Int32.ofInt (k : Int))]) (n := 2) (Nat.le_of_ble_eq_true rfl)
  rw [lg_entry_eq]
  generalize (lg_sl ([.ref v, .int (Int32.ofInt (k : Int))]) ++ List.replicate (2 - (lg_sl ([.ref v, .int (Int32.ofInt (k : Int))])).length) Slot.unset).toArray = ls at hl ⊢
  have hl : lv_has ls 2 [(0, .ref v), (1, .int (Int32.ofInt (k : Int)))] := hl
  have ek : w32 (k : Int) = k := w32_of (by omega) (by omega)
  refine lv_iload_n hx hb dl1charAt_0 rfl (lv_at hl 1 rfl) ?_
  refine lv_aload_n hx hb dl1charAt_1 rfl (lv_at hl 0 rfl) ?_
  refine va_tlen hx hb hE.2.2.2.1 hS (v := Int32.ofInt 83) (by decide) dl1charAt_2 ?_
  have cb := callB_of (R := (headSpec (.code yJ1_charAt_3b067 cJ1_charAt_3b067 2 (some .char) :: gtb) ({ frames := 3, cells := 0, slots := 0, locals := 55 } : Room)).room) (own := RJ1) (index := 9) (mc := 0) (ms := 0) (y := yJ0_checkIndex_df160) 2 hts (ctor_good cwm_153) (ws' := gtb) (rm := ({ frames := 2, cells := 0, slots := 0, locals := 34 } : Room)) rfl rfl rfl (hts _ cwm_144) (hts _ cwm_154) (by decide +kernel) ⟨Nat.le_of_ble_eq_true rfl, Nat.le_of_ble_eq_true rfl⟩
  refine va_callv (va_runS (As := [.int (Int32.ofInt (k : Int)), .int (Int32.ofInt 83)]) (rest := []) ⟨hx, hb, hml, hown, hts⟩ (c_checkIndex l (Int32.ofInt (k : Int)) (Int32.ofInt 83) (by rw [ltz, ek]; omega) (lt32.mpr (by rw [ek]; show (k : Int) < 83; omega))) ⟨cb, hts _ cwm_155⟩ ⟨fun a U g mk h => ⟨h.1, va_Zq.moved (u := U) (U := U.calling g mk a) (Vm.Alike.refl U.vm) h.2⟩, fun U hU hW => ⟨rfl, by show va_Zq RJ3 "SIOOBE_FORMATTER" "Ljava/util/function/BiFunction;" no9 U U.heap; rw [hU]; exact ((hE.kept hS.2.1).moved hW.alike).2.2.2.2.2⟩⟩ rfl rfl hl.1 rfl (Nat.le_of_ble_eq_true rfl) dl1charAt_3 ⟨Nat.le_of_ble_eq_true rfl, Nat.le_of_ble_eq_true rfl⟩) hS (fun q9 _ h => h) (fun q9 h => h) (fun u t H1 locs1 ht hvm hr9 hB hz hk hS => ?_)
  refine lv_aload_n hx hb dl1charAt_6 rfl (lv_at hl 0 rfl) ?_
  refine lv_iload_n hx hb dl1charAt_7 rfl (lv_at hl 1 rfl) ?_
  have et : (Int32.ofInt (k : Int)).toNatClampNeg = k := (tnc (by omega) (by omega)).trans rfl
  refine va_tb hx hb hE.2.2.2.1 hS (v := .int (wbf k)) (vin (by omega) (by omega) (by decide)) (by rw [et]) dl1charAt_8 ?_
  refine lv_sipush (v := 255) hx hb dl1charAt_9 (by decide) ?_
  refine lv_iand hx hb dl1charAt_12 ?_
  refine lv_i2c hx hb (v := wbf k) dl1charAt_13 (wb_char k hk9) ?_
  exact W.zret hx hb hr (of_decide_eq_true (wb_nar k hk9)) (fun t ht hW => ⟨⟨_, (), rfl, rfl, trivial⟩, hS.F ht⟩) hS.2.2 dl1charAt_14
theorem dcharAt_0 : decode cJ0_charAt_5068e 0 = .ok (.aload_n 0, 1) := by decide +kernel
theorem dcharAt_1 : decode cJ0_charAt_5068e 1 = .ok (.invokevirtual 492, 3) := by decide +kernel
theorem dcharAt_4 : decode cJ0_charAt_5068e 4 = .ok (.ifCond .eq 12, 3) := by decide +kernel
theorem dcharAt_7 : decode cJ0_charAt_5068e 7 = .ok (.aload_n 0, 1) := by decide +kernel
theorem dcharAt_8 : decode cJ0_charAt_5068e 8 = .ok (.getfield 9, 3) := by decide +kernel
theorem dcharAt_11 : decode cJ0_charAt_5068e 11 = .ok (.iload_n 1, 1) := by decide +kernel
theorem dcharAt_12 : decode cJ0_charAt_5068e 12 = .ok (.invokestatic 495, 3) := by decide +kernel
theorem dcharAt_15 : decode cJ0_charAt_5068e 15 = .ok (.ireturn, 1) := by decide +kernel
theorem dcharAt_16 : decode cJ0_charAt_5068e 16 = .ok (.aload_n 0, 1) := by decide +kernel
theorem dcharAt_17 : decode cJ0_charAt_5068e 17 = .ok (.getfield 9, 3) := by decide +kernel
theorem dcharAt_20 : decode cJ0_charAt_5068e 20 = .ok (.iload_n 1, 1) := by decide +kernel
theorem dcharAt_21 : decode cJ0_charAt_5068e 21 = .ok (.invokestatic 498, 3) := by decide +kernel
theorem dcharAt_24 : decode cJ0_charAt_5068e 24 = .ok (.ireturn, 1) := by decide +kernel
set_option maxHeartbeats 4000000 in
set_option maxRecDepth 100000 in
theorem c_charAt (l : Launch) (q v : Nat) (k : Nat) (hk9 : k < 83) : Met l yJ0_charAt_5068e (.code yJ0_charAt_5068e cJ0_charAt_5068e 2 (some .char) :: gtb) ({ frames := 4, cells := 0, slots := 0, locals := 76 } : Room) (va_Pc [.ref q, .int (Int32.ofInt (k : Int))] (fun U => strU q v no9 U U.heap)) (va_Qi (fun (r : Int32) (_ : Unit) => r = wbf k) (fun _ _ => True) no9) 0 0 no9 := by
  refine Met_ofF (cc := cJ0_charAt_5068e) (maxL := 2) (ret := (some .char)) (by decide +kernel) rfl ?_
  intro p e s m args below meth c s₁ B hml hv
  obtain ⟨rfl, hE⟩ := hv
  have hx := B.exec
  have hb := B.bytes
  have hr := B.returns
  have hts0 := atoms_spec (ws := .code yJ0_charAt_5068e cJ0_charAt_5068e 2 (some .char) :: gtb) B.pre
  have hts : ∀ w ∈ gtb, w.before _ s = true := fun w hw => hts0 w (List.mem_cons_of_mem _ hw)
  have hown : s.vm.findClass RJ0 = some m.cls := findClass_of_methodNamed B.named
  have hlocks := B.notSynchronized
  have hS : va_S no9 s.heap s.heap [] := va_S.rf
  have hl := lv_entry ([.ref q, .int (Int32.ofInt (k : Int))]) (n := 2) (Nat.le_of_ble_eq_true rfl)
  rw [lg_entry_eq]
  generalize (lg_sl ([.ref q, .int (Int32.ofInt (k : Int))]) ++ List.replicate (2 - (lg_sl ([.ref q, .int (Int32.ofInt (k : Int))])).length) Slot.unset).toArray = ls at hl ⊢
  have hl : lv_has ls 2 [(0, .ref q), (1, .int (Int32.ofInt (k : Int)))] := hl
  refine lv_aload_n hx hb dcharAt_0 rfl (lv_at hl 0 rfl) ?_
  have cb := callB_of (R := (headSpec (.code yJ0_charAt_5068e cJ0_charAt_5068e 2 (some .char) :: gtb) ({ frames := 4, cells := 0, slots := 0, locals := 76 } : Room)).room) (own := RJ0) (index := 492) (mc := 0) (ms := 0) (y := yJ0_isLatin1_aae02) 0 hts (ctor_good cwm_156) (ws' := gtb) (rm := ({ frames := 1, cells := 0, slots := 0, locals := 12 } : Room)) rfl rfl rfl (hts _ cwm_144) (hts _ cwm_157) (by decide +kernel) ⟨Nat.le_of_ble_eq_true rfl, Nat.le_of_ble_eq_true rfl⟩
  refine va_calli (va_runV (As := []) (b := q) (rest := []) (C := RJ0) ⟨hx, hb, hml, hown, hts⟩ (c_isLatin1 l q v) ⟨cb, hts _ cwm_158, hts _ cwm_159⟩ ⟨str_blind, str_recv hE hS, fun U hU hW => ⟨rfl, by show strU q v no9 U U.heap; rw [hU]; exact ((hE.kept hS.2.1).moved hW.alike)⟩⟩ rfl rfl hl.1 rfl (Nat.le_of_ble_eq_true rfl) dcharAt_1 ⟨Nat.le_of_ble_eq_true rfl, Nat.le_of_ble_eq_true rfl⟩) hS (fun q9 _ h => h) (fun q9 h => h) (fun r u t H1 locs1 ht hvm hr9 hB hz hk hS => ?_)
  subst hr9
  refine lv_if_eq hx hb dcharAt_4 (tgt := 16) (by decide) (fun h => absurd h (by decide)) (fun _ => ?_)
  refine lv_aload_n hx hb dcharAt_7 rfl (lv_at hl 0 rfl) ?_
  refine vk_getf hx hb hE.2.2.1 hS hown (hts _ cwm_142) (fun _ h9 => h9) dcharAt_8 ?_
  refine lv_iload_n hx hb dcharAt_11 rfl (lv_at hl 1 rfl) ?_
  have cb := callB_of (R := (headSpec (.code yJ0_charAt_5068e cJ0_charAt_5068e 2 (some .char) :: gtb) ({ frames := 4, cells := 0, slots := 0, locals := 76 } : Room)).room) (own := RJ0) (index := 495) (mc := 0) (ms := 0) (y := yJ1_charAt_3b067) 2 hts (ctor_good cwm_160) (ws' := gtb) (rm := ({ frames := 3, cells := 0, slots := 0, locals := 55 } : Room)) rfl rfl rfl (hts _ cwm_161) (hts _ cwm_162) (by decide +kernel) ⟨Nat.le_of_ble_eq_true rfl, Nat.le_of_ble_eq_true rfl⟩
  refine va_calli (va_runS (As := [.ref v, .int (Int32.ofInt (k : Int))]) (rest := []) ⟨hx, hb, hml, hown, hts⟩ (c_l1charAt l q v k hk9) ⟨cb, hts _ cwm_163⟩ ⟨str_blind, fun U hU hW => ⟨rfl, by show strU q v no9 U U.heap; rw [hU]; exact (hE.kept hS.2.1).moved hW.alike⟩⟩ rfl rfl hl.1 rfl (Nat.le_of_ble_eq_true rfl) dcharAt_12 ⟨Nat.le_of_ble_eq_true rfl, Nat.le_of_ble_eq_true rfl⟩) hS (fun q9 _ h => h) (fun q9 h => h) (fun r u t H1 locs1 ht hvm hr9 hB hz hk hS => ?_)
  subst hr9
  exact W.zret hx hb hr (of_decide_eq_true (wb_nar k hk9)) (fun t ht hW => ⟨⟨_, (), rfl, rfl, trivial⟩, hS.F ht⟩) hS.2.2 dcharAt_15
