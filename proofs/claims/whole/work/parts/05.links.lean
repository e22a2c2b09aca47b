/-! ===== the tables' words by their places; fields, methods and links for Z ===== -/
def ztbl : List Cond := lw_tbl.filter goodWord
theorem zall_good : ∀ w ∈ ztbl, ((w.onTables && w.keeps) = true ∨ ∃ ty, w = .arrayClass ty) := fun w h => good_of_word (List.mem_filter.mp h).2
theorem zt_1 {w : Cond} (h : w ∈ tables_1_1) : w ∈ lw_tbl := List.mem_append_right _ (show w ∈ tables_1_1 ++ (tables_1_2 ++ (tables_1_3 ++ tables_1_4)) from List.mem_append_left _ h)
theorem zt_2 {w : Cond} (h : w ∈ tables_1_2) : w ∈ lw_tbl := List.mem_append_right _ (show w ∈ tables_1_1 ++ (tables_1_2 ++ (tables_1_3 ++ tables_1_4)) from List.mem_append_right _ (List.mem_append_left _ h))
theorem zt_3 {w : Cond} (h : w ∈ tables_1_3) : w ∈ lw_tbl := List.mem_append_right _ (show w ∈ tables_1_1 ++ (tables_1_2 ++ (tables_1_3 ++ tables_1_4)) from List.mem_append_right _ (List.mem_append_right _ (List.mem_append_left _ h)))
theorem zt_4 {w : Cond} (h : w ∈ tables_1_4) : w ∈ lw_tbl := List.mem_append_right _ (show w ∈ tables_1_1 ++ (tables_1_2 ++ (tables_1_3 ++ tables_1_4)) from List.mem_append_right _ (List.mem_append_right _ (List.mem_append_right _ h)))
theorem zg {w : Cond} (h : w ∈ lw_tbl) (g : goodWord w = true) : w ∈ ztbl := List.mem_filter.mpr ⟨h, g⟩
-- fields' places
set_option maxRecDepth 20000 in
theorem zm_1_70 : Cond.laysFinal "AnswerSquare$Duchy" "AnswerSquare$Duchy" "worthy" "[I" ∈ ztbl := zg (zt_1 (List.mem_of_getElem? (i := 70) rfl)) rfl
set_option maxRecDepth 20000 in
theorem zm_1_72 : Cond.laysFinal "AnswerSquare$Duchy" "AnswerSquare$Duchy" "answers" "[I" ∈ ztbl := zg (zt_1 (List.mem_of_getElem? (i := 72) rfl)) rfl
set_option maxRecDepth 20000 in
theorem zm_1_74 : Cond.laysFinal "AnswerSquare$Duchy" "AnswerSquare$Duchy" "knows" "[I" ∈ ztbl := zg (zt_1 (List.mem_of_getElem? (i := 74) rfl)) rfl
set_option maxRecDepth 20000 in
theorem zm_1_76 : Cond.lays "AnswerSquare$Duchy" "AnswerSquare$Duchy" "sayings" "I" ∈ ztbl := zg (zt_1 (List.mem_of_getElem? (i := 76) rfl)) rfl
set_option maxRecDepth 20000 in
theorem zm_1_78 : Cond.lays "AnswerSquare$Duchy" "AnswerSquare$Duchy" "people" "I" ∈ ztbl := zg (zt_1 (List.mem_of_getElem? (i := 78) rfl)) rfl
set_option maxRecDepth 20000 in
theorem zm_1_80 : Cond.lays "AnswerSquare$Duchy" "AnswerSquare$Duchy" "old" "I" ∈ ztbl := zg (zt_1 (List.mem_of_getElem? (i := 80) rfl)) rfl
set_option maxRecDepth 20000 in
theorem zm_1_82 : Cond.lays "AnswerSquare$Duchy" "AnswerSquare$Duchy" "oldIsTold" "Z" ∈ ztbl := zg (zt_1 (List.mem_of_getElem? (i := 82) rfl)) rfl
set_option maxRecDepth 20000 in
theorem zm_1_84 : Cond.lays "AnswerSquare$Duchy" "AnswerSquare$Duchy" "soundBits" "I" ∈ ztbl := zg (zt_1 (List.mem_of_getElem? (i := 84) rfl)) rfl
set_option maxRecDepth 20000 in
theorem zm_1_86 : Cond.lays "AnswerSquare$Duchy" "AnswerSquare$Duchy" "sayable" "I" ∈ ztbl := zg (zt_1 (List.mem_of_getElem? (i := 86) rfl)) rfl
theorem zu_X0 : ∀ w ∈ u_ws RX0 TX0 9, w ∈ ztbl := by
  intro w hw
  obtain ⟨k, hk, rfl⟩ := List.mem_map.mp hw
  have hk := List.mem_range.mp hk
  rcases (show k = 0 ∨ k = 1 ∨ k = 2 ∨ k = 3 ∨ k = 4 ∨ k = 5 ∨ k = 6 ∨ k = 7 ∨ k = 8 by omega) with rfl | rfl | rfl | rfl | rfl | rfl | rfl | rfl | rfl
  · exact zm_1_70
  · exact zm_1_72
  · exact zm_1_74
  · exact zm_1_76
  · exact zm_1_78
  · exact zm_1_80
  · exact zm_1_82
  · exact zm_1_84
  · exact zm_1_86
set_option maxRecDepth 20000 in
theorem zm_1_115 : Cond.laysFinal "AnswerSquare$Moment" "AnswerSquare$Moment" "which" "[I" ∈ ztbl := zg (zt_1 (List.mem_of_getElem? (i := 115) rfl)) rfl
set_option maxRecDepth 20000 in
theorem zm_1_117 : Cond.laysFinal "AnswerSquare$Moment" "AnswerSquare$Moment" "at" "[I" ∈ ztbl := zg (zt_1 (List.mem_of_getElem? (i := 117) rfl)) rfl
set_option maxRecDepth 20000 in
theorem zm_1_119 : Cond.laysFinal "AnswerSquare$Moment" "AnswerSquare$Moment" "by" "[I" ∈ ztbl := zg (zt_1 (List.mem_of_getElem? (i := 119) rfl)) rfl
set_option maxRecDepth 20000 in
theorem zm_1_121 : Cond.laysFinal "AnswerSquare$Moment" "AnswerSquare$Moment" "to" "[I" ∈ ztbl := zg (zt_1 (List.mem_of_getElem? (i := 121) rfl)) rfl
set_option maxRecDepth 20000 in
theorem zm_1_123 : Cond.laysFinal "AnswerSquare$Moment" "AnswerSquare$Moment" "root" "[I" ∈ ztbl := zg (zt_1 (List.mem_of_getElem? (i := 123) rfl)) rfl
set_option maxRecDepth 20000 in
theorem zm_1_125 : Cond.laysFinal "AnswerSquare$Moment" "AnswerSquare$Moment" "far" "[I" ∈ ztbl := zg (zt_1 (List.mem_of_getElem? (i := 125) rfl)) rfl
set_option maxRecDepth 20000 in
theorem zm_1_127 : Cond.lays "AnswerSquare$Moment" "AnswerSquare$Moment" "size" "I" ∈ ztbl := zg (zt_1 (List.mem_of_getElem? (i := 127) rfl)) rfl
set_option maxRecDepth 20000 in
theorem zm_1_129 : Cond.lays "AnswerSquare$Moment" "AnswerSquare$Moment" "clock" "I" ∈ ztbl := zg (zt_1 (List.mem_of_getElem? (i := 129) rfl)) rfl
set_option maxRecDepth 20000 in
theorem zm_1_131 : Cond.lays "AnswerSquare$Moment" "AnswerSquare$Moment" "undoable" "I" ∈ ztbl := zg (zt_1 (List.mem_of_getElem? (i := 131) rfl)) rfl
set_option maxRecDepth 20000 in
theorem zm_1_133 : Cond.lays "AnswerSquare$Moment" "AnswerSquare$Moment" "hourBits" "I" ∈ ztbl := zg (zt_1 (List.mem_of_getElem? (i := 133) rfl)) rfl
set_option maxRecDepth 20000 in
theorem zm_1_135 : Cond.lays "AnswerSquare$Moment" "AnswerSquare$Moment" "kept" "Z" ∈ ztbl := zg (zt_1 (List.mem_of_getElem? (i := 135) rfl)) rfl
theorem zu_X1 : ∀ w ∈ u_ws RX1 TX1 11, w ∈ ztbl := by
  intro w hw
  obtain ⟨k, hk, rfl⟩ := List.mem_map.mp hw
  have hk := List.mem_range.mp hk
  rcases (show k = 0 ∨ k = 1 ∨ k = 2 ∨ k = 3 ∨ k = 4 ∨ k = 5 ∨ k = 6 ∨ k = 7 ∨ k = 8 ∨ k = 9 ∨ k = 10 by omega) with rfl | rfl | rfl | rfl | rfl | rfl | rfl | rfl | rfl | rfl | rfl
  · exact zm_1_115
  · exact zm_1_117
  · exact zm_1_119
  · exact zm_1_121
  · exact zm_1_123
  · exact zm_1_125
  · exact zm_1_127
  · exact zm_1_129
  · exact zm_1_131
  · exact zm_1_133
  · exact zm_1_135
set_option maxRecDepth 20000 in
theorem zm_1_33 : Cond.laysFinal "AnswerSquare$Text" "AnswerSquare$Text" "bytes" "[I" ∈ ztbl := zg (zt_1 (List.mem_of_getElem? (i := 33) rfl)) rfl
set_option maxRecDepth 20000 in
theorem zm_1_35 : Cond.lays "AnswerSquare$Text" "AnswerSquare$Text" "length" "I" ∈ ztbl := zg (zt_1 (List.mem_of_getElem? (i := 35) rfl)) rfl
set_option maxRecDepth 20000 in
theorem zm_1_37 : Cond.lays "AnswerSquare$Text" "AnswerSquare$Text" "token" "I" ∈ ztbl := zg (zt_1 (List.mem_of_getElem? (i := 37) rfl)) rfl
set_option maxRecDepth 20000 in
theorem zm_1_39 : Cond.lays "AnswerSquare$Text" "AnswerSquare$Text" "start" "I" ∈ ztbl := zg (zt_1 (List.mem_of_getElem? (i := 39) rfl)) rfl
set_option maxRecDepth 20000 in
theorem zm_1_41 : Cond.lays "AnswerSquare$Text" "AnswerSquare$Text" "behind" "I" ∈ ztbl := zg (zt_1 (List.mem_of_getElem? (i := 41) rfl)) rfl
set_option maxRecDepth 20000 in
theorem zm_1_43 : Cond.lays "AnswerSquare$Text" "AnswerSquare$Text" "value" "I" ∈ ztbl := zg (zt_1 (List.mem_of_getElem? (i := 43) rfl)) rfl
theorem zu_X2 : ∀ w ∈ u_ws RX2 TX2 6, w ∈ ztbl := by
  intro w hw
  obtain ⟨k, hk, rfl⟩ := List.mem_map.mp hw
  have hk := List.mem_range.mp hk
  rcases (show k = 0 ∨ k = 1 ∨ k = 2 ∨ k = 3 ∨ k = 4 ∨ k = 5 by omega) with rfl | rfl | rfl | rfl | rfl | rfl
  · exact zm_1_33
  · exact zm_1_35
  · exact zm_1_37
  · exact zm_1_39
  · exact zm_1_41
  · exact zm_1_43
set_option maxRecDepth 20000 in
theorem zm_1_149 : Cond.laysFinal "AnswerSquare" "AnswerSquare" "text" "LAnswerSquare$Text;" ∈ ztbl := zg (zt_1 (List.mem_of_getElem? (i := 149) rfl)) rfl
set_option maxRecDepth 20000 in
theorem zm_1_151 : Cond.lays "AnswerSquare" "AnswerSquare" "told" "LAnswerSquare$Duchy;" ∈ ztbl := zg (zt_1 (List.mem_of_getElem? (i := 151) rfl)) rfl
set_option maxRecDepth 20000 in
theorem zm_1_153 : Cond.lays "AnswerSquare" "AnswerSquare" "spare" "LAnswerSquare$Duchy;" ∈ ztbl := zg (zt_1 (List.mem_of_getElem? (i := 153) rfl)) rfl
set_option maxRecDepth 20000 in
theorem zm_1_155 : Cond.laysFinal "AnswerSquare" "AnswerSquare" "present" "LAnswerSquare$Moment;" ∈ ztbl := zg (zt_1 (List.mem_of_getElem? (i := 155) rfl)) rfl
set_option maxRecDepth 20000 in
theorem zm_1_157 : Cond.laysFinal "AnswerSquare" "AnswerSquare" "firstImage" "LAnswerSquare$Moment;" ∈ ztbl := zg (zt_1 (List.mem_of_getElem? (i := 157) rfl)) rfl
set_option maxRecDepth 20000 in
theorem zm_1_159 : Cond.laysFinal "AnswerSquare" "AnswerSquare" "secondImage" "LAnswerSquare$Moment;" ∈ ztbl := zg (zt_1 (List.mem_of_getElem? (i := 159) rfl)) rfl
set_option maxRecDepth 20000 in
theorem zm_1_161 : Cond.laysFinal "AnswerSquare" "AnswerSquare" "toldAhead" "[I" ∈ ztbl := zg (zt_1 (List.mem_of_getElem? (i := 161) rfl)) rfl
set_option maxRecDepth 20000 in
theorem zm_1_163 : Cond.lays "AnswerSquare" "AnswerSquare" "toldCount" "I" ∈ ztbl := zg (zt_1 (List.mem_of_getElem? (i := 163) rfl)) rfl
set_option maxRecDepth 20000 in
theorem zm_1_165 : Cond.laysFinal "AnswerSquare" "AnswerSquare" "layers" "[I" ∈ ztbl := zg (zt_1 (List.mem_of_getElem? (i := 165) rfl)) rfl
set_option maxRecDepth 20000 in
theorem zm_1_167 : Cond.laysFinal "AnswerSquare" "AnswerSquare" "ways" "[I" ∈ ztbl := zg (zt_1 (List.mem_of_getElem? (i := 167) rfl)) rfl
set_option maxRecDepth 20000 in
theorem zm_1_169 : Cond.lays "AnswerSquare" "AnswerSquare" "traced" "J" ∈ ztbl := zg (zt_1 (List.mem_of_getElem? (i := 169) rfl)) rfl
theorem zu_X3 : ∀ w ∈ u_ws RX3 TX3 11, w ∈ ztbl := by
  intro w hw
  obtain ⟨k, hk, rfl⟩ := List.mem_map.mp hw
  have hk := List.mem_range.mp hk
  rcases (show k = 0 ∨ k = 1 ∨ k = 2 ∨ k = 3 ∨ k = 4 ∨ k = 5 ∨ k = 6 ∨ k = 7 ∨ k = 8 ∨ k = 9 ∨ k = 10 by omega) with rfl | rfl | rfl | rfl | rfl | rfl | rfl | rfl | rfl | rfl | rfl
  · exact zm_1_149
  · exact zm_1_151
  · exact zm_1_153
  · exact zm_1_155
  · exact zm_1_157
  · exact zm_1_159
  · exact zm_1_161
  · exact zm_1_163
  · exact zm_1_165
  · exact zm_1_167
  · exact zm_1_169
set_option maxRecDepth 20000 in
theorem zm_3_103 : Cond.lays "AnswerSquareModel" "AnswerSquareModel" "trace" "J" ∈ ztbl := zg (zt_3 (List.mem_of_getElem? (i := 103) rfl)) rfl
set_option maxRecDepth 20000 in
theorem zm_3_105 : Cond.laysFinal "AnswerSquareModel" "AnswerSquareModel" "text" "[B" ∈ ztbl := zg (zt_3 (List.mem_of_getElem? (i := 105) rfl)) rfl
set_option maxRecDepth 20000 in
theorem zm_3_107 : Cond.lays "AnswerSquareModel" "AnswerSquareModel" "typed" "I" ∈ ztbl := zg (zt_3 (List.mem_of_getElem? (i := 107) rfl)) rfl
set_option maxRecDepth 20000 in
theorem zm_3_109 : Cond.laysFinal "AnswerSquareModel" "AnswerSquareModel" "sayings" "[I" ∈ ztbl := zg (zt_3 (List.mem_of_getElem? (i := 109) rfl)) rfl
set_option maxRecDepth 20000 in
theorem zm_3_111 : Cond.laysFinal "AnswerSquareModel" "AnswerSquareModel" "worthy" "[I" ∈ ztbl := zg (zt_3 (List.mem_of_getElem? (i := 111) rfl)) rfl
set_option maxRecDepth 20000 in
theorem zm_3_113 : Cond.laysFinal "AnswerSquareModel" "AnswerSquareModel" "answers" "[I" ∈ ztbl := zg (zt_3 (List.mem_of_getElem? (i := 113) rfl)) rfl
set_option maxRecDepth 20000 in
theorem zm_3_115 : Cond.laysFinal "AnswerSquareModel" "AnswerSquareModel" "sound" "[I" ∈ ztbl := zg (zt_3 (List.mem_of_getElem? (i := 115) rfl)) rfl
set_option maxRecDepth 20000 in
theorem zm_3_117 : Cond.laysFinal "AnswerSquareModel" "AnswerSquareModel" "people" "[I" ∈ ztbl := zg (zt_3 (List.mem_of_getElem? (i := 117) rfl)) rfl
set_option maxRecDepth 20000 in
theorem zm_3_119 : Cond.laysFinal "AnswerSquareModel" "AnswerSquareModel" "knows" "[I" ∈ ztbl := zg (zt_3 (List.mem_of_getElem? (i := 119) rfl)) rfl
set_option maxRecDepth 20000 in
theorem zm_3_121 : Cond.laysFinal "AnswerSquareModel" "AnswerSquareModel" "old" "[I" ∈ ztbl := zg (zt_3 (List.mem_of_getElem? (i := 121) rfl)) rfl
set_option maxRecDepth 20000 in
theorem zm_3_123 : Cond.lays "AnswerSquareModel" "AnswerSquareModel" "oldTold" "Z" ∈ ztbl := zg (zt_3 (List.mem_of_getElem? (i := 123) rfl)) rfl
set_option maxRecDepth 20000 in
theorem zm_3_125 : Cond.lays "AnswerSquareModel" "AnswerSquareModel" "at" "I" ∈ ztbl := zg (zt_3 (List.mem_of_getElem? (i := 125) rfl)) rfl
set_option maxRecDepth 20000 in
theorem zm_3_127 : Cond.lays "AnswerSquareModel" "AnswerSquareModel" "start" "I" ∈ ztbl := zg (zt_3 (List.mem_of_getElem? (i := 127) rfl)) rfl
set_option maxRecDepth 20000 in
theorem zm_3_129 : Cond.lays "AnswerSquareModel" "AnswerSquareModel" "sort" "I" ∈ ztbl := zg (zt_3 (List.mem_of_getElem? (i := 129) rfl)) rfl
set_option maxRecDepth 20000 in
theorem zm_3_131 : Cond.lays "AnswerSquareModel" "AnswerSquareModel" "value" "I" ∈ ztbl := zg (zt_3 (List.mem_of_getElem? (i := 131) rfl)) rfl
set_option maxRecDepth 20000 in
theorem zm_3_133 : Cond.lays "AnswerSquareModel" "AnswerSquareModel" "fault" "I" ∈ ztbl := zg (zt_3 (List.mem_of_getElem? (i := 133) rfl)) rfl
set_option maxRecDepth 20000 in
theorem zm_3_135 : Cond.laysFinal "AnswerSquareModel" "AnswerSquareModel" "now" "[I" ∈ ztbl := zg (zt_3 (List.mem_of_getElem? (i := 135) rfl)) rfl
set_option maxRecDepth 20000 in
theorem zm_3_137 : Cond.laysFinal "AnswerSquareModel" "AnswerSquareModel" "isKept" "[Z" ∈ ztbl := zg (zt_3 (List.mem_of_getElem? (i := 137) rfl)) rfl
set_option maxRecDepth 20000 in
theorem zm_3_139 : Cond.laysFinal "AnswerSquareModel" "AnswerSquareModel" "toldAhead" "[I" ∈ ztbl := zg (zt_3 (List.mem_of_getElem? (i := 139) rfl)) rfl
set_option maxRecDepth 20000 in
theorem zm_3_141 : Cond.laysFinal "AnswerSquareModel" "AnswerSquareModel" "toldBehind" "[I" ∈ ztbl := zg (zt_3 (List.mem_of_getElem? (i := 141) rfl)) rfl
set_option maxRecDepth 20000 in
theorem zm_3_143 : Cond.lays "AnswerSquareModel" "AnswerSquareModel" "told" "I" ∈ ztbl := zg (zt_3 (List.mem_of_getElem? (i := 143) rfl)) rfl
set_option maxRecDepth 20000 in
theorem zm_3_145 : Cond.laysFinal "AnswerSquareModel" "AnswerSquareModel" "ways" "[I" ∈ ztbl := zg (zt_3 (List.mem_of_getElem? (i := 145) rfl)) rfl
theorem zu_X4 : ∀ w ∈ u_ws RX4 TX4 22, w ∈ ztbl := by
  intro w hw
  obtain ⟨k, hk, rfl⟩ := List.mem_map.mp hw
  have hk := List.mem_range.mp hk
  rcases (show k = 0 ∨ k = 1 ∨ k = 2 ∨ k = 3 ∨ k = 4 ∨ k = 5 ∨ k = 6 ∨ k = 7 ∨ k = 8 ∨ k = 9 ∨ k = 10 ∨ k = 11 ∨ k = 12 ∨ k = 13 ∨ k = 14 ∨ k = 15 ∨ k = 16 ∨ k = 17 ∨ k = 18 ∨ k = 19 ∨ k = 20 ∨ k = 21 by omega) with rfl | rfl | rfl | rfl | rfl | rfl | rfl | rfl | rfl | rfl | rfl | rfl | rfl | rfl | rfl | rfl | rfl | rfl | rfl | rfl | rfl | rfl
  · exact zm_3_103
  · exact zm_3_105
  · exact zm_3_107
  · exact zm_3_109
  · exact zm_3_111
  · exact zm_3_113
  · exact zm_3_115
  · exact zm_3_117
  · exact zm_3_119
  · exact zm_3_121
  · exact zm_3_123
  · exact zm_3_125
  · exact zm_3_127
  · exact zm_3_129
  · exact zm_3_131
  · exact zm_3_133
  · exact zm_3_135
  · exact zm_3_137
  · exact zm_3_139
  · exact zm_3_141
  · exact zm_3_143
  · exact zm_3_145
-- the words of nest mates
def znest : List Cond := [Cond.methodLinkNest "AnswerSquare" (11 : Nat) ({ cls := "AnswerSquare$Text", name := "<init>", desc := "()V" } : MethodName) "AnswerSquare", Cond.fieldLinkNest "AnswerSquare" (61 : Nat) "AnswerSquare$Text" "length" "I" "AnswerSquare", Cond.fieldLinkNest "AnswerSquare$Duchy" (43 : Nat) "AnswerSquare$Text" "token" "I" "AnswerSquare", Cond.fieldLinkNest "AnswerSquare$Duchy" (50 : Nat) "AnswerSquare$Text" "start" "I" "AnswerSquare", Cond.fieldLinkNest "AnswerSquare$Duchy" (59 : Nat) "AnswerSquare$Text" "value" "I" "AnswerSquare", Cond.methodLinkNest "AnswerSquare" (18 : Nat) ({ cls := "AnswerSquare$Duchy", name := "<init>", desc := "()V" } : MethodName) "AnswerSquare", Cond.fieldLinkNest "AnswerSquare" (84 : Nat) "AnswerSquare$Duchy" "worthy" "[I" "AnswerSquare", Cond.fieldLinkNest "AnswerSquare" (87 : Nat) "AnswerSquare$Duchy" "answers" "[I" "AnswerSquare", Cond.fieldLinkNest "AnswerSquare" (100 : Nat) "AnswerSquare$Duchy" "knows" "[I" "AnswerSquare", Cond.fieldLinkNest "AnswerSquare" (207 : Nat) "AnswerSquare$Duchy" "sayings" "I" "AnswerSquare", Cond.fieldLinkNest "AnswerSquare" (280 : Nat) "AnswerSquare$Duchy" "people" "I" "AnswerSquare", Cond.fieldLinkNest "AnswerSquare" (137 : Nat) "AnswerSquare$Duchy" "old" "I" "AnswerSquare", Cond.fieldLinkNest "AnswerSquare" (210 : Nat) "AnswerSquare$Duchy" "soundBits" "I" "AnswerSquare", Cond.fieldLinkNest "AnswerSquare" (195 : Nat) "AnswerSquare$Duchy" "sayable" "I" "AnswerSquare", Cond.methodLinkNest "AnswerSquare" (28 : Nat) ({ cls := "AnswerSquare$Moment", name := "<init>", desc := "()V" } : MethodName) "AnswerSquare", Cond.fieldLinkNest "AnswerSquare" (116 : Nat) "AnswerSquare$Moment" "which" "[I" "AnswerSquare", Cond.fieldLinkNest "AnswerSquare" (119 : Nat) "AnswerSquare$Moment" "at" "[I" "AnswerSquare", Cond.fieldLinkNest "AnswerSquare" (122 : Nat) "AnswerSquare$Moment" "by" "[I" "AnswerSquare", Cond.fieldLinkNest "AnswerSquare" (125 : Nat) "AnswerSquare$Moment" "to" "[I" "AnswerSquare", Cond.fieldLinkNest "AnswerSquare" (128 : Nat) "AnswerSquare$Moment" "root" "[I" "AnswerSquare", Cond.fieldLinkNest "AnswerSquare" (131 : Nat) "AnswerSquare$Moment" "far" "[I" "AnswerSquare", Cond.fieldLinkNest "AnswerSquare" (147 : Nat) "AnswerSquare$Moment" "size" "I" "AnswerSquare", Cond.fieldLinkNest "AnswerSquare" (158 : Nat) "AnswerSquare$Moment" "clock" "I" "AnswerSquare", Cond.fieldLinkNest "AnswerSquare" (164 : Nat) "AnswerSquare$Moment" "undoable" "I" "AnswerSquare", Cond.fieldLinkNest "AnswerSquare" (71 : Nat) "AnswerSquare$Moment" "kept" "Z" "AnswerSquare", Cond.methodLinkNest "AnswerSquare" (57 : Nat) ({ cls := "AnswerSquare$Text", name := "put", desc := "(I)Z" } : MethodName) "AnswerSquare", Cond.methodLinkNest "AnswerSquare" (64 : Nat) ({ cls := "AnswerSquare$Duchy", name := "readFrom", desc := "(LAnswerSquare$Text;)I" } : MethodName) "AnswerSquare", Cond.methodLinkNest "AnswerSquare$Duchy" (38 : Nat) ({ cls := "AnswerSquare$Text", name := "rewind", desc := "()V" } : MethodName) "AnswerSquare", Cond.methodLinkNest "AnswerSquare$Duchy" (53 : Nat) ({ cls := "AnswerSquare$Text", name := "advance", desc := "()V" } : MethodName) "AnswerSquare", Cond.methodLinkNest "AnswerSquare$Duchy" (66 : Nat) ({ cls := "AnswerSquare$Text", name := "isNumber", desc := "(II)Z" } : MethodName) "AnswerSquare", Cond.methodLinkNest "AnswerSquare" (68 : Nat) ({ cls := "AnswerSquare$Moment", name := "reset", desc := "()V" } : MethodName) "AnswerSquare", Cond.methodLinkNest "AnswerSquare" (78 : Nat) ({ cls := "AnswerSquare$Duchy", name := "hasSaying", desc := "(I)Z" } : MethodName) "AnswerSquare", Cond.methodLinkNest "AnswerSquare" (81 : Nat) ({ cls := "AnswerSquare$Duchy", name := "isSound", desc := "(I)Z" } : MethodName) "AnswerSquare", Cond.methodLinkNest "AnswerSquare" (90 : Nat) ({ cls := "AnswerSquare$Duchy", name := "knowers", desc := "(I)I" } : MethodName) "AnswerSquare", Cond.methodLinkNest "AnswerSquare" (94 : Nat) ({ cls := "AnswerSquare$Moment", name := "timesIn", desc := "(I)I" } : MethodName) "AnswerSquare", Cond.methodLinkNest "AnswerSquare" (97 : Nat) ({ cls := "AnswerSquare$Duchy", name := "hasPerson", desc := "(I)Z" } : MethodName) "AnswerSquare", Cond.methodLinkNest "AnswerSquare" (185 : Nat) ({ cls := "AnswerSquare$Moment", name := "there", desc := "(II)I" } : MethodName) "AnswerSquare", Cond.methodLinkNest "AnswerSquare" (107 : Nat) ({ cls := "AnswerSquare$Duchy", name := "answering", desc := "(I)I" } : MethodName) "AnswerSquare", Cond.methodLinkNest "AnswerSquare" (110 : Nat) ({ cls := "AnswerSquare$Moment", name := "timesBy", desc := "(I)I" } : MethodName) "AnswerSquare", Cond.methodLinkNest "AnswerSquare" (113 : Nat) ({ cls := "AnswerSquare$Moment", name := "has", desc := "(I)Z" } : MethodName) "AnswerSquare", Cond.methodLinkNest "AnswerSquare" (134 : Nat) ({ cls := "AnswerSquare$Moment", name := "isOpen", desc := "(I)Z" } : MethodName) "AnswerSquare", Cond.methodLinkNest "AnswerSquare" (140 : Nat) ({ cls := "AnswerSquare$Moment", name := "isThere", desc := "(III)Z" } : MethodName) "AnswerSquare", Cond.methodLinkNest "AnswerSquare" (144 : Nat) ({ cls := "AnswerSquare$Moment", name := "add", desc := "(III)Z" } : MethodName) "AnswerSquare", Cond.methodLinkNest "AnswerSquare" (150 : Nat) ({ cls := "AnswerSquare$Moment", name := "latestOf", desc := "(II)I" } : MethodName) "AnswerSquare", Cond.methodLinkNest "AnswerSquare" (154 : Nat) ({ cls := "AnswerSquare$Moment", name := "passHour", desc := "()Z" } : MethodName) "AnswerSquare", Cond.methodLinkNest "AnswerSquare" (161 : Nat) ({ cls := "AnswerSquare$Moment", name := "takeBack", desc := "()Z" } : MethodName) "AnswerSquare", Cond.methodLinkNest "AnswerSquare" (167 : Nat) ({ cls := "AnswerSquare$Moment", name := "openOnes", desc := "()I" } : MethodName) "AnswerSquare", Cond.methodLinkNest "AnswerSquare" (170 : Nat) ({ cls := "AnswerSquare$Moment", name := "farthest", desc := "()I" } : MethodName) "AnswerSquare", Cond.methodLinkNest "AnswerSquare" (173 : Nat) ({ cls := "AnswerSquare$Moment", name := "lastOpen", desc := "()I" } : MethodName) "AnswerSquare", Cond.methodLinkNest "AnswerSquare" (176 : Nat) ({ cls := "AnswerSquare$Moment", name := "firstAnswerers", desc := "()I" } : MethodName) "AnswerSquare", Cond.methodLinkNest "AnswerSquare" (182 : Nat) ({ cls := "AnswerSquare$Duchy", name := "worthOf", desc := "(I)I" } : MethodName) "AnswerSquare", Cond.methodLinkNest "AnswerSquare" (198 : Nat) ({ cls := "AnswerSquare$Duchy", name := "answeredBy", desc := "(I)I" } : MethodName) "AnswerSquare", Cond.methodLinkNest "AnswerSquare" (204 : Nat) ({ cls := "AnswerSquare$Duchy", name := "hasAll", desc := "(I)Z" } : MethodName) "AnswerSquare", Cond.methodLinkNest "AnswerSquare" (225 : Nat) ({ cls := "AnswerSquare$Duchy", name := "reachable", desc := "(I)I" } : MethodName) "AnswerSquare", Cond.methodLinkNest "AnswerSquare" (231 : Nat) ({ cls := "AnswerSquare$Moment", name := "aheadOf", desc := "(I)I" } : MethodName) "AnswerSquare", Cond.methodLinkNest "AnswerSquare" (237 : Nat) ({ cls := "AnswerSquare$Duchy", name := "canFollow", desc := "(II)Z" } : MethodName) "AnswerSquare", Cond.methodLinkNest "AnswerSquare" (261 : Nat) ({ cls := "AnswerSquare$Duchy", name := "answersCount", desc := "(I)I" } : MethodName) "AnswerSquare", Cond.methodLinkNest "AnswerSquare" (276 : Nat) ({ cls := "AnswerSquare$Moment", name := "become", desc := "(LAnswerSquare$Moment;)V" } : MethodName) "AnswerSquare"]
theorem znest_in : ∀ w ∈ znest, w ∈ lw_tbl := by
  intro w hw
  simp only [znest, List.mem_cons, List.not_mem_nil, or_false] at hw
  rcases hw with rfl | rfl | rfl | rfl | rfl | rfl | rfl | rfl | rfl | rfl | rfl | rfl | rfl | rfl | rfl | rfl | rfl | rfl | rfl | rfl | rfl | rfl | rfl | rfl | rfl | rfl | rfl | rfl | rfl | rfl | rfl | rfl | rfl | rfl | rfl | rfl | rfl | rfl | rfl | rfl | rfl | rfl | rfl | rfl | rfl | rfl | rfl | rfl | rfl | rfl | rfl | rfl | rfl | rfl | rfl | rfl | rfl | rfl
  · exact zt_1 (List.mem_of_getElem? (i := 19) rfl)
  · exact zt_1 (List.mem_of_getElem? (i := 25) rfl)
  · exact zt_1 (List.mem_of_getElem? (i := 27) rfl)
  · exact zt_1 (List.mem_of_getElem? (i := 29) rfl)
  · exact zt_1 (List.mem_of_getElem? (i := 32) rfl)
  · exact zt_1 (List.mem_of_getElem? (i := 49) rfl)
  · exact zt_1 (List.mem_of_getElem? (i := 54) rfl)
  · exact zt_1 (List.mem_of_getElem? (i := 56) rfl)
  · exact zt_1 (List.mem_of_getElem? (i := 58) rfl)
  · exact zt_1 (List.mem_of_getElem? (i := 60) rfl)
  · exact zt_1 (List.mem_of_getElem? (i := 62) rfl)
  · exact zt_1 (List.mem_of_getElem? (i := 64) rfl)
  · exact zt_1 (List.mem_of_getElem? (i := 67) rfl)
  · exact zt_1 (List.mem_of_getElem? (i := 69) rfl)
  · exact zt_1 (List.mem_of_getElem? (i := 91) rfl)
  · exact zt_1 (List.mem_of_getElem? (i := 96) rfl)
  · exact zt_1 (List.mem_of_getElem? (i := 98) rfl)
  · exact zt_1 (List.mem_of_getElem? (i := 100) rfl)
  · exact zt_1 (List.mem_of_getElem? (i := 102) rfl)
  · exact zt_1 (List.mem_of_getElem? (i := 104) rfl)
  · exact zt_1 (List.mem_of_getElem? (i := 106) rfl)
  · exact zt_1 (List.mem_of_getElem? (i := 108) rfl)
  · exact zt_1 (List.mem_of_getElem? (i := 110) rfl)
  · exact zt_1 (List.mem_of_getElem? (i := 112) rfl)
  · exact zt_1 (List.mem_of_getElem? (i := 114) rfl)
  · exact zt_1 (List.mem_of_getElem? (i := 176) rfl)
  · exact zt_1 (List.mem_of_getElem? (i := 188) rfl)
  · exact zt_1 (List.mem_of_getElem? (i := 192) rfl)
  · exact zt_1 (List.mem_of_getElem? (i := 229) rfl)
  · exact zt_1 (List.mem_of_getElem? (i := 230) rfl)
  · exact zt_2 (List.mem_of_getElem? (i := 5) rfl)
  · exact zt_2 (List.mem_of_getElem? (i := 17) rfl)
  · exact zt_2 (List.mem_of_getElem? (i := 21) rfl)
  · exact zt_2 (List.mem_of_getElem? (i := 25) rfl)
  · exact zt_2 (List.mem_of_getElem? (i := 29) rfl)
  · exact zt_2 (List.mem_of_getElem? (i := 37) rfl)
  · exact zt_2 (List.mem_of_getElem? (i := 45) rfl)
  · exact zt_2 (List.mem_of_getElem? (i := 57) rfl)
  · exact zt_2 (List.mem_of_getElem? (i := 66) rfl)
  · exact zt_2 (List.mem_of_getElem? (i := 74) rfl)
  · exact zt_2 (List.mem_of_getElem? (i := 75) rfl)
  · exact zt_2 (List.mem_of_getElem? (i := 83) rfl)
  · exact zt_2 (List.mem_of_getElem? (i := 88) rfl)
  · exact zt_2 (List.mem_of_getElem? (i := 101) rfl)
  · exact zt_2 (List.mem_of_getElem? (i := 109) rfl)
  · exact zt_2 (List.mem_of_getElem? (i := 117) rfl)
  · exact zt_2 (List.mem_of_getElem? (i := 125) rfl)
  · exact zt_2 (List.mem_of_getElem? (i := 130) rfl)
  · exact zt_2 (List.mem_of_getElem? (i := 134) rfl)
  · exact zt_2 (List.mem_of_getElem? (i := 138) rfl)
  · exact zt_2 (List.mem_of_getElem? (i := 150) rfl)
  · exact zt_2 (List.mem_of_getElem? (i := 162) rfl)
  · exact zt_2 (List.mem_of_getElem? (i := 177) rfl)
  · exact zt_2 (List.mem_of_getElem? (i := 186) rfl)
  · exact zt_2 (List.mem_of_getElem? (i := 224) rfl)
  · exact zt_2 (List.mem_of_getElem? (i := 236) rfl)
  · exact zt_3 (List.mem_of_getElem? (i := 15) rfl)
  · exact zt_3 (List.mem_of_getElem? (i := 48) rfl)
def zisNest (w : Cond) : Bool := match w with
  | .fieldLinkNest .. => true
  | .methodLinkNest .. => true
  | _ => false
theorem znest_is : znest.all zisNest = true := rfl
/-- field k of class ci, as the pool entry 'idx' of class 'own' names it -/
def zF (own : String) (idx ci k : Nat) : Prop := ∃ (C : String) (T : u_T) (N : Nat) (ty0 : Nat → FieldType), vwCl[ci]? = some (C, T, N) ∧ k < N ∧ (∀ w ∈ u_ws C T N, w ∈ ztbl) ∧ (∀ k, k < N → parseFieldDescriptor (T k).2.2.1 = some (ty0 k)) ∧ (∀ a, a < N → ∀ b, b < N → a ≠ b → (T a).2.1 ≠ (T b).2.1) ∧
  (Cond.fieldLink own idx (T k).1 (T k).2.1 (T k).2.2.1 ∈ ztbl ∨ ∃ host, Cond.fieldLinkNest own idx (T k).1 (T k).2.1 (T k).2.2.1 host ∈ znest)
/-- ... and it may be written, with values of this type -/
def zFp (own : String) (idx ci k : Nat) (ty : FieldType) : Prop := zF own idx ci k ∧ ∃ q, vwCl[ci]? = some q ∧ (q.2.1 k).2.2.2 = false ∧ parseFieldDescriptor (q.2.1 k).2.2.1 = some ty
abbrev ZM : Type := MethodName × ByteArray × Nat × Option FieldType
/-- what the tables say of a method that may be called: of an object's, of a class's -/
def zYv (y : ZM) (n : Nat) : Prop := Cond.code y.1 y.2.1 y.2.2.1 y.2.2.2 ∈ ztbl ∧ Cond.initialized y.1.cls ∈ ztbl ∧ Cond.instanceMethod y.1 ∈ ztbl ∧ Cond.selects y.1.cls y.1 y.1 ∈ ztbl ∧ (y.1.cls ≠ "java/lang/invoke/MethodHandle" ∧ y.1.cls ≠ "java/lang/invoke/VarHandle") ∧ (parseMethodDescriptor y.1.desc).map (fun d => d.parameters.length) = some n ∧ y.2.2.1 ≤ 11
def zYs (y : ZM) (n : Nat) : Prop := Cond.code y.1 y.2.1 y.2.2.1 y.2.2.2 ∈ ztbl ∧ Cond.initialized y.1.cls ∈ ztbl ∧ Cond.static y.1 ∈ ztbl ∧ (y.1.cls ≠ "java/lang/invoke/MethodHandle" ∧ y.1.cls ≠ "java/lang/invoke/VarHandle") ∧ (parseMethodDescriptor y.1.desc).map (fun d => d.parameters.length) = some n ∧ y.2.2.1 ≤ 11
def zLk (own : String) (idx : Nat) (y : ZM) : Prop := Cond.methodLink own idx y.1 ∈ ztbl ∨ ∃ host, Cond.methodLinkNest own idx y.1 host ∈ znest
set_option maxRecDepth 20000 in
theorem zm_1_23 : Cond.fieldLink "AnswerSquare$Text" (9 : Nat) "AnswerSquare$Text" "bytes" "[I" ∈ ztbl := zg (zt_1 (List.mem_of_getElem? (i := 23) rfl)) rfl
set_option maxRecDepth 20000 in
theorem zf_X2_9 : zF "AnswerSquare$Text" 9 2 0 := ⟨RX2, TX2, 6, tyX2, rfl, by decide, zu_X2, tyX2_ok, nmX2, Or.inl zm_1_23⟩
set_option maxRecDepth 20000 in
theorem zm_1_24 : Cond.fieldLink "AnswerSquare$Text" (15 : Nat) "AnswerSquare$Text" "length" "I" ∈ ztbl := zg (zt_1 (List.mem_of_getElem? (i := 24) rfl)) rfl
set_option maxRecDepth 20000 in
theorem zf_X2_15 : zF "AnswerSquare$Text" 15 2 1 := ⟨RX2, TX2, 6, tyX2, rfl, by decide, zu_X2, tyX2_ok, nmX2, Or.inl zm_1_24⟩
theorem zf_X2_15p : zFp "AnswerSquare$Text" 15 2 1 .int := ⟨zf_X2_15, _, rfl, rfl, by decide +kernel⟩
set_option maxRecDepth 20000 in
theorem zf_X3_61 : zF "AnswerSquare" 61 2 1 := ⟨RX2, TX2, 6, tyX2, rfl, by decide, zu_X2, tyX2_ok, nmX2, Or.inr ⟨_, List.mem_of_getElem? (i := 1) rfl⟩⟩
theorem zf_X3_61p : zFp "AnswerSquare" 61 2 1 .int := ⟨zf_X3_61, _, rfl, rfl, by decide +kernel⟩
set_option maxRecDepth 20000 in
theorem zm_1_26 : Cond.fieldLink "AnswerSquare$Text" (19 : Nat) "AnswerSquare$Text" "token" "I" ∈ ztbl := zg (zt_1 (List.mem_of_getElem? (i := 26) rfl)) rfl
set_option maxRecDepth 20000 in
theorem zf_X2_19 : zF "AnswerSquare$Text" 19 2 2 := ⟨RX2, TX2, 6, tyX2, rfl, by decide, zu_X2, tyX2_ok, nmX2, Or.inl zm_1_26⟩
theorem zf_X2_19p : zFp "AnswerSquare$Text" 19 2 2 .int := ⟨zf_X2_19, _, rfl, rfl, by decide +kernel⟩
set_option maxRecDepth 20000 in
theorem zf_X0_43 : zF "AnswerSquare$Duchy" 43 2 2 := ⟨RX2, TX2, 6, tyX2, rfl, by decide, zu_X2, tyX2_ok, nmX2, Or.inr ⟨_, List.mem_of_getElem? (i := 2) rfl⟩⟩
theorem zf_X0_43p : zFp "AnswerSquare$Duchy" 43 2 2 .int := ⟨zf_X0_43, _, rfl, rfl, by decide +kernel⟩
set_option maxRecDepth 20000 in
theorem zm_1_28 : Cond.fieldLink "AnswerSquare$Text" (22 : Nat) "AnswerSquare$Text" "start" "I" ∈ ztbl := zg (zt_1 (List.mem_of_getElem? (i := 28) rfl)) rfl
set_option maxRecDepth 20000 in
theorem zf_X2_22 : zF "AnswerSquare$Text" 22 2 3 := ⟨RX2, TX2, 6, tyX2, rfl, by decide, zu_X2, tyX2_ok, nmX2, Or.inl zm_1_28⟩
theorem zf_X2_22p : zFp "AnswerSquare$Text" 22 2 3 .int := ⟨zf_X2_22, _, rfl, rfl, by decide +kernel⟩
set_option maxRecDepth 20000 in
theorem zf_X0_50 : zF "AnswerSquare$Duchy" 50 2 3 := ⟨RX2, TX2, 6, tyX2, rfl, by decide, zu_X2, tyX2_ok, nmX2, Or.inr ⟨_, List.mem_of_getElem? (i := 3) rfl⟩⟩
theorem zf_X0_50p : zFp "AnswerSquare$Duchy" 50 2 3 .int := ⟨zf_X0_50, _, rfl, rfl, by decide +kernel⟩
set_option maxRecDepth 20000 in
theorem zm_1_30 : Cond.fieldLink "AnswerSquare$Text" (25 : Nat) "AnswerSquare$Text" "behind" "I" ∈ ztbl := zg (zt_1 (List.mem_of_getElem? (i := 30) rfl)) rfl
set_option maxRecDepth 20000 in
theorem zf_X2_25 : zF "AnswerSquare$Text" 25 2 4 := ⟨RX2, TX2, 6, tyX2, rfl, by decide, zu_X2, tyX2_ok, nmX2, Or.inl zm_1_30⟩
theorem zf_X2_25p : zFp "AnswerSquare$Text" 25 2 4 .int := ⟨zf_X2_25, _, rfl, rfl, by decide +kernel⟩
set_option maxRecDepth 20000 in
theorem zm_1_31 : Cond.fieldLink "AnswerSquare$Text" (28 : Nat) "AnswerSquare$Text" "value" "I" ∈ ztbl := zg (zt_1 (List.mem_of_getElem? (i := 31) rfl)) rfl
set_option maxRecDepth 20000 in
theorem zf_X2_28 : zF "AnswerSquare$Text" 28 2 5 := ⟨RX2, TX2, 6, tyX2, rfl, by decide, zu_X2, tyX2_ok, nmX2, Or.inl zm_1_31⟩
theorem zf_X2_28p : zFp "AnswerSquare$Text" 28 2 5 .int := ⟨zf_X2_28, _, rfl, rfl, by decide +kernel⟩
set_option maxRecDepth 20000 in
theorem zf_X0_59 : zF "AnswerSquare$Duchy" 59 2 5 := ⟨RX2, TX2, 6, tyX2, rfl, by decide, zu_X2, tyX2_ok, nmX2, Or.inr ⟨_, List.mem_of_getElem? (i := 4) rfl⟩⟩
theorem zf_X0_59p : zFp "AnswerSquare$Duchy" 59 2 5 .int := ⟨zf_X0_59, _, rfl, rfl, by decide +kernel⟩
set_option maxRecDepth 20000 in
theorem zm_1_53 : Cond.fieldLink "AnswerSquare$Duchy" (9 : Nat) "AnswerSquare$Duchy" "worthy" "[I" ∈ ztbl := zg (zt_1 (List.mem_of_getElem? (i := 53) rfl)) rfl
set_option maxRecDepth 20000 in
theorem zf_X0_9 : zF "AnswerSquare$Duchy" 9 0 0 := ⟨RX0, TX0, 9, tyX0, rfl, by decide, zu_X0, tyX0_ok, nmX0, Or.inl zm_1_53⟩
set_option maxRecDepth 20000 in
theorem zf_X3_84 : zF "AnswerSquare" 84 0 0 := ⟨RX0, TX0, 9, tyX0, rfl, by decide, zu_X0, tyX0_ok, nmX0, Or.inr ⟨_, List.mem_of_getElem? (i := 6) rfl⟩⟩
set_option maxRecDepth 20000 in
theorem zm_1_55 : Cond.fieldLink "AnswerSquare$Duchy" (15 : Nat) "AnswerSquare$Duchy" "answers" "[I" ∈ ztbl := zg (zt_1 (List.mem_of_getElem? (i := 55) rfl)) rfl
set_option maxRecDepth 20000 in
theorem zf_X0_15 : zF "AnswerSquare$Duchy" 15 0 1 := ⟨RX0, TX0, 9, tyX0, rfl, by decide, zu_X0, tyX0_ok, nmX0, Or.inl zm_1_55⟩
set_option maxRecDepth 20000 in
theorem zf_X3_87 : zF "AnswerSquare" 87 0 1 := ⟨RX0, TX0, 9, tyX0, rfl, by decide, zu_X0, tyX0_ok, nmX0, Or.inr ⟨_, List.mem_of_getElem? (i := 7) rfl⟩⟩
set_option maxRecDepth 20000 in
theorem zm_1_57 : Cond.fieldLink "AnswerSquare$Duchy" (18 : Nat) "AnswerSquare$Duchy" "knows" "[I" ∈ ztbl := zg (zt_1 (List.mem_of_getElem? (i := 57) rfl)) rfl
set_option maxRecDepth 20000 in
theorem zf_X0_18 : zF "AnswerSquare$Duchy" 18 0 2 := ⟨RX0, TX0, 9, tyX0, rfl, by decide, zu_X0, tyX0_ok, nmX0, Or.inl zm_1_57⟩
set_option maxRecDepth 20000 in
theorem zf_X3_100 : zF "AnswerSquare" 100 0 2 := ⟨RX0, TX0, 9, tyX0, rfl, by decide, zu_X0, tyX0_ok, nmX0, Or.inr ⟨_, List.mem_of_getElem? (i := 8) rfl⟩⟩
set_option maxRecDepth 20000 in
theorem zm_1_59 : Cond.fieldLink "AnswerSquare$Duchy" (25 : Nat) "AnswerSquare$Duchy" "sayings" "I" ∈ ztbl := zg (zt_1 (List.mem_of_getElem? (i := 59) rfl)) rfl
set_option maxRecDepth 20000 in
theorem zf_X0_25 : zF "AnswerSquare$Duchy" 25 0 3 := ⟨RX0, TX0, 9, tyX0, rfl, by decide, zu_X0, tyX0_ok, nmX0, Or.inl zm_1_59⟩
theorem zf_X0_25p : zFp "AnswerSquare$Duchy" 25 0 3 .int := ⟨zf_X0_25, _, rfl, rfl, by decide +kernel⟩
set_option maxRecDepth 20000 in
theorem zf_X3_207 : zF "AnswerSquare" 207 0 3 := ⟨RX0, TX0, 9, tyX0, rfl, by decide, zu_X0, tyX0_ok, nmX0, Or.inr ⟨_, List.mem_of_getElem? (i := 9) rfl⟩⟩
theorem zf_X3_207p : zFp "AnswerSquare" 207 0 3 .int := ⟨zf_X3_207, _, rfl, rfl, by decide +kernel⟩
set_option maxRecDepth 20000 in
theorem zm_1_61 : Cond.fieldLink "AnswerSquare$Duchy" (28 : Nat) "AnswerSquare$Duchy" "people" "I" ∈ ztbl := zg (zt_1 (List.mem_of_getElem? (i := 61) rfl)) rfl
set_option maxRecDepth 20000 in
theorem zf_X0_28 : zF "AnswerSquare$Duchy" 28 0 4 := ⟨RX0, TX0, 9, tyX0, rfl, by decide, zu_X0, tyX0_ok, nmX0, Or.inl zm_1_61⟩
theorem zf_X0_28p : zFp "AnswerSquare$Duchy" 28 0 4 .int := ⟨zf_X0_28, _, rfl, rfl, by decide +kernel⟩
set_option maxRecDepth 20000 in
theorem zf_X3_280 : zF "AnswerSquare" 280 0 4 := ⟨RX0, TX0, 9, tyX0, rfl, by decide, zu_X0, tyX0_ok, nmX0, Or.inr ⟨_, List.mem_of_getElem? (i := 10) rfl⟩⟩
theorem zf_X3_280p : zFp "AnswerSquare" 280 0 4 .int := ⟨zf_X3_280, _, rfl, rfl, by decide +kernel⟩
set_option maxRecDepth 20000 in
theorem zm_1_63 : Cond.fieldLink "AnswerSquare$Duchy" (21 : Nat) "AnswerSquare$Duchy" "old" "I" ∈ ztbl := zg (zt_1 (List.mem_of_getElem? (i := 63) rfl)) rfl
set_option maxRecDepth 20000 in
theorem zf_X0_21 : zF "AnswerSquare$Duchy" 21 0 5 := ⟨RX0, TX0, 9, tyX0, rfl, by decide, zu_X0, tyX0_ok, nmX0, Or.inl zm_1_63⟩
theorem zf_X0_21p : zFp "AnswerSquare$Duchy" 21 0 5 .int := ⟨zf_X0_21, _, rfl, rfl, by decide +kernel⟩
set_option maxRecDepth 20000 in
theorem zf_X3_137 : zF "AnswerSquare" 137 0 5 := ⟨RX0, TX0, 9, tyX0, rfl, by decide, zu_X0, tyX0_ok, nmX0, Or.inr ⟨_, List.mem_of_getElem? (i := 11) rfl⟩⟩
theorem zf_X3_137p : zFp "AnswerSquare" 137 0 5 .int := ⟨zf_X3_137, _, rfl, rfl, by decide +kernel⟩
set_option maxRecDepth 20000 in
theorem zm_1_65 : Cond.fieldLink "AnswerSquare$Duchy" (31 : Nat) "AnswerSquare$Duchy" "oldIsTold" "Z" ∈ ztbl := zg (zt_1 (List.mem_of_getElem? (i := 65) rfl)) rfl
set_option maxRecDepth 20000 in
theorem zf_X0_31 : zF "AnswerSquare$Duchy" 31 0 6 := ⟨RX0, TX0, 9, tyX0, rfl, by decide, zu_X0, tyX0_ok, nmX0, Or.inl zm_1_65⟩
theorem zf_X0_31p : zFp "AnswerSquare$Duchy" 31 0 6 .boolean := ⟨zf_X0_31, _, rfl, rfl, by decide +kernel⟩
set_option maxRecDepth 20000 in
theorem zm_1_66 : Cond.fieldLink "AnswerSquare$Duchy" (35 : Nat) "AnswerSquare$Duchy" "soundBits" "I" ∈ ztbl := zg (zt_1 (List.mem_of_getElem? (i := 66) rfl)) rfl
set_option maxRecDepth 20000 in
theorem zf_X0_35 : zF "AnswerSquare$Duchy" 35 0 7 := ⟨RX0, TX0, 9, tyX0, rfl, by decide, zu_X0, tyX0_ok, nmX0, Or.inl zm_1_66⟩
theorem zf_X0_35p : zFp "AnswerSquare$Duchy" 35 0 7 .int := ⟨zf_X0_35, _, rfl, rfl, by decide +kernel⟩
set_option maxRecDepth 20000 in
theorem zf_X3_210 : zF "AnswerSquare" 210 0 7 := ⟨RX0, TX0, 9, tyX0, rfl, by decide, zu_X0, tyX0_ok, nmX0, Or.inr ⟨_, List.mem_of_getElem? (i := 12) rfl⟩⟩
theorem zf_X3_210p : zFp "AnswerSquare" 210 0 7 .int := ⟨zf_X3_210, _, rfl, rfl, by decide +kernel⟩
set_option maxRecDepth 20000 in
theorem zm_1_68 : Cond.fieldLink "AnswerSquare$Duchy" (78 : Nat) "AnswerSquare$Duchy" "sayable" "I" ∈ ztbl := zg (zt_1 (List.mem_of_getElem? (i := 68) rfl)) rfl
set_option maxRecDepth 20000 in
theorem zf_X0_78 : zF "AnswerSquare$Duchy" 78 0 8 := ⟨RX0, TX0, 9, tyX0, rfl, by decide, zu_X0, tyX0_ok, nmX0, Or.inl zm_1_68⟩
theorem zf_X0_78p : zFp "AnswerSquare$Duchy" 78 0 8 .int := ⟨zf_X0_78, _, rfl, rfl, by decide +kernel⟩
set_option maxRecDepth 20000 in
theorem zf_X3_195 : zF "AnswerSquare" 195 0 8 := ⟨RX0, TX0, 9, tyX0, rfl, by decide, zu_X0, tyX0_ok, nmX0, Or.inr ⟨_, List.mem_of_getElem? (i := 13) rfl⟩⟩
theorem zf_X3_195p : zFp "AnswerSquare" 195 0 8 .int := ⟨zf_X3_195, _, rfl, rfl, by decide +kernel⟩
set_option maxRecDepth 20000 in
theorem zm_1_95 : Cond.fieldLink "AnswerSquare$Moment" (9 : Nat) "AnswerSquare$Moment" "which" "[I" ∈ ztbl := zg (zt_1 (List.mem_of_getElem? (i := 95) rfl)) rfl
set_option maxRecDepth 20000 in
theorem zf_X1_9 : zF "AnswerSquare$Moment" 9 1 0 := ⟨RX1, TX1, 11, tyX1, rfl, by decide, zu_X1, tyX1_ok, nmX1, Or.inl zm_1_95⟩
set_option maxRecDepth 20000 in
theorem zf_X3_116 : zF "AnswerSquare" 116 1 0 := ⟨RX1, TX1, 11, tyX1, rfl, by decide, zu_X1, tyX1_ok, nmX1, Or.inr ⟨_, List.mem_of_getElem? (i := 15) rfl⟩⟩
set_option maxRecDepth 20000 in
theorem zm_1_97 : Cond.fieldLink "AnswerSquare$Moment" (15 : Nat) "AnswerSquare$Moment" "at" "[I" ∈ ztbl := zg (zt_1 (List.mem_of_getElem? (i := 97) rfl)) rfl
set_option maxRecDepth 20000 in
theorem zf_X1_15 : zF "AnswerSquare$Moment" 15 1 1 := ⟨RX1, TX1, 11, tyX1, rfl, by decide, zu_X1, tyX1_ok, nmX1, Or.inl zm_1_97⟩
set_option maxRecDepth 20000 in
theorem zf_X3_119 : zF "AnswerSquare" 119 1 1 := ⟨RX1, TX1, 11, tyX1, rfl, by decide, zu_X1, tyX1_ok, nmX1, Or.inr ⟨_, List.mem_of_getElem? (i := 16) rfl⟩⟩
set_option maxRecDepth 20000 in
theorem zm_1_99 : Cond.fieldLink "AnswerSquare$Moment" (18 : Nat) "AnswerSquare$Moment" "by" "[I" ∈ ztbl := zg (zt_1 (List.mem_of_getElem? (i := 99) rfl)) rfl
set_option maxRecDepth 20000 in
theorem zf_X1_18 : zF "AnswerSquare$Moment" 18 1 2 := ⟨RX1, TX1, 11, tyX1, rfl, by decide, zu_X1, tyX1_ok, nmX1, Or.inl zm_1_99⟩
set_option maxRecDepth 20000 in
theorem zf_X3_122 : zF "AnswerSquare" 122 1 2 := ⟨RX1, TX1, 11, tyX1, rfl, by decide, zu_X1, tyX1_ok, nmX1, Or.inr ⟨_, List.mem_of_getElem? (i := 17) rfl⟩⟩
set_option maxRecDepth 20000 in
theorem zm_1_101 : Cond.fieldLink "AnswerSquare$Moment" (21 : Nat) "AnswerSquare$Moment" "to" "[I" ∈ ztbl := zg (zt_1 (List.mem_of_getElem? (i := 101) rfl)) rfl
set_option maxRecDepth 20000 in
theorem zf_X1_21 : zF "AnswerSquare$Moment" 21 1 3 := ⟨RX1, TX1, 11, tyX1, rfl, by decide, zu_X1, tyX1_ok, nmX1, Or.inl zm_1_101⟩
set_option maxRecDepth 20000 in
theorem zf_X3_125 : zF "AnswerSquare" 125 1 3 := ⟨RX1, TX1, 11, tyX1, rfl, by decide, zu_X1, tyX1_ok, nmX1, Or.inr ⟨_, List.mem_of_getElem? (i := 18) rfl⟩⟩
set_option maxRecDepth 20000 in
theorem zm_1_103 : Cond.fieldLink "AnswerSquare$Moment" (24 : Nat) "AnswerSquare$Moment" "root" "[I" ∈ ztbl := zg (zt_1 (List.mem_of_getElem? (i := 103) rfl)) rfl
set_option maxRecDepth 20000 in
theorem zf_X1_24 : zF "AnswerSquare$Moment" 24 1 4 := ⟨RX1, TX1, 11, tyX1, rfl, by decide, zu_X1, tyX1_ok, nmX1, Or.inl zm_1_103⟩
set_option maxRecDepth 20000 in
theorem zf_X3_128 : zF "AnswerSquare" 128 1 4 := ⟨RX1, TX1, 11, tyX1, rfl, by decide, zu_X1, tyX1_ok, nmX1, Or.inr ⟨_, List.mem_of_getElem? (i := 19) rfl⟩⟩
set_option maxRecDepth 20000 in
theorem zm_1_105 : Cond.fieldLink "AnswerSquare$Moment" (27 : Nat) "AnswerSquare$Moment" "far" "[I" ∈ ztbl := zg (zt_1 (List.mem_of_getElem? (i := 105) rfl)) rfl
set_option maxRecDepth 20000 in
theorem zf_X1_27 : zF "AnswerSquare$Moment" 27 1 5 := ⟨RX1, TX1, 11, tyX1, rfl, by decide, zu_X1, tyX1_ok, nmX1, Or.inl zm_1_105⟩
set_option maxRecDepth 20000 in
theorem zf_X3_131 : zF "AnswerSquare" 131 1 5 := ⟨RX1, TX1, 11, tyX1, rfl, by decide, zu_X1, tyX1_ok, nmX1, Or.inr ⟨_, List.mem_of_getElem? (i := 20) rfl⟩⟩
set_option maxRecDepth 20000 in
theorem zm_1_107 : Cond.fieldLink "AnswerSquare$Moment" (30 : Nat) "AnswerSquare$Moment" "size" "I" ∈ ztbl := zg (zt_1 (List.mem_of_getElem? (i := 107) rfl)) rfl
set_option maxRecDepth 20000 in
theorem zf_X1_30 : zF "AnswerSquare$Moment" 30 1 6 := ⟨RX1, TX1, 11, tyX1, rfl, by decide, zu_X1, tyX1_ok, nmX1, Or.inl zm_1_107⟩
theorem zf_X1_30p : zFp "AnswerSquare$Moment" 30 1 6 .int := ⟨zf_X1_30, _, rfl, rfl, by decide +kernel⟩
set_option maxRecDepth 20000 in
theorem zf_X3_147 : zF "AnswerSquare" 147 1 6 := ⟨RX1, TX1, 11, tyX1, rfl, by decide, zu_X1, tyX1_ok, nmX1, Or.inr ⟨_, List.mem_of_getElem? (i := 21) rfl⟩⟩
theorem zf_X3_147p : zFp "AnswerSquare" 147 1 6 .int := ⟨zf_X3_147, _, rfl, rfl, by decide +kernel⟩
set_option maxRecDepth 20000 in
theorem zm_1_109 : Cond.fieldLink "AnswerSquare$Moment" (34 : Nat) "AnswerSquare$Moment" "clock" "I" ∈ ztbl := zg (zt_1 (List.mem_of_getElem? (i := 109) rfl)) rfl
set_option maxRecDepth 20000 in
theorem zf_X1_34 : zF "AnswerSquare$Moment" 34 1 7 := ⟨RX1, TX1, 11, tyX1, rfl, by decide, zu_X1, tyX1_ok, nmX1, Or.inl zm_1_109⟩
theorem zf_X1_34p : zFp "AnswerSquare$Moment" 34 1 7 .int := ⟨zf_X1_34, _, rfl, rfl, by decide +kernel⟩
set_option maxRecDepth 20000 in
theorem zf_X3_158 : zF "AnswerSquare" 158 1 7 := ⟨RX1, TX1, 11, tyX1, rfl, by decide, zu_X1, tyX1_ok, nmX1, Or.inr ⟨_, List.mem_of_getElem? (i := 22) rfl⟩⟩
theorem zf_X3_158p : zFp "AnswerSquare" 158 1 7 .int := ⟨zf_X3_158, _, rfl, rfl, by decide +kernel⟩
set_option maxRecDepth 20000 in
theorem zm_1_111 : Cond.fieldLink "AnswerSquare$Moment" (37 : Nat) "AnswerSquare$Moment" "undoable" "I" ∈ ztbl := zg (zt_1 (List.mem_of_getElem? (i := 111) rfl)) rfl
set_option maxRecDepth 20000 in
theorem zf_X1_37 : zF "AnswerSquare$Moment" 37 1 8 := ⟨RX1, TX1, 11, tyX1, rfl, by decide, zu_X1, tyX1_ok, nmX1, Or.inl zm_1_111⟩
theorem zf_X1_37p : zFp "AnswerSquare$Moment" 37 1 8 .int := ⟨zf_X1_37, _, rfl, rfl, by decide +kernel⟩
set_option maxRecDepth 20000 in
theorem zf_X3_164 : zF "AnswerSquare" 164 1 8 := ⟨RX1, TX1, 11, tyX1, rfl, by decide, zu_X1, tyX1_ok, nmX1, Or.inr ⟨_, List.mem_of_getElem? (i := 23) rfl⟩⟩
theorem zf_X3_164p : zFp "AnswerSquare" 164 1 8 .int := ⟨zf_X3_164, _, rfl, rfl, by decide +kernel⟩
set_option maxRecDepth 20000 in
theorem zm_1_113 : Cond.fieldLink "AnswerSquare$Moment" (40 : Nat) "AnswerSquare$Moment" "hourBits" "I" ∈ ztbl := zg (zt_1 (List.mem_of_getElem? (i := 113) rfl)) rfl
set_option maxRecDepth 20000 in
theorem zf_X1_40 : zF "AnswerSquare$Moment" 40 1 9 := ⟨RX1, TX1, 11, tyX1, rfl, by decide, zu_X1, tyX1_ok, nmX1, Or.inl zm_1_113⟩
theorem zf_X1_40p : zFp "AnswerSquare$Moment" 40 1 9 .int := ⟨zf_X1_40, _, rfl, rfl, by decide +kernel⟩
set_option maxRecDepth 20000 in
theorem zf_X3_71 : zF "AnswerSquare" 71 1 10 := ⟨RX1, TX1, 11, tyX1, rfl, by decide, zu_X1, tyX1_ok, nmX1, Or.inr ⟨_, List.mem_of_getElem? (i := 24) rfl⟩⟩
theorem zf_X3_71p : zFp "AnswerSquare" 71 1 10 .boolean := ⟨zf_X3_71, _, rfl, rfl, by decide +kernel⟩
set_option maxRecDepth 20000 in
theorem zm_1_138 : Cond.fieldLink "AnswerSquare" (12 : Nat) "AnswerSquare" "text" "LAnswerSquare$Text;" ∈ ztbl := zg (zt_1 (List.mem_of_getElem? (i := 138) rfl)) rfl
set_option maxRecDepth 20000 in
theorem zf_X3_12 : zF "AnswerSquare" 12 3 0 := ⟨RX3, TX3, 11, tyX3, rfl, by decide, zu_X3, tyX3_ok, nmX3, Or.inl zm_1_138⟩
set_option maxRecDepth 20000 in
theorem zm_1_139 : Cond.fieldLink "AnswerSquare" (19 : Nat) "AnswerSquare" "told" "LAnswerSquare$Duchy;" ∈ ztbl := zg (zt_1 (List.mem_of_getElem? (i := 139) rfl)) rfl
set_option maxRecDepth 20000 in
theorem zf_X3_19 : zF "AnswerSquare" 19 3 1 := ⟨RX3, TX3, 11, tyX3, rfl, by decide, zu_X3, tyX3_ok, nmX3, Or.inl zm_1_139⟩
theorem zf_X3_19p : zFp "AnswerSquare" 19 3 1 (.object "AnswerSquare$Duchy") := ⟨zf_X3_19, _, rfl, rfl, by decide +kernel⟩
set_option maxRecDepth 20000 in
theorem zm_1_140 : Cond.fieldLink "AnswerSquare" (23 : Nat) "AnswerSquare" "spare" "LAnswerSquare$Duchy;" ∈ ztbl := zg (zt_1 (List.mem_of_getElem? (i := 140) rfl)) rfl
set_option maxRecDepth 20000 in
theorem zf_X3_23 : zF "AnswerSquare" 23 3 2 := ⟨RX3, TX3, 11, tyX3, rfl, by decide, zu_X3, tyX3_ok, nmX3, Or.inl zm_1_140⟩
theorem zf_X3_23p : zFp "AnswerSquare" 23 3 2 (.object "AnswerSquare$Duchy") := ⟨zf_X3_23, _, rfl, rfl, by decide +kernel⟩
set_option maxRecDepth 20000 in
theorem zm_1_141 : Cond.fieldLink "AnswerSquare" (29 : Nat) "AnswerSquare" "present" "LAnswerSquare$Moment;" ∈ ztbl := zg (zt_1 (List.mem_of_getElem? (i := 141) rfl)) rfl
set_option maxRecDepth 20000 in
theorem zf_X3_29 : zF "AnswerSquare" 29 3 3 := ⟨RX3, TX3, 11, tyX3, rfl, by decide, zu_X3, tyX3_ok, nmX3, Or.inl zm_1_141⟩
set_option maxRecDepth 20000 in
theorem zm_1_142 : Cond.fieldLink "AnswerSquare" (33 : Nat) "AnswerSquare" "firstImage" "LAnswerSquare$Moment;" ∈ ztbl := zg (zt_1 (List.mem_of_getElem? (i := 142) rfl)) rfl
set_option maxRecDepth 20000 in
theorem zf_X3_33 : zF "AnswerSquare" 33 3 4 := ⟨RX3, TX3, 11, tyX3, rfl, by decide, zu_X3, tyX3_ok, nmX3, Or.inl zm_1_142⟩
set_option maxRecDepth 20000 in
theorem zm_1_143 : Cond.fieldLink "AnswerSquare" (36 : Nat) "AnswerSquare" "secondImage" "LAnswerSquare$Moment;" ∈ ztbl := zg (zt_1 (List.mem_of_getElem? (i := 143) rfl)) rfl
set_option maxRecDepth 20000 in
theorem zf_X3_36 : zF "AnswerSquare" 36 3 5 := ⟨RX3, TX3, 11, tyX3, rfl, by decide, zu_X3, tyX3_ok, nmX3, Or.inl zm_1_143⟩
set_option maxRecDepth 20000 in
theorem zm_1_144 : Cond.fieldLink "AnswerSquare" (39 : Nat) "AnswerSquare" "toldAhead" "[I" ∈ ztbl := zg (zt_1 (List.mem_of_getElem? (i := 144) rfl)) rfl
set_option maxRecDepth 20000 in
theorem zf_X3_39 : zF "AnswerSquare" 39 3 6 := ⟨RX3, TX3, 11, tyX3, rfl, by decide, zu_X3, tyX3_ok, nmX3, Or.inl zm_1_144⟩
set_option maxRecDepth 20000 in
theorem zm_1_145 : Cond.fieldLink "AnswerSquare" (43 : Nat) "AnswerSquare" "toldCount" "I" ∈ ztbl := zg (zt_1 (List.mem_of_getElem? (i := 145) rfl)) rfl
set_option maxRecDepth 20000 in
theorem zf_X3_43 : zF "AnswerSquare" 43 3 7 := ⟨RX3, TX3, 11, tyX3, rfl, by decide, zu_X3, tyX3_ok, nmX3, Or.inl zm_1_145⟩
theorem zf_X3_43p : zFp "AnswerSquare" 43 3 7 .int := ⟨zf_X3_43, _, rfl, rfl, by decide +kernel⟩
set_option maxRecDepth 20000 in
theorem zm_1_146 : Cond.fieldLink "AnswerSquare" (47 : Nat) "AnswerSquare" "layers" "[I" ∈ ztbl := zg (zt_1 (List.mem_of_getElem? (i := 146) rfl)) rfl
set_option maxRecDepth 20000 in
theorem zf_X3_47 : zF "AnswerSquare" 47 3 8 := ⟨RX3, TX3, 11, tyX3, rfl, by decide, zu_X3, tyX3_ok, nmX3, Or.inl zm_1_146⟩
set_option maxRecDepth 20000 in
theorem zm_1_147 : Cond.fieldLink "AnswerSquare" (50 : Nat) "AnswerSquare" "ways" "[I" ∈ ztbl := zg (zt_1 (List.mem_of_getElem? (i := 147) rfl)) rfl
set_option maxRecDepth 20000 in
theorem zf_X3_50 : zF "AnswerSquare" 50 3 9 := ⟨RX3, TX3, 11, tyX3, rfl, by decide, zu_X3, tyX3_ok, nmX3, Or.inl zm_1_147⟩
set_option maxRecDepth 20000 in
theorem zm_1_148 : Cond.fieldLink "AnswerSquare" (53 : Nat) "AnswerSquare" "traced" "J" ∈ ztbl := zg (zt_1 (List.mem_of_getElem? (i := 148) rfl)) rfl
set_option maxRecDepth 20000 in
theorem zf_X3_53 : zF "AnswerSquare" 53 3 10 := ⟨RX3, TX3, 11, tyX3, rfl, by decide, zu_X3, tyX3_ok, nmX3, Or.inl zm_1_148⟩
theorem zf_X3_53p : zFp "AnswerSquare" 53 3 10 .long := ⟨zf_X3_53, _, rfl, rfl, by decide +kernel⟩
set_option maxRecDepth 20000 in
theorem zm_3_81 : Cond.fieldLink "AnswerSquareModel" (183 : Nat) "AnswerSquareModel" "trace" "J" ∈ ztbl := zg (zt_3 (List.mem_of_getElem? (i := 81) rfl)) rfl
set_option maxRecDepth 20000 in
theorem zf_X4_183 : zF "AnswerSquareModel" 183 4 0 := ⟨RX4, TX4, 22, tyX4, rfl, by decide, zu_X4, tyX4_ok, nmX4, Or.inl zm_3_81⟩
theorem zf_X4_183p : zFp "AnswerSquareModel" 183 4 0 .long := ⟨zf_X4_183, _, rfl, rfl, by decide +kernel⟩
set_option maxRecDepth 20000 in
theorem zm_3_82 : Cond.fieldLink "AnswerSquareModel" (7 : Nat) "AnswerSquareModel" "text" "[B" ∈ ztbl := zg (zt_3 (List.mem_of_getElem? (i := 82) rfl)) rfl
set_option maxRecDepth 20000 in
theorem zf_X4_7 : zF "AnswerSquareModel" 7 4 1 := ⟨RX4, TX4, 22, tyX4, rfl, by decide, zu_X4, tyX4_ok, nmX4, Or.inl zm_3_82⟩
set_option maxRecDepth 20000 in
theorem zm_3_83 : Cond.fieldLink "AnswerSquareModel" (61 : Nat) "AnswerSquareModel" "typed" "I" ∈ ztbl := zg (zt_3 (List.mem_of_getElem? (i := 83) rfl)) rfl
set_option maxRecDepth 20000 in
theorem zf_X4_61 : zF "AnswerSquareModel" 61 4 2 := ⟨RX4, TX4, 22, tyX4, rfl, by decide, zu_X4, tyX4_ok, nmX4, Or.inl zm_3_83⟩
theorem zf_X4_61p : zFp "AnswerSquareModel" 61 4 2 .int := ⟨zf_X4_61, _, rfl, rfl, by decide +kernel⟩
set_option maxRecDepth 20000 in
theorem zm_3_84 : Cond.fieldLink "AnswerSquareModel" (13 : Nat) "AnswerSquareModel" "sayings" "[I" ∈ ztbl := zg (zt_3 (List.mem_of_getElem? (i := 84) rfl)) rfl
set_option maxRecDepth 20000 in
theorem zf_X4_13 : zF "AnswerSquareModel" 13 4 3 := ⟨RX4, TX4, 22, tyX4, rfl, by decide, zu_X4, tyX4_ok, nmX4, Or.inl zm_3_84⟩
set_option maxRecDepth 20000 in
theorem zm_3_85 : Cond.fieldLink "AnswerSquareModel" (17 : Nat) "AnswerSquareModel" "worthy" "[I" ∈ ztbl := zg (zt_3 (List.mem_of_getElem? (i := 85) rfl)) rfl
set_option maxRecDepth 20000 in
theorem zf_X4_17 : zF "AnswerSquareModel" 17 4 4 := ⟨RX4, TX4, 22, tyX4, rfl, by decide, zu_X4, tyX4_ok, nmX4, Or.inl zm_3_85⟩
set_option maxRecDepth 20000 in
theorem zm_3_86 : Cond.fieldLink "AnswerSquareModel" (20 : Nat) "AnswerSquareModel" "answers" "[I" ∈ ztbl := zg (zt_3 (List.mem_of_getElem? (i := 86) rfl)) rfl
set_option maxRecDepth 20000 in
theorem zf_X4_20 : zF "AnswerSquareModel" 20 4 5 := ⟨RX4, TX4, 22, tyX4, rfl, by decide, zu_X4, tyX4_ok, nmX4, Or.inl zm_3_86⟩
set_option maxRecDepth 20000 in
theorem zm_3_87 : Cond.fieldLink "AnswerSquareModel" (23 : Nat) "AnswerSquareModel" "sound" "[I" ∈ ztbl := zg (zt_3 (List.mem_of_getElem? (i := 87) rfl)) rfl
set_option maxRecDepth 20000 in
theorem zf_X4_23 : zF "AnswerSquareModel" 23 4 6 := ⟨RX4, TX4, 22, tyX4, rfl, by decide, zu_X4, tyX4_ok, nmX4, Or.inl zm_3_87⟩
set_option maxRecDepth 20000 in
theorem zm_3_88 : Cond.fieldLink "AnswerSquareModel" (26 : Nat) "AnswerSquareModel" "people" "[I" ∈ ztbl := zg (zt_3 (List.mem_of_getElem? (i := 88) rfl)) rfl
set_option maxRecDepth 20000 in
theorem zf_X4_26 : zF "AnswerSquareModel" 26 4 7 := ⟨RX4, TX4, 22, tyX4, rfl, by decide, zu_X4, tyX4_ok, nmX4, Or.inl zm_3_88⟩
set_option maxRecDepth 20000 in
theorem zm_3_89 : Cond.fieldLink "AnswerSquareModel" (29 : Nat) "AnswerSquareModel" "knows" "[I" ∈ ztbl := zg (zt_3 (List.mem_of_getElem? (i := 89) rfl)) rfl
set_option maxRecDepth 20000 in
theorem zf_X4_29 : zF "AnswerSquareModel" 29 4 8 := ⟨RX4, TX4, 22, tyX4, rfl, by decide, zu_X4, tyX4_ok, nmX4, Or.inl zm_3_89⟩
set_option maxRecDepth 20000 in
theorem zm_3_90 : Cond.fieldLink "AnswerSquareModel" (32 : Nat) "AnswerSquareModel" "old" "[I" ∈ ztbl := zg (zt_3 (List.mem_of_getElem? (i := 90) rfl)) rfl
set_option maxRecDepth 20000 in
theorem zf_X4_32 : zF "AnswerSquareModel" 32 4 9 := ⟨RX4, TX4, 22, tyX4, rfl, by decide, zu_X4, tyX4_ok, nmX4, Or.inl zm_3_90⟩
set_option maxRecDepth 20000 in
theorem zm_3_91 : Cond.fieldLink "AnswerSquareModel" (91 : Nat) "AnswerSquareModel" "oldTold" "Z" ∈ ztbl := zg (zt_3 (List.mem_of_getElem? (i := 91) rfl)) rfl
set_option maxRecDepth 20000 in
theorem zf_X4_91 : zF "AnswerSquareModel" 91 4 10 := ⟨RX4, TX4, 22, tyX4, rfl, by decide, zu_X4, tyX4_ok, nmX4, Or.inl zm_3_91⟩
theorem zf_X4_91p : zFp "AnswerSquareModel" 91 4 10 .boolean := ⟨zf_X4_91, _, rfl, rfl, by decide +kernel⟩
set_option maxRecDepth 20000 in
theorem zm_3_92 : Cond.fieldLink "AnswerSquareModel" (65 : Nat) "AnswerSquareModel" "at" "I" ∈ ztbl := zg (zt_3 (List.mem_of_getElem? (i := 92) rfl)) rfl
set_option maxRecDepth 20000 in
theorem zf_X4_65 : zF "AnswerSquareModel" 65 4 11 := ⟨RX4, TX4, 22, tyX4, rfl, by decide, zu_X4, tyX4_ok, nmX4, Or.inl zm_3_92⟩
theorem zf_X4_65p : zFp "AnswerSquareModel" 65 4 11 .int := ⟨zf_X4_65, _, rfl, rfl, by decide +kernel⟩
set_option maxRecDepth 20000 in
theorem zm_3_93 : Cond.fieldLink "AnswerSquareModel" (72 : Nat) "AnswerSquareModel" "start" "I" ∈ ztbl := zg (zt_3 (List.mem_of_getElem? (i := 93) rfl)) rfl
set_option maxRecDepth 20000 in
theorem zf_X4_72 : zF "AnswerSquareModel" 72 4 12 := ⟨RX4, TX4, 22, tyX4, rfl, by decide, zu_X4, tyX4_ok, nmX4, Or.inl zm_3_93⟩
theorem zf_X4_72p : zFp "AnswerSquareModel" 72 4 12 .int := ⟨zf_X4_72, _, rfl, rfl, by decide +kernel⟩
set_option maxRecDepth 20000 in
theorem zm_3_94 : Cond.fieldLink "AnswerSquareModel" (78 : Nat) "AnswerSquareModel" "sort" "I" ∈ ztbl := zg (zt_3 (List.mem_of_getElem? (i := 94) rfl)) rfl
set_option maxRecDepth 20000 in
theorem zf_X4_78 : zF "AnswerSquareModel" 78 4 13 := ⟨RX4, TX4, 22, tyX4, rfl, by decide, zu_X4, tyX4_ok, nmX4, Or.inl zm_3_94⟩
theorem zf_X4_78p : zFp "AnswerSquareModel" 78 4 13 .int := ⟨zf_X4_78, _, rfl, rfl, by decide +kernel⟩
set_option maxRecDepth 20000 in
theorem zm_3_95 : Cond.fieldLink "AnswerSquareModel" (75 : Nat) "AnswerSquareModel" "value" "I" ∈ ztbl := zg (zt_3 (List.mem_of_getElem? (i := 95) rfl)) rfl
set_option maxRecDepth 20000 in
theorem zf_X4_75 : zF "AnswerSquareModel" 75 4 14 := ⟨RX4, TX4, 22, tyX4, rfl, by decide, zu_X4, tyX4_ok, nmX4, Or.inl zm_3_95⟩
theorem zf_X4_75p : zFp "AnswerSquareModel" 75 4 14 .int := ⟨zf_X4_75, _, rfl, rfl, by decide +kernel⟩
set_option maxRecDepth 20000 in
theorem zm_3_96 : Cond.fieldLink "AnswerSquareModel" (81 : Nat) "AnswerSquareModel" "fault" "I" ∈ ztbl := zg (zt_3 (List.mem_of_getElem? (i := 96) rfl)) rfl
set_option maxRecDepth 20000 in
theorem zf_X4_81 : zF "AnswerSquareModel" 81 4 15 := ⟨RX4, TX4, 22, tyX4, rfl, by decide, zu_X4, tyX4_ok, nmX4, Or.inl zm_3_96⟩
theorem zf_X4_81p : zFp "AnswerSquareModel" 81 4 15 .int := ⟨zf_X4_81, _, rfl, rfl, by decide +kernel⟩
set_option maxRecDepth 20000 in
theorem zm_3_97 : Cond.fieldLink "AnswerSquareModel" (35 : Nat) "AnswerSquareModel" "now" "[I" ∈ ztbl := zg (zt_3 (List.mem_of_getElem? (i := 97) rfl)) rfl
set_option maxRecDepth 20000 in
theorem zf_X4_35 : zF "AnswerSquareModel" 35 4 16 := ⟨RX4, TX4, 22, tyX4, rfl, by decide, zu_X4, tyX4_ok, nmX4, Or.inl zm_3_97⟩
set_option maxRecDepth 20000 in
theorem zm_3_98 : Cond.fieldLink "AnswerSquareModel" (38 : Nat) "AnswerSquareModel" "isKept" "[Z" ∈ ztbl := zg (zt_3 (List.mem_of_getElem? (i := 98) rfl)) rfl
set_option maxRecDepth 20000 in
theorem zf_X4_38 : zF "AnswerSquareModel" 38 4 17 := ⟨RX4, TX4, 22, tyX4, rfl, by decide, zu_X4, tyX4_ok, nmX4, Or.inl zm_3_98⟩
set_option maxRecDepth 20000 in
theorem zm_3_99 : Cond.fieldLink "AnswerSquareModel" (42 : Nat) "AnswerSquareModel" "toldAhead" "[I" ∈ ztbl := zg (zt_3 (List.mem_of_getElem? (i := 99) rfl)) rfl
set_option maxRecDepth 20000 in
theorem zf_X4_42 : zF "AnswerSquareModel" 42 4 18 := ⟨RX4, TX4, 22, tyX4, rfl, by decide, zu_X4, tyX4_ok, nmX4, Or.inl zm_3_99⟩
set_option maxRecDepth 20000 in
theorem zm_3_100 : Cond.fieldLink "AnswerSquareModel" (45 : Nat) "AnswerSquareModel" "toldBehind" "[I" ∈ ztbl := zg (zt_3 (List.mem_of_getElem? (i := 100) rfl)) rfl
set_option maxRecDepth 20000 in
theorem zf_X4_45 : zF "AnswerSquareModel" 45 4 19 := ⟨RX4, TX4, 22, tyX4, rfl, by decide, zu_X4, tyX4_ok, nmX4, Or.inl zm_3_100⟩
set_option maxRecDepth 20000 in
theorem zm_3_101 : Cond.fieldLink "AnswerSquareModel" (102 : Nat) "AnswerSquareModel" "told" "I" ∈ ztbl := zg (zt_3 (List.mem_of_getElem? (i := 101) rfl)) rfl
set_option maxRecDepth 20000 in
theorem zf_X4_102 : zF "AnswerSquareModel" 102 4 20 := ⟨RX4, TX4, 22, tyX4, rfl, by decide, zu_X4, tyX4_ok, nmX4, Or.inl zm_3_101⟩
theorem zf_X4_102p : zFp "AnswerSquareModel" 102 4 20 .int := ⟨zf_X4_102, _, rfl, rfl, by decide +kernel⟩
set_option maxRecDepth 20000 in
theorem zm_3_102 : Cond.fieldLink "AnswerSquareModel" (48 : Nat) "AnswerSquareModel" "ways" "[I" ∈ ztbl := zg (zt_3 (List.mem_of_getElem? (i := 102) rfl)) rfl
set_option maxRecDepth 20000 in
theorem zf_X4_48 : zF "AnswerSquareModel" 48 4 21 := ⟨RX4, TX4, 22, tyX4, rfl, by decide, zu_X4, tyX4_ok, nmX4, Or.inl zm_3_102⟩
-- methods
def mX3_init : ZM := (yX3_init, cX3_init, 1, none)
set_option maxRecDepth 20000 in
theorem zm_1_13 : Cond.code ({ cls := "AnswerSquare", name := "<init>", desc := "()V" } : MethodName) prog_1_method_1_code (1 : Nat) (Option.none : Option FieldType) ∈ ztbl := zg (zt_1 (List.mem_of_getElem? (i := 13) rfl)) rfl
def mX2_init : ZM := (yX2_init, cX2_init, 1, none)
set_option maxRecDepth 20000 in
theorem zm_1_21 : Cond.code ({ cls := "AnswerSquare$Text", name := "<init>", desc := "()V" } : MethodName) prog_4_method_1_code (1 : Nat) (Option.none : Option FieldType) ∈ ztbl := zg (zt_1 (List.mem_of_getElem? (i := 21) rfl)) rfl
def mX0_init : ZM := (yX0_init, cX0_init, 1, none)
set_option maxRecDepth 20000 in
theorem zm_1_51 : Cond.code ({ cls := "AnswerSquare$Duchy", name := "<init>", desc := "()V" } : MethodName) prog_2_method_1_code (1 : Nat) (Option.none : Option FieldType) ∈ ztbl := zg (zt_1 (List.mem_of_getElem? (i := 51) rfl)) rfl
def mX1_init : ZM := (yX1_init, cX1_init, 1, none)
set_option maxRecDepth 20000 in
theorem zm_1_93 : Cond.code ({ cls := "AnswerSquare$Moment", name := "<init>", desc := "()V" } : MethodName) prog_3_method_1_code (1 : Nat) (Option.none : Option FieldType) ∈ ztbl := zg (zt_1 (List.mem_of_getElem? (i := 93) rfl)) rfl
def mX3_type : ZM := (yX3_type, cX3_type, 2, (some (FieldType.int)))
set_option maxRecDepth 20000 in
theorem zm_1_175 : Cond.code ({ cls := "AnswerSquare", name := "type", desc := "(I)I" } : MethodName) prog_1_method_2_code (2 : Nat) (Option.some FieldType.int) ∈ ztbl := zg (zt_1 (List.mem_of_getElem? (i := 175) rfl)) rfl
set_option maxRecDepth 20000 in
theorem zm_1_174 : Cond.selects "AnswerSquare" ({ cls := "AnswerSquare", name := "type", desc := "(I)I" } : MethodName) ({ cls := "AnswerSquare", name := "type", desc := "(I)I" } : MethodName) ∈ ztbl := zg (zt_1 (List.mem_of_getElem? (i := 174) rfl)) rfl
set_option maxRecDepth 20000 in
set_option maxRecDepth 20000 in
theorem zm_1_1 : Cond.initialized "AnswerSquare" ∈ ztbl := zg (zt_1 (List.mem_of_getElem? (i := 1) rfl)) rfl
set_option maxRecDepth 20000 in
theorem zm_1_173 : Cond.instanceMethod ({ cls := "AnswerSquare", name := "type", desc := "(I)I" } : MethodName) ∈ ztbl := zg (zt_1 (List.mem_of_getElem? (i := 173) rfl)) rfl
theorem zy_X3_type : zYv mX3_type 1 := ⟨zm_1_175, zm_1_1, zm_1_173, zm_1_174, ⟨by decide +kernel, by decide +kernel⟩, by decide +kernel, by decide⟩
def mX2_put : ZM := (yX2_put, cX2_put, 2, (some (FieldType.boolean)))
set_option maxRecDepth 20000 in
theorem zm_1_179 : Cond.code ({ cls := "AnswerSquare$Text", name := "put", desc := "(I)Z" } : MethodName) prog_4_method_2_code (2 : Nat) (Option.some FieldType.boolean) ∈ ztbl := zg (zt_1 (List.mem_of_getElem? (i := 179) rfl)) rfl
set_option maxRecDepth 20000 in
theorem zs_X2_put : Cond.selects "AnswerSquare$Text" ({ cls := "AnswerSquare$Text", name := "put", desc := "(I)Z" } : MethodName) ({ cls := "AnswerSquare$Text", name := "put", desc := "(I)Z" } : MethodName) ∈ ztbl := zg (List.mem_append_left _ (List.mem_map.mpr ⟨_, (show _ ∈ lw_privs_1 ++ (lw_privs_2 ++ (lw_privs_3 ++ (lw_privs_4 ++ (lw_privs_5 ++ (lw_privs_6))))) from List.mem_append_left _ (List.mem_of_getElem? (i := 0) rfl)), rfl⟩)) rfl
set_option maxRecDepth 20000 in
set_option maxRecDepth 20000 in
theorem zm_1_2 : Cond.initialized "AnswerSquare$Text" ∈ ztbl := zg (zt_1 (List.mem_of_getElem? (i := 2) rfl)) rfl
set_option maxRecDepth 20000 in
theorem zm_1_178 : Cond.instanceMethod ({ cls := "AnswerSquare$Text", name := "put", desc := "(I)Z" } : MethodName) ∈ ztbl := zg (zt_1 (List.mem_of_getElem? (i := 178) rfl)) rfl
theorem zy_X2_put : zYv mX2_put 1 := ⟨zm_1_179, zm_1_2, zm_1_178, zs_X2_put, ⟨by decide +kernel, by decide +kernel⟩, by decide +kernel, by decide⟩
def mX3_clear : ZM := (yX3_clear, cX3_clear, 2, (some (FieldType.int)))
set_option maxRecDepth 20000 in
theorem zm_1_183 : Cond.code ({ cls := "AnswerSquare", name := "clear", desc := "()I" } : MethodName) prog_1_method_3_code (2 : Nat) (Option.some FieldType.int) ∈ ztbl := zg (zt_1 (List.mem_of_getElem? (i := 183) rfl)) rfl
set_option maxRecDepth 20000 in
theorem zm_1_182 : Cond.selects "AnswerSquare" ({ cls := "AnswerSquare", name := "clear", desc := "()I" } : MethodName) ({ cls := "AnswerSquare", name := "clear", desc := "()I" } : MethodName) ∈ ztbl := zg (zt_1 (List.mem_of_getElem? (i := 182) rfl)) rfl
set_option maxRecDepth 20000 in
set_option maxRecDepth 20000 in
theorem zm_1_181 : Cond.instanceMethod ({ cls := "AnswerSquare", name := "clear", desc := "()I" } : MethodName) ∈ ztbl := zg (zt_1 (List.mem_of_getElem? (i := 181) rfl)) rfl
theorem zy_X3_clear : zYv mX3_clear 0 := ⟨zm_1_183, zm_1_1, zm_1_181, zm_1_182, ⟨by decide +kernel, by decide +kernel⟩, by decide +kernel, by decide⟩
def mX3_duchy : ZM := (yX3_duchy, cX3_duchy, 3, (some (FieldType.int)))
set_option maxRecDepth 20000 in
theorem zm_1_187 : Cond.code ({ cls := "AnswerSquare", name := "duchy", desc := "()I" } : MethodName) prog_1_method_4_code (3 : Nat) (Option.some FieldType.int) ∈ ztbl := zg (zt_1 (List.mem_of_getElem? (i := 187) rfl)) rfl
set_option maxRecDepth 20000 in
theorem zm_1_186 : Cond.selects "AnswerSquare" ({ cls := "AnswerSquare", name := "duchy", desc := "()I" } : MethodName) ({ cls := "AnswerSquare", name := "duchy", desc := "()I" } : MethodName) ∈ ztbl := zg (zt_1 (List.mem_of_getElem? (i := 186) rfl)) rfl
set_option maxRecDepth 20000 in
set_option maxRecDepth 20000 in
theorem zm_1_185 : Cond.instanceMethod ({ cls := "AnswerSquare", name := "duchy", desc := "()I" } : MethodName) ∈ ztbl := zg (zt_1 (List.mem_of_getElem? (i := 185) rfl)) rfl
theorem zy_X3_duchy : zYv mX3_duchy 0 := ⟨zm_1_187, zm_1_1, zm_1_185, zm_1_186, ⟨by decide +kernel, by decide +kernel⟩, by decide +kernel, by decide⟩
def mX0_readFrom : ZM := (yX0_readFrom, cX0_readFrom, 3, (some (FieldType.int)))
set_option maxRecDepth 20000 in
theorem zm_1_191 : Cond.code ({ cls := "AnswerSquare$Duchy", name := "readFrom", desc := "(LAnswerSquare$Text;)I" } : MethodName) prog_2_method_2_code (3 : Nat) (Option.some FieldType.int) ∈ ztbl := zg (zt_1 (List.mem_of_getElem? (i := 191) rfl)) rfl
set_option maxRecDepth 20000 in
theorem zs_X0_readFrom : Cond.selects "AnswerSquare$Duchy" ({ cls := "AnswerSquare$Duchy", name := "readFrom", desc := "(LAnswerSquare$Text;)I" } : MethodName) ({ cls := "AnswerSquare$Duchy", name := "readFrom", desc := "(LAnswerSquare$Text;)I" } : MethodName) ∈ ztbl := zg (List.mem_append_left _ (List.mem_map.mpr ⟨_, (show _ ∈ lw_privs_1 ++ (lw_privs_2 ++ (lw_privs_3 ++ (lw_privs_4 ++ (lw_privs_5 ++ (lw_privs_6))))) from List.mem_append_left _ (List.mem_of_getElem? (i := 1) rfl)), rfl⟩)) rfl
set_option maxRecDepth 20000 in
set_option maxRecDepth 20000 in
theorem zm_1_3 : Cond.initialized "AnswerSquare$Duchy" ∈ ztbl := zg (zt_1 (List.mem_of_getElem? (i := 3) rfl)) rfl
set_option maxRecDepth 20000 in
theorem zm_1_190 : Cond.instanceMethod ({ cls := "AnswerSquare$Duchy", name := "readFrom", desc := "(LAnswerSquare$Text;)I" } : MethodName) ∈ ztbl := zg (zt_1 (List.mem_of_getElem? (i := 190) rfl)) rfl
theorem zy_X0_readFrom : zYv mX0_readFrom 1 := ⟨zm_1_191, zm_1_3, zm_1_190, zs_X0_readFrom, ⟨by decide +kernel, by decide +kernel⟩, by decide +kernel, by decide⟩
def mX2_rewind : ZM := (yX2_rewind, cX2_rewind, 1, none)
set_option maxRecDepth 20000 in
theorem zm_1_195 : Cond.code ({ cls := "AnswerSquare$Text", name := "rewind", desc := "()V" } : MethodName) prog_4_method_3_code (1 : Nat) (Option.none : Option FieldType) ∈ ztbl := zg (zt_1 (List.mem_of_getElem? (i := 195) rfl)) rfl
set_option maxRecDepth 20000 in
theorem zs_X2_rewind : Cond.selects "AnswerSquare$Text" ({ cls := "AnswerSquare$Text", name := "rewind", desc := "()V" } : MethodName) ({ cls := "AnswerSquare$Text", name := "rewind", desc := "()V" } : MethodName) ∈ ztbl := zg (List.mem_append_left _ (List.mem_map.mpr ⟨_, (show _ ∈ lw_privs_1 ++ (lw_privs_2 ++ (lw_privs_3 ++ (lw_privs_4 ++ (lw_privs_5 ++ (lw_privs_6))))) from List.mem_append_left _ (List.mem_of_getElem? (i := 2) rfl)), rfl⟩)) rfl
set_option maxRecDepth 20000 in
set_option maxRecDepth 20000 in
theorem zm_1_194 : Cond.instanceMethod ({ cls := "AnswerSquare$Text", name := "rewind", desc := "()V" } : MethodName) ∈ ztbl := zg (zt_1 (List.mem_of_getElem? (i := 194) rfl)) rfl
theorem zy_X2_rewind : zYv mX2_rewind 0 := ⟨zm_1_195, zm_1_2, zm_1_194, zs_X2_rewind, ⟨by decide +kernel, by decide +kernel⟩, by decide +kernel, by decide⟩
def mX2_advance : ZM := (yX2_advance, cX2_advance, 2, none)
set_option maxRecDepth 20000 in
theorem zm_1_199 : Cond.code ({ cls := "AnswerSquare$Text", name := "advance", desc := "()V" } : MethodName) prog_4_method_4_code (2 : Nat) (Option.none : Option FieldType) ∈ ztbl := zg (zt_1 (List.mem_of_getElem? (i := 199) rfl)) rfl
set_option maxRecDepth 20000 in
theorem zs_X2_advance : Cond.selects "AnswerSquare$Text" ({ cls := "AnswerSquare$Text", name := "advance", desc := "()V" } : MethodName) ({ cls := "AnswerSquare$Text", name := "advance", desc := "()V" } : MethodName) ∈ ztbl := zg (List.mem_append_left _ (List.mem_map.mpr ⟨_, (show _ ∈ lw_privs_1 ++ (lw_privs_2 ++ (lw_privs_3 ++ (lw_privs_4 ++ (lw_privs_5 ++ (lw_privs_6))))) from List.mem_append_left _ (List.mem_of_getElem? (i := 3) rfl)), rfl⟩)) rfl
set_option maxRecDepth 20000 in
set_option maxRecDepth 20000 in
theorem zm_1_198 : Cond.instanceMethod ({ cls := "AnswerSquare$Text", name := "advance", desc := "()V" } : MethodName) ∈ ztbl := zg (zt_1 (List.mem_of_getElem? (i := 198) rfl)) rfl
theorem zy_X2_advance : zYv mX2_advance 0 := ⟨zm_1_199, zm_1_2, zm_1_198, zs_X2_advance, ⟨by decide +kernel, by decide +kernel⟩, by decide +kernel, by decide⟩
def mX2_byteAt : ZM := (yX2_byteAt, cX2_byteAt, 2, (some (FieldType.int)))
set_option maxRecDepth 20000 in
theorem zm_1_203 : Cond.code ({ cls := "AnswerSquare$Text", name := "byteAt", desc := "(I)I" } : MethodName) prog_4_method_7_code (2 : Nat) (Option.some FieldType.int) ∈ ztbl := zg (zt_1 (List.mem_of_getElem? (i := 203) rfl)) rfl
set_option maxRecDepth 20000 in
theorem zs_X2_byteAt : Cond.selects "AnswerSquare$Text" ({ cls := "AnswerSquare$Text", name := "byteAt", desc := "(I)I" } : MethodName) ({ cls := "AnswerSquare$Text", name := "byteAt", desc := "(I)I" } : MethodName) ∈ ztbl := zg (List.mem_append_left _ (List.mem_map.mpr ⟨_, (show _ ∈ lw_privs_1 ++ (lw_privs_2 ++ (lw_privs_3 ++ (lw_privs_4 ++ (lw_privs_5 ++ (lw_privs_6))))) from List.mem_append_left _ (List.mem_of_getElem? (i := 4) rfl)), rfl⟩)) rfl
set_option maxRecDepth 20000 in
set_option maxRecDepth 20000 in
theorem zm_1_202 : Cond.instanceMethod ({ cls := "AnswerSquare$Text", name := "byteAt", desc := "(I)I" } : MethodName) ∈ ztbl := zg (zt_1 (List.mem_of_getElem? (i := 202) rfl)) rfl
theorem zy_X2_byteAt : zYv mX2_byteAt 1 := ⟨zm_1_203, zm_1_2, zm_1_202, zs_X2_byteAt, ⟨by decide +kernel, by decide +kernel⟩, by decide +kernel, by decide⟩
def mX2_isLetter : ZM := (yX2_isLetter, cX2_isLetter, 1, (some (FieldType.boolean)))
set_option maxRecDepth 20000 in
theorem zm_1_206 : Cond.code ({ cls := "AnswerSquare$Text", name := "isLetter", desc := "(I)Z" } : MethodName) prog_4_method_9_code (1 : Nat) (Option.some FieldType.boolean) ∈ ztbl := zg (zt_1 (List.mem_of_getElem? (i := 206) rfl)) rfl
set_option maxRecDepth 20000 in
set_option maxRecDepth 20000 in
theorem zm_1_205 : Cond.static ({ cls := "AnswerSquare$Text", name := "isLetter", desc := "(I)Z" } : MethodName) ∈ ztbl := zg (zt_1 (List.mem_of_getElem? (i := 205) rfl)) rfl
theorem zy_X2_isLetter : zYs mX2_isLetter 1 := ⟨zm_1_206, zm_1_2, zm_1_205, ⟨by decide +kernel, by decide +kernel⟩, by decide +kernel, by decide⟩
def mX2_takeWord : ZM := (yX2_takeWord, cX2_takeWord, 2, none)
set_option maxRecDepth 20000 in
theorem zm_1_210 : Cond.code ({ cls := "AnswerSquare$Text", name := "takeWord", desc := "(I)V" } : MethodName) prog_4_method_5_code (2 : Nat) (Option.none : Option FieldType) ∈ ztbl := zg (zt_1 (List.mem_of_getElem? (i := 210) rfl)) rfl
set_option maxRecDepth 20000 in
theorem zs_X2_takeWord : Cond.selects "AnswerSquare$Text" ({ cls := "AnswerSquare$Text", name := "takeWord", desc := "(I)V" } : MethodName) ({ cls := "AnswerSquare$Text", name := "takeWord", desc := "(I)V" } : MethodName) ∈ ztbl := zg (List.mem_append_left _ (List.mem_map.mpr ⟨_, (show _ ∈ lw_privs_1 ++ (lw_privs_2 ++ (lw_privs_3 ++ (lw_privs_4 ++ (lw_privs_5 ++ (lw_privs_6))))) from List.mem_append_left _ (List.mem_of_getElem? (i := 5) rfl)), rfl⟩)) rfl
set_option maxRecDepth 20000 in
set_option maxRecDepth 20000 in
theorem zm_1_209 : Cond.instanceMethod ({ cls := "AnswerSquare$Text", name := "takeWord", desc := "(I)V" } : MethodName) ∈ ztbl := zg (zt_1 (List.mem_of_getElem? (i := 209) rfl)) rfl
theorem zy_X2_takeWord : zYv mX2_takeWord 1 := ⟨zm_1_210, zm_1_2, zm_1_209, zs_X2_takeWord, ⟨by decide +kernel, by decide +kernel⟩, by decide +kernel, by decide⟩
def mX2_isDigit : ZM := (yX2_isDigit, cX2_isDigit, 1, (some (FieldType.boolean)))
set_option maxRecDepth 20000 in
theorem zm_1_213 : Cond.code ({ cls := "AnswerSquare$Text", name := "isDigit", desc := "(I)Z" } : MethodName) prog_4_method_10_code (1 : Nat) (Option.some FieldType.boolean) ∈ ztbl := zg (zt_1 (List.mem_of_getElem? (i := 213) rfl)) rfl
set_option maxRecDepth 20000 in
set_option maxRecDepth 20000 in
theorem zm_1_212 : Cond.static ({ cls := "AnswerSquare$Text", name := "isDigit", desc := "(I)Z" } : MethodName) ∈ ztbl := zg (zt_1 (List.mem_of_getElem? (i := 212) rfl)) rfl
theorem zy_X2_isDigit : zYs mX2_isDigit 1 := ⟨zm_1_213, zm_1_2, zm_1_212, ⟨by decide +kernel, by decide +kernel⟩, by decide +kernel, by decide⟩
def mX2_takeNumber : ZM := (yX2_takeNumber, cX2_takeNumber, 3, none)
set_option maxRecDepth 20000 in
theorem zm_1_217 : Cond.code ({ cls := "AnswerSquare$Text", name := "takeNumber", desc := "(I)V" } : MethodName) prog_4_method_6_code (3 : Nat) (Option.none : Option FieldType) ∈ ztbl := zg (zt_1 (List.mem_of_getElem? (i := 217) rfl)) rfl
set_option maxRecDepth 20000 in
theorem zs_X2_takeNumber : Cond.selects "AnswerSquare$Text" ({ cls := "AnswerSquare$Text", name := "takeNumber", desc := "(I)V" } : MethodName) ({ cls := "AnswerSquare$Text", name := "takeNumber", desc := "(I)V" } : MethodName) ∈ ztbl := zg (List.mem_append_left _ (List.mem_map.mpr ⟨_, (show _ ∈ lw_privs_1 ++ (lw_privs_2 ++ (lw_privs_3 ++ (lw_privs_4 ++ (lw_privs_5 ++ (lw_privs_6))))) from List.mem_append_left _ (List.mem_of_getElem? (i := 6) rfl)), rfl⟩)) rfl
set_option maxRecDepth 20000 in
set_option maxRecDepth 20000 in
theorem zm_1_216 : Cond.instanceMethod ({ cls := "AnswerSquare$Text", name := "takeNumber", desc := "(I)V" } : MethodName) ∈ ztbl := zg (zt_1 (List.mem_of_getElem? (i := 216) rfl)) rfl
theorem zy_X2_takeNumber : zYv mX2_takeNumber 1 := ⟨zm_1_217, zm_1_2, zm_1_216, zs_X2_takeNumber, ⟨by decide +kernel, by decide +kernel⟩, by decide +kernel, by decide⟩
def mJ9_min_7cf53 : ZM := (yJ9_min_7cf53, cJ9_min_7cf53, 2, (some (FieldType.int)))
set_option maxRecDepth 20000 in
theorem zm_1_220 : Cond.code ({ cls := "java/lang/Math", name := "min", desc := "(II)I" } : MethodName) prog_8_method_69_code (2 : Nat) (Option.some FieldType.int) ∈ ztbl := zg (zt_1 (List.mem_of_getElem? (i := 220) rfl)) rfl
set_option maxRecDepth 20000 in
set_option maxRecDepth 20000 in
theorem zm_1_6 : Cond.initialized "java/lang/Math" ∈ ztbl := zg (zt_1 (List.mem_of_getElem? (i := 6) rfl)) rfl
set_option maxRecDepth 20000 in
theorem zm_1_219 : Cond.static ({ cls := "java/lang/Math", name := "min", desc := "(II)I" } : MethodName) ∈ ztbl := zg (zt_1 (List.mem_of_getElem? (i := 219) rfl)) rfl
theorem zy_J9_min_7cf53 : zYs mJ9_min_7cf53 2 := ⟨zm_1_220, zm_1_6, zm_1_219, ⟨by decide +kernel, by decide +kernel⟩, by decide +kernel, by decide⟩
def mX0_readItem : ZM := (yX0_readItem, cX0_readItem, 5, (some (FieldType.boolean)))
set_option maxRecDepth 20000 in
theorem zm_1_224 : Cond.code ({ cls := "AnswerSquare$Duchy", name := "readItem", desc := "(LAnswerSquare$Text;)Z" } : MethodName) prog_2_method_3_code (5 : Nat) (Option.some FieldType.boolean) ∈ ztbl := zg (zt_1 (List.mem_of_getElem? (i := 224) rfl)) rfl
set_option maxRecDepth 20000 in
theorem zs_X0_readItem : Cond.selects "AnswerSquare$Duchy" ({ cls := "AnswerSquare$Duchy", name := "readItem", desc := "(LAnswerSquare$Text;)Z" } : MethodName) ({ cls := "AnswerSquare$Duchy", name := "readItem", desc := "(LAnswerSquare$Text;)Z" } : MethodName) ∈ ztbl := zg (List.mem_append_left _ (List.mem_map.mpr ⟨_, (show _ ∈ lw_privs_1 ++ (lw_privs_2 ++ (lw_privs_3 ++ (lw_privs_4 ++ (lw_privs_5 ++ (lw_privs_6))))) from List.mem_append_left _ (List.mem_of_getElem? (i := 7) rfl)), rfl⟩)) rfl
set_option maxRecDepth 20000 in
set_option maxRecDepth 20000 in
theorem zm_1_223 : Cond.instanceMethod ({ cls := "AnswerSquare$Duchy", name := "readItem", desc := "(LAnswerSquare$Text;)Z" } : MethodName) ∈ ztbl := zg (zt_1 (List.mem_of_getElem? (i := 223) rfl)) rfl
theorem zy_X0_readItem : zYv mX0_readItem 1 := ⟨zm_1_224, zm_1_3, zm_1_223, zs_X0_readItem, ⟨by decide +kernel, by decide +kernel⟩, by decide +kernel, by decide⟩
def mX0_hasRoomFor : ZM := (yX0_hasRoomFor, cX0_hasRoomFor, 2, (some (FieldType.boolean)))
set_option maxRecDepth 20000 in
theorem zm_1_228 : Cond.code ({ cls := "AnswerSquare$Duchy", name := "hasRoomFor", desc := "(I)Z" } : MethodName) prog_2_method_4_code (2 : Nat) (Option.some FieldType.boolean) ∈ ztbl := zg (zt_1 (List.mem_of_getElem? (i := 228) rfl)) rfl
set_option maxRecDepth 20000 in
theorem zs_X0_hasRoomFor : Cond.selects "AnswerSquare$Duchy" ({ cls := "AnswerSquare$Duchy", name := "hasRoomFor", desc := "(I)Z" } : MethodName) ({ cls := "AnswerSquare$Duchy", name := "hasRoomFor", desc := "(I)Z" } : MethodName) ∈ ztbl := zg (List.mem_append_left _ (List.mem_map.mpr ⟨_, (show _ ∈ lw_privs_1 ++ (lw_privs_2 ++ (lw_privs_3 ++ (lw_privs_4 ++ (lw_privs_5 ++ (lw_privs_6))))) from List.mem_append_left _ (List.mem_of_getElem? (i := 8) rfl)), rfl⟩)) rfl
set_option maxRecDepth 20000 in
set_option maxRecDepth 20000 in
theorem zm_1_227 : Cond.instanceMethod ({ cls := "AnswerSquare$Duchy", name := "hasRoomFor", desc := "(I)Z" } : MethodName) ∈ ztbl := zg (zt_1 (List.mem_of_getElem? (i := 227) rfl)) rfl
theorem zy_X0_hasRoomFor : zYv mX0_hasRoomFor 1 := ⟨zm_1_228, zm_1_3, zm_1_227, zs_X0_hasRoomFor, ⟨by decide +kernel, by decide +kernel⟩, by decide +kernel, by decide⟩
def mX2_isNumber : ZM := (yX2_isNumber, cX2_isNumber, 3, (some (FieldType.boolean)))
set_option maxRecDepth 20000 in
theorem zm_1_233 : Cond.code ({ cls := "AnswerSquare$Text", name := "isNumber", desc := "(II)Z" } : MethodName) prog_4_method_8_code (3 : Nat) (Option.some FieldType.boolean) ∈ ztbl := zg (zt_1 (List.mem_of_getElem? (i := 233) rfl)) rfl
set_option maxRecDepth 20000 in
theorem zs_X2_isNumber : Cond.selects "AnswerSquare$Text" ({ cls := "AnswerSquare$Text", name := "isNumber", desc := "(II)Z" } : MethodName) ({ cls := "AnswerSquare$Text", name := "isNumber", desc := "(II)Z" } : MethodName) ∈ ztbl := zg (List.mem_append_left _ (List.mem_map.mpr ⟨_, (show _ ∈ lw_privs_1 ++ (lw_privs_2 ++ (lw_privs_3 ++ (lw_privs_4 ++ (lw_privs_5 ++ (lw_privs_6))))) from List.mem_append_left _ (List.mem_of_getElem? (i := 9) rfl)), rfl⟩)) rfl
set_option maxRecDepth 20000 in
set_option maxRecDepth 20000 in
theorem zm_1_232 : Cond.instanceMethod ({ cls := "AnswerSquare$Text", name := "isNumber", desc := "(II)Z" } : MethodName) ∈ ztbl := zg (zt_1 (List.mem_of_getElem? (i := 232) rfl)) rfl
theorem zy_X2_isNumber : zYv mX2_isNumber 2 := ⟨zm_1_233, zm_1_2, zm_1_232, zs_X2_isNumber, ⟨by decide +kernel, by decide +kernel⟩, by decide +kernel, by decide⟩
def mX0_readNumbers : ZM := (yX0_readNumbers, cX0_readNumbers, 4, (some (FieldType.int)))
set_option maxRecDepth 20000 in
theorem zm_1_236 : Cond.code ({ cls := "AnswerSquare$Duchy", name := "readNumbers", desc := "(LAnswerSquare$Text;I)I" } : MethodName) prog_2_method_5_code (4 : Nat) (Option.some FieldType.int) ∈ ztbl := zg (zt_1 (List.mem_of_getElem? (i := 236) rfl)) rfl
set_option maxRecDepth 20000 in
set_option maxRecDepth 20000 in
theorem zm_1_235 : Cond.static ({ cls := "AnswerSquare$Duchy", name := "readNumbers", desc := "(LAnswerSquare$Text;I)I" } : MethodName) ∈ ztbl := zg (zt_1 (List.mem_of_getElem? (i := 235) rfl)) rfl
theorem zy_X0_readNumbers : zYs mX0_readNumbers 2 := ⟨zm_1_236, zm_1_3, zm_1_235, ⟨by decide +kernel, by decide +kernel⟩, by decide +kernel, by decide⟩
def mX0_take : ZM := (yX0_take, cX0_take, 4, none)
set_option maxRecDepth 20000 in
theorem zm_2_0 : Cond.code ({ cls := "AnswerSquare$Duchy", name := "take", desc := "(III)V" } : MethodName) prog_2_method_6_code (4 : Nat) (Option.none : Option FieldType) ∈ ztbl := zg (zt_2 (List.mem_of_getElem? (i := 0) rfl)) rfl
set_option maxRecDepth 20000 in
theorem zs_X0_take : Cond.selects "AnswerSquare$Duchy" ({ cls := "AnswerSquare$Duchy", name := "take", desc := "(III)V" } : MethodName) ({ cls := "AnswerSquare$Duchy", name := "take", desc := "(III)V" } : MethodName) ∈ ztbl := zg (List.mem_append_left _ (List.mem_map.mpr ⟨_, (show _ ∈ lw_privs_1 ++ (lw_privs_2 ++ (lw_privs_3 ++ (lw_privs_4 ++ (lw_privs_5 ++ (lw_privs_6))))) from List.mem_append_left _ (List.mem_of_getElem? (i := 10) rfl)), rfl⟩)) rfl
set_option maxRecDepth 20000 in
set_option maxRecDepth 20000 in
theorem zm_1_239 : Cond.instanceMethod ({ cls := "AnswerSquare$Duchy", name := "take", desc := "(III)V" } : MethodName) ∈ ztbl := zg (zt_1 (List.mem_of_getElem? (i := 239) rfl)) rfl
theorem zy_X0_take : zYv mX0_take 3 := ⟨zm_2_0, zm_1_3, zm_1_239, zs_X0_take, ⟨by decide +kernel, by decide +kernel⟩, by decide +kernel, by decide⟩
def mX0_settle : ZM := (yX0_settle, cX0_settle, 4, none)
set_option maxRecDepth 20000 in
theorem zm_2_4 : Cond.code ({ cls := "AnswerSquare$Duchy", name := "settle", desc := "()V" } : MethodName) prog_2_method_7_code (4 : Nat) (Option.none : Option FieldType) ∈ ztbl := zg (zt_2 (List.mem_of_getElem? (i := 4) rfl)) rfl
set_option maxRecDepth 20000 in
theorem zs_X0_settle : Cond.selects "AnswerSquare$Duchy" ({ cls := "AnswerSquare$Duchy", name := "settle", desc := "()V" } : MethodName) ({ cls := "AnswerSquare$Duchy", name := "settle", desc := "()V" } : MethodName) ∈ ztbl := zg (List.mem_append_left _ (List.mem_map.mpr ⟨_, (show _ ∈ lw_privs_1 ++ (lw_privs_2 ++ (lw_privs_3 ++ (lw_privs_4 ++ (lw_privs_5 ++ (lw_privs_6))))) from List.mem_append_left _ (List.mem_of_getElem? (i := 11) rfl)), rfl⟩)) rfl
set_option maxRecDepth 20000 in
set_option maxRecDepth 20000 in
theorem zm_2_3 : Cond.instanceMethod ({ cls := "AnswerSquare$Duchy", name := "settle", desc := "()V" } : MethodName) ∈ ztbl := zg (zt_2 (List.mem_of_getElem? (i := 3) rfl)) rfl
theorem zy_X0_settle : zYv mX0_settle 0 := ⟨zm_2_4, zm_1_3, zm_2_3, zs_X0_settle, ⟨by decide +kernel, by decide +kernel⟩, by decide +kernel, by decide⟩
def mX1_reset : ZM := (yX1_reset, cX1_reset, 1, none)
set_option maxRecDepth 20000 in
theorem zm_2_8 : Cond.code ({ cls := "AnswerSquare$Moment", name := "reset", desc := "()V" } : MethodName) prog_3_method_2_code (1 : Nat) (Option.none : Option FieldType) ∈ ztbl := zg (zt_2 (List.mem_of_getElem? (i := 8) rfl)) rfl
set_option maxRecDepth 20000 in
theorem zs_X1_reset : Cond.selects "AnswerSquare$Moment" ({ cls := "AnswerSquare$Moment", name := "reset", desc := "()V" } : MethodName) ({ cls := "AnswerSquare$Moment", name := "reset", desc := "()V" } : MethodName) ∈ ztbl := zg (List.mem_append_left _ (List.mem_map.mpr ⟨_, (show _ ∈ lw_privs_1 ++ (lw_privs_2 ++ (lw_privs_3 ++ (lw_privs_4 ++ (lw_privs_5 ++ (lw_privs_6))))) from List.mem_append_left _ (List.mem_of_getElem? (i := 12) rfl)), rfl⟩)) rfl
set_option maxRecDepth 20000 in
set_option maxRecDepth 20000 in
theorem zm_1_4 : Cond.initialized "AnswerSquare$Moment" ∈ ztbl := zg (zt_1 (List.mem_of_getElem? (i := 4) rfl)) rfl
set_option maxRecDepth 20000 in
theorem zm_2_7 : Cond.instanceMethod ({ cls := "AnswerSquare$Moment", name := "reset", desc := "()V" } : MethodName) ∈ ztbl := zg (zt_2 (List.mem_of_getElem? (i := 7) rfl)) rfl
theorem zy_X1_reset : zYv mX1_reset 0 := ⟨zm_2_8, zm_1_4, zm_2_7, zs_X1_reset, ⟨by decide +kernel, by decide +kernel⟩, by decide +kernel, by decide⟩
def mX3_tellNothing : ZM := (yX3_tellNothing, cX3_tellNothing, 2, none)
set_option maxRecDepth 20000 in
theorem zm_2_12 : Cond.code ({ cls := "AnswerSquare", name := "tellNothing", desc := "()V" } : MethodName) prog_1_method_28_code (2 : Nat) (Option.none : Option FieldType) ∈ ztbl := zg (zt_2 (List.mem_of_getElem? (i := 12) rfl)) rfl
set_option maxRecDepth 20000 in
theorem zs_X3_tellNothing : Cond.selects "AnswerSquare" ({ cls := "AnswerSquare", name := "tellNothing", desc := "()V" } : MethodName) ({ cls := "AnswerSquare", name := "tellNothing", desc := "()V" } : MethodName) ∈ ztbl := zg (List.mem_append_left _ (List.mem_map.mpr ⟨_, (show _ ∈ lw_privs_1 ++ (lw_privs_2 ++ (lw_privs_3 ++ (lw_privs_4 ++ (lw_privs_5 ++ (lw_privs_6))))) from List.mem_append_left _ (List.mem_of_getElem? (i := 13) rfl)), rfl⟩)) rfl
set_option maxRecDepth 20000 in
set_option maxRecDepth 20000 in
theorem zm_2_11 : Cond.instanceMethod ({ cls := "AnswerSquare", name := "tellNothing", desc := "()V" } : MethodName) ∈ ztbl := zg (zt_2 (List.mem_of_getElem? (i := 11) rfl)) rfl
theorem zy_X3_tellNothing : zYv mX3_tellNothing 0 := ⟨zm_2_12, zm_1_1, zm_2_11, zs_X3_tellNothing, ⟨by decide +kernel, by decide +kernel⟩, by decide +kernel, by decide⟩
def mX3_saying : ZM := (yX3_saying, cX3_saying, 3, (some (FieldType.int)))
set_option maxRecDepth 20000 in
theorem zm_2_16 : Cond.code ({ cls := "AnswerSquare", name := "saying", desc := "(II)I" } : MethodName) prog_1_method_5_code (3 : Nat) (Option.some FieldType.int) ∈ ztbl := zg (zt_2 (List.mem_of_getElem? (i := 16) rfl)) rfl
set_option maxRecDepth 20000 in
theorem zm_2_15 : Cond.selects "AnswerSquare" ({ cls := "AnswerSquare", name := "saying", desc := "(II)I" } : MethodName) ({ cls := "AnswerSquare", name := "saying", desc := "(II)I" } : MethodName) ∈ ztbl := zg (zt_2 (List.mem_of_getElem? (i := 15) rfl)) rfl
set_option maxRecDepth 20000 in
set_option maxRecDepth 20000 in
theorem zm_2_14 : Cond.instanceMethod ({ cls := "AnswerSquare", name := "saying", desc := "(II)I" } : MethodName) ∈ ztbl := zg (zt_2 (List.mem_of_getElem? (i := 14) rfl)) rfl
theorem zy_X3_saying : zYv mX3_saying 2 := ⟨zm_2_16, zm_1_1, zm_2_14, zm_2_15, ⟨by decide +kernel, by decide +kernel⟩, by decide +kernel, by decide⟩
def mX0_hasSaying : ZM := (yX0_hasSaying, cX0_hasSaying, 2, (some (FieldType.boolean)))
set_option maxRecDepth 20000 in
theorem zm_2_20 : Cond.code ({ cls := "AnswerSquare$Duchy", name := "hasSaying", desc := "(I)Z" } : MethodName) prog_2_method_8_code (2 : Nat) (Option.some FieldType.boolean) ∈ ztbl := zg (zt_2 (List.mem_of_getElem? (i := 20) rfl)) rfl
set_option maxRecDepth 20000 in
theorem zs_X0_hasSaying : Cond.selects "AnswerSquare$Duchy" ({ cls := "AnswerSquare$Duchy", name := "hasSaying", desc := "(I)Z" } : MethodName) ({ cls := "AnswerSquare$Duchy", name := "hasSaying", desc := "(I)Z" } : MethodName) ∈ ztbl := zg (List.mem_append_left _ (List.mem_map.mpr ⟨_, (show _ ∈ lw_privs_1 ++ (lw_privs_2 ++ (lw_privs_3 ++ (lw_privs_4 ++ (lw_privs_5 ++ (lw_privs_6))))) from List.mem_append_left _ (List.mem_of_getElem? (i := 14) rfl)), rfl⟩)) rfl
set_option maxRecDepth 20000 in
set_option maxRecDepth 20000 in
theorem zm_2_19 : Cond.instanceMethod ({ cls := "AnswerSquare$Duchy", name := "hasSaying", desc := "(I)Z" } : MethodName) ∈ ztbl := zg (zt_2 (List.mem_of_getElem? (i := 19) rfl)) rfl
theorem zy_X0_hasSaying : zYv mX0_hasSaying 1 := ⟨zm_2_20, zm_1_3, zm_2_19, zs_X0_hasSaying, ⟨by decide +kernel, by decide +kernel⟩, by decide +kernel, by decide⟩
def mX0_isSound : ZM := (yX0_isSound, cX0_isSound, 2, (some (FieldType.boolean)))
set_option maxRecDepth 20000 in
theorem zm_2_24 : Cond.code ({ cls := "AnswerSquare$Duchy", name := "isSound", desc := "(I)Z" } : MethodName) prog_2_method_11_code (2 : Nat) (Option.some FieldType.boolean) ∈ ztbl := zg (zt_2 (List.mem_of_getElem? (i := 24) rfl)) rfl
set_option maxRecDepth 20000 in
theorem zs_X0_isSound : Cond.selects "AnswerSquare$Duchy" ({ cls := "AnswerSquare$Duchy", name := "isSound", desc := "(I)Z" } : MethodName) ({ cls := "AnswerSquare$Duchy", name := "isSound", desc := "(I)Z" } : MethodName) ∈ ztbl := zg (List.mem_append_left _ (List.mem_map.mpr ⟨_, (show _ ∈ lw_privs_1 ++ (lw_privs_2 ++ (lw_privs_3 ++ (lw_privs_4 ++ (lw_privs_5 ++ (lw_privs_6))))) from List.mem_append_left _ (List.mem_of_getElem? (i := 15) rfl)), rfl⟩)) rfl
set_option maxRecDepth 20000 in
set_option maxRecDepth 20000 in
theorem zm_2_23 : Cond.instanceMethod ({ cls := "AnswerSquare$Duchy", name := "isSound", desc := "(I)Z" } : MethodName) ∈ ztbl := zg (zt_2 (List.mem_of_getElem? (i := 23) rfl)) rfl
theorem zy_X0_isSound : zYv mX0_isSound 1 := ⟨zm_2_24, zm_1_3, zm_2_23, zs_X0_isSound, ⟨by decide +kernel, by decide +kernel⟩, by decide +kernel, by decide⟩
def mX0_knowers : ZM := (yX0_knowers, cX0_knowers, 4, (some (FieldType.int)))
set_option maxRecDepth 20000 in
theorem zm_2_28 : Cond.code ({ cls := "AnswerSquare$Duchy", name := "knowers", desc := "(I)I" } : MethodName) prog_2_method_14_code (4 : Nat) (Option.some FieldType.int) ∈ ztbl := zg (zt_2 (List.mem_of_getElem? (i := 28) rfl)) rfl
set_option maxRecDepth 20000 in
theorem zs_X0_knowers : Cond.selects "AnswerSquare$Duchy" ({ cls := "AnswerSquare$Duchy", name := "knowers", desc := "(I)I" } : MethodName) ({ cls := "AnswerSquare$Duchy", name := "knowers", desc := "(I)I" } : MethodName) ∈ ztbl := zg (List.mem_append_left _ (List.mem_map.mpr ⟨_, (show _ ∈ lw_privs_1 ++ (lw_privs_2 ++ (lw_privs_3 ++ (lw_privs_4 ++ (lw_privs_5 ++ (lw_privs_6))))) from List.mem_append_right _ (List.mem_append_left _ (List.mem_of_getElem? (i := 0) rfl))), rfl⟩)) rfl
set_option maxRecDepth 20000 in
set_option maxRecDepth 20000 in
theorem zm_2_27 : Cond.instanceMethod ({ cls := "AnswerSquare$Duchy", name := "knowers", desc := "(I)I" } : MethodName) ∈ ztbl := zg (zt_2 (List.mem_of_getElem? (i := 27) rfl)) rfl
theorem zy_X0_knowers : zYv mX0_knowers 1 := ⟨zm_2_28, zm_1_3, zm_2_27, zs_X0_knowers, ⟨by decide +kernel, by decide +kernel⟩, by decide +kernel, by decide⟩
def mX1_timesIn : ZM := (yX1_timesIn, cX1_timesIn, 4, (some (FieldType.int)))
set_option maxRecDepth 20000 in
theorem zm_2_32 : Cond.code ({ cls := "AnswerSquare$Moment", name := "timesIn", desc := "(I)I" } : MethodName) prog_3_method_9_code (4 : Nat) (Option.some FieldType.int) ∈ ztbl := zg (zt_2 (List.mem_of_getElem? (i := 32) rfl)) rfl
set_option maxRecDepth 20000 in
theorem zs_X1_timesIn : Cond.selects "AnswerSquare$Moment" ({ cls := "AnswerSquare$Moment", name := "timesIn", desc := "(I)I" } : MethodName) ({ cls := "AnswerSquare$Moment", name := "timesIn", desc := "(I)I" } : MethodName) ∈ ztbl := zg (List.mem_append_left _ (List.mem_map.mpr ⟨_, (show _ ∈ lw_privs_1 ++ (lw_privs_2 ++ (lw_privs_3 ++ (lw_privs_4 ++ (lw_privs_5 ++ (lw_privs_6))))) from List.mem_append_right _ (List.mem_append_left _ (List.mem_of_getElem? (i := 1) rfl))), rfl⟩)) rfl
set_option maxRecDepth 20000 in
set_option maxRecDepth 20000 in
theorem zm_2_31 : Cond.instanceMethod ({ cls := "AnswerSquare$Moment", name := "timesIn", desc := "(I)I" } : MethodName) ∈ ztbl := zg (zt_2 (List.mem_of_getElem? (i := 31) rfl)) rfl
theorem zy_X1_timesIn : zYv mX1_timesIn 1 := ⟨zm_2_32, zm_1_4, zm_2_31, zs_X1_timesIn, ⟨by decide +kernel, by decide +kernel⟩, by decide +kernel, by decide⟩
def mX3_person : ZM := (yX3_person, cX3_person, 3, (some (FieldType.int)))
set_option maxRecDepth 20000 in
theorem zm_2_36 : Cond.code ({ cls := "AnswerSquare", name := "person", desc := "(II)I" } : MethodName) prog_1_method_6_code (3 : Nat) (Option.some FieldType.int) ∈ ztbl := zg (zt_2 (List.mem_of_getElem? (i := 36) rfl)) rfl
set_option maxRecDepth 20000 in
theorem zm_2_35 : Cond.selects "AnswerSquare" ({ cls := "AnswerSquare", name := "person", desc := "(II)I" } : MethodName) ({ cls := "AnswerSquare", name := "person", desc := "(II)I" } : MethodName) ∈ ztbl := zg (zt_2 (List.mem_of_getElem? (i := 35) rfl)) rfl
set_option maxRecDepth 20000 in
set_option maxRecDepth 20000 in
theorem zm_2_34 : Cond.instanceMethod ({ cls := "AnswerSquare", name := "person", desc := "(II)I" } : MethodName) ∈ ztbl := zg (zt_2 (List.mem_of_getElem? (i := 34) rfl)) rfl
theorem zy_X3_person : zYv mX3_person 2 := ⟨zm_2_36, zm_1_1, zm_2_34, zm_2_35, ⟨by decide +kernel, by decide +kernel⟩, by decide +kernel, by decide⟩
def mX0_hasPerson : ZM := (yX0_hasPerson, cX0_hasPerson, 2, (some (FieldType.boolean)))
set_option maxRecDepth 20000 in
theorem zm_2_40 : Cond.code ({ cls := "AnswerSquare$Duchy", name := "hasPerson", desc := "(I)Z" } : MethodName) prog_2_method_9_code (2 : Nat) (Option.some FieldType.boolean) ∈ ztbl := zg (zt_2 (List.mem_of_getElem? (i := 40) rfl)) rfl
set_option maxRecDepth 20000 in
theorem zs_X0_hasPerson : Cond.selects "AnswerSquare$Duchy" ({ cls := "AnswerSquare$Duchy", name := "hasPerson", desc := "(I)Z" } : MethodName) ({ cls := "AnswerSquare$Duchy", name := "hasPerson", desc := "(I)Z" } : MethodName) ∈ ztbl := zg (List.mem_append_left _ (List.mem_map.mpr ⟨_, (show _ ∈ lw_privs_1 ++ (lw_privs_2 ++ (lw_privs_3 ++ (lw_privs_4 ++ (lw_privs_5 ++ (lw_privs_6))))) from List.mem_append_right _ (List.mem_append_left _ (List.mem_of_getElem? (i := 2) rfl))), rfl⟩)) rfl
set_option maxRecDepth 20000 in
set_option maxRecDepth 20000 in
theorem zm_2_39 : Cond.instanceMethod ({ cls := "AnswerSquare$Duchy", name := "hasPerson", desc := "(I)Z" } : MethodName) ∈ ztbl := zg (zt_2 (List.mem_of_getElem? (i := 39) rfl)) rfl
theorem zy_X0_hasPerson : zYv mX0_hasPerson 1 := ⟨zm_2_40, zm_1_3, zm_2_39, zs_X0_hasPerson, ⟨by decide +kernel, by decide +kernel⟩, by decide +kernel, by decide⟩
def mX3_thereNow : ZM := (yX3_thereNow, cX3_thereNow, 1, (some (FieldType.int)))
set_option maxRecDepth 20000 in
theorem zm_2_44 : Cond.code ({ cls := "AnswerSquare", name := "thereNow", desc := "()I" } : MethodName) prog_1_method_14_code (1 : Nat) (Option.some FieldType.int) ∈ ztbl := zg (zt_2 (List.mem_of_getElem? (i := 44) rfl)) rfl
set_option maxRecDepth 20000 in
theorem zs_X3_thereNow : Cond.selects "AnswerSquare" ({ cls := "AnswerSquare", name := "thereNow", desc := "()I" } : MethodName) ({ cls := "AnswerSquare", name := "thereNow", desc := "()I" } : MethodName) ∈ ztbl := zg (List.mem_append_left _ (List.mem_map.mpr ⟨_, (show _ ∈ lw_privs_1 ++ (lw_privs_2 ++ (lw_privs_3 ++ (lw_privs_4 ++ (lw_privs_5 ++ (lw_privs_6))))) from List.mem_append_right _ (List.mem_append_left _ (List.mem_of_getElem? (i := 3) rfl))), rfl⟩)) rfl
set_option maxRecDepth 20000 in
set_option maxRecDepth 20000 in
theorem zm_2_43 : Cond.instanceMethod ({ cls := "AnswerSquare", name := "thereNow", desc := "()I" } : MethodName) ∈ ztbl := zg (zt_2 (List.mem_of_getElem? (i := 43) rfl)) rfl
theorem zy_X3_thereNow : zYv mX3_thereNow 0 := ⟨zm_2_44, zm_1_1, zm_2_43, zs_X3_thereNow, ⟨by decide +kernel, by decide +kernel⟩, by decide +kernel, by decide⟩
def mX1_there : ZM := (yX1_there, cX1_there, 5, (some (FieldType.int)))
set_option maxRecDepth 20000 in
theorem zm_2_48 : Cond.code ({ cls := "AnswerSquare$Moment", name := "there", desc := "(II)I" } : MethodName) prog_3_method_14_code (5 : Nat) (Option.some FieldType.int) ∈ ztbl := zg (zt_2 (List.mem_of_getElem? (i := 48) rfl)) rfl
set_option maxRecDepth 20000 in
theorem zs_X1_there : Cond.selects "AnswerSquare$Moment" ({ cls := "AnswerSquare$Moment", name := "there", desc := "(II)I" } : MethodName) ({ cls := "AnswerSquare$Moment", name := "there", desc := "(II)I" } : MethodName) ∈ ztbl := zg (List.mem_append_left _ (List.mem_map.mpr ⟨_, (show _ ∈ lw_privs_1 ++ (lw_privs_2 ++ (lw_privs_3 ++ (lw_privs_4 ++ (lw_privs_5 ++ (lw_privs_6))))) from List.mem_append_right _ (List.mem_append_left _ (List.mem_of_getElem? (i := 4) rfl))), rfl⟩)) rfl
set_option maxRecDepth 20000 in
set_option maxRecDepth 20000 in
theorem zm_2_47 : Cond.instanceMethod ({ cls := "AnswerSquare$Moment", name := "there", desc := "(II)I" } : MethodName) ∈ ztbl := zg (zt_2 (List.mem_of_getElem? (i := 47) rfl)) rfl
theorem zy_X1_there : zYv mX1_there 2 := ⟨zm_2_48, zm_1_4, zm_2_47, zs_X1_there, ⟨by decide +kernel, by decide +kernel⟩, by decide +kernel, by decide⟩
def mX1_isThere : ZM := (yX1_isThere, cX1_isThere, 4, (some (FieldType.boolean)))
set_option maxRecDepth 20000 in
theorem zm_2_52 : Cond.code ({ cls := "AnswerSquare$Moment", name := "isThere", desc := "(III)Z" } : MethodName) prog_3_method_13_code (4 : Nat) (Option.some FieldType.boolean) ∈ ztbl := zg (zt_2 (List.mem_of_getElem? (i := 52) rfl)) rfl
set_option maxRecDepth 20000 in
theorem zs_X1_isThere : Cond.selects "AnswerSquare$Moment" ({ cls := "AnswerSquare$Moment", name := "isThere", desc := "(III)Z" } : MethodName) ({ cls := "AnswerSquare$Moment", name := "isThere", desc := "(III)Z" } : MethodName) ∈ ztbl := zg (List.mem_append_left _ (List.mem_map.mpr ⟨_, (show _ ∈ lw_privs_1 ++ (lw_privs_2 ++ (lw_privs_3 ++ (lw_privs_4 ++ (lw_privs_5 ++ (lw_privs_6))))) from List.mem_append_right _ (List.mem_append_left _ (List.mem_of_getElem? (i := 5) rfl))), rfl⟩)) rfl
set_option maxRecDepth 20000 in
set_option maxRecDepth 20000 in
theorem zm_2_51 : Cond.instanceMethod ({ cls := "AnswerSquare$Moment", name := "isThere", desc := "(III)Z" } : MethodName) ∈ ztbl := zg (zt_2 (List.mem_of_getElem? (i := 51) rfl)) rfl
theorem zy_X1_isThere : zYv mX1_isThere 3 := ⟨zm_2_52, zm_1_4, zm_2_51, zs_X1_isThere, ⟨by decide +kernel, by decide +kernel⟩, by decide +kernel, by decide⟩
def mX1_has : ZM := (yX1_has, cX1_has, 2, (some (FieldType.boolean)))
set_option maxRecDepth 20000 in
theorem zm_2_56 : Cond.code ({ cls := "AnswerSquare$Moment", name := "has", desc := "(I)Z" } : MethodName) prog_3_method_4_code (2 : Nat) (Option.some FieldType.boolean) ∈ ztbl := zg (zt_2 (List.mem_of_getElem? (i := 56) rfl)) rfl
set_option maxRecDepth 20000 in
theorem zs_X1_has : Cond.selects "AnswerSquare$Moment" ({ cls := "AnswerSquare$Moment", name := "has", desc := "(I)Z" } : MethodName) ({ cls := "AnswerSquare$Moment", name := "has", desc := "(I)Z" } : MethodName) ∈ ztbl := zg (List.mem_append_left _ (List.mem_map.mpr ⟨_, (show _ ∈ lw_privs_1 ++ (lw_privs_2 ++ (lw_privs_3 ++ (lw_privs_4 ++ (lw_privs_5 ++ (lw_privs_6))))) from List.mem_append_right _ (List.mem_append_left _ (List.mem_of_getElem? (i := 6) rfl))), rfl⟩)) rfl
set_option maxRecDepth 20000 in
set_option maxRecDepth 20000 in
theorem zm_2_55 : Cond.instanceMethod ({ cls := "AnswerSquare$Moment", name := "has", desc := "(I)Z" } : MethodName) ∈ ztbl := zg (zt_2 (List.mem_of_getElem? (i := 55) rfl)) rfl
theorem zy_X1_has : zYv mX1_has 1 := ⟨zm_2_56, zm_1_4, zm_2_55, zs_X1_has, ⟨by decide +kernel, by decide +kernel⟩, by decide +kernel, by decide⟩
def mX0_answering : ZM := (yX0_answering, cX0_answering, 4, (some (FieldType.int)))
set_option maxRecDepth 20000 in
theorem zm_2_60 : Cond.code ({ cls := "AnswerSquare$Duchy", name := "answering", desc := "(I)I" } : MethodName) prog_2_method_15_code (4 : Nat) (Option.some FieldType.int) ∈ ztbl := zg (zt_2 (List.mem_of_getElem? (i := 60) rfl)) rfl
set_option maxRecDepth 20000 in
theorem zs_X0_answering : Cond.selects "AnswerSquare$Duchy" ({ cls := "AnswerSquare$Duchy", name := "answering", desc := "(I)I" } : MethodName) ({ cls := "AnswerSquare$Duchy", name := "answering", desc := "(I)I" } : MethodName) ∈ ztbl := zg (List.mem_append_left _ (List.mem_map.mpr ⟨_, (show _ ∈ lw_privs_1 ++ (lw_privs_2 ++ (lw_privs_3 ++ (lw_privs_4 ++ (lw_privs_5 ++ (lw_privs_6))))) from List.mem_append_right _ (List.mem_append_left _ (List.mem_of_getElem? (i := 7) rfl))), rfl⟩)) rfl
set_option maxRecDepth 20000 in
set_option maxRecDepth 20000 in
theorem zm_2_59 : Cond.instanceMethod ({ cls := "AnswerSquare$Duchy", name := "answering", desc := "(I)I" } : MethodName) ∈ ztbl := zg (zt_2 (List.mem_of_getElem? (i := 59) rfl)) rfl
theorem zy_X0_answering : zYv mX0_answering 1 := ⟨zm_2_60, zm_1_3, zm_2_59, zs_X0_answering, ⟨by decide +kernel, by decide +kernel⟩, by decide +kernel, by decide⟩
def mX0_canAnswer : ZM := (yX0_canAnswer, cX0_canAnswer, 3, (some (FieldType.boolean)))
set_option maxRecDepth 20000 in
theorem zm_2_64 : Cond.code ({ cls := "AnswerSquare$Duchy", name := "canAnswer", desc := "(II)Z" } : MethodName) prog_2_method_16_code (3 : Nat) (Option.some FieldType.boolean) ∈ ztbl := zg (zt_2 (List.mem_of_getElem? (i := 64) rfl)) rfl
set_option maxRecDepth 20000 in
theorem zs_X0_canAnswer : Cond.selects "AnswerSquare$Duchy" ({ cls := "AnswerSquare$Duchy", name := "canAnswer", desc := "(II)Z" } : MethodName) ({ cls := "AnswerSquare$Duchy", name := "canAnswer", desc := "(II)Z" } : MethodName) ∈ ztbl := zg (List.mem_append_left _ (List.mem_map.mpr ⟨_, (show _ ∈ lw_privs_1 ++ (lw_privs_2 ++ (lw_privs_3 ++ (lw_privs_4 ++ (lw_privs_5 ++ (lw_privs_6))))) from List.mem_append_right _ (List.mem_append_left _ (List.mem_of_getElem? (i := 8) rfl))), rfl⟩)) rfl
set_option maxRecDepth 20000 in
set_option maxRecDepth 20000 in
theorem zm_2_63 : Cond.instanceMethod ({ cls := "AnswerSquare$Duchy", name := "canAnswer", desc := "(II)Z" } : MethodName) ∈ ztbl := zg (zt_2 (List.mem_of_getElem? (i := 63) rfl)) rfl
theorem zy_X0_canAnswer : zYv mX0_canAnswer 2 := ⟨zm_2_64, zm_1_3, zm_2_63, zs_X0_canAnswer, ⟨by decide +kernel, by decide +kernel⟩, by decide +kernel, by decide⟩
def mX1_timesBy : ZM := (yX1_timesBy, cX1_timesBy, 4, (some (FieldType.int)))
set_option maxRecDepth 20000 in
theorem zm_2_69 : Cond.code ({ cls := "AnswerSquare$Moment", name := "timesBy", desc := "(I)I" } : MethodName) prog_3_method_10_code (4 : Nat) (Option.some FieldType.int) ∈ ztbl := zg (zt_2 (List.mem_of_getElem? (i := 69) rfl)) rfl
set_option maxRecDepth 20000 in
theorem zs_X1_timesBy : Cond.selects "AnswerSquare$Moment" ({ cls := "AnswerSquare$Moment", name := "timesBy", desc := "(I)I" } : MethodName) ({ cls := "AnswerSquare$Moment", name := "timesBy", desc := "(I)I" } : MethodName) ∈ ztbl := zg (List.mem_append_left _ (List.mem_map.mpr ⟨_, (show _ ∈ lw_privs_1 ++ (lw_privs_2 ++ (lw_privs_3 ++ (lw_privs_4 ++ (lw_privs_5 ++ (lw_privs_6))))) from List.mem_append_right _ (List.mem_append_left _ (List.mem_of_getElem? (i := 9) rfl))), rfl⟩)) rfl
set_option maxRecDepth 20000 in
set_option maxRecDepth 20000 in
theorem zm_2_68 : Cond.instanceMethod ({ cls := "AnswerSquare$Moment", name := "timesBy", desc := "(I)I" } : MethodName) ∈ ztbl := zg (zt_2 (List.mem_of_getElem? (i := 68) rfl)) rfl
theorem zy_X1_timesBy : zYv mX1_timesBy 1 := ⟨zm_2_69, zm_1_4, zm_2_68, zs_X1_timesBy, ⟨by decide +kernel, by decide +kernel⟩, by decide +kernel, by decide⟩
def mX3_talk : ZM := (yX3_talk, cX3_talk, 3, (some (FieldType.int)))
set_option maxRecDepth 20000 in
theorem zm_2_73 : Cond.code ({ cls := "AnswerSquare", name := "talk", desc := "(II)I" } : MethodName) prog_1_method_7_code (3 : Nat) (Option.some FieldType.int) ∈ ztbl := zg (zt_2 (List.mem_of_getElem? (i := 73) rfl)) rfl
set_option maxRecDepth 20000 in
theorem zm_2_72 : Cond.selects "AnswerSquare" ({ cls := "AnswerSquare", name := "talk", desc := "(II)I" } : MethodName) ({ cls := "AnswerSquare", name := "talk", desc := "(II)I" } : MethodName) ∈ ztbl := zg (zt_2 (List.mem_of_getElem? (i := 72) rfl)) rfl
set_option maxRecDepth 20000 in
set_option maxRecDepth 20000 in
theorem zm_2_71 : Cond.instanceMethod ({ cls := "AnswerSquare", name := "talk", desc := "(II)I" } : MethodName) ∈ ztbl := zg (zt_2 (List.mem_of_getElem? (i := 71) rfl)) rfl
theorem zy_X3_talk : zYv mX3_talk 2 := ⟨zm_2_73, zm_1_1, zm_2_71, zm_2_72, ⟨by decide +kernel, by decide +kernel⟩, by decide +kernel, by decide⟩
def mX1_isOpen : ZM := (yX1_isOpen, cX1_isOpen, 2, (some (FieldType.boolean)))
set_option maxRecDepth 20000 in
theorem zm_2_78 : Cond.code ({ cls := "AnswerSquare$Moment", name := "isOpen", desc := "(I)Z" } : MethodName) prog_3_method_11_code (2 : Nat) (Option.some FieldType.boolean) ∈ ztbl := zg (zt_2 (List.mem_of_getElem? (i := 78) rfl)) rfl
set_option maxRecDepth 20000 in
theorem zs_X1_isOpen : Cond.selects "AnswerSquare$Moment" ({ cls := "AnswerSquare$Moment", name := "isOpen", desc := "(I)Z" } : MethodName) ({ cls := "AnswerSquare$Moment", name := "isOpen", desc := "(I)Z" } : MethodName) ∈ ztbl := zg (List.mem_append_left _ (List.mem_map.mpr ⟨_, (show _ ∈ lw_privs_1 ++ (lw_privs_2 ++ (lw_privs_3 ++ (lw_privs_4 ++ (lw_privs_5 ++ (lw_privs_6))))) from List.mem_append_right _ (List.mem_append_left _ (List.mem_of_getElem? (i := 10) rfl))), rfl⟩)) rfl
set_option maxRecDepth 20000 in
set_option maxRecDepth 20000 in
theorem zm_2_77 : Cond.instanceMethod ({ cls := "AnswerSquare$Moment", name := "isOpen", desc := "(I)Z" } : MethodName) ∈ ztbl := zg (zt_2 (List.mem_of_getElem? (i := 77) rfl)) rfl
theorem zy_X1_isOpen : zYv mX1_isOpen 1 := ⟨zm_2_78, zm_1_4, zm_2_77, zs_X1_isOpen, ⟨by decide +kernel, by decide +kernel⟩, by decide +kernel, by decide⟩
def mX1_firstAnswerTo : ZM := (yX1_firstAnswerTo, cX1_firstAnswerTo, 3, (some (FieldType.int)))
set_option maxRecDepth 20000 in
theorem zm_2_82 : Cond.code ({ cls := "AnswerSquare$Moment", name := "firstAnswerTo", desc := "(I)I" } : MethodName) prog_3_method_12_code (3 : Nat) (Option.some FieldType.int) ∈ ztbl := zg (zt_2 (List.mem_of_getElem? (i := 82) rfl)) rfl
set_option maxRecDepth 20000 in
theorem zs_X1_firstAnswerTo : Cond.selects "AnswerSquare$Moment" ({ cls := "AnswerSquare$Moment", name := "firstAnswerTo", desc := "(I)I" } : MethodName) ({ cls := "AnswerSquare$Moment", name := "firstAnswerTo", desc := "(I)I" } : MethodName) ∈ ztbl := zg (List.mem_append_left _ (List.mem_map.mpr ⟨_, (show _ ∈ lw_privs_1 ++ (lw_privs_2 ++ (lw_privs_3 ++ (lw_privs_4 ++ (lw_privs_5 ++ (lw_privs_6))))) from List.mem_append_right _ (List.mem_append_left _ (List.mem_of_getElem? (i := 11) rfl))), rfl⟩)) rfl
set_option maxRecDepth 20000 in
set_option maxRecDepth 20000 in
theorem zm_2_81 : Cond.instanceMethod ({ cls := "AnswerSquare$Moment", name := "firstAnswerTo", desc := "(I)I" } : MethodName) ∈ ztbl := zg (zt_2 (List.mem_of_getElem? (i := 81) rfl)) rfl
theorem zy_X1_firstAnswerTo : zYv mX1_firstAnswerTo 1 := ⟨zm_2_82, zm_1_4, zm_2_81, zs_X1_firstAnswerTo, ⟨by decide +kernel, by decide +kernel⟩, by decide +kernel, by decide⟩
def mX3_hears : ZM := (yX3_hears, cX3_hears, 2, (some (FieldType.int)))
set_option maxRecDepth 20000 in
theorem zm_2_87 : Cond.code ({ cls := "AnswerSquare", name := "hears", desc := "(I)I" } : MethodName) prog_1_method_8_code (2 : Nat) (Option.some FieldType.int) ∈ ztbl := zg (zt_2 (List.mem_of_getElem? (i := 87) rfl)) rfl
set_option maxRecDepth 20000 in
theorem zm_2_86 : Cond.selects "AnswerSquare" ({ cls := "AnswerSquare", name := "hears", desc := "(I)I" } : MethodName) ({ cls := "AnswerSquare", name := "hears", desc := "(I)I" } : MethodName) ∈ ztbl := zg (zt_2 (List.mem_of_getElem? (i := 86) rfl)) rfl
set_option maxRecDepth 20000 in
set_option maxRecDepth 20000 in
theorem zm_2_85 : Cond.instanceMethod ({ cls := "AnswerSquare", name := "hears", desc := "(I)I" } : MethodName) ∈ ztbl := zg (zt_2 (List.mem_of_getElem? (i := 85) rfl)) rfl
theorem zy_X3_hears : zYv mX3_hears 1 := ⟨zm_2_87, zm_1_1, zm_2_85, zm_2_86, ⟨by decide +kernel, by decide +kernel⟩, by decide +kernel, by decide⟩
def mX1_add : ZM := (yX1_add, cX1_add, 4, (some (FieldType.boolean)))
set_option maxRecDepth 20000 in
theorem zm_2_91 : Cond.code ({ cls := "AnswerSquare$Moment", name := "add", desc := "(III)Z" } : MethodName) prog_3_method_5_code (4 : Nat) (Option.some FieldType.boolean) ∈ ztbl := zg (zt_2 (List.mem_of_getElem? (i := 91) rfl)) rfl
set_option maxRecDepth 20000 in
theorem zs_X1_add : Cond.selects "AnswerSquare$Moment" ({ cls := "AnswerSquare$Moment", name := "add", desc := "(III)Z" } : MethodName) ({ cls := "AnswerSquare$Moment", name := "add", desc := "(III)Z" } : MethodName) ∈ ztbl := zg (List.mem_append_left _ (List.mem_map.mpr ⟨_, (show _ ∈ lw_privs_1 ++ (lw_privs_2 ++ (lw_privs_3 ++ (lw_privs_4 ++ (lw_privs_5 ++ (lw_privs_6))))) from List.mem_append_right _ (List.mem_append_left _ (List.mem_of_getElem? (i := 12) rfl))), rfl⟩)) rfl
set_option maxRecDepth 20000 in
set_option maxRecDepth 20000 in
theorem zm_2_90 : Cond.instanceMethod ({ cls := "AnswerSquare$Moment", name := "add", desc := "(III)Z" } : MethodName) ∈ ztbl := zg (zt_2 (List.mem_of_getElem? (i := 90) rfl)) rfl
theorem zy_X1_add : zYv mX1_add 3 := ⟨zm_2_91, zm_1_4, zm_2_90, zs_X1_add, ⟨by decide +kernel, by decide +kernel⟩, by decide +kernel, by decide⟩
def mX1_remember : ZM := (yX1_remember, cX1_remember, 2, none)
set_option maxRecDepth 20000 in
theorem zm_2_95 : Cond.code ({ cls := "AnswerSquare$Moment", name := "remember", desc := "(I)V" } : MethodName) prog_3_method_7_code (2 : Nat) (Option.none : Option FieldType) ∈ ztbl := zg (zt_2 (List.mem_of_getElem? (i := 95) rfl)) rfl
set_option maxRecDepth 20000 in
theorem zs_X1_remember : Cond.selects "AnswerSquare$Moment" ({ cls := "AnswerSquare$Moment", name := "remember", desc := "(I)V" } : MethodName) ({ cls := "AnswerSquare$Moment", name := "remember", desc := "(I)V" } : MethodName) ∈ ztbl := zg (List.mem_append_left _ (List.mem_map.mpr ⟨_, (show _ ∈ lw_privs_1 ++ (lw_privs_2 ++ (lw_privs_3 ++ (lw_privs_4 ++ (lw_privs_5 ++ (lw_privs_6))))) from List.mem_append_right _ (List.mem_append_left _ (List.mem_of_getElem? (i := 13) rfl))), rfl⟩)) rfl
set_option maxRecDepth 20000 in
set_option maxRecDepth 20000 in
theorem zm_2_94 : Cond.instanceMethod ({ cls := "AnswerSquare$Moment", name := "remember", desc := "(I)V" } : MethodName) ∈ ztbl := zg (zt_2 (List.mem_of_getElem? (i := 94) rfl)) rfl
theorem zy_X1_remember : zYv mX1_remember 1 := ⟨zm_2_95, zm_1_4, zm_2_94, zs_X1_remember, ⟨by decide +kernel, by decide +kernel⟩, by decide +kernel, by decide⟩
def mX3_says : ZM := (yX3_says, cX3_says, 4, (some (FieldType.int)))
set_option maxRecDepth 20000 in
theorem zm_2_100 : Cond.code ({ cls := "AnswerSquare", name := "says", desc := "(II)I" } : MethodName) prog_1_method_9_code (4 : Nat) (Option.some FieldType.int) ∈ ztbl := zg (zt_2 (List.mem_of_getElem? (i := 100) rfl)) rfl
set_option maxRecDepth 20000 in
theorem zm_2_99 : Cond.selects "AnswerSquare" ({ cls := "AnswerSquare", name := "says", desc := "(II)I" } : MethodName) ({ cls := "AnswerSquare", name := "says", desc := "(II)I" } : MethodName) ∈ ztbl := zg (zt_2 (List.mem_of_getElem? (i := 99) rfl)) rfl
set_option maxRecDepth 20000 in
set_option maxRecDepth 20000 in
theorem zm_2_98 : Cond.instanceMethod ({ cls := "AnswerSquare", name := "says", desc := "(II)I" } : MethodName) ∈ ztbl := zg (zt_2 (List.mem_of_getElem? (i := 98) rfl)) rfl
theorem zy_X3_says : zYv mX3_says 2 := ⟨zm_2_100, zm_1_1, zm_2_98, zm_2_99, ⟨by decide +kernel, by decide +kernel⟩, by decide +kernel, by decide⟩
def mX1_latestOf : ZM := (yX1_latestOf, cX1_latestOf, 4, (some (FieldType.int)))
set_option maxRecDepth 20000 in
theorem zm_2_104 : Cond.code ({ cls := "AnswerSquare$Moment", name := "latestOf", desc := "(II)I" } : MethodName) prog_3_method_15_code (4 : Nat) (Option.some FieldType.int) ∈ ztbl := zg (zt_2 (List.mem_of_getElem? (i := 104) rfl)) rfl
set_option maxRecDepth 20000 in
theorem zs_X1_latestOf : Cond.selects "AnswerSquare$Moment" ({ cls := "AnswerSquare$Moment", name := "latestOf", desc := "(II)I" } : MethodName) ({ cls := "AnswerSquare$Moment", name := "latestOf", desc := "(II)I" } : MethodName) ∈ ztbl := zg (List.mem_append_left _ (List.mem_map.mpr ⟨_, (show _ ∈ lw_privs_1 ++ (lw_privs_2 ++ (lw_privs_3 ++ (lw_privs_4 ++ (lw_privs_5 ++ (lw_privs_6))))) from List.mem_append_right _ (List.mem_append_left _ (List.mem_of_getElem? (i := 14) rfl))), rfl⟩)) rfl
set_option maxRecDepth 20000 in
set_option maxRecDepth 20000 in
theorem zm_2_103 : Cond.instanceMethod ({ cls := "AnswerSquare$Moment", name := "latestOf", desc := "(II)I" } : MethodName) ∈ ztbl := zg (zt_2 (List.mem_of_getElem? (i := 103) rfl)) rfl
theorem zy_X1_latestOf : zYv mX1_latestOf 2 := ⟨zm_2_104, zm_1_4, zm_2_103, zs_X1_latestOf, ⟨by decide +kernel, by decide +kernel⟩, by decide +kernel, by decide⟩
def mX3_hour : ZM := (yX3_hour, cX3_hour, 1, (some (FieldType.int)))
set_option maxRecDepth 20000 in
theorem zm_2_108 : Cond.code ({ cls := "AnswerSquare", name := "hour", desc := "()I" } : MethodName) prog_1_method_10_code (1 : Nat) (Option.some FieldType.int) ∈ ztbl := zg (zt_2 (List.mem_of_getElem? (i := 108) rfl)) rfl
set_option maxRecDepth 20000 in
theorem zm_2_107 : Cond.selects "AnswerSquare" ({ cls := "AnswerSquare", name := "hour", desc := "()I" } : MethodName) ({ cls := "AnswerSquare", name := "hour", desc := "()I" } : MethodName) ∈ ztbl := zg (zt_2 (List.mem_of_getElem? (i := 107) rfl)) rfl
set_option maxRecDepth 20000 in
set_option maxRecDepth 20000 in
theorem zm_2_106 : Cond.instanceMethod ({ cls := "AnswerSquare", name := "hour", desc := "()I" } : MethodName) ∈ ztbl := zg (zt_2 (List.mem_of_getElem? (i := 106) rfl)) rfl
theorem zy_X3_hour : zYv mX3_hour 0 := ⟨zm_2_108, zm_1_1, zm_2_106, zm_2_107, ⟨by decide +kernel, by decide +kernel⟩, by decide +kernel, by decide⟩
def mX1_passHour : ZM := (yX1_passHour, cX1_passHour, 1, (some (FieldType.boolean)))
set_option maxRecDepth 20000 in
theorem zm_2_112 : Cond.code ({ cls := "AnswerSquare$Moment", name := "passHour", desc := "()Z" } : MethodName) prog_3_method_6_code (1 : Nat) (Option.some FieldType.boolean) ∈ ztbl := zg (zt_2 (List.mem_of_getElem? (i := 112) rfl)) rfl
set_option maxRecDepth 20000 in
theorem zs_X1_passHour : Cond.selects "AnswerSquare$Moment" ({ cls := "AnswerSquare$Moment", name := "passHour", desc := "()Z" } : MethodName) ({ cls := "AnswerSquare$Moment", name := "passHour", desc := "()Z" } : MethodName) ∈ ztbl := zg (List.mem_append_left _ (List.mem_map.mpr ⟨_, (show _ ∈ lw_privs_1 ++ (lw_privs_2 ++ (lw_privs_3 ++ (lw_privs_4 ++ (lw_privs_5 ++ (lw_privs_6))))) from List.mem_append_right _ (List.mem_append_left _ (List.mem_of_getElem? (i := 15) rfl))), rfl⟩)) rfl
set_option maxRecDepth 20000 in
set_option maxRecDepth 20000 in
theorem zm_2_111 : Cond.instanceMethod ({ cls := "AnswerSquare$Moment", name := "passHour", desc := "()Z" } : MethodName) ∈ ztbl := zg (zt_2 (List.mem_of_getElem? (i := 111) rfl)) rfl
theorem zy_X1_passHour : zYv mX1_passHour 0 := ⟨zm_2_112, zm_1_4, zm_2_111, zs_X1_passHour, ⟨by decide +kernel, by decide +kernel⟩, by decide +kernel, by decide⟩
def mX3_undo : ZM := (yX3_undo, cX3_undo, 1, (some (FieldType.int)))
set_option maxRecDepth 20000 in
theorem zm_2_116 : Cond.code ({ cls := "AnswerSquare", name := "undo", desc := "()I" } : MethodName) prog_1_method_11_code (1 : Nat) (Option.some FieldType.int) ∈ ztbl := zg (zt_2 (List.mem_of_getElem? (i := 116) rfl)) rfl
set_option maxRecDepth 20000 in
theorem zm_2_115 : Cond.selects "AnswerSquare" ({ cls := "AnswerSquare", name := "undo", desc := "()I" } : MethodName) ({ cls := "AnswerSquare", name := "undo", desc := "()I" } : MethodName) ∈ ztbl := zg (zt_2 (List.mem_of_getElem? (i := 115) rfl)) rfl
set_option maxRecDepth 20000 in
set_option maxRecDepth 20000 in
theorem zm_2_114 : Cond.instanceMethod ({ cls := "AnswerSquare", name := "undo", desc := "()I" } : MethodName) ∈ ztbl := zg (zt_2 (List.mem_of_getElem? (i := 114) rfl)) rfl
theorem zy_X3_undo : zYv mX3_undo 0 := ⟨zm_2_116, zm_1_1, zm_2_114, zm_2_115, ⟨by decide +kernel, by decide +kernel⟩, by decide +kernel, by decide⟩
def mX1_takeBack : ZM := (yX1_takeBack, cX1_takeBack, 1, (some (FieldType.boolean)))
set_option maxRecDepth 20000 in
theorem zm_2_120 : Cond.code ({ cls := "AnswerSquare$Moment", name := "takeBack", desc := "()Z" } : MethodName) prog_3_method_8_code (1 : Nat) (Option.some FieldType.boolean) ∈ ztbl := zg (zt_2 (List.mem_of_getElem? (i := 120) rfl)) rfl
set_option maxRecDepth 20000 in
theorem zs_X1_takeBack : Cond.selects "AnswerSquare$Moment" ({ cls := "AnswerSquare$Moment", name := "takeBack", desc := "()Z" } : MethodName) ({ cls := "AnswerSquare$Moment", name := "takeBack", desc := "()Z" } : MethodName) ∈ ztbl := zg (List.mem_append_left _ (List.mem_map.mpr ⟨_, (show _ ∈ lw_privs_1 ++ (lw_privs_2 ++ (lw_privs_3 ++ (lw_privs_4 ++ (lw_privs_5 ++ (lw_privs_6))))) from List.mem_append_right _ (List.mem_append_right _ (List.mem_append_left _ (List.mem_of_getElem? (i := 0) rfl)))), rfl⟩)) rfl
set_option maxRecDepth 20000 in
set_option maxRecDepth 20000 in
theorem zm_2_119 : Cond.instanceMethod ({ cls := "AnswerSquare$Moment", name := "takeBack", desc := "()Z" } : MethodName) ∈ ztbl := zg (zt_2 (List.mem_of_getElem? (i := 119) rfl)) rfl
theorem zy_X1_takeBack : zYv mX1_takeBack 0 := ⟨zm_2_120, zm_1_4, zm_2_119, zs_X1_takeBack, ⟨by decide +kernel, by decide +kernel⟩, by decide +kernel, by decide⟩
def mX3_now : ZM := (yX3_now, cX3_now, 2, (some (FieldType.int)))
set_option maxRecDepth 20000 in
theorem zm_2_124 : Cond.code ({ cls := "AnswerSquare", name := "now", desc := "(I)I" } : MethodName) prog_1_method_12_code (2 : Nat) (Option.some FieldType.int) ∈ ztbl := zg (zt_2 (List.mem_of_getElem? (i := 124) rfl)) rfl
set_option maxRecDepth 20000 in
theorem zm_2_123 : Cond.selects "AnswerSquare" ({ cls := "AnswerSquare", name := "now", desc := "(I)I" } : MethodName) ({ cls := "AnswerSquare", name := "now", desc := "(I)I" } : MethodName) ∈ ztbl := zg (zt_2 (List.mem_of_getElem? (i := 123) rfl)) rfl
set_option maxRecDepth 20000 in
set_option maxRecDepth 20000 in
theorem zm_2_122 : Cond.instanceMethod ({ cls := "AnswerSquare", name := "now", desc := "(I)I" } : MethodName) ∈ ztbl := zg (zt_2 (List.mem_of_getElem? (i := 122) rfl)) rfl
theorem zy_X3_now : zYv mX3_now 1 := ⟨zm_2_124, zm_1_1, zm_2_122, zm_2_123, ⟨by decide +kernel, by decide +kernel⟩, by decide +kernel, by decide⟩
def mX1_openOnes : ZM := (yX1_openOnes, cX1_openOnes, 3, (some (FieldType.int)))
set_option maxRecDepth 20000 in
theorem zm_2_128 : Cond.code ({ cls := "AnswerSquare$Moment", name := "openOnes", desc := "()I" } : MethodName) prog_3_method_16_code (3 : Nat) (Option.some FieldType.int) ∈ ztbl := zg (zt_2 (List.mem_of_getElem? (i := 128) rfl)) rfl
set_option maxRecDepth 20000 in
theorem zs_X1_openOnes : Cond.selects "AnswerSquare$Moment" ({ cls := "AnswerSquare$Moment", name := "openOnes", desc := "()I" } : MethodName) ({ cls := "AnswerSquare$Moment", name := "openOnes", desc := "()I" } : MethodName) ∈ ztbl := zg (List.mem_append_left _ (List.mem_map.mpr ⟨_, (show _ ∈ lw_privs_1 ++ (lw_privs_2 ++ (lw_privs_3 ++ (lw_privs_4 ++ (lw_privs_5 ++ (lw_privs_6))))) from List.mem_append_right _ (List.mem_append_right _ (List.mem_append_left _ (List.mem_of_getElem? (i := 1) rfl)))), rfl⟩)) rfl
set_option maxRecDepth 20000 in
set_option maxRecDepth 20000 in
theorem zm_2_127 : Cond.instanceMethod ({ cls := "AnswerSquare$Moment", name := "openOnes", desc := "()I" } : MethodName) ∈ ztbl := zg (zt_2 (List.mem_of_getElem? (i := 127) rfl)) rfl
theorem zy_X1_openOnes : zYv mX1_openOnes 0 := ⟨zm_2_128, zm_1_4, zm_2_127, zs_X1_openOnes, ⟨by decide +kernel, by decide +kernel⟩, by decide +kernel, by decide⟩
def mX1_farthest : ZM := (yX1_farthest, cX1_farthest, 3, (some (FieldType.int)))
set_option maxRecDepth 20000 in
theorem zm_2_133 : Cond.code ({ cls := "AnswerSquare$Moment", name := "farthest", desc := "()I" } : MethodName) prog_3_method_18_code (3 : Nat) (Option.some FieldType.int) ∈ ztbl := zg (zt_2 (List.mem_of_getElem? (i := 133) rfl)) rfl
set_option maxRecDepth 20000 in
theorem zs_X1_farthest : Cond.selects "AnswerSquare$Moment" ({ cls := "AnswerSquare$Moment", name := "farthest", desc := "()I" } : MethodName) ({ cls := "AnswerSquare$Moment", name := "farthest", desc := "()I" } : MethodName) ∈ ztbl := zg (List.mem_append_left _ (List.mem_map.mpr ⟨_, (show _ ∈ lw_privs_1 ++ (lw_privs_2 ++ (lw_privs_3 ++ (lw_privs_4 ++ (lw_privs_5 ++ (lw_privs_6))))) from List.mem_append_right _ (List.mem_append_right _ (List.mem_append_left _ (List.mem_of_getElem? (i := 2) rfl)))), rfl⟩)) rfl
set_option maxRecDepth 20000 in
set_option maxRecDepth 20000 in
theorem zm_2_132 : Cond.instanceMethod ({ cls := "AnswerSquare$Moment", name := "farthest", desc := "()I" } : MethodName) ∈ ztbl := zg (zt_2 (List.mem_of_getElem? (i := 132) rfl)) rfl
theorem zy_X1_farthest : zYv mX1_farthest 0 := ⟨zm_2_133, zm_1_4, zm_2_132, zs_X1_farthest, ⟨by decide +kernel, by decide +kernel⟩, by decide +kernel, by decide⟩
def mX1_lastOpen : ZM := (yX1_lastOpen, cX1_lastOpen, 2, (some (FieldType.int)))
set_option maxRecDepth 20000 in
theorem zm_2_137 : Cond.code ({ cls := "AnswerSquare$Moment", name := "lastOpen", desc := "()I" } : MethodName) prog_3_method_17_code (2 : Nat) (Option.some FieldType.int) ∈ ztbl := zg (zt_2 (List.mem_of_getElem? (i := 137) rfl)) rfl
set_option maxRecDepth 20000 in
theorem zs_X1_lastOpen : Cond.selects "AnswerSquare$Moment" ({ cls := "AnswerSquare$Moment", name := "lastOpen", desc := "()I" } : MethodName) ({ cls := "AnswerSquare$Moment", name := "lastOpen", desc := "()I" } : MethodName) ∈ ztbl := zg (List.mem_append_left _ (List.mem_map.mpr ⟨_, (show _ ∈ lw_privs_1 ++ (lw_privs_2 ++ (lw_privs_3 ++ (lw_privs_4 ++ (lw_privs_5 ++ (lw_privs_6))))) from List.mem_append_right _ (List.mem_append_right _ (List.mem_append_left _ (List.mem_of_getElem? (i := 3) rfl)))), rfl⟩)) rfl
set_option maxRecDepth 20000 in
set_option maxRecDepth 20000 in
theorem zm_2_136 : Cond.instanceMethod ({ cls := "AnswerSquare$Moment", name := "lastOpen", desc := "()I" } : MethodName) ∈ ztbl := zg (zt_2 (List.mem_of_getElem? (i := 136) rfl)) rfl
theorem zy_X1_lastOpen : zYv mX1_lastOpen 0 := ⟨zm_2_137, zm_1_4, zm_2_136, zs_X1_lastOpen, ⟨by decide +kernel, by decide +kernel⟩, by decide +kernel, by decide⟩
def mX1_firstAnswerers : ZM := (yX1_firstAnswerers, cX1_firstAnswerers, 4, (some (FieldType.int)))
set_option maxRecDepth 20000 in
theorem zm_2_141 : Cond.code ({ cls := "AnswerSquare$Moment", name := "firstAnswerers", desc := "()I" } : MethodName) prog_3_method_19_code (4 : Nat) (Option.some FieldType.int) ∈ ztbl := zg (zt_2 (List.mem_of_getElem? (i := 141) rfl)) rfl
set_option maxRecDepth 20000 in
theorem zs_X1_firstAnswerers : Cond.selects "AnswerSquare$Moment" ({ cls := "AnswerSquare$Moment", name := "firstAnswerers", desc := "()I" } : MethodName) ({ cls := "AnswerSquare$Moment", name := "firstAnswerers", desc := "()I" } : MethodName) ∈ ztbl := zg (List.mem_append_left _ (List.mem_map.mpr ⟨_, (show _ ∈ lw_privs_1 ++ (lw_privs_2 ++ (lw_privs_3 ++ (lw_privs_4 ++ (lw_privs_5 ++ (lw_privs_6))))) from List.mem_append_right _ (List.mem_append_right _ (List.mem_append_left _ (List.mem_of_getElem? (i := 4) rfl)))), rfl⟩)) rfl
set_option maxRecDepth 20000 in
set_option maxRecDepth 20000 in
theorem zm_2_140 : Cond.instanceMethod ({ cls := "AnswerSquare$Moment", name := "firstAnswerers", desc := "()I" } : MethodName) ∈ ztbl := zg (zt_2 (List.mem_of_getElem? (i := 140) rfl)) rfl
theorem zy_X1_firstAnswerers : zYv mX1_firstAnswerers 0 := ⟨zm_2_141, zm_1_4, zm_2_140, zs_X1_firstAnswerers, ⟨by decide +kernel, by decide +kernel⟩, by decide +kernel, by decide⟩
def mX3_hoursToSilence : ZM := (yX3_hoursToSilence, cX3_hoursToSilence, 2, (some (FieldType.int)))
set_option maxRecDepth 20000 in
theorem zm_2_145 : Cond.code ({ cls := "AnswerSquare", name := "hoursToSilence", desc := "()I" } : MethodName) prog_1_method_15_code (2 : Nat) (Option.some FieldType.int) ∈ ztbl := zg (zt_2 (List.mem_of_getElem? (i := 145) rfl)) rfl
set_option maxRecDepth 20000 in
theorem zs_X3_hoursToSilence : Cond.selects "AnswerSquare" ({ cls := "AnswerSquare", name := "hoursToSilence", desc := "()I" } : MethodName) ({ cls := "AnswerSquare", name := "hoursToSilence", desc := "()I" } : MethodName) ∈ ztbl := zg (List.mem_append_left _ (List.mem_map.mpr ⟨_, (show _ ∈ lw_privs_1 ++ (lw_privs_2 ++ (lw_privs_3 ++ (lw_privs_4 ++ (lw_privs_5 ++ (lw_privs_6))))) from List.mem_append_right _ (List.mem_append_right _ (List.mem_append_left _ (List.mem_of_getElem? (i := 5) rfl)))), rfl⟩)) rfl
set_option maxRecDepth 20000 in
set_option maxRecDepth 20000 in
theorem zm_2_144 : Cond.instanceMethod ({ cls := "AnswerSquare", name := "hoursToSilence", desc := "()I" } : MethodName) ∈ ztbl := zg (zt_2 (List.mem_of_getElem? (i := 144) rfl)) rfl
theorem zy_X3_hoursToSilence : zYv mX3_hoursToSilence 0 := ⟨zm_2_145, zm_1_1, zm_2_144, zs_X3_hoursToSilence, ⟨by decide +kernel, by decide +kernel⟩, by decide +kernel, by decide⟩
def mX3_worth : ZM := (yX3_worth, cX3_worth, 4, (some (FieldType.int)))
set_option maxRecDepth 20000 in
theorem zm_2_149 : Cond.code ({ cls := "AnswerSquare", name := "worth", desc := "(I)I" } : MethodName) prog_1_method_13_code (4 : Nat) (Option.some FieldType.int) ∈ ztbl := zg (zt_2 (List.mem_of_getElem? (i := 149) rfl)) rfl
set_option maxRecDepth 20000 in
theorem zm_2_148 : Cond.selects "AnswerSquare" ({ cls := "AnswerSquare", name := "worth", desc := "(I)I" } : MethodName) ({ cls := "AnswerSquare", name := "worth", desc := "(I)I" } : MethodName) ∈ ztbl := zg (zt_2 (List.mem_of_getElem? (i := 148) rfl)) rfl
set_option maxRecDepth 20000 in
set_option maxRecDepth 20000 in
theorem zm_2_147 : Cond.instanceMethod ({ cls := "AnswerSquare", name := "worth", desc := "(I)I" } : MethodName) ∈ ztbl := zg (zt_2 (List.mem_of_getElem? (i := 147) rfl)) rfl
theorem zy_X3_worth : zYv mX3_worth 1 := ⟨zm_2_149, zm_1_1, zm_2_147, zm_2_148, ⟨by decide +kernel, by decide +kernel⟩, by decide +kernel, by decide⟩
def mX0_worthOf : ZM := (yX0_worthOf, cX0_worthOf, 2, (some (FieldType.int)))
set_option maxRecDepth 20000 in
theorem zm_2_153 : Cond.code ({ cls := "AnswerSquare$Duchy", name := "worthOf", desc := "(I)I" } : MethodName) prog_2_method_12_code (2 : Nat) (Option.some FieldType.int) ∈ ztbl := zg (zt_2 (List.mem_of_getElem? (i := 153) rfl)) rfl
set_option maxRecDepth 20000 in
theorem zs_X0_worthOf : Cond.selects "AnswerSquare$Duchy" ({ cls := "AnswerSquare$Duchy", name := "worthOf", desc := "(I)I" } : MethodName) ({ cls := "AnswerSquare$Duchy", name := "worthOf", desc := "(I)I" } : MethodName) ∈ ztbl := zg (List.mem_append_left _ (List.mem_map.mpr ⟨_, (show _ ∈ lw_privs_1 ++ (lw_privs_2 ++ (lw_privs_3 ++ (lw_privs_4 ++ (lw_privs_5 ++ (lw_privs_6))))) from List.mem_append_right _ (List.mem_append_right _ (List.mem_append_left _ (List.mem_of_getElem? (i := 6) rfl)))), rfl⟩)) rfl
set_option maxRecDepth 20000 in
set_option maxRecDepth 20000 in
theorem zm_2_152 : Cond.instanceMethod ({ cls := "AnswerSquare$Duchy", name := "worthOf", desc := "(I)I" } : MethodName) ∈ ztbl := zg (zt_2 (List.mem_of_getElem? (i := 152) rfl)) rfl
theorem zy_X0_worthOf : zYv mX0_worthOf 1 := ⟨zm_2_153, zm_1_3, zm_2_152, zs_X0_worthOf, ⟨by decide +kernel, by decide +kernel⟩, by decide +kernel, by decide⟩
def mX3_chain : ZM := (yX3_chain, cX3_chain, 5, (some (FieldType.int)))
set_option maxRecDepth 20000 in
theorem zm_2_157 : Cond.code ({ cls := "AnswerSquare", name := "chain", desc := "(II)I" } : MethodName) prog_1_method_16_code (5 : Nat) (Option.some FieldType.int) ∈ ztbl := zg (zt_2 (List.mem_of_getElem? (i := 157) rfl)) rfl
set_option maxRecDepth 20000 in
theorem zm_2_156 : Cond.selects "AnswerSquare" ({ cls := "AnswerSquare", name := "chain", desc := "(II)I" } : MethodName) ({ cls := "AnswerSquare", name := "chain", desc := "(II)I" } : MethodName) ∈ ztbl := zg (zt_2 (List.mem_of_getElem? (i := 156) rfl)) rfl
set_option maxRecDepth 20000 in
set_option maxRecDepth 20000 in
theorem zm_2_155 : Cond.instanceMethod ({ cls := "AnswerSquare", name := "chain", desc := "(II)I" } : MethodName) ∈ ztbl := zg (zt_2 (List.mem_of_getElem? (i := 155) rfl)) rfl
theorem zy_X3_chain : zYv mX3_chain 2 := ⟨zm_2_157, zm_1_1, zm_2_155, zm_2_156, ⟨by decide +kernel, by decide +kernel⟩, by decide +kernel, by decide⟩
def mX3_chainLength : ZM := (yX3_chainLength, cX3_chainLength, 5, (some (FieldType.int)))
set_option maxRecDepth 20000 in
theorem zm_2_161 : Cond.code ({ cls := "AnswerSquare", name := "chainLength", desc := "(II)I" } : MethodName) prog_1_method_17_code (5 : Nat) (Option.some FieldType.int) ∈ ztbl := zg (zt_2 (List.mem_of_getElem? (i := 161) rfl)) rfl
set_option maxRecDepth 20000 in
theorem zs_X3_chainLength : Cond.selects "AnswerSquare" ({ cls := "AnswerSquare", name := "chainLength", desc := "(II)I" } : MethodName) ({ cls := "AnswerSquare", name := "chainLength", desc := "(II)I" } : MethodName) ∈ ztbl := zg (List.mem_append_left _ (List.mem_map.mpr ⟨_, (show _ ∈ lw_privs_1 ++ (lw_privs_2 ++ (lw_privs_3 ++ (lw_privs_4 ++ (lw_privs_5 ++ (lw_privs_6))))) from List.mem_append_right _ (List.mem_append_right _ (List.mem_append_left _ (List.mem_of_getElem? (i := 7) rfl)))), rfl⟩)) rfl
set_option maxRecDepth 20000 in
set_option maxRecDepth 20000 in
theorem zm_2_160 : Cond.instanceMethod ({ cls := "AnswerSquare", name := "chainLength", desc := "(II)I" } : MethodName) ∈ ztbl := zg (zt_2 (List.mem_of_getElem? (i := 160) rfl)) rfl
theorem zy_X3_chainLength : zYv mX3_chainLength 2 := ⟨zm_2_161, zm_1_1, zm_2_160, zs_X3_chainLength, ⟨by decide +kernel, by decide +kernel⟩, by decide +kernel, by decide⟩
def mX0_answeredBy : ZM := (yX0_answeredBy, cX0_answeredBy, 4, (some (FieldType.int)))
set_option maxRecDepth 20000 in
theorem zm_2_165 : Cond.code ({ cls := "AnswerSquare$Duchy", name := "answeredBy", desc := "(I)I" } : MethodName) prog_2_method_17_code (4 : Nat) (Option.some FieldType.int) ∈ ztbl := zg (zt_2 (List.mem_of_getElem? (i := 165) rfl)) rfl
set_option maxRecDepth 20000 in
theorem zs_X0_answeredBy : Cond.selects "AnswerSquare$Duchy" ({ cls := "AnswerSquare$Duchy", name := "answeredBy", desc := "(I)I" } : MethodName) ({ cls := "AnswerSquare$Duchy", name := "answeredBy", desc := "(I)I" } : MethodName) ∈ ztbl := zg (List.mem_append_left _ (List.mem_map.mpr ⟨_, (show _ ∈ lw_privs_1 ++ (lw_privs_2 ++ (lw_privs_3 ++ (lw_privs_4 ++ (lw_privs_5 ++ (lw_privs_6))))) from List.mem_append_right _ (List.mem_append_right _ (List.mem_append_left _ (List.mem_of_getElem? (i := 8) rfl)))), rfl⟩)) rfl
set_option maxRecDepth 20000 in
set_option maxRecDepth 20000 in
theorem zm_2_164 : Cond.instanceMethod ({ cls := "AnswerSquare$Duchy", name := "answeredBy", desc := "(I)I" } : MethodName) ∈ ztbl := zg (zt_2 (List.mem_of_getElem? (i := 164) rfl)) rfl
theorem zy_X0_answeredBy : zYv mX0_answeredBy 1 := ⟨zm_2_165, zm_1_3, zm_2_164, zs_X0_answeredBy, ⟨by decide +kernel, by decide +kernel⟩, by decide +kernel, by decide⟩
def mX3_chainStep : ZM := (yX3_chainStep, cX3_chainStep, 7, (some (FieldType.int)))
set_option maxRecDepth 20000 in
theorem zm_2_169 : Cond.code ({ cls := "AnswerSquare", name := "chainStep", desc := "(III)I" } : MethodName) prog_1_method_18_code (7 : Nat) (Option.some FieldType.int) ∈ ztbl := zg (zt_2 (List.mem_of_getElem? (i := 169) rfl)) rfl
set_option maxRecDepth 20000 in
theorem zs_X3_chainStep : Cond.selects "AnswerSquare" ({ cls := "AnswerSquare", name := "chainStep", desc := "(III)I" } : MethodName) ({ cls := "AnswerSquare", name := "chainStep", desc := "(III)I" } : MethodName) ∈ ztbl := zg (List.mem_append_left _ (List.mem_map.mpr ⟨_, (show _ ∈ lw_privs_1 ++ (lw_privs_2 ++ (lw_privs_3 ++ (lw_privs_4 ++ (lw_privs_5 ++ (lw_privs_6))))) from List.mem_append_right _ (List.mem_append_right _ (List.mem_append_left _ (List.mem_of_getElem? (i := 9) rfl)))), rfl⟩)) rfl
set_option maxRecDepth 20000 in
set_option maxRecDepth 20000 in
theorem zm_2_168 : Cond.instanceMethod ({ cls := "AnswerSquare", name := "chainStep", desc := "(III)I" } : MethodName) ∈ ztbl := zg (zt_2 (List.mem_of_getElem? (i := 168) rfl)) rfl
theorem zy_X3_chainStep : zYv mX3_chainStep 3 := ⟨zm_2_169, zm_1_1, zm_2_168, zs_X3_chainStep, ⟨by decide +kernel, by decide +kernel⟩, by decide +kernel, by decide⟩
def mX3_lowest : ZM := (yX3_lowest, cX3_lowest, 2, (some (FieldType.int)))
set_option maxRecDepth 20000 in
theorem zm_2_172 : Cond.code ({ cls := "AnswerSquare", name := "lowest", desc := "(I)I" } : MethodName) prog_1_method_19_code (2 : Nat) (Option.some FieldType.int) ∈ ztbl := zg (zt_2 (List.mem_of_getElem? (i := 172) rfl)) rfl
set_option maxRecDepth 20000 in
set_option maxRecDepth 20000 in
theorem zm_2_171 : Cond.static ({ cls := "AnswerSquare", name := "lowest", desc := "(I)I" } : MethodName) ∈ ztbl := zg (zt_2 (List.mem_of_getElem? (i := 171) rfl)) rfl
theorem zy_X3_lowest : zYs mX3_lowest 1 := ⟨zm_2_172, zm_1_1, zm_2_171, ⟨by decide +kernel, by decide +kernel⟩, by decide +kernel, by decide⟩
def mX3_sounds : ZM := (yX3_sounds, cX3_sounds, 5, (some (FieldType.int)))
set_option maxRecDepth 20000 in
theorem zm_2_176 : Cond.code ({ cls := "AnswerSquare", name := "sounds", desc := "(I)I" } : MethodName) prog_1_method_20_code (5 : Nat) (Option.some FieldType.int) ∈ ztbl := zg (zt_2 (List.mem_of_getElem? (i := 176) rfl)) rfl
set_option maxRecDepth 20000 in
theorem zm_2_175 : Cond.selects "AnswerSquare" ({ cls := "AnswerSquare", name := "sounds", desc := "(I)I" } : MethodName) ({ cls := "AnswerSquare", name := "sounds", desc := "(I)I" } : MethodName) ∈ ztbl := zg (zt_2 (List.mem_of_getElem? (i := 175) rfl)) rfl
set_option maxRecDepth 20000 in
set_option maxRecDepth 20000 in
theorem zm_2_174 : Cond.instanceMethod ({ cls := "AnswerSquare", name := "sounds", desc := "(I)I" } : MethodName) ∈ ztbl := zg (zt_2 (List.mem_of_getElem? (i := 174) rfl)) rfl
theorem zy_X3_sounds : zYv mX3_sounds 1 := ⟨zm_2_176, zm_1_1, zm_2_174, zm_2_175, ⟨by decide +kernel, by decide +kernel⟩, by decide +kernel, by decide⟩
def mX0_hasAll : ZM := (yX0_hasAll, cX0_hasAll, 2, (some (FieldType.boolean)))
set_option maxRecDepth 20000 in
theorem zm_2_180 : Cond.code ({ cls := "AnswerSquare$Duchy", name := "hasAll", desc := "(I)Z" } : MethodName) prog_2_method_10_code (2 : Nat) (Option.some FieldType.boolean) ∈ ztbl := zg (zt_2 (List.mem_of_getElem? (i := 180) rfl)) rfl
set_option maxRecDepth 20000 in
theorem zs_X0_hasAll : Cond.selects "AnswerSquare$Duchy" ({ cls := "AnswerSquare$Duchy", name := "hasAll", desc := "(I)Z" } : MethodName) ({ cls := "AnswerSquare$Duchy", name := "hasAll", desc := "(I)Z" } : MethodName) ∈ ztbl := zg (List.mem_append_left _ (List.mem_map.mpr ⟨_, (show _ ∈ lw_privs_1 ++ (lw_privs_2 ++ (lw_privs_3 ++ (lw_privs_4 ++ (lw_privs_5 ++ (lw_privs_6))))) from List.mem_append_right _ (List.mem_append_right _ (List.mem_append_left _ (List.mem_of_getElem? (i := 10) rfl)))), rfl⟩)) rfl
set_option maxRecDepth 20000 in
set_option maxRecDepth 20000 in
theorem zm_2_179 : Cond.instanceMethod ({ cls := "AnswerSquare$Duchy", name := "hasAll", desc := "(I)Z" } : MethodName) ∈ ztbl := zg (zt_2 (List.mem_of_getElem? (i := 179) rfl)) rfl
theorem zy_X0_hasAll : zYv mX0_hasAll 1 := ⟨zm_2_180, zm_1_3, zm_2_179, zs_X0_hasAll, ⟨by decide +kernel, by decide +kernel⟩, by decide +kernel, by decide⟩
def mX3_suffices : ZM := (yX3_suffices, cX3_suffices, 3, (some (FieldType.boolean)))
set_option maxRecDepth 20000 in
theorem zm_2_185 : Cond.code ({ cls := "AnswerSquare", name := "suffices", desc := "(II)Z" } : MethodName) prog_1_method_23_code (3 : Nat) (Option.some FieldType.boolean) ∈ ztbl := zg (zt_2 (List.mem_of_getElem? (i := 185) rfl)) rfl
set_option maxRecDepth 20000 in
theorem zs_X3_suffices : Cond.selects "AnswerSquare" ({ cls := "AnswerSquare", name := "suffices", desc := "(II)Z" } : MethodName) ({ cls := "AnswerSquare", name := "suffices", desc := "(II)Z" } : MethodName) ∈ ztbl := zg (List.mem_append_left _ (List.mem_map.mpr ⟨_, (show _ ∈ lw_privs_1 ++ (lw_privs_2 ++ (lw_privs_3 ++ (lw_privs_4 ++ (lw_privs_5 ++ (lw_privs_6))))) from List.mem_append_right _ (List.mem_append_right _ (List.mem_append_left _ (List.mem_of_getElem? (i := 11) rfl)))), rfl⟩)) rfl
set_option maxRecDepth 20000 in
set_option maxRecDepth 20000 in
theorem zm_2_184 : Cond.instanceMethod ({ cls := "AnswerSquare", name := "suffices", desc := "(II)Z" } : MethodName) ∈ ztbl := zg (zt_2 (List.mem_of_getElem? (i := 184) rfl)) rfl
theorem zy_X3_suffices : zYv mX3_suffices 2 := ⟨zm_2_185, zm_1_1, zm_2_184, zs_X3_suffices, ⟨by decide +kernel, by decide +kernel⟩, by decide +kernel, by decide⟩
def mX0_reachable : ZM := (yX0_reachable, cX0_reachable, 5, (some (FieldType.int)))
set_option maxRecDepth 20000 in
theorem zm_2_189 : Cond.code ({ cls := "AnswerSquare$Duchy", name := "reachable", desc := "(I)I" } : MethodName) prog_2_method_18_code (5 : Nat) (Option.some FieldType.int) ∈ ztbl := zg (zt_2 (List.mem_of_getElem? (i := 189) rfl)) rfl
set_option maxRecDepth 20000 in
theorem zs_X0_reachable : Cond.selects "AnswerSquare$Duchy" ({ cls := "AnswerSquare$Duchy", name := "reachable", desc := "(I)I" } : MethodName) ({ cls := "AnswerSquare$Duchy", name := "reachable", desc := "(I)I" } : MethodName) ∈ ztbl := zg (List.mem_append_left _ (List.mem_map.mpr ⟨_, (show _ ∈ lw_privs_1 ++ (lw_privs_2 ++ (lw_privs_3 ++ (lw_privs_4 ++ (lw_privs_5 ++ (lw_privs_6))))) from List.mem_append_right _ (List.mem_append_right _ (List.mem_append_left _ (List.mem_of_getElem? (i := 12) rfl)))), rfl⟩)) rfl
set_option maxRecDepth 20000 in
set_option maxRecDepth 20000 in
theorem zm_2_188 : Cond.instanceMethod ({ cls := "AnswerSquare$Duchy", name := "reachable", desc := "(I)I" } : MethodName) ∈ ztbl := zg (zt_2 (List.mem_of_getElem? (i := 188) rfl)) rfl
theorem zy_X0_reachable : zYv mX0_reachable 1 := ⟨zm_2_189, zm_1_3, zm_2_188, zs_X0_reachable, ⟨by decide +kernel, by decide +kernel⟩, by decide +kernel, by decide⟩
def mJ6_bitCount_0f7a4 : ZM := (yJ6_bitCount_0f7a4, cJ6_bitCount_0f7a4, 1, (some (FieldType.int)))
set_option maxRecDepth 20000 in
theorem zm_2_193 : Cond.code ({ cls := "java/lang/Integer", name := "bitCount", desc := "(I)I" } : MethodName) prog_7_method_49_code (1 : Nat) (Option.some FieldType.int) ∈ ztbl := zg (zt_2 (List.mem_of_getElem? (i := 193) rfl)) rfl
set_option maxRecDepth 20000 in
set_option maxRecDepth 20000 in
theorem zm_1_7 : Cond.initialized "java/lang/Integer" ∈ ztbl := zg (zt_1 (List.mem_of_getElem? (i := 7) rfl)) rfl
set_option maxRecDepth 20000 in
theorem zm_2_192 : Cond.static ({ cls := "java/lang/Integer", name := "bitCount", desc := "(I)I" } : MethodName) ∈ ztbl := zg (zt_2 (List.mem_of_getElem? (i := 192) rfl)) rfl
theorem zy_J6_bitCount_0f7a4 : zYs mJ6_bitCount_0f7a4 1 := ⟨zm_2_193, zm_1_7, zm_2_192, ⟨by decide +kernel, by decide +kernel⟩, by decide +kernel, by decide⟩
def mX3_began : ZM := (yX3_began, cX3_began, 2, (some (FieldType.int)))
set_option maxRecDepth 20000 in
theorem zm_2_200 : Cond.code ({ cls := "AnswerSquare", name := "began", desc := "(I)I" } : MethodName) prog_1_method_21_code (2 : Nat) (Option.some FieldType.int) ∈ ztbl := zg (zt_2 (List.mem_of_getElem? (i := 200) rfl)) rfl
set_option maxRecDepth 20000 in
theorem zm_2_199 : Cond.selects "AnswerSquare" ({ cls := "AnswerSquare", name := "began", desc := "(I)I" } : MethodName) ({ cls := "AnswerSquare", name := "began", desc := "(I)I" } : MethodName) ∈ ztbl := zg (zt_2 (List.mem_of_getElem? (i := 199) rfl)) rfl
set_option maxRecDepth 20000 in
set_option maxRecDepth 20000 in
theorem zm_2_198 : Cond.instanceMethod ({ cls := "AnswerSquare", name := "began", desc := "(I)I" } : MethodName) ∈ ztbl := zg (zt_2 (List.mem_of_getElem? (i := 198) rfl)) rfl
theorem zy_X3_began : zYv mX3_began 1 := ⟨zm_2_200, zm_1_1, zm_2_198, zm_2_199, ⟨by decide +kernel, by decide +kernel⟩, by decide +kernel, by decide⟩
def mX3_beginnings : ZM := (yX3_beginnings, cX3_beginnings, 4, (some (FieldType.int)))
set_option maxRecDepth 20000 in
theorem zm_2_204 : Cond.code ({ cls := "AnswerSquare", name := "beginnings", desc := "(I)I" } : MethodName) prog_1_method_22_code (4 : Nat) (Option.some FieldType.int) ∈ ztbl := zg (zt_2 (List.mem_of_getElem? (i := 204) rfl)) rfl
set_option maxRecDepth 20000 in
theorem zs_X3_beginnings : Cond.selects "AnswerSquare" ({ cls := "AnswerSquare", name := "beginnings", desc := "(I)I" } : MethodName) ({ cls := "AnswerSquare", name := "beginnings", desc := "(I)I" } : MethodName) ∈ ztbl := zg (List.mem_append_left _ (List.mem_map.mpr ⟨_, (show _ ∈ lw_privs_1 ++ (lw_privs_2 ++ (lw_privs_3 ++ (lw_privs_4 ++ (lw_privs_5 ++ (lw_privs_6))))) from List.mem_append_right _ (List.mem_append_right _ (List.mem_append_left _ (List.mem_of_getElem? (i := 13) rfl)))), rfl⟩)) rfl
set_option maxRecDepth 20000 in
set_option maxRecDepth 20000 in
theorem zm_2_203 : Cond.instanceMethod ({ cls := "AnswerSquare", name := "beginnings", desc := "(I)I" } : MethodName) ∈ ztbl := zg (zt_2 (List.mem_of_getElem? (i := 203) rfl)) rfl
theorem zy_X3_beginnings : zYv mX3_beginnings 1 := ⟨zm_2_204, zm_1_1, zm_2_203, zs_X3_beginnings, ⟨by decide +kernel, by decide +kernel⟩, by decide +kernel, by decide⟩
def mX3_odds : ZM := (yX3_odds, cX3_odds, 9, (some (FieldType.int)))
set_option maxRecDepth 20000 in
theorem zm_2_208 : Cond.code ({ cls := "AnswerSquare", name := "odds", desc := "(III)I" } : MethodName) prog_1_method_24_code (9 : Nat) (Option.some FieldType.int) ∈ ztbl := zg (zt_2 (List.mem_of_getElem? (i := 208) rfl)) rfl
set_option maxRecDepth 20000 in
theorem zm_2_207 : Cond.selects "AnswerSquare" ({ cls := "AnswerSquare", name := "odds", desc := "(III)I" } : MethodName) ({ cls := "AnswerSquare", name := "odds", desc := "(III)I" } : MethodName) ∈ ztbl := zg (zt_2 (List.mem_of_getElem? (i := 207) rfl)) rfl
set_option maxRecDepth 20000 in
set_option maxRecDepth 20000 in
theorem zm_2_206 : Cond.instanceMethod ({ cls := "AnswerSquare", name := "odds", desc := "(III)I" } : MethodName) ∈ ztbl := zg (zt_2 (List.mem_of_getElem? (i := 206) rfl)) rfl
theorem zy_X3_odds : zYv mX3_odds 3 := ⟨zm_2_208, zm_1_1, zm_2_206, zm_2_207, ⟨by decide +kernel, by decide +kernel⟩, by decide +kernel, by decide⟩
def mX3_commonDivisor : ZM := (yX3_commonDivisor, cX3_commonDivisor, 6, (some (FieldType.int)))
set_option maxRecDepth 20000 in
theorem zm_2_211 : Cond.code ({ cls := "AnswerSquare", name := "commonDivisor", desc := "(II)I" } : MethodName) prog_1_method_25_code (6 : Nat) (Option.some FieldType.int) ∈ ztbl := zg (zt_2 (List.mem_of_getElem? (i := 211) rfl)) rfl
set_option maxRecDepth 20000 in
set_option maxRecDepth 20000 in
theorem zm_2_210 : Cond.static ({ cls := "AnswerSquare", name := "commonDivisor", desc := "(II)I" } : MethodName) ∈ ztbl := zg (zt_2 (List.mem_of_getElem? (i := 210) rfl)) rfl
theorem zy_X3_commonDivisor : zYs mX3_commonDivisor 2 := ⟨zm_2_211, zm_1_1, zm_2_210, ⟨by decide +kernel, by decide +kernel⟩, by decide +kernel, by decide⟩
def mX3_tells : ZM := (yX3_tells, cX3_tells, 3, (some (FieldType.int)))
set_option maxRecDepth 20000 in
theorem zm_2_215 : Cond.code ({ cls := "AnswerSquare", name := "tells", desc := "(II)I" } : MethodName) prog_1_method_26_code (3 : Nat) (Option.some FieldType.int) ∈ ztbl := zg (zt_2 (List.mem_of_getElem? (i := 215) rfl)) rfl
set_option maxRecDepth 20000 in
theorem zm_2_214 : Cond.selects "AnswerSquare" ({ cls := "AnswerSquare", name := "tells", desc := "(II)I" } : MethodName) ({ cls := "AnswerSquare", name := "tells", desc := "(II)I" } : MethodName) ∈ ztbl := zg (zt_2 (List.mem_of_getElem? (i := 214) rfl)) rfl
set_option maxRecDepth 20000 in
set_option maxRecDepth 20000 in
theorem zm_2_213 : Cond.instanceMethod ({ cls := "AnswerSquare", name := "tells", desc := "(II)I" } : MethodName) ∈ ztbl := zg (zt_2 (List.mem_of_getElem? (i := 213) rfl)) rfl
theorem zy_X3_tells : zYv mX3_tells 2 := ⟨zm_2_215, zm_1_1, zm_2_213, zm_2_214, ⟨by decide +kernel, by decide +kernel⟩, by decide +kernel, by decide⟩
def mX3_forget : ZM := (yX3_forget, cX3_forget, 2, (some (FieldType.int)))
set_option maxRecDepth 20000 in
theorem zm_2_219 : Cond.code ({ cls := "AnswerSquare", name := "forget", desc := "()I" } : MethodName) prog_1_method_27_code (2 : Nat) (Option.some FieldType.int) ∈ ztbl := zg (zt_2 (List.mem_of_getElem? (i := 219) rfl)) rfl
set_option maxRecDepth 20000 in
theorem zm_2_218 : Cond.selects "AnswerSquare" ({ cls := "AnswerSquare", name := "forget", desc := "()I" } : MethodName) ({ cls := "AnswerSquare", name := "forget", desc := "()I" } : MethodName) ∈ ztbl := zg (zt_2 (List.mem_of_getElem? (i := 218) rfl)) rfl
set_option maxRecDepth 20000 in
set_option maxRecDepth 20000 in
theorem zm_2_217 : Cond.instanceMethod ({ cls := "AnswerSquare", name := "forget", desc := "()I" } : MethodName) ∈ ztbl := zg (zt_2 (List.mem_of_getElem? (i := 217) rfl)) rfl
theorem zy_X3_forget : zYv mX3_forget 0 := ⟨zm_2_219, zm_1_1, zm_2_217, zm_2_218, ⟨by decide +kernel, by decide +kernel⟩, by decide +kernel, by decide⟩
def mX3_fits : ZM := (yX3_fits, cX3_fits, 2, (some (FieldType.int)))
set_option maxRecDepth 20000 in
theorem zm_2_223 : Cond.code ({ cls := "AnswerSquare", name := "fits", desc := "()I" } : MethodName) prog_1_method_29_code (2 : Nat) (Option.some FieldType.int) ∈ ztbl := zg (zt_2 (List.mem_of_getElem? (i := 223) rfl)) rfl
set_option maxRecDepth 20000 in
theorem zm_2_222 : Cond.selects "AnswerSquare" ({ cls := "AnswerSquare", name := "fits", desc := "()I" } : MethodName) ({ cls := "AnswerSquare", name := "fits", desc := "()I" } : MethodName) ∈ ztbl := zg (zt_2 (List.mem_of_getElem? (i := 222) rfl)) rfl
set_option maxRecDepth 20000 in
set_option maxRecDepth 20000 in
theorem zm_2_221 : Cond.instanceMethod ({ cls := "AnswerSquare", name := "fits", desc := "()I" } : MethodName) ∈ ztbl := zg (zt_2 (List.mem_of_getElem? (i := 221) rfl)) rfl
theorem zy_X3_fits : zYv mX3_fits 0 := ⟨zm_2_223, zm_1_1, zm_2_221, zm_2_222, ⟨by decide +kernel, by decide +kernel⟩, by decide +kernel, by decide⟩
def mX1_aheadOf : ZM := (yX1_aheadOf, cX1_aheadOf, 4, (some (FieldType.int)))
set_option maxRecDepth 20000 in
theorem zm_2_227 : Cond.code ({ cls := "AnswerSquare$Moment", name := "aheadOf", desc := "(I)I" } : MethodName) prog_3_method_20_code (4 : Nat) (Option.some FieldType.int) ∈ ztbl := zg (zt_2 (List.mem_of_getElem? (i := 227) rfl)) rfl
set_option maxRecDepth 20000 in
theorem zs_X1_aheadOf : Cond.selects "AnswerSquare$Moment" ({ cls := "AnswerSquare$Moment", name := "aheadOf", desc := "(I)I" } : MethodName) ({ cls := "AnswerSquare$Moment", name := "aheadOf", desc := "(I)I" } : MethodName) ∈ ztbl := zg (List.mem_append_left _ (List.mem_map.mpr ⟨_, (show _ ∈ lw_privs_1 ++ (lw_privs_2 ++ (lw_privs_3 ++ (lw_privs_4 ++ (lw_privs_5 ++ (lw_privs_6))))) from List.mem_append_right _ (List.mem_append_right _ (List.mem_append_left _ (List.mem_of_getElem? (i := 14) rfl)))), rfl⟩)) rfl
set_option maxRecDepth 20000 in
set_option maxRecDepth 20000 in
theorem zm_2_226 : Cond.instanceMethod ({ cls := "AnswerSquare$Moment", name := "aheadOf", desc := "(I)I" } : MethodName) ∈ ztbl := zg (zt_2 (List.mem_of_getElem? (i := 226) rfl)) rfl
theorem zy_X1_aheadOf : zYv mX1_aheadOf 1 := ⟨zm_2_227, zm_1_4, zm_2_226, zs_X1_aheadOf, ⟨by decide +kernel, by decide +kernel⟩, by decide +kernel, by decide⟩
def mX3_orders : ZM := (yX3_orders, cX3_orders, 3, (some (FieldType.int)))
set_option maxRecDepth 20000 in
theorem zm_2_231 : Cond.code ({ cls := "AnswerSquare", name := "orders", desc := "(I)I" } : MethodName) prog_1_method_30_code (3 : Nat) (Option.some FieldType.int) ∈ ztbl := zg (zt_2 (List.mem_of_getElem? (i := 231) rfl)) rfl
set_option maxRecDepth 20000 in
theorem zm_2_230 : Cond.selects "AnswerSquare" ({ cls := "AnswerSquare", name := "orders", desc := "(I)I" } : MethodName) ({ cls := "AnswerSquare", name := "orders", desc := "(I)I" } : MethodName) ∈ ztbl := zg (zt_2 (List.mem_of_getElem? (i := 230) rfl)) rfl
set_option maxRecDepth 20000 in
set_option maxRecDepth 20000 in
theorem zm_2_229 : Cond.instanceMethod ({ cls := "AnswerSquare", name := "orders", desc := "(I)I" } : MethodName) ∈ ztbl := zg (zt_2 (List.mem_of_getElem? (i := 229) rfl)) rfl
theorem zy_X3_orders : zYv mX3_orders 1 := ⟨zm_2_231, zm_1_1, zm_2_229, zm_2_230, ⟨by decide +kernel, by decide +kernel⟩, by decide +kernel, by decide⟩
def mX3_waysTo : ZM := (yX3_waysTo, cX3_waysTo, 6, (some (FieldType.int)))
set_option maxRecDepth 20000 in
theorem zm_2_235 : Cond.code ({ cls := "AnswerSquare", name := "waysTo", desc := "(II)I" } : MethodName) prog_1_method_31_code (6 : Nat) (Option.some FieldType.int) ∈ ztbl := zg (zt_2 (List.mem_of_getElem? (i := 235) rfl)) rfl
set_option maxRecDepth 20000 in
theorem zs_X3_waysTo : Cond.selects "AnswerSquare" ({ cls := "AnswerSquare", name := "waysTo", desc := "(II)I" } : MethodName) ({ cls := "AnswerSquare", name := "waysTo", desc := "(II)I" } : MethodName) ∈ ztbl := zg (List.mem_append_left _ (List.mem_map.mpr ⟨_, (show _ ∈ lw_privs_1 ++ (lw_privs_2 ++ (lw_privs_3 ++ (lw_privs_4 ++ (lw_privs_5 ++ (lw_privs_6))))) from List.mem_append_right _ (List.mem_append_right _ (List.mem_append_left _ (List.mem_of_getElem? (i := 15) rfl)))), rfl⟩)) rfl
set_option maxRecDepth 20000 in
set_option maxRecDepth 20000 in
theorem zm_2_234 : Cond.instanceMethod ({ cls := "AnswerSquare", name := "waysTo", desc := "(II)I" } : MethodName) ∈ ztbl := zg (zt_2 (List.mem_of_getElem? (i := 234) rfl)) rfl
theorem zy_X3_waysTo : zYv mX3_waysTo 2 := ⟨zm_2_235, zm_1_1, zm_2_234, zs_X3_waysTo, ⟨by decide +kernel, by decide +kernel⟩, by decide +kernel, by decide⟩
def mX0_canFollow : ZM := (yX0_canFollow, cX0_canFollow, 3, (some (FieldType.boolean)))
set_option maxRecDepth 20000 in
theorem zm_2_239 : Cond.code ({ cls := "AnswerSquare$Duchy", name := "canFollow", desc := "(II)Z" } : MethodName) prog_2_method_19_code (3 : Nat) (Option.some FieldType.boolean) ∈ ztbl := zg (zt_2 (List.mem_of_getElem? (i := 239) rfl)) rfl
set_option maxRecDepth 20000 in
theorem zs_X0_canFollow : Cond.selects "AnswerSquare$Duchy" ({ cls := "AnswerSquare$Duchy", name := "canFollow", desc := "(II)Z" } : MethodName) ({ cls := "AnswerSquare$Duchy", name := "canFollow", desc := "(II)Z" } : MethodName) ∈ ztbl := zg (List.mem_append_left _ (List.mem_map.mpr ⟨_, (show _ ∈ lw_privs_1 ++ (lw_privs_2 ++ (lw_privs_3 ++ (lw_privs_4 ++ (lw_privs_5 ++ (lw_privs_6))))) from List.mem_append_right _ (List.mem_append_right _ (List.mem_append_right _ (List.mem_append_left _ (List.mem_of_getElem? (i := 0) rfl))))), rfl⟩)) rfl
set_option maxRecDepth 20000 in
set_option maxRecDepth 20000 in
theorem zm_2_238 : Cond.instanceMethod ({ cls := "AnswerSquare$Duchy", name := "canFollow", desc := "(II)Z" } : MethodName) ∈ ztbl := zg (zt_2 (List.mem_of_getElem? (i := 238) rfl)) rfl
theorem zy_X0_canFollow : zYv mX0_canFollow 2 := ⟨zm_2_239, zm_1_3, zm_2_238, zs_X0_canFollow, ⟨by decide +kernel, by decide +kernel⟩, by decide +kernel, by decide⟩
def mX3_mark : ZM := (yX3_mark, cX3_mark, 3, (some (FieldType.int)))
set_option maxRecDepth 20000 in
theorem zm_3_4 : Cond.code ({ cls := "AnswerSquare", name := "mark", desc := "(II)I" } : MethodName) prog_1_method_32_code (3 : Nat) (Option.some FieldType.int) ∈ ztbl := zg (zt_3 (List.mem_of_getElem? (i := 4) rfl)) rfl
set_option maxRecDepth 20000 in
theorem zm_3_3 : Cond.selects "AnswerSquare" ({ cls := "AnswerSquare", name := "mark", desc := "(II)I" } : MethodName) ({ cls := "AnswerSquare", name := "mark", desc := "(II)I" } : MethodName) ∈ ztbl := zg (zt_3 (List.mem_of_getElem? (i := 3) rfl)) rfl
set_option maxRecDepth 20000 in
set_option maxRecDepth 20000 in
theorem zm_3_2 : Cond.instanceMethod ({ cls := "AnswerSquare", name := "mark", desc := "(II)I" } : MethodName) ∈ ztbl := zg (zt_3 (List.mem_of_getElem? (i := 2) rfl)) rfl
theorem zy_X3_mark : zYv mX3_mark 2 := ⟨zm_3_4, zm_1_1, zm_3_2, zm_3_3, ⟨by decide +kernel, by decide +kernel⟩, by decide +kernel, by decide⟩
def mX3_asSaying : ZM := (yX3_asSaying, cX3_asSaying, 2, (some (FieldType.int)))
set_option maxRecDepth 20000 in
theorem zm_3_9 : Cond.code ({ cls := "AnswerSquare", name := "asSaying", desc := "(I)I" } : MethodName) prog_1_method_33_code (2 : Nat) (Option.some FieldType.int) ∈ ztbl := zg (zt_3 (List.mem_of_getElem? (i := 9) rfl)) rfl
set_option maxRecDepth 20000 in
theorem zs_X3_asSaying : Cond.selects "AnswerSquare" ({ cls := "AnswerSquare", name := "asSaying", desc := "(I)I" } : MethodName) ({ cls := "AnswerSquare", name := "asSaying", desc := "(I)I" } : MethodName) ∈ ztbl := zg (List.mem_append_left _ (List.mem_map.mpr ⟨_, (show _ ∈ lw_privs_1 ++ (lw_privs_2 ++ (lw_privs_3 ++ (lw_privs_4 ++ (lw_privs_5 ++ (lw_privs_6))))) from List.mem_append_right _ (List.mem_append_right _ (List.mem_append_right _ (List.mem_append_left _ (List.mem_of_getElem? (i := 1) rfl))))), rfl⟩)) rfl
set_option maxRecDepth 20000 in
set_option maxRecDepth 20000 in
theorem zm_3_8 : Cond.instanceMethod ({ cls := "AnswerSquare", name := "asSaying", desc := "(I)I" } : MethodName) ∈ ztbl := zg (zt_3 (List.mem_of_getElem? (i := 8) rfl)) rfl
theorem zy_X3_asSaying : zYv mX3_asSaying 1 := ⟨zm_3_9, zm_1_1, zm_3_8, zs_X3_asSaying, ⟨by decide +kernel, by decide +kernel⟩, by decide +kernel, by decide⟩
def mX3_asCough : ZM := (yX3_asCough, cX3_asCough, 2, (some (FieldType.int)))
set_option maxRecDepth 20000 in
theorem zm_3_13 : Cond.code ({ cls := "AnswerSquare", name := "asCough", desc := "(I)I" } : MethodName) prog_1_method_34_code (2 : Nat) (Option.some FieldType.int) ∈ ztbl := zg (zt_3 (List.mem_of_getElem? (i := 13) rfl)) rfl
set_option maxRecDepth 20000 in
theorem zs_X3_asCough : Cond.selects "AnswerSquare" ({ cls := "AnswerSquare", name := "asCough", desc := "(I)I" } : MethodName) ({ cls := "AnswerSquare", name := "asCough", desc := "(I)I" } : MethodName) ∈ ztbl := zg (List.mem_append_left _ (List.mem_map.mpr ⟨_, (show _ ∈ lw_privs_1 ++ (lw_privs_2 ++ (lw_privs_3 ++ (lw_privs_4 ++ (lw_privs_5 ++ (lw_privs_6))))) from List.mem_append_right _ (List.mem_append_right _ (List.mem_append_right _ (List.mem_append_left _ (List.mem_of_getElem? (i := 2) rfl))))), rfl⟩)) rfl
set_option maxRecDepth 20000 in
set_option maxRecDepth 20000 in
theorem zm_3_12 : Cond.instanceMethod ({ cls := "AnswerSquare", name := "asCough", desc := "(I)I" } : MethodName) ∈ ztbl := zg (zt_3 (List.mem_of_getElem? (i := 12) rfl)) rfl
theorem zy_X3_asCough : zYv mX3_asCough 1 := ⟨zm_3_13, zm_1_1, zm_3_12, zs_X3_asCough, ⟨by decide +kernel, by decide +kernel⟩, by decide +kernel, by decide⟩
def mX0_answersCount : ZM := (yX0_answersCount, cX0_answersCount, 2, (some (FieldType.int)))
set_option maxRecDepth 20000 in
theorem zm_3_18 : Cond.code ({ cls := "AnswerSquare$Duchy", name := "answersCount", desc := "(I)I" } : MethodName) prog_2_method_13_code (2 : Nat) (Option.some FieldType.int) ∈ ztbl := zg (zt_3 (List.mem_of_getElem? (i := 18) rfl)) rfl
set_option maxRecDepth 20000 in
theorem zs_X0_answersCount : Cond.selects "AnswerSquare$Duchy" ({ cls := "AnswerSquare$Duchy", name := "answersCount", desc := "(I)I" } : MethodName) ({ cls := "AnswerSquare$Duchy", name := "answersCount", desc := "(I)I" } : MethodName) ∈ ztbl := zg (List.mem_append_left _ (List.mem_map.mpr ⟨_, (show _ ∈ lw_privs_1 ++ (lw_privs_2 ++ (lw_privs_3 ++ (lw_privs_4 ++ (lw_privs_5 ++ (lw_privs_6))))) from List.mem_append_right _ (List.mem_append_right _ (List.mem_append_right _ (List.mem_append_left _ (List.mem_of_getElem? (i := 3) rfl))))), rfl⟩)) rfl
set_option maxRecDepth 20000 in
set_option maxRecDepth 20000 in
theorem zm_3_17 : Cond.instanceMethod ({ cls := "AnswerSquare$Duchy", name := "answersCount", desc := "(I)I" } : MethodName) ∈ ztbl := zg (zt_3 (List.mem_of_getElem? (i := 17) rfl)) rfl
theorem zy_X0_answersCount : zYv mX0_answersCount 1 := ⟨zm_3_18, zm_1_3, zm_3_17, zs_X0_answersCount, ⟨by decide +kernel, by decide +kernel⟩, by decide +kernel, by decide⟩
def mX3_asBell : ZM := (yX3_asBell, cX3_asBell, 2, (some (FieldType.int)))
set_option maxRecDepth 20000 in
theorem zm_3_23 : Cond.code ({ cls := "AnswerSquare", name := "asBell", desc := "(I)I" } : MethodName) prog_1_method_35_code (2 : Nat) (Option.some FieldType.int) ∈ ztbl := zg (zt_3 (List.mem_of_getElem? (i := 23) rfl)) rfl
set_option maxRecDepth 20000 in
theorem zs_X3_asBell : Cond.selects "AnswerSquare" ({ cls := "AnswerSquare", name := "asBell", desc := "(I)I" } : MethodName) ({ cls := "AnswerSquare", name := "asBell", desc := "(I)I" } : MethodName) ∈ ztbl := zg (List.mem_append_left _ (List.mem_map.mpr ⟨_, (show _ ∈ lw_privs_1 ++ (lw_privs_2 ++ (lw_privs_3 ++ (lw_privs_4 ++ (lw_privs_5 ++ (lw_privs_6))))) from List.mem_append_right _ (List.mem_append_right _ (List.mem_append_right _ (List.mem_append_left _ (List.mem_of_getElem? (i := 4) rfl))))), rfl⟩)) rfl
set_option maxRecDepth 20000 in
set_option maxRecDepth 20000 in
theorem zm_3_22 : Cond.instanceMethod ({ cls := "AnswerSquare", name := "asBell", desc := "(I)I" } : MethodName) ∈ ztbl := zg (zt_3 (List.mem_of_getElem? (i := 22) rfl)) rfl
theorem zy_X3_asBell : zYv mX3_asBell 1 := ⟨zm_3_23, zm_1_1, zm_3_22, zs_X3_asBell, ⟨by decide +kernel, by decide +kernel⟩, by decide +kernel, by decide⟩
def mX3_asKnock : ZM := (yX3_asKnock, cX3_asKnock, 2, (some (FieldType.int)))
set_option maxRecDepth 20000 in
theorem zm_3_28 : Cond.code ({ cls := "AnswerSquare", name := "asKnock", desc := "(I)I" } : MethodName) prog_1_method_36_code (2 : Nat) (Option.some FieldType.int) ∈ ztbl := zg (zt_3 (List.mem_of_getElem? (i := 28) rfl)) rfl
set_option maxRecDepth 20000 in
theorem zs_X3_asKnock : Cond.selects "AnswerSquare" ({ cls := "AnswerSquare", name := "asKnock", desc := "(I)I" } : MethodName) ({ cls := "AnswerSquare", name := "asKnock", desc := "(I)I" } : MethodName) ∈ ztbl := zg (List.mem_append_left _ (List.mem_map.mpr ⟨_, (show _ ∈ lw_privs_1 ++ (lw_privs_2 ++ (lw_privs_3 ++ (lw_privs_4 ++ (lw_privs_5 ++ (lw_privs_6))))) from List.mem_append_right _ (List.mem_append_right _ (List.mem_append_right _ (List.mem_append_left _ (List.mem_of_getElem? (i := 5) rfl))))), rfl⟩)) rfl
set_option maxRecDepth 20000 in
set_option maxRecDepth 20000 in
theorem zm_3_27 : Cond.instanceMethod ({ cls := "AnswerSquare", name := "asKnock", desc := "(I)I" } : MethodName) ∈ ztbl := zg (zt_3 (List.mem_of_getElem? (i := 27) rfl)) rfl
theorem zy_X3_asKnock : zYv mX3_asKnock 1 := ⟨zm_3_28, zm_1_1, zm_3_27, zs_X3_asKnock, ⟨by decide +kernel, by decide +kernel⟩, by decide +kernel, by decide⟩
def mX3_asEcho : ZM := (yX3_asEcho, cX3_asEcho, 2, (some (FieldType.int)))
set_option maxRecDepth 20000 in
theorem zm_3_33 : Cond.code ({ cls := "AnswerSquare", name := "asEcho", desc := "(I)I" } : MethodName) prog_1_method_37_code (2 : Nat) (Option.some FieldType.int) ∈ ztbl := zg (zt_3 (List.mem_of_getElem? (i := 33) rfl)) rfl
set_option maxRecDepth 20000 in
theorem zs_X3_asEcho : Cond.selects "AnswerSquare" ({ cls := "AnswerSquare", name := "asEcho", desc := "(I)I" } : MethodName) ({ cls := "AnswerSquare", name := "asEcho", desc := "(I)I" } : MethodName) ∈ ztbl := zg (List.mem_append_left _ (List.mem_map.mpr ⟨_, (show _ ∈ lw_privs_1 ++ (lw_privs_2 ++ (lw_privs_3 ++ (lw_privs_4 ++ (lw_privs_5 ++ (lw_privs_6))))) from List.mem_append_right _ (List.mem_append_right _ (List.mem_append_right _ (List.mem_append_left _ (List.mem_of_getElem? (i := 6) rfl))))), rfl⟩)) rfl
set_option maxRecDepth 20000 in
set_option maxRecDepth 20000 in
theorem zm_3_32 : Cond.instanceMethod ({ cls := "AnswerSquare", name := "asEcho", desc := "(I)I" } : MethodName) ∈ ztbl := zg (zt_3 (List.mem_of_getElem? (i := 32) rfl)) rfl
theorem zy_X3_asEcho : zYv mX3_asEcho 1 := ⟨zm_3_33, zm_1_1, zm_3_32, zs_X3_asEcho, ⟨by decide +kernel, by decide +kernel⟩, by decide +kernel, by decide⟩
def mX3_asOwl : ZM := (yX3_asOwl, cX3_asOwl, 2, (some (FieldType.int)))
set_option maxRecDepth 20000 in
theorem zm_3_38 : Cond.code ({ cls := "AnswerSquare", name := "asOwl", desc := "(I)I" } : MethodName) prog_1_method_38_code (2 : Nat) (Option.some FieldType.int) ∈ ztbl := zg (zt_3 (List.mem_of_getElem? (i := 38) rfl)) rfl
set_option maxRecDepth 20000 in
theorem zs_X3_asOwl : Cond.selects "AnswerSquare" ({ cls := "AnswerSquare", name := "asOwl", desc := "(I)I" } : MethodName) ({ cls := "AnswerSquare", name := "asOwl", desc := "(I)I" } : MethodName) ∈ ztbl := zg (List.mem_append_left _ (List.mem_map.mpr ⟨_, (show _ ∈ lw_privs_1 ++ (lw_privs_2 ++ (lw_privs_3 ++ (lw_privs_4 ++ (lw_privs_5 ++ (lw_privs_6))))) from List.mem_append_right _ (List.mem_append_right _ (List.mem_append_right _ (List.mem_append_left _ (List.mem_of_getElem? (i := 7) rfl))))), rfl⟩)) rfl
set_option maxRecDepth 20000 in
set_option maxRecDepth 20000 in
theorem zm_3_37 : Cond.instanceMethod ({ cls := "AnswerSquare", name := "asOwl", desc := "(I)I" } : MethodName) ∈ ztbl := zg (zt_3 (List.mem_of_getElem? (i := 37) rfl)) rfl
theorem zy_X3_asOwl : zYv mX3_asOwl 1 := ⟨zm_3_38, zm_1_1, zm_3_37, zs_X3_asOwl, ⟨by decide +kernel, by decide +kernel⟩, by decide +kernel, by decide⟩
def mX3_keep : ZM := (yX3_keep, cX3_keep, 3, (some (FieldType.int)))
set_option maxRecDepth 20000 in
theorem zm_3_43 : Cond.code ({ cls := "AnswerSquare", name := "keep", desc := "(I)I" } : MethodName) prog_1_method_39_code (3 : Nat) (Option.some FieldType.int) ∈ ztbl := zg (zt_3 (List.mem_of_getElem? (i := 43) rfl)) rfl
set_option maxRecDepth 20000 in
theorem zm_3_42 : Cond.selects "AnswerSquare" ({ cls := "AnswerSquare", name := "keep", desc := "(I)I" } : MethodName) ({ cls := "AnswerSquare", name := "keep", desc := "(I)I" } : MethodName) ∈ ztbl := zg (zt_3 (List.mem_of_getElem? (i := 42) rfl)) rfl
set_option maxRecDepth 20000 in
set_option maxRecDepth 20000 in
theorem zm_3_41 : Cond.instanceMethod ({ cls := "AnswerSquare", name := "keep", desc := "(I)I" } : MethodName) ∈ ztbl := zg (zt_3 (List.mem_of_getElem? (i := 41) rfl)) rfl
theorem zy_X3_keep : zYv mX3_keep 1 := ⟨zm_3_43, zm_1_1, zm_3_41, zm_3_42, ⟨by decide +kernel, by decide +kernel⟩, by decide +kernel, by decide⟩
def mX3_imageOf : ZM := (yX3_imageOf, cX3_imageOf, 2, (some (FieldType.object "AnswerSquare$Moment")))
set_option maxRecDepth 20000 in
theorem zm_3_47 : Cond.code ({ cls := "AnswerSquare", name := "imageOf", desc := "(I)LAnswerSquare$Moment;" } : MethodName) prog_1_method_41_code (2 : Nat) (Option.some (FieldType.object "AnswerSquare$Moment")) ∈ ztbl := zg (zt_3 (List.mem_of_getElem? (i := 47) rfl)) rfl
set_option maxRecDepth 20000 in
theorem zs_X3_imageOf : Cond.selects "AnswerSquare" ({ cls := "AnswerSquare", name := "imageOf", desc := "(I)LAnswerSquare$Moment;" } : MethodName) ({ cls := "AnswerSquare", name := "imageOf", desc := "(I)LAnswerSquare$Moment;" } : MethodName) ∈ ztbl := zg (List.mem_append_left _ (List.mem_map.mpr ⟨_, (show _ ∈ lw_privs_1 ++ (lw_privs_2 ++ (lw_privs_3 ++ (lw_privs_4 ++ (lw_privs_5 ++ (lw_privs_6))))) from List.mem_append_right _ (List.mem_append_right _ (List.mem_append_right _ (List.mem_append_left _ (List.mem_of_getElem? (i := 8) rfl))))), rfl⟩)) rfl
set_option maxRecDepth 20000 in
set_option maxRecDepth 20000 in
theorem zm_3_46 : Cond.instanceMethod ({ cls := "AnswerSquare", name := "imageOf", desc := "(I)LAnswerSquare$Moment;" } : MethodName) ∈ ztbl := zg (zt_3 (List.mem_of_getElem? (i := 46) rfl)) rfl
theorem zy_X3_imageOf : zYv mX3_imageOf 1 := ⟨zm_3_47, zm_1_1, zm_3_46, zs_X3_imageOf, ⟨by decide +kernel, by decide +kernel⟩, by decide +kernel, by decide⟩
def mX1_become : ZM := (yX1_become, cX1_become, 2, none)
set_option maxRecDepth 20000 in
theorem zm_3_51 : Cond.code ({ cls := "AnswerSquare$Moment", name := "become", desc := "(LAnswerSquare$Moment;)V" } : MethodName) prog_3_method_3_code (2 : Nat) (Option.none : Option FieldType) ∈ ztbl := zg (zt_3 (List.mem_of_getElem? (i := 51) rfl)) rfl
set_option maxRecDepth 20000 in
theorem zs_X1_become : Cond.selects "AnswerSquare$Moment" ({ cls := "AnswerSquare$Moment", name := "become", desc := "(LAnswerSquare$Moment;)V" } : MethodName) ({ cls := "AnswerSquare$Moment", name := "become", desc := "(LAnswerSquare$Moment;)V" } : MethodName) ∈ ztbl := zg (List.mem_append_left _ (List.mem_map.mpr ⟨_, (show _ ∈ lw_privs_1 ++ (lw_privs_2 ++ (lw_privs_3 ++ (lw_privs_4 ++ (lw_privs_5 ++ (lw_privs_6))))) from List.mem_append_right _ (List.mem_append_right _ (List.mem_append_right _ (List.mem_append_left _ (List.mem_of_getElem? (i := 9) rfl))))), rfl⟩)) rfl
set_option maxRecDepth 20000 in
set_option maxRecDepth 20000 in
theorem zm_3_50 : Cond.instanceMethod ({ cls := "AnswerSquare$Moment", name := "become", desc := "(LAnswerSquare$Moment;)V" } : MethodName) ∈ ztbl := zg (zt_3 (List.mem_of_getElem? (i := 50) rfl)) rfl
theorem zy_X1_become : zYv mX1_become 1 := ⟨zm_3_51, zm_1_4, zm_3_50, zs_X1_become, ⟨by decide +kernel, by decide +kernel⟩, by decide +kernel, by decide⟩
def mX3_back : ZM := (yX3_back, cX3_back, 3, (some (FieldType.int)))
set_option maxRecDepth 20000 in
theorem zm_3_58 : Cond.code ({ cls := "AnswerSquare", name := "back", desc := "(I)I" } : MethodName) prog_1_method_40_code (3 : Nat) (Option.some FieldType.int) ∈ ztbl := zg (zt_3 (List.mem_of_getElem? (i := 58) rfl)) rfl
set_option maxRecDepth 20000 in
theorem zm_3_57 : Cond.selects "AnswerSquare" ({ cls := "AnswerSquare", name := "back", desc := "(I)I" } : MethodName) ({ cls := "AnswerSquare", name := "back", desc := "(I)I" } : MethodName) ∈ ztbl := zg (zt_3 (List.mem_of_getElem? (i := 57) rfl)) rfl
set_option maxRecDepth 20000 in
set_option maxRecDepth 20000 in
theorem zm_3_56 : Cond.instanceMethod ({ cls := "AnswerSquare", name := "back", desc := "(I)I" } : MethodName) ∈ ztbl := zg (zt_3 (List.mem_of_getElem? (i := 56) rfl)) rfl
theorem zy_X3_back : zYv mX3_back 1 := ⟨zm_3_58, zm_1_1, zm_3_56, zm_3_57, ⟨by decide +kernel, by decide +kernel⟩, by decide +kernel, by decide⟩
def mX3_count : ZM := (yX3_count, cX3_count, 2, (some (FieldType.int)))
set_option maxRecDepth 20000 in
theorem zm_3_62 : Cond.code ({ cls := "AnswerSquare", name := "count", desc := "(I)I" } : MethodName) prog_1_method_42_code (2 : Nat) (Option.some FieldType.int) ∈ ztbl := zg (zt_3 (List.mem_of_getElem? (i := 62) rfl)) rfl
set_option maxRecDepth 20000 in
theorem zm_3_61 : Cond.selects "AnswerSquare" ({ cls := "AnswerSquare", name := "count", desc := "(I)I" } : MethodName) ({ cls := "AnswerSquare", name := "count", desc := "(I)I" } : MethodName) ∈ ztbl := zg (zt_3 (List.mem_of_getElem? (i := 61) rfl)) rfl
set_option maxRecDepth 20000 in
set_option maxRecDepth 20000 in
theorem zm_3_60 : Cond.instanceMethod ({ cls := "AnswerSquare", name := "count", desc := "(I)I" } : MethodName) ∈ ztbl := zg (zt_3 (List.mem_of_getElem? (i := 60) rfl)) rfl
theorem zy_X3_count : zYv mX3_count 1 := ⟨zm_3_62, zm_1_1, zm_3_60, zm_3_61, ⟨by decide +kernel, by decide +kernel⟩, by decide +kernel, by decide⟩
def mX3_trace : ZM := (yX3_trace, cX3_trace, 1, (some (FieldType.long)))
set_option maxRecDepth 20000 in
theorem zm_3_66 : Cond.code ({ cls := "AnswerSquare", name := "trace", desc := "()J" } : MethodName) prog_1_method_43_code (1 : Nat) (Option.some FieldType.long) ∈ ztbl := zg (zt_3 (List.mem_of_getElem? (i := 66) rfl)) rfl
set_option maxRecDepth 20000 in
theorem zm_3_65 : Cond.selects "AnswerSquare" ({ cls := "AnswerSquare", name := "trace", desc := "()J" } : MethodName) ({ cls := "AnswerSquare", name := "trace", desc := "()J" } : MethodName) ∈ ztbl := zg (zt_3 (List.mem_of_getElem? (i := 65) rfl)) rfl
set_option maxRecDepth 20000 in
set_option maxRecDepth 20000 in
theorem zm_3_64 : Cond.instanceMethod ({ cls := "AnswerSquare", name := "trace", desc := "()J" } : MethodName) ∈ ztbl := zg (zt_3 (List.mem_of_getElem? (i := 64) rfl)) rfl
theorem zy_X3_trace : zYv mX3_trace 0 := ⟨zm_3_66, zm_1_1, zm_3_64, zm_3_65, ⟨by decide +kernel, by decide +kernel⟩, by decide +kernel, by decide⟩
def mX4_init : ZM := (yX4_init, cX4_init, 1, none)
set_option maxRecDepth 20000 in
theorem zm_3_71 : Cond.code ({ cls := "AnswerSquareModel", name := "<init>", desc := "()V" } : MethodName) prog_6_method_1_code (1 : Nat) (Option.none : Option FieldType) ∈ ztbl := zg (zt_3 (List.mem_of_getElem? (i := 71) rfl)) rfl
def mX4_plain : ZM := (yX4_plain, cX4_plain, 1, none)
set_option maxRecDepth 20000 in
theorem zm_3_76 : Cond.code ({ cls := "AnswerSquareModel", name := "plain", desc := "()V" } : MethodName) prog_6_method_13_code (1 : Nat) (Option.none : Option FieldType) ∈ ztbl := zg (zt_3 (List.mem_of_getElem? (i := 76) rfl)) rfl
set_option maxRecDepth 20000 in
theorem zs_X4_plain : Cond.selects "AnswerSquareModel" ({ cls := "AnswerSquareModel", name := "plain", desc := "()V" } : MethodName) ({ cls := "AnswerSquareModel", name := "plain", desc := "()V" } : MethodName) ∈ ztbl := zg (List.mem_append_left _ (List.mem_map.mpr ⟨_, (show _ ∈ lw_privs_1 ++ (lw_privs_2 ++ (lw_privs_3 ++ (lw_privs_4 ++ (lw_privs_5 ++ (lw_privs_6))))) from List.mem_append_right _ (List.mem_append_right _ (List.mem_append_right _ (List.mem_append_left _ (List.mem_of_getElem? (i := 10) rfl))))), rfl⟩)) rfl
set_option maxRecDepth 20000 in
set_option maxRecDepth 20000 in
theorem zm_1_5 : Cond.initialized "AnswerSquareModel" ∈ ztbl := zg (zt_1 (List.mem_of_getElem? (i := 5) rfl)) rfl
set_option maxRecDepth 20000 in
theorem zm_3_75 : Cond.instanceMethod ({ cls := "AnswerSquareModel", name := "plain", desc := "()V" } : MethodName) ∈ ztbl := zg (zt_3 (List.mem_of_getElem? (i := 75) rfl)) rfl
theorem zy_X4_plain : zYv mX4_plain 0 := ⟨zm_3_76, zm_1_5, zm_3_75, zs_X4_plain, ⟨by decide +kernel, by decide +kernel⟩, by decide +kernel, by decide⟩
def mX4_takeDraft : ZM := (yX4_takeDraft, cX4_takeDraft, 3, none)
set_option maxRecDepth 20000 in
theorem zm_3_80 : Cond.code ({ cls := "AnswerSquareModel", name := "takeDraft", desc := "()V" } : MethodName) prog_6_method_14_code (3 : Nat) (Option.none : Option FieldType) ∈ ztbl := zg (zt_3 (List.mem_of_getElem? (i := 80) rfl)) rfl
set_option maxRecDepth 20000 in
theorem zs_X4_takeDraft : Cond.selects "AnswerSquareModel" ({ cls := "AnswerSquareModel", name := "takeDraft", desc := "()V" } : MethodName) ({ cls := "AnswerSquareModel", name := "takeDraft", desc := "()V" } : MethodName) ∈ ztbl := zg (List.mem_append_left _ (List.mem_map.mpr ⟨_, (show _ ∈ lw_privs_1 ++ (lw_privs_2 ++ (lw_privs_3 ++ (lw_privs_4 ++ (lw_privs_5 ++ (lw_privs_6))))) from List.mem_append_right _ (List.mem_append_right _ (List.mem_append_right _ (List.mem_append_left _ (List.mem_of_getElem? (i := 11) rfl))))), rfl⟩)) rfl
set_option maxRecDepth 20000 in
set_option maxRecDepth 20000 in
theorem zm_3_79 : Cond.instanceMethod ({ cls := "AnswerSquareModel", name := "takeDraft", desc := "()V" } : MethodName) ∈ ztbl := zg (zt_3 (List.mem_of_getElem? (i := 79) rfl)) rfl
theorem zy_X4_takeDraft : zYv mX4_takeDraft 0 := ⟨zm_3_80, zm_1_5, zm_3_79, zs_X4_takeDraft, ⟨by decide +kernel, by decide +kernel⟩, by decide +kernel, by decide⟩
def mX4_type : ZM := (yX4_type, cX4_type, 2, (some (FieldType.int)))
set_option maxRecDepth 20000 in
theorem zm_3_153 : Cond.code ({ cls := "AnswerSquareModel", name := "type", desc := "(I)I" } : MethodName) prog_6_method_4_code (2 : Nat) (Option.some FieldType.int) ∈ ztbl := zg (zt_3 (List.mem_of_getElem? (i := 153) rfl)) rfl
set_option maxRecDepth 20000 in
theorem zm_3_152 : Cond.selects "AnswerSquareModel" ({ cls := "AnswerSquareModel", name := "type", desc := "(I)I" } : MethodName) ({ cls := "AnswerSquareModel", name := "type", desc := "(I)I" } : MethodName) ∈ ztbl := zg (zt_3 (List.mem_of_getElem? (i := 152) rfl)) rfl
set_option maxRecDepth 20000 in
set_option maxRecDepth 20000 in
theorem zm_3_151 : Cond.instanceMethod ({ cls := "AnswerSquareModel", name := "type", desc := "(I)I" } : MethodName) ∈ ztbl := zg (zt_3 (List.mem_of_getElem? (i := 151) rfl)) rfl
theorem zy_X4_type : zYv mX4_type 1 := ⟨zm_3_153, zm_1_5, zm_3_151, zm_3_152, ⟨by decide +kernel, by decide +kernel⟩, by decide +kernel, by decide⟩
def mX4_in : ZM := (yX4_in, cX4_in, 3, (some (FieldType.boolean)))
set_option maxRecDepth 20000 in
theorem zm_3_156 : Cond.code ({ cls := "AnswerSquareModel", name := "in", desc := "(III)Z" } : MethodName) prog_6_method_3_code (3 : Nat) (Option.some FieldType.boolean) ∈ ztbl := zg (zt_3 (List.mem_of_getElem? (i := 156) rfl)) rfl
set_option maxRecDepth 20000 in
set_option maxRecDepth 20000 in
theorem zm_3_155 : Cond.static ({ cls := "AnswerSquareModel", name := "in", desc := "(III)Z" } : MethodName) ∈ ztbl := zg (zt_3 (List.mem_of_getElem? (i := 155) rfl)) rfl
theorem zy_X4_in : zYs mX4_in 3 := ⟨zm_3_156, zm_1_5, zm_3_155, ⟨by decide +kernel, by decide +kernel⟩, by decide +kernel, by decide⟩
def mX4_clear : ZM := (yX4_clear, cX4_clear, 2, (some (FieldType.int)))
set_option maxRecDepth 20000 in
theorem zm_3_160 : Cond.code ({ cls := "AnswerSquareModel", name := "clear", desc := "()I" } : MethodName) prog_6_method_5_code (2 : Nat) (Option.some FieldType.int) ∈ ztbl := zg (zt_3 (List.mem_of_getElem? (i := 160) rfl)) rfl
set_option maxRecDepth 20000 in
theorem zm_3_159 : Cond.selects "AnswerSquareModel" ({ cls := "AnswerSquareModel", name := "clear", desc := "()I" } : MethodName) ({ cls := "AnswerSquareModel", name := "clear", desc := "()I" } : MethodName) ∈ ztbl := zg (zt_3 (List.mem_of_getElem? (i := 159) rfl)) rfl
set_option maxRecDepth 20000 in
set_option maxRecDepth 20000 in
theorem zm_3_158 : Cond.instanceMethod ({ cls := "AnswerSquareModel", name := "clear", desc := "()I" } : MethodName) ∈ ztbl := zg (zt_3 (List.mem_of_getElem? (i := 158) rfl)) rfl
theorem zy_X4_clear : zYv mX4_clear 0 := ⟨zm_3_160, zm_1_5, zm_3_158, zm_3_159, ⟨by decide +kernel, by decide +kernel⟩, by decide +kernel, by decide⟩
def mX4_duchy : ZM := (yX4_duchy, cX4_duchy, 3, (some (FieldType.int)))
set_option maxRecDepth 20000 in
theorem zm_3_164 : Cond.code ({ cls := "AnswerSquareModel", name := "duchy", desc := "()I" } : MethodName) prog_6_method_15_code (3 : Nat) (Option.some FieldType.int) ∈ ztbl := zg (zt_3 (List.mem_of_getElem? (i := 164) rfl)) rfl
set_option maxRecDepth 20000 in
theorem zm_3_163 : Cond.selects "AnswerSquareModel" ({ cls := "AnswerSquareModel", name := "duchy", desc := "()I" } : MethodName) ({ cls := "AnswerSquareModel", name := "duchy", desc := "()I" } : MethodName) ∈ ztbl := zg (zt_3 (List.mem_of_getElem? (i := 163) rfl)) rfl
set_option maxRecDepth 20000 in
set_option maxRecDepth 20000 in
theorem zm_3_162 : Cond.instanceMethod ({ cls := "AnswerSquareModel", name := "duchy", desc := "()I" } : MethodName) ∈ ztbl := zg (zt_3 (List.mem_of_getElem? (i := 162) rfl)) rfl
theorem zy_X4_duchy : zYv mX4_duchy 0 := ⟨zm_3_164, zm_1_5, zm_3_162, zm_3_163, ⟨by decide +kernel, by decide +kernel⟩, by decide +kernel, by decide⟩
def mX4_step : ZM := (yX4_step, cX4_step, 2, none)
set_option maxRecDepth 20000 in
theorem zm_3_168 : Cond.code ({ cls := "AnswerSquareModel", name := "step", desc := "()V" } : MethodName) prog_6_method_7_code (2 : Nat) (Option.none : Option FieldType) ∈ ztbl := zg (zt_3 (List.mem_of_getElem? (i := 168) rfl)) rfl
set_option maxRecDepth 20000 in
theorem zs_X4_step : Cond.selects "AnswerSquareModel" ({ cls := "AnswerSquareModel", name := "step", desc := "()V" } : MethodName) ({ cls := "AnswerSquareModel", name := "step", desc := "()V" } : MethodName) ∈ ztbl := zg (List.mem_append_left _ (List.mem_map.mpr ⟨_, (show _ ∈ lw_privs_1 ++ (lw_privs_2 ++ (lw_privs_3 ++ (lw_privs_4 ++ (lw_privs_5 ++ (lw_privs_6))))) from List.mem_append_right _ (List.mem_append_right _ (List.mem_append_right _ (List.mem_append_left _ (List.mem_of_getElem? (i := 12) rfl))))), rfl⟩)) rfl
set_option maxRecDepth 20000 in
set_option maxRecDepth 20000 in
theorem zm_3_167 : Cond.instanceMethod ({ cls := "AnswerSquareModel", name := "step", desc := "()V" } : MethodName) ∈ ztbl := zg (zt_3 (List.mem_of_getElem? (i := 167) rfl)) rfl
theorem zy_X4_step : zYv mX4_step 0 := ⟨zm_3_168, zm_1_5, zm_3_167, zs_X4_step, ⟨by decide +kernel, by decide +kernel⟩, by decide +kernel, by decide⟩
def mX4_here : ZM := (yX4_here, cX4_here, 1, (some (FieldType.int)))
set_option maxRecDepth 20000 in
theorem zm_3_172 : Cond.code ({ cls := "AnswerSquareModel", name := "here", desc := "()I" } : MethodName) prog_6_method_6_code (1 : Nat) (Option.some FieldType.int) ∈ ztbl := zg (zt_3 (List.mem_of_getElem? (i := 172) rfl)) rfl
set_option maxRecDepth 20000 in
theorem zs_X4_here : Cond.selects "AnswerSquareModel" ({ cls := "AnswerSquareModel", name := "here", desc := "()I" } : MethodName) ({ cls := "AnswerSquareModel", name := "here", desc := "()I" } : MethodName) ∈ ztbl := zg (List.mem_append_left _ (List.mem_map.mpr ⟨_, (show _ ∈ lw_privs_1 ++ (lw_privs_2 ++ (lw_privs_3 ++ (lw_privs_4 ++ (lw_privs_5 ++ (lw_privs_6))))) from List.mem_append_right _ (List.mem_append_right _ (List.mem_append_right _ (List.mem_append_left _ (List.mem_of_getElem? (i := 13) rfl))))), rfl⟩)) rfl
set_option maxRecDepth 20000 in
set_option maxRecDepth 20000 in
theorem zm_3_171 : Cond.instanceMethod ({ cls := "AnswerSquareModel", name := "here", desc := "()I" } : MethodName) ∈ ztbl := zg (zt_3 (List.mem_of_getElem? (i := 171) rfl)) rfl
theorem zy_X4_here : zYv mX4_here 0 := ⟨zm_3_172, zm_1_5, zm_3_171, zs_X4_here, ⟨by decide +kernel, by decide +kernel⟩, by decide +kernel, by decide⟩
def mX4_mayBe : ZM := (yX4_mayBe, cX4_mayBe, 2, (some (FieldType.boolean)))
set_option maxRecDepth 20000 in
theorem zm_3_176 : Cond.code ({ cls := "AnswerSquareModel", name := "mayBe", desc := "(I)Z" } : MethodName) prog_6_method_10_code (2 : Nat) (Option.some FieldType.boolean) ∈ ztbl := zg (zt_3 (List.mem_of_getElem? (i := 176) rfl)) rfl
set_option maxRecDepth 20000 in
theorem zs_X4_mayBe : Cond.selects "AnswerSquareModel" ({ cls := "AnswerSquareModel", name := "mayBe", desc := "(I)Z" } : MethodName) ({ cls := "AnswerSquareModel", name := "mayBe", desc := "(I)Z" } : MethodName) ∈ ztbl := zg (List.mem_append_left _ (List.mem_map.mpr ⟨_, (show _ ∈ lw_privs_1 ++ (lw_privs_2 ++ (lw_privs_3 ++ (lw_privs_4 ++ (lw_privs_5 ++ (lw_privs_6))))) from List.mem_append_right _ (List.mem_append_right _ (List.mem_append_right _ (List.mem_append_left _ (List.mem_of_getElem? (i := 14) rfl))))), rfl⟩)) rfl
set_option maxRecDepth 20000 in
set_option maxRecDepth 20000 in
theorem zm_3_175 : Cond.instanceMethod ({ cls := "AnswerSquareModel", name := "mayBe", desc := "(I)Z" } : MethodName) ∈ ztbl := zg (zt_3 (List.mem_of_getElem? (i := 175) rfl)) rfl
theorem zy_X4_mayBe : zYv mX4_mayBe 1 := ⟨zm_3_176, zm_1_5, zm_3_175, zs_X4_mayBe, ⟨by decide +kernel, by decide +kernel⟩, by decide +kernel, by decide⟩
def mX4_due : ZM := (yX4_due, cX4_due, 3, (some (FieldType.int)))
set_option maxRecDepth 20000 in
theorem zm_3_180 : Cond.code ({ cls := "AnswerSquareModel", name := "due", desc := "(Z)I" } : MethodName) prog_6_method_8_code (3 : Nat) (Option.some FieldType.int) ∈ ztbl := zg (zt_3 (List.mem_of_getElem? (i := 180) rfl)) rfl
set_option maxRecDepth 20000 in
theorem zs_X4_due : Cond.selects "AnswerSquareModel" ({ cls := "AnswerSquareModel", name := "due", desc := "(Z)I" } : MethodName) ({ cls := "AnswerSquareModel", name := "due", desc := "(Z)I" } : MethodName) ∈ ztbl := zg (List.mem_append_left _ (List.mem_map.mpr ⟨_, (show _ ∈ lw_privs_1 ++ (lw_privs_2 ++ (lw_privs_3 ++ (lw_privs_4 ++ (lw_privs_5 ++ (lw_privs_6))))) from List.mem_append_right _ (List.mem_append_right _ (List.mem_append_right _ (List.mem_append_left _ (List.mem_of_getElem? (i := 15) rfl))))), rfl⟩)) rfl
set_option maxRecDepth 20000 in
set_option maxRecDepth 20000 in
theorem zm_3_179 : Cond.instanceMethod ({ cls := "AnswerSquareModel", name := "due", desc := "(Z)I" } : MethodName) ∈ ztbl := zg (zt_3 (List.mem_of_getElem? (i := 179) rfl)) rfl
theorem zy_X4_due : zYv mX4_due 1 := ⟨zm_3_180, zm_1_5, zm_3_179, zs_X4_due, ⟨by decide +kernel, by decide +kernel⟩, by decide +kernel, by decide⟩
def mX4_readRow : ZM := (yX4_readRow, cX4_readRow, 3, none)
set_option maxRecDepth 20000 in
theorem zm_3_184 : Cond.code ({ cls := "AnswerSquareModel", name := "readRow", desc := "(I)V" } : MethodName) prog_6_method_12_code (3 : Nat) (Option.none : Option FieldType) ∈ ztbl := zg (zt_3 (List.mem_of_getElem? (i := 184) rfl)) rfl
set_option maxRecDepth 20000 in
theorem zs_X4_readRow : Cond.selects "AnswerSquareModel" ({ cls := "AnswerSquareModel", name := "readRow", desc := "(I)V" } : MethodName) ({ cls := "AnswerSquareModel", name := "readRow", desc := "(I)V" } : MethodName) ∈ ztbl := zg (List.mem_append_left _ (List.mem_map.mpr ⟨_, (show _ ∈ lw_privs_1 ++ (lw_privs_2 ++ (lw_privs_3 ++ (lw_privs_4 ++ (lw_privs_5 ++ (lw_privs_6))))) from List.mem_append_right _ (List.mem_append_right _ (List.mem_append_right _ (List.mem_append_right _ (List.mem_append_left _ (List.mem_of_getElem? (i := 0) rfl)))))), rfl⟩)) rfl
set_option maxRecDepth 20000 in
set_option maxRecDepth 20000 in
theorem zm_3_183 : Cond.instanceMethod ({ cls := "AnswerSquareModel", name := "readRow", desc := "(I)V" } : MethodName) ∈ ztbl := zg (zt_3 (List.mem_of_getElem? (i := 183) rfl)) rfl
theorem zy_X4_readRow : zYv mX4_readRow 1 := ⟨zm_3_184, zm_1_5, zm_3_183, zs_X4_readRow, ⟨by decide +kernel, by decide +kernel⟩, by decide +kernel, by decide⟩
def mX4_number : ZM := (yX4_number, cX4_number, 3, (some (FieldType.int)))
set_option maxRecDepth 20000 in
theorem zm_3_188 : Cond.code ({ cls := "AnswerSquareModel", name := "number", desc := "(II)I" } : MethodName) prog_6_method_9_code (3 : Nat) (Option.some FieldType.int) ∈ ztbl := zg (zt_3 (List.mem_of_getElem? (i := 188) rfl)) rfl
set_option maxRecDepth 20000 in
theorem zs_X4_number : Cond.selects "AnswerSquareModel" ({ cls := "AnswerSquareModel", name := "number", desc := "(II)I" } : MethodName) ({ cls := "AnswerSquareModel", name := "number", desc := "(II)I" } : MethodName) ∈ ztbl := zg (List.mem_append_left _ (List.mem_map.mpr ⟨_, (show _ ∈ lw_privs_1 ++ (lw_privs_2 ++ (lw_privs_3 ++ (lw_privs_4 ++ (lw_privs_5 ++ (lw_privs_6))))) from List.mem_append_right _ (List.mem_append_right _ (List.mem_append_right _ (List.mem_append_right _ (List.mem_append_left _ (List.mem_of_getElem? (i := 1) rfl)))))), rfl⟩)) rfl
set_option maxRecDepth 20000 in
set_option maxRecDepth 20000 in
theorem zm_3_187 : Cond.instanceMethod ({ cls := "AnswerSquareModel", name := "number", desc := "(II)I" } : MethodName) ∈ ztbl := zg (zt_3 (List.mem_of_getElem? (i := 187) rfl)) rfl
theorem zy_X4_number : zYv mX4_number 2 := ⟨zm_3_188, zm_1_5, zm_3_187, zs_X4_number, ⟨by decide +kernel, by decide +kernel⟩, by decide +kernel, by decide⟩
def mX4_readSet : ZM := (yX4_readSet, cX4_readSet, 3, (some (FieldType.int)))
set_option maxRecDepth 20000 in
theorem zm_3_192 : Cond.code ({ cls := "AnswerSquareModel", name := "readSet", desc := "()I" } : MethodName) prog_6_method_11_code (3 : Nat) (Option.some FieldType.int) ∈ ztbl := zg (zt_3 (List.mem_of_getElem? (i := 192) rfl)) rfl
set_option maxRecDepth 20000 in
theorem zs_X4_readSet : Cond.selects "AnswerSquareModel" ({ cls := "AnswerSquareModel", name := "readSet", desc := "()I" } : MethodName) ({ cls := "AnswerSquareModel", name := "readSet", desc := "()I" } : MethodName) ∈ ztbl := zg (List.mem_append_left _ (List.mem_map.mpr ⟨_, (show _ ∈ lw_privs_1 ++ (lw_privs_2 ++ (lw_privs_3 ++ (lw_privs_4 ++ (lw_privs_5 ++ (lw_privs_6))))) from List.mem_append_right _ (List.mem_append_right _ (List.mem_append_right _ (List.mem_append_right _ (List.mem_append_left _ (List.mem_of_getElem? (i := 2) rfl)))))), rfl⟩)) rfl
set_option maxRecDepth 20000 in
set_option maxRecDepth 20000 in
theorem zm_3_191 : Cond.instanceMethod ({ cls := "AnswerSquareModel", name := "readSet", desc := "()I" } : MethodName) ∈ ztbl := zg (zt_3 (List.mem_of_getElem? (i := 191) rfl)) rfl
theorem zy_X4_readSet : zYv mX4_readSet 0 := ⟨zm_3_192, zm_1_5, zm_3_191, zs_X4_readSet, ⟨by decide +kernel, by decide +kernel⟩, by decide +kernel, by decide⟩
def mX4_saying : ZM := (yX4_saying, cX4_saying, 3, (some (FieldType.int)))
set_option maxRecDepth 20000 in
theorem zm_3_196 : Cond.code ({ cls := "AnswerSquareModel", name := "saying", desc := "(II)I" } : MethodName) prog_6_method_24_code (3 : Nat) (Option.some FieldType.int) ∈ ztbl := zg (zt_3 (List.mem_of_getElem? (i := 196) rfl)) rfl
set_option maxRecDepth 20000 in
theorem zm_3_195 : Cond.selects "AnswerSquareModel" ({ cls := "AnswerSquareModel", name := "saying", desc := "(II)I" } : MethodName) ({ cls := "AnswerSquareModel", name := "saying", desc := "(II)I" } : MethodName) ∈ ztbl := zg (zt_3 (List.mem_of_getElem? (i := 195) rfl)) rfl
set_option maxRecDepth 20000 in
set_option maxRecDepth 20000 in
theorem zm_3_194 : Cond.instanceMethod ({ cls := "AnswerSquareModel", name := "saying", desc := "(II)I" } : MethodName) ∈ ztbl := zg (zt_3 (List.mem_of_getElem? (i := 194) rfl)) rfl
theorem zy_X4_saying : zYv mX4_saying 2 := ⟨zm_3_196, zm_1_5, zm_3_194, zm_3_195, ⟨by decide +kernel, by decide +kernel⟩, by decide +kernel, by decide⟩
def mX4_isSaying : ZM := (yX4_isSaying, cX4_isSaying, 2, (some (FieldType.boolean)))
set_option maxRecDepth 20000 in
theorem zm_3_200 : Cond.code ({ cls := "AnswerSquareModel", name := "isSaying", desc := "(I)Z" } : MethodName) prog_6_method_16_code (2 : Nat) (Option.some FieldType.boolean) ∈ ztbl := zg (zt_3 (List.mem_of_getElem? (i := 200) rfl)) rfl
set_option maxRecDepth 20000 in
theorem zs_X4_isSaying : Cond.selects "AnswerSquareModel" ({ cls := "AnswerSquareModel", name := "isSaying", desc := "(I)Z" } : MethodName) ({ cls := "AnswerSquareModel", name := "isSaying", desc := "(I)Z" } : MethodName) ∈ ztbl := zg (List.mem_append_left _ (List.mem_map.mpr ⟨_, (show _ ∈ lw_privs_1 ++ (lw_privs_2 ++ (lw_privs_3 ++ (lw_privs_4 ++ (lw_privs_5 ++ (lw_privs_6))))) from List.mem_append_right _ (List.mem_append_right _ (List.mem_append_right _ (List.mem_append_right _ (List.mem_append_left _ (List.mem_of_getElem? (i := 3) rfl)))))), rfl⟩)) rfl
set_option maxRecDepth 20000 in
set_option maxRecDepth 20000 in
theorem zm_3_199 : Cond.instanceMethod ({ cls := "AnswerSquareModel", name := "isSaying", desc := "(I)Z" } : MethodName) ∈ ztbl := zg (zt_3 (List.mem_of_getElem? (i := 199) rfl)) rfl
theorem zy_X4_isSaying : zYv mX4_isSaying 1 := ⟨zm_3_200, zm_1_5, zm_3_199, zs_X4_isSaying, ⟨by decide +kernel, by decide +kernel⟩, by decide +kernel, by decide⟩
def mX4_isSound : ZM := (yX4_isSound, cX4_isSound, 2, (some (FieldType.boolean)))
set_option maxRecDepth 20000 in
theorem zm_3_204 : Cond.code ({ cls := "AnswerSquareModel", name := "isSound", desc := "(I)Z" } : MethodName) prog_6_method_18_code (2 : Nat) (Option.some FieldType.boolean) ∈ ztbl := zg (zt_3 (List.mem_of_getElem? (i := 204) rfl)) rfl
set_option maxRecDepth 20000 in
theorem zs_X4_isSound : Cond.selects "AnswerSquareModel" ({ cls := "AnswerSquareModel", name := "isSound", desc := "(I)Z" } : MethodName) ({ cls := "AnswerSquareModel", name := "isSound", desc := "(I)Z" } : MethodName) ∈ ztbl := zg (List.mem_append_left _ (List.mem_map.mpr ⟨_, (show _ ∈ lw_privs_1 ++ (lw_privs_2 ++ (lw_privs_3 ++ (lw_privs_4 ++ (lw_privs_5 ++ (lw_privs_6))))) from List.mem_append_right _ (List.mem_append_right _ (List.mem_append_right _ (List.mem_append_right _ (List.mem_append_left _ (List.mem_of_getElem? (i := 4) rfl)))))), rfl⟩)) rfl
set_option maxRecDepth 20000 in
set_option maxRecDepth 20000 in
theorem zm_3_203 : Cond.instanceMethod ({ cls := "AnswerSquareModel", name := "isSound", desc := "(I)Z" } : MethodName) ∈ ztbl := zg (zt_3 (List.mem_of_getElem? (i := 203) rfl)) rfl
theorem zy_X4_isSound : zYv mX4_isSound 1 := ⟨zm_3_204, zm_1_5, zm_3_203, zs_X4_isSound, ⟨by decide +kernel, by decide +kernel⟩, by decide +kernel, by decide⟩
def mX4_knownBy : ZM := (yX4_knownBy, cX4_knownBy, 4, (some (FieldType.int)))
set_option maxRecDepth 20000 in
theorem zm_3_208 : Cond.code ({ cls := "AnswerSquareModel", name := "knownBy", desc := "(I)I" } : MethodName) prog_6_method_22_code (4 : Nat) (Option.some FieldType.int) ∈ ztbl := zg (zt_3 (List.mem_of_getElem? (i := 208) rfl)) rfl
set_option maxRecDepth 20000 in
theorem zs_X4_knownBy : Cond.selects "AnswerSquareModel" ({ cls := "AnswerSquareModel", name := "knownBy", desc := "(I)I" } : MethodName) ({ cls := "AnswerSquareModel", name := "knownBy", desc := "(I)I" } : MethodName) ∈ ztbl := zg (List.mem_append_left _ (List.mem_map.mpr ⟨_, (show _ ∈ lw_privs_1 ++ (lw_privs_2 ++ (lw_privs_3 ++ (lw_privs_4 ++ (lw_privs_5 ++ (lw_privs_6))))) from List.mem_append_right _ (List.mem_append_right _ (List.mem_append_right _ (List.mem_append_right _ (List.mem_append_left _ (List.mem_of_getElem? (i := 5) rfl)))))), rfl⟩)) rfl
set_option maxRecDepth 20000 in
set_option maxRecDepth 20000 in
theorem zm_3_207 : Cond.instanceMethod ({ cls := "AnswerSquareModel", name := "knownBy", desc := "(I)I" } : MethodName) ∈ ztbl := zg (zt_3 (List.mem_of_getElem? (i := 207) rfl)) rfl
theorem zy_X4_knownBy : zYv mX4_knownBy 1 := ⟨zm_3_208, zm_1_5, zm_3_207, zs_X4_knownBy, ⟨by decide +kernel, by decide +kernel⟩, by decide +kernel, by decide⟩
def mX4_oftenOf : ZM := (yX4_oftenOf, cX4_oftenOf, 4, (some (FieldType.int)))
set_option maxRecDepth 20000 in
theorem zm_3_212 : Cond.code ({ cls := "AnswerSquareModel", name := "oftenOf", desc := "(I)I" } : MethodName) prog_6_method_23_code (4 : Nat) (Option.some FieldType.int) ∈ ztbl := zg (zt_3 (List.mem_of_getElem? (i := 212) rfl)) rfl
set_option maxRecDepth 20000 in
theorem zs_X4_oftenOf : Cond.selects "AnswerSquareModel" ({ cls := "AnswerSquareModel", name := "oftenOf", desc := "(I)I" } : MethodName) ({ cls := "AnswerSquareModel", name := "oftenOf", desc := "(I)I" } : MethodName) ∈ ztbl := zg (List.mem_append_left _ (List.mem_map.mpr ⟨_, (show _ ∈ lw_privs_1 ++ (lw_privs_2 ++ (lw_privs_3 ++ (lw_privs_4 ++ (lw_privs_5 ++ (lw_privs_6))))) from List.mem_append_right _ (List.mem_append_right _ (List.mem_append_right _ (List.mem_append_right _ (List.mem_append_left _ (List.mem_of_getElem? (i := 6) rfl)))))), rfl⟩)) rfl
set_option maxRecDepth 20000 in
set_option maxRecDepth 20000 in
theorem zm_3_211 : Cond.instanceMethod ({ cls := "AnswerSquareModel", name := "oftenOf", desc := "(I)I" } : MethodName) ∈ ztbl := zg (zt_3 (List.mem_of_getElem? (i := 211) rfl)) rfl
theorem zy_X4_oftenOf : zYv mX4_oftenOf 1 := ⟨zm_3_212, zm_1_5, zm_3_211, zs_X4_oftenOf, ⟨by decide +kernel, by decide +kernel⟩, by decide +kernel, by decide⟩
def mX4_person : ZM := (yX4_person, cX4_person, 5, (some (FieldType.int)))
set_option maxRecDepth 20000 in
theorem zm_3_216 : Cond.code ({ cls := "AnswerSquareModel", name := "person", desc := "(II)I" } : MethodName) prog_6_method_26_code (5 : Nat) (Option.some FieldType.int) ∈ ztbl := zg (zt_3 (List.mem_of_getElem? (i := 216) rfl)) rfl
set_option maxRecDepth 20000 in
theorem zm_3_215 : Cond.selects "AnswerSquareModel" ({ cls := "AnswerSquareModel", name := "person", desc := "(II)I" } : MethodName) ({ cls := "AnswerSquareModel", name := "person", desc := "(II)I" } : MethodName) ∈ ztbl := zg (zt_3 (List.mem_of_getElem? (i := 215) rfl)) rfl
set_option maxRecDepth 20000 in
set_option maxRecDepth 20000 in
theorem zm_3_214 : Cond.instanceMethod ({ cls := "AnswerSquareModel", name := "person", desc := "(II)I" } : MethodName) ∈ ztbl := zg (zt_3 (List.mem_of_getElem? (i := 214) rfl)) rfl
theorem zy_X4_person : zYv mX4_person 2 := ⟨zm_3_216, zm_1_5, zm_3_214, zm_3_215, ⟨by decide +kernel, by decide +kernel⟩, by decide +kernel, by decide⟩
def mX4_isPerson : ZM := (yX4_isPerson, cX4_isPerson, 2, (some (FieldType.boolean)))
set_option maxRecDepth 20000 in
theorem zm_3_220 : Cond.code ({ cls := "AnswerSquareModel", name := "isPerson", desc := "(I)Z" } : MethodName) prog_6_method_17_code (2 : Nat) (Option.some FieldType.boolean) ∈ ztbl := zg (zt_3 (List.mem_of_getElem? (i := 220) rfl)) rfl
set_option maxRecDepth 20000 in
theorem zs_X4_isPerson : Cond.selects "AnswerSquareModel" ({ cls := "AnswerSquareModel", name := "isPerson", desc := "(I)Z" } : MethodName) ({ cls := "AnswerSquareModel", name := "isPerson", desc := "(I)Z" } : MethodName) ∈ ztbl := zg (List.mem_append_left _ (List.mem_map.mpr ⟨_, (show _ ∈ lw_privs_1 ++ (lw_privs_2 ++ (lw_privs_3 ++ (lw_privs_4 ++ (lw_privs_5 ++ (lw_privs_6))))) from List.mem_append_right _ (List.mem_append_right _ (List.mem_append_right _ (List.mem_append_right _ (List.mem_append_left _ (List.mem_of_getElem? (i := 7) rfl)))))), rfl⟩)) rfl
set_option maxRecDepth 20000 in
set_option maxRecDepth 20000 in
theorem zm_3_219 : Cond.instanceMethod ({ cls := "AnswerSquareModel", name := "isPerson", desc := "(I)Z" } : MethodName) ∈ ztbl := zg (zt_3 (List.mem_of_getElem? (i := 219) rfl)) rfl
theorem zy_X4_isPerson : zYv mX4_isPerson 1 := ⟨zm_3_220, zm_1_5, zm_3_219, zs_X4_isPerson, ⟨by decide +kernel, by decide +kernel⟩, by decide +kernel, by decide⟩
def mX4_there : ZM := (yX4_there, cX4_there, 4, (some (FieldType.int)))
set_option maxRecDepth 20000 in
theorem zm_3_224 : Cond.code ({ cls := "AnswerSquareModel", name := "there", desc := "(I)I" } : MethodName) prog_6_method_21_code (4 : Nat) (Option.some FieldType.int) ∈ ztbl := zg (zt_3 (List.mem_of_getElem? (i := 224) rfl)) rfl
set_option maxRecDepth 20000 in
theorem zs_X4_there : Cond.selects "AnswerSquareModel" ({ cls := "AnswerSquareModel", name := "there", desc := "(I)I" } : MethodName) ({ cls := "AnswerSquareModel", name := "there", desc := "(I)I" } : MethodName) ∈ ztbl := zg (List.mem_append_left _ (List.mem_map.mpr ⟨_, (show _ ∈ lw_privs_1 ++ (lw_privs_2 ++ (lw_privs_3 ++ (lw_privs_4 ++ (lw_privs_5 ++ (lw_privs_6))))) from List.mem_append_right _ (List.mem_append_right _ (List.mem_append_right _ (List.mem_append_right _ (List.mem_append_left _ (List.mem_of_getElem? (i := 8) rfl)))))), rfl⟩)) rfl
set_option maxRecDepth 20000 in
set_option maxRecDepth 20000 in
theorem zm_3_223 : Cond.instanceMethod ({ cls := "AnswerSquareModel", name := "there", desc := "(I)I" } : MethodName) ∈ ztbl := zg (zt_3 (List.mem_of_getElem? (i := 223) rfl)) rfl
theorem zy_X4_there : zYv mX4_there 1 := ⟨zm_3_224, zm_1_5, zm_3_223, zs_X4_there, ⟨by decide +kernel, by decide +kernel⟩, by decide +kernel, by decide⟩
def mX4_isThere : ZM := (yX4_isThere, cX4_isThere, 3, (some (FieldType.boolean)))
set_option maxRecDepth 20000 in
theorem zm_3_228 : Cond.code ({ cls := "AnswerSquareModel", name := "isThere", desc := "(II)Z" } : MethodName) prog_6_method_20_code (3 : Nat) (Option.some FieldType.boolean) ∈ ztbl := zg (zt_3 (List.mem_of_getElem? (i := 228) rfl)) rfl
set_option maxRecDepth 20000 in
theorem zs_X4_isThere : Cond.selects "AnswerSquareModel" ({ cls := "AnswerSquareModel", name := "isThere", desc := "(II)Z" } : MethodName) ({ cls := "AnswerSquareModel", name := "isThere", desc := "(II)Z" } : MethodName) ∈ ztbl := zg (List.mem_append_left _ (List.mem_map.mpr ⟨_, (show _ ∈ lw_privs_1 ++ (lw_privs_2 ++ (lw_privs_3 ++ (lw_privs_4 ++ (lw_privs_5 ++ (lw_privs_6))))) from List.mem_append_right _ (List.mem_append_right _ (List.mem_append_right _ (List.mem_append_right _ (List.mem_append_left _ (List.mem_of_getElem? (i := 9) rfl)))))), rfl⟩)) rfl
set_option maxRecDepth 20000 in
set_option maxRecDepth 20000 in
theorem zm_3_227 : Cond.instanceMethod ({ cls := "AnswerSquareModel", name := "isThere", desc := "(II)Z" } : MethodName) ∈ ztbl := zg (zt_3 (List.mem_of_getElem? (i := 227) rfl)) rfl
theorem zy_X4_isThere : zYv mX4_isThere 2 := ⟨zm_3_228, zm_1_5, zm_3_227, zs_X4_isThere, ⟨by decide +kernel, by decide +kernel⟩, by decide +kernel, by decide⟩
def mX4_mayOf : ZM := (yX4_mayOf, cX4_mayOf, 5, (some (FieldType.int)))
set_option maxRecDepth 20000 in
theorem zm_3_232 : Cond.code ({ cls := "AnswerSquareModel", name := "mayOf", desc := "(II)I" } : MethodName) prog_6_method_25_code (5 : Nat) (Option.some FieldType.int) ∈ ztbl := zg (zt_3 (List.mem_of_getElem? (i := 232) rfl)) rfl
set_option maxRecDepth 20000 in
theorem zs_X4_mayOf : Cond.selects "AnswerSquareModel" ({ cls := "AnswerSquareModel", name := "mayOf", desc := "(II)I" } : MethodName) ({ cls := "AnswerSquareModel", name := "mayOf", desc := "(II)I" } : MethodName) ∈ ztbl := zg (List.mem_append_left _ (List.mem_map.mpr ⟨_, (show _ ∈ lw_privs_1 ++ (lw_privs_2 ++ (lw_privs_3 ++ (lw_privs_4 ++ (lw_privs_5 ++ (lw_privs_6))))) from List.mem_append_right _ (List.mem_append_right _ (List.mem_append_right _ (List.mem_append_right _ (List.mem_append_left _ (List.mem_of_getElem? (i := 10) rfl)))))), rfl⟩)) rfl
set_option maxRecDepth 20000 in
set_option maxRecDepth 20000 in
theorem zm_3_231 : Cond.instanceMethod ({ cls := "AnswerSquareModel", name := "mayOf", desc := "(II)I" } : MethodName) ∈ ztbl := zg (zt_3 (List.mem_of_getElem? (i := 231) rfl)) rfl
theorem zy_X4_mayOf : zYv mX4_mayOf 2 := ⟨zm_3_232, zm_1_5, zm_3_231, zs_X4_mayOf, ⟨by decide +kernel, by decide +kernel⟩, by decide +kernel, by decide⟩
def mX4_talk : ZM := (yX4_talk, cX4_talk, 3, (some (FieldType.int)))
set_option maxRecDepth 20000 in
theorem zm_3_236 : Cond.code ({ cls := "AnswerSquareModel", name := "talk", desc := "(II)I" } : MethodName) prog_6_method_30_code (3 : Nat) (Option.some FieldType.int) ∈ ztbl := zg (zt_3 (List.mem_of_getElem? (i := 236) rfl)) rfl
set_option maxRecDepth 20000 in
theorem zm_3_235 : Cond.selects "AnswerSquareModel" ({ cls := "AnswerSquareModel", name := "talk", desc := "(II)I" } : MethodName) ({ cls := "AnswerSquareModel", name := "talk", desc := "(II)I" } : MethodName) ∈ ztbl := zg (zt_3 (List.mem_of_getElem? (i := 235) rfl)) rfl
set_option maxRecDepth 20000 in
set_option maxRecDepth 20000 in
theorem zm_3_234 : Cond.instanceMethod ({ cls := "AnswerSquareModel", name := "talk", desc := "(II)I" } : MethodName) ∈ ztbl := zg (zt_3 (List.mem_of_getElem? (i := 234) rfl)) rfl
theorem zy_X4_talk : zYv mX4_talk 2 := ⟨zm_3_236, zm_1_5, zm_3_234, zm_3_235, ⟨by decide +kernel, by decide +kernel⟩, by decide +kernel, by decide⟩
def mX4_rootOf : ZM := (yX4_rootOf, cX4_rootOf, 3, (some (FieldType.int)))
set_option maxRecDepth 20000 in
theorem zm_4_0 : Cond.code ({ cls := "AnswerSquareModel", name := "rootOf", desc := "(I)I" } : MethodName) prog_6_method_27_code (3 : Nat) (Option.some FieldType.int) ∈ ztbl := zg (zt_4 (List.mem_of_getElem? (i := 0) rfl)) rfl
set_option maxRecDepth 20000 in
theorem zs_X4_rootOf : Cond.selects "AnswerSquareModel" ({ cls := "AnswerSquareModel", name := "rootOf", desc := "(I)I" } : MethodName) ({ cls := "AnswerSquareModel", name := "rootOf", desc := "(I)I" } : MethodName) ∈ ztbl := zg (List.mem_append_left _ (List.mem_map.mpr ⟨_, (show _ ∈ lw_privs_1 ++ (lw_privs_2 ++ (lw_privs_3 ++ (lw_privs_4 ++ (lw_privs_5 ++ (lw_privs_6))))) from List.mem_append_right _ (List.mem_append_right _ (List.mem_append_right _ (List.mem_append_right _ (List.mem_append_left _ (List.mem_of_getElem? (i := 11) rfl)))))), rfl⟩)) rfl
set_option maxRecDepth 20000 in
set_option maxRecDepth 20000 in
theorem zm_3_239 : Cond.instanceMethod ({ cls := "AnswerSquareModel", name := "rootOf", desc := "(I)I" } : MethodName) ∈ ztbl := zg (zt_3 (List.mem_of_getElem? (i := 239) rfl)) rfl
theorem zy_X4_rootOf : zYv mX4_rootOf 1 := ⟨zm_4_0, zm_1_5, zm_3_239, zs_X4_rootOf, ⟨by decide +kernel, by decide +kernel⟩, by decide +kernel, by decide⟩
def mX4_farOf : ZM := (yX4_farOf, cX4_farOf, 4, (some (FieldType.int)))
set_option maxRecDepth 20000 in
theorem zm_4_4 : Cond.code ({ cls := "AnswerSquareModel", name := "farOf", desc := "(I)I" } : MethodName) prog_6_method_28_code (4 : Nat) (Option.some FieldType.int) ∈ ztbl := zg (zt_4 (List.mem_of_getElem? (i := 4) rfl)) rfl
set_option maxRecDepth 20000 in
theorem zs_X4_farOf : Cond.selects "AnswerSquareModel" ({ cls := "AnswerSquareModel", name := "farOf", desc := "(I)I" } : MethodName) ({ cls := "AnswerSquareModel", name := "farOf", desc := "(I)I" } : MethodName) ∈ ztbl := zg (List.mem_append_left _ (List.mem_map.mpr ⟨_, (show _ ∈ lw_privs_1 ++ (lw_privs_2 ++ (lw_privs_3 ++ (lw_privs_4 ++ (lw_privs_5 ++ (lw_privs_6))))) from List.mem_append_right _ (List.mem_append_right _ (List.mem_append_right _ (List.mem_append_right _ (List.mem_append_left _ (List.mem_of_getElem? (i := 12) rfl)))))), rfl⟩)) rfl
set_option maxRecDepth 20000 in
set_option maxRecDepth 20000 in
theorem zm_4_3 : Cond.instanceMethod ({ cls := "AnswerSquareModel", name := "farOf", desc := "(I)I" } : MethodName) ∈ ztbl := zg (zt_4 (List.mem_of_getElem? (i := 3) rfl)) rfl
theorem zy_X4_farOf : zYv mX4_farOf 1 := ⟨zm_4_4, zm_1_5, zm_4_3, zs_X4_farOf, ⟨by decide +kernel, by decide +kernel⟩, by decide +kernel, by decide⟩
def mX4_firstAnswer : ZM := (yX4_firstAnswer, cX4_firstAnswer, 3, (some (FieldType.int)))
set_option maxRecDepth 20000 in
theorem zm_4_8 : Cond.code ({ cls := "AnswerSquareModel", name := "firstAnswer", desc := "(I)I" } : MethodName) prog_6_method_29_code (3 : Nat) (Option.some FieldType.int) ∈ ztbl := zg (zt_4 (List.mem_of_getElem? (i := 8) rfl)) rfl
set_option maxRecDepth 20000 in
theorem zs_X4_firstAnswer : Cond.selects "AnswerSquareModel" ({ cls := "AnswerSquareModel", name := "firstAnswer", desc := "(I)I" } : MethodName) ({ cls := "AnswerSquareModel", name := "firstAnswer", desc := "(I)I" } : MethodName) ∈ ztbl := zg (List.mem_append_left _ (List.mem_map.mpr ⟨_, (show _ ∈ lw_privs_1 ++ (lw_privs_2 ++ (lw_privs_3 ++ (lw_privs_4 ++ (lw_privs_5 ++ (lw_privs_6))))) from List.mem_append_right _ (List.mem_append_right _ (List.mem_append_right _ (List.mem_append_right _ (List.mem_append_left _ (List.mem_of_getElem? (i := 13) rfl)))))), rfl⟩)) rfl
set_option maxRecDepth 20000 in
set_option maxRecDepth 20000 in
theorem zm_4_7 : Cond.instanceMethod ({ cls := "AnswerSquareModel", name := "firstAnswer", desc := "(I)I" } : MethodName) ∈ ztbl := zg (zt_4 (List.mem_of_getElem? (i := 7) rfl)) rfl
theorem zy_X4_firstAnswer : zYv mX4_firstAnswer 1 := ⟨zm_4_8, zm_1_5, zm_4_7, zs_X4_firstAnswer, ⟨by decide +kernel, by decide +kernel⟩, by decide +kernel, by decide⟩
def mX4_hears : ZM := (yX4_hears, cX4_hears, 2, (some (FieldType.int)))
set_option maxRecDepth 20000 in
theorem zm_4_12 : Cond.code ({ cls := "AnswerSquareModel", name := "hears", desc := "(I)I" } : MethodName) prog_6_method_33_code (2 : Nat) (Option.some FieldType.int) ∈ ztbl := zg (zt_4 (List.mem_of_getElem? (i := 12) rfl)) rfl
set_option maxRecDepth 20000 in
theorem zm_4_11 : Cond.selects "AnswerSquareModel" ({ cls := "AnswerSquareModel", name := "hears", desc := "(I)I" } : MethodName) ({ cls := "AnswerSquareModel", name := "hears", desc := "(I)I" } : MethodName) ∈ ztbl := zg (zt_4 (List.mem_of_getElem? (i := 11) rfl)) rfl
set_option maxRecDepth 20000 in
set_option maxRecDepth 20000 in
theorem zm_4_10 : Cond.instanceMethod ({ cls := "AnswerSquareModel", name := "hears", desc := "(I)I" } : MethodName) ∈ ztbl := zg (zt_4 (List.mem_of_getElem? (i := 10) rfl)) rfl
theorem zy_X4_hears : zYv mX4_hears 1 := ⟨zm_4_12, zm_1_5, zm_4_10, zm_4_11, ⟨by decide +kernel, by decide +kernel⟩, by decide +kernel, by decide⟩
def mX4_add : ZM := (yX4_add, cX4_add, 5, none)
set_option maxRecDepth 20000 in
theorem zm_4_16 : Cond.code ({ cls := "AnswerSquareModel", name := "add", desc := "(III)V" } : MethodName) prog_6_method_32_code (5 : Nat) (Option.none : Option FieldType) ∈ ztbl := zg (zt_4 (List.mem_of_getElem? (i := 16) rfl)) rfl
set_option maxRecDepth 20000 in
theorem zs_X4_add : Cond.selects "AnswerSquareModel" ({ cls := "AnswerSquareModel", name := "add", desc := "(III)V" } : MethodName) ({ cls := "AnswerSquareModel", name := "add", desc := "(III)V" } : MethodName) ∈ ztbl := zg (List.mem_append_left _ (List.mem_map.mpr ⟨_, (show _ ∈ lw_privs_1 ++ (lw_privs_2 ++ (lw_privs_3 ++ (lw_privs_4 ++ (lw_privs_5 ++ (lw_privs_6))))) from List.mem_append_right _ (List.mem_append_right _ (List.mem_append_right _ (List.mem_append_right _ (List.mem_append_left _ (List.mem_of_getElem? (i := 14) rfl)))))), rfl⟩)) rfl
set_option maxRecDepth 20000 in
set_option maxRecDepth 20000 in
theorem zm_4_15 : Cond.instanceMethod ({ cls := "AnswerSquareModel", name := "add", desc := "(III)V" } : MethodName) ∈ ztbl := zg (zt_4 (List.mem_of_getElem? (i := 15) rfl)) rfl
theorem zy_X4_add : zYv mX4_add 3 := ⟨zm_4_16, zm_1_5, zm_4_15, zs_X4_add, ⟨by decide +kernel, by decide +kernel⟩, by decide +kernel, by decide⟩
def mX4_know : ZM := (yX4_know, cX4_know, 2, none)
set_option maxRecDepth 20000 in
theorem zm_4_20 : Cond.code ({ cls := "AnswerSquareModel", name := "know", desc := "()V" } : MethodName) prog_6_method_31_code (2 : Nat) (Option.none : Option FieldType) ∈ ztbl := zg (zt_4 (List.mem_of_getElem? (i := 20) rfl)) rfl
set_option maxRecDepth 20000 in
theorem zs_X4_know : Cond.selects "AnswerSquareModel" ({ cls := "AnswerSquareModel", name := "know", desc := "()V" } : MethodName) ({ cls := "AnswerSquareModel", name := "know", desc := "()V" } : MethodName) ∈ ztbl := zg (List.mem_append_left _ (List.mem_map.mpr ⟨_, (show _ ∈ lw_privs_1 ++ (lw_privs_2 ++ (lw_privs_3 ++ (lw_privs_4 ++ (lw_privs_5 ++ (lw_privs_6))))) from List.mem_append_right _ (List.mem_append_right _ (List.mem_append_right _ (List.mem_append_right _ (List.mem_append_left _ (List.mem_of_getElem? (i := 15) rfl)))))), rfl⟩)) rfl
set_option maxRecDepth 20000 in
set_option maxRecDepth 20000 in
theorem zm_4_19 : Cond.instanceMethod ({ cls := "AnswerSquareModel", name := "know", desc := "()V" } : MethodName) ∈ ztbl := zg (zt_4 (List.mem_of_getElem? (i := 19) rfl)) rfl
theorem zy_X4_know : zYv mX4_know 0 := ⟨zm_4_20, zm_1_5, zm_4_19, zs_X4_know, ⟨by decide +kernel, by decide +kernel⟩, by decide +kernel, by decide⟩
def mX4_says : ZM := (yX4_says, cX4_says, 5, (some (FieldType.int)))
set_option maxRecDepth 20000 in
theorem zm_4_24 : Cond.code ({ cls := "AnswerSquareModel", name := "says", desc := "(II)I" } : MethodName) prog_6_method_34_code (5 : Nat) (Option.some FieldType.int) ∈ ztbl := zg (zt_4 (List.mem_of_getElem? (i := 24) rfl)) rfl
set_option maxRecDepth 20000 in
theorem zm_4_23 : Cond.selects "AnswerSquareModel" ({ cls := "AnswerSquareModel", name := "says", desc := "(II)I" } : MethodName) ({ cls := "AnswerSquareModel", name := "says", desc := "(II)I" } : MethodName) ∈ ztbl := zg (zt_4 (List.mem_of_getElem? (i := 23) rfl)) rfl
set_option maxRecDepth 20000 in
set_option maxRecDepth 20000 in
theorem zm_4_22 : Cond.instanceMethod ({ cls := "AnswerSquareModel", name := "says", desc := "(II)I" } : MethodName) ∈ ztbl := zg (zt_4 (List.mem_of_getElem? (i := 22) rfl)) rfl
theorem zy_X4_says : zYv mX4_says 2 := ⟨zm_4_24, zm_1_5, zm_4_22, zm_4_23, ⟨by decide +kernel, by decide +kernel⟩, by decide +kernel, by decide⟩
def mX4_hour : ZM := (yX4_hour, cX4_hour, 1, (some (FieldType.int)))
set_option maxRecDepth 20000 in
theorem zm_4_28 : Cond.code ({ cls := "AnswerSquareModel", name := "hour", desc := "()I" } : MethodName) prog_6_method_35_code (1 : Nat) (Option.some FieldType.int) ∈ ztbl := zg (zt_4 (List.mem_of_getElem? (i := 28) rfl)) rfl
set_option maxRecDepth 20000 in
theorem zm_4_27 : Cond.selects "AnswerSquareModel" ({ cls := "AnswerSquareModel", name := "hour", desc := "()I" } : MethodName) ({ cls := "AnswerSquareModel", name := "hour", desc := "()I" } : MethodName) ∈ ztbl := zg (zt_4 (List.mem_of_getElem? (i := 27) rfl)) rfl
set_option maxRecDepth 20000 in
set_option maxRecDepth 20000 in
theorem zm_4_26 : Cond.instanceMethod ({ cls := "AnswerSquareModel", name := "hour", desc := "()I" } : MethodName) ∈ ztbl := zg (zt_4 (List.mem_of_getElem? (i := 26) rfl)) rfl
theorem zy_X4_hour : zYv mX4_hour 0 := ⟨zm_4_28, zm_1_5, zm_4_26, zm_4_27, ⟨by decide +kernel, by decide +kernel⟩, by decide +kernel, by decide⟩
def mX4_undo : ZM := (yX4_undo, cX4_undo, 1, (some (FieldType.int)))
set_option maxRecDepth 20000 in
theorem zm_4_32 : Cond.code ({ cls := "AnswerSquareModel", name := "undo", desc := "()I" } : MethodName) prog_6_method_36_code (1 : Nat) (Option.some FieldType.int) ∈ ztbl := zg (zt_4 (List.mem_of_getElem? (i := 32) rfl)) rfl
set_option maxRecDepth 20000 in
theorem zm_4_31 : Cond.selects "AnswerSquareModel" ({ cls := "AnswerSquareModel", name := "undo", desc := "()I" } : MethodName) ({ cls := "AnswerSquareModel", name := "undo", desc := "()I" } : MethodName) ∈ ztbl := zg (zt_4 (List.mem_of_getElem? (i := 31) rfl)) rfl
set_option maxRecDepth 20000 in
set_option maxRecDepth 20000 in
theorem zm_4_30 : Cond.instanceMethod ({ cls := "AnswerSquareModel", name := "undo", desc := "()I" } : MethodName) ∈ ztbl := zg (zt_4 (List.mem_of_getElem? (i := 30) rfl)) rfl
theorem zy_X4_undo : zYv mX4_undo 0 := ⟨zm_4_32, zm_1_5, zm_4_30, zm_4_31, ⟨by decide +kernel, by decide +kernel⟩, by decide +kernel, by decide⟩
def mX4_now : ZM := (yX4_now, cX4_now, 5, (some (FieldType.int)))
set_option maxRecDepth 20000 in
theorem zm_4_36 : Cond.code ({ cls := "AnswerSquareModel", name := "now", desc := "(I)I" } : MethodName) prog_6_method_39_code (5 : Nat) (Option.some FieldType.int) ∈ ztbl := zg (zt_4 (List.mem_of_getElem? (i := 36) rfl)) rfl
set_option maxRecDepth 20000 in
theorem zm_4_35 : Cond.selects "AnswerSquareModel" ({ cls := "AnswerSquareModel", name := "now", desc := "(I)I" } : MethodName) ({ cls := "AnswerSquareModel", name := "now", desc := "(I)I" } : MethodName) ∈ ztbl := zg (zt_4 (List.mem_of_getElem? (i := 35) rfl)) rfl
set_option maxRecDepth 20000 in
set_option maxRecDepth 20000 in
theorem zm_4_34 : Cond.instanceMethod ({ cls := "AnswerSquareModel", name := "now", desc := "(I)I" } : MethodName) ∈ ztbl := zg (zt_4 (List.mem_of_getElem? (i := 34) rfl)) rfl
theorem zy_X4_now : zYv mX4_now 1 := ⟨zm_4_36, zm_1_5, zm_4_34, zm_4_35, ⟨by decide +kernel, by decide +kernel⟩, by decide +kernel, by decide⟩
def mX4_farthest : ZM := (yX4_farthest, cX4_farthest, 3, (some (FieldType.int)))
set_option maxRecDepth 20000 in
theorem zm_4_40 : Cond.code ({ cls := "AnswerSquareModel", name := "farthest", desc := "()I" } : MethodName) prog_6_method_37_code (3 : Nat) (Option.some FieldType.int) ∈ ztbl := zg (zt_4 (List.mem_of_getElem? (i := 40) rfl)) rfl
set_option maxRecDepth 20000 in
theorem zs_X4_farthest : Cond.selects "AnswerSquareModel" ({ cls := "AnswerSquareModel", name := "farthest", desc := "()I" } : MethodName) ({ cls := "AnswerSquareModel", name := "farthest", desc := "()I" } : MethodName) ∈ ztbl := zg (List.mem_append_left _ (List.mem_map.mpr ⟨_, (show _ ∈ lw_privs_1 ++ (lw_privs_2 ++ (lw_privs_3 ++ (lw_privs_4 ++ (lw_privs_5 ++ (lw_privs_6))))) from List.mem_append_right _ (List.mem_append_right _ (List.mem_append_right _ (List.mem_append_right _ (List.mem_append_right _ ((List.mem_of_getElem? (i := 0) rfl))))))), rfl⟩)) rfl
set_option maxRecDepth 20000 in
set_option maxRecDepth 20000 in
theorem zm_4_39 : Cond.instanceMethod ({ cls := "AnswerSquareModel", name := "farthest", desc := "()I" } : MethodName) ∈ ztbl := zg (zt_4 (List.mem_of_getElem? (i := 39) rfl)) rfl
theorem zy_X4_farthest : zYv mX4_farthest 0 := ⟨zm_4_40, zm_1_5, zm_4_39, zs_X4_farthest, ⟨by decide +kernel, by decide +kernel⟩, by decide +kernel, by decide⟩
def mX4_silent : ZM := (yX4_silent, cX4_silent, 4, (some (FieldType.int)))
set_option maxRecDepth 20000 in
theorem zm_4_44 : Cond.code ({ cls := "AnswerSquareModel", name := "silent", desc := "()I" } : MethodName) prog_6_method_38_code (4 : Nat) (Option.some FieldType.int) ∈ ztbl := zg (zt_4 (List.mem_of_getElem? (i := 44) rfl)) rfl
set_option maxRecDepth 20000 in
theorem zs_X4_silent : Cond.selects "AnswerSquareModel" ({ cls := "AnswerSquareModel", name := "silent", desc := "()I" } : MethodName) ({ cls := "AnswerSquareModel", name := "silent", desc := "()I" } : MethodName) ∈ ztbl := zg (List.mem_append_left _ (List.mem_map.mpr ⟨_, (show _ ∈ lw_privs_1 ++ (lw_privs_2 ++ (lw_privs_3 ++ (lw_privs_4 ++ (lw_privs_5 ++ (lw_privs_6))))) from List.mem_append_right _ (List.mem_append_right _ (List.mem_append_right _ (List.mem_append_right _ (List.mem_append_right _ ((List.mem_of_getElem? (i := 1) rfl))))))), rfl⟩)) rfl
set_option maxRecDepth 20000 in
set_option maxRecDepth 20000 in
theorem zm_4_43 : Cond.instanceMethod ({ cls := "AnswerSquareModel", name := "silent", desc := "()I" } : MethodName) ∈ ztbl := zg (zt_4 (List.mem_of_getElem? (i := 43) rfl)) rfl
theorem zy_X4_silent : zYv mX4_silent 0 := ⟨zm_4_44, zm_1_5, zm_4_43, zs_X4_silent, ⟨by decide +kernel, by decide +kernel⟩, by decide +kernel, by decide⟩
def mX4_worth : ZM := (yX4_worth, cX4_worth, 4, (some (FieldType.int)))
set_option maxRecDepth 20000 in
theorem zm_4_48 : Cond.code ({ cls := "AnswerSquareModel", name := "worth", desc := "(I)I" } : MethodName) prog_6_method_40_code (4 : Nat) (Option.some FieldType.int) ∈ ztbl := zg (zt_4 (List.mem_of_getElem? (i := 48) rfl)) rfl
set_option maxRecDepth 20000 in
theorem zm_4_47 : Cond.selects "AnswerSquareModel" ({ cls := "AnswerSquareModel", name := "worth", desc := "(I)I" } : MethodName) ({ cls := "AnswerSquareModel", name := "worth", desc := "(I)I" } : MethodName) ∈ ztbl := zg (zt_4 (List.mem_of_getElem? (i := 47) rfl)) rfl
set_option maxRecDepth 20000 in
set_option maxRecDepth 20000 in
theorem zm_4_46 : Cond.instanceMethod ({ cls := "AnswerSquareModel", name := "worth", desc := "(I)I" } : MethodName) ∈ ztbl := zg (zt_4 (List.mem_of_getElem? (i := 46) rfl)) rfl
theorem zy_X4_worth : zYv mX4_worth 1 := ⟨zm_4_48, zm_1_5, zm_4_46, zm_4_47, ⟨by decide +kernel, by decide +kernel⟩, by decide +kernel, by decide⟩
def mX4_chain : ZM := (yX4_chain, cX4_chain, 8, (some (FieldType.int)))
set_option maxRecDepth 20000 in
theorem zm_4_52 : Cond.code ({ cls := "AnswerSquareModel", name := "chain", desc := "(II)I" } : MethodName) prog_6_method_45_code (8 : Nat) (Option.some FieldType.int) ∈ ztbl := zg (zt_4 (List.mem_of_getElem? (i := 52) rfl)) rfl
set_option maxRecDepth 20000 in
theorem zm_4_51 : Cond.selects "AnswerSquareModel" ({ cls := "AnswerSquareModel", name := "chain", desc := "(II)I" } : MethodName) ({ cls := "AnswerSquareModel", name := "chain", desc := "(II)I" } : MethodName) ∈ ztbl := zg (zt_4 (List.mem_of_getElem? (i := 51) rfl)) rfl
set_option maxRecDepth 20000 in
set_option maxRecDepth 20000 in
theorem zm_4_50 : Cond.instanceMethod ({ cls := "AnswerSquareModel", name := "chain", desc := "(II)I" } : MethodName) ∈ ztbl := zg (zt_4 (List.mem_of_getElem? (i := 50) rfl)) rfl
theorem zy_X4_chain : zYv mX4_chain 2 := ⟨zm_4_52, zm_1_5, zm_4_50, zm_4_51, ⟨by decide +kernel, by decide +kernel⟩, by decide +kernel, by decide⟩
def mX4_chainOf : ZM := (yX4_chainOf, cX4_chainOf, 5, (some (FieldType.int)))
set_option maxRecDepth 20000 in
theorem zm_4_56 : Cond.code ({ cls := "AnswerSquareModel", name := "chainOf", desc := "(II)I" } : MethodName) prog_6_method_44_code (5 : Nat) (Option.some FieldType.int) ∈ ztbl := zg (zt_4 (List.mem_of_getElem? (i := 56) rfl)) rfl
set_option maxRecDepth 20000 in
theorem zs_X4_chainOf : Cond.selects "AnswerSquareModel" ({ cls := "AnswerSquareModel", name := "chainOf", desc := "(II)I" } : MethodName) ({ cls := "AnswerSquareModel", name := "chainOf", desc := "(II)I" } : MethodName) ∈ ztbl := zg (List.mem_append_left _ (List.mem_map.mpr ⟨_, (show _ ∈ lw_privs_1 ++ (lw_privs_2 ++ (lw_privs_3 ++ (lw_privs_4 ++ (lw_privs_5 ++ (lw_privs_6))))) from List.mem_append_right _ (List.mem_append_right _ (List.mem_append_right _ (List.mem_append_right _ (List.mem_append_right _ ((List.mem_of_getElem? (i := 2) rfl))))))), rfl⟩)) rfl
set_option maxRecDepth 20000 in
set_option maxRecDepth 20000 in
theorem zm_4_55 : Cond.instanceMethod ({ cls := "AnswerSquareModel", name := "chainOf", desc := "(II)I" } : MethodName) ∈ ztbl := zg (zt_4 (List.mem_of_getElem? (i := 55) rfl)) rfl
theorem zy_X4_chainOf : zYv mX4_chainOf 2 := ⟨zm_4_56, zm_1_5, zm_4_55, zs_X4_chainOf, ⟨by decide +kernel, by decide +kernel⟩, by decide +kernel, by decide⟩
def mX4_nextOf : ZM := (yX4_nextOf, cX4_nextOf, 4, (some (FieldType.int)))
set_option maxRecDepth 20000 in
theorem zm_4_60 : Cond.code ({ cls := "AnswerSquareModel", name := "nextOf", desc := "(I)I" } : MethodName) prog_6_method_42_code (4 : Nat) (Option.some FieldType.int) ∈ ztbl := zg (zt_4 (List.mem_of_getElem? (i := 60) rfl)) rfl
set_option maxRecDepth 20000 in
theorem zs_X4_nextOf : Cond.selects "AnswerSquareModel" ({ cls := "AnswerSquareModel", name := "nextOf", desc := "(I)I" } : MethodName) ({ cls := "AnswerSquareModel", name := "nextOf", desc := "(I)I" } : MethodName) ∈ ztbl := zg (List.mem_append_left _ (List.mem_map.mpr ⟨_, (show _ ∈ lw_privs_1 ++ (lw_privs_2 ++ (lw_privs_3 ++ (lw_privs_4 ++ (lw_privs_5 ++ (lw_privs_6))))) from List.mem_append_right _ (List.mem_append_right _ (List.mem_append_right _ (List.mem_append_right _ (List.mem_append_right _ ((List.mem_of_getElem? (i := 3) rfl))))))), rfl⟩)) rfl
set_option maxRecDepth 20000 in
set_option maxRecDepth 20000 in
theorem zm_4_59 : Cond.instanceMethod ({ cls := "AnswerSquareModel", name := "nextOf", desc := "(I)I" } : MethodName) ∈ ztbl := zg (zt_4 (List.mem_of_getElem? (i := 59) rfl)) rfl
theorem zy_X4_nextOf : zYv mX4_nextOf 1 := ⟨zm_4_60, zm_1_5, zm_4_59, zs_X4_nextOf, ⟨by decide +kernel, by decide +kernel⟩, by decide +kernel, by decide⟩
def mX4_sayable : ZM := (yX4_sayable, cX4_sayable, 3, (some (FieldType.int)))
set_option maxRecDepth 20000 in
theorem zm_4_64 : Cond.code ({ cls := "AnswerSquareModel", name := "sayable", desc := "()I" } : MethodName) prog_6_method_41_code (3 : Nat) (Option.some FieldType.int) ∈ ztbl := zg (zt_4 (List.mem_of_getElem? (i := 64) rfl)) rfl
set_option maxRecDepth 20000 in
theorem zs_X4_sayable : Cond.selects "AnswerSquareModel" ({ cls := "AnswerSquareModel", name := "sayable", desc := "()I" } : MethodName) ({ cls := "AnswerSquareModel", name := "sayable", desc := "()I" } : MethodName) ∈ ztbl := zg (List.mem_append_left _ (List.mem_map.mpr ⟨_, (show _ ∈ lw_privs_1 ++ (lw_privs_2 ++ (lw_privs_3 ++ (lw_privs_4 ++ (lw_privs_5 ++ (lw_privs_6))))) from List.mem_append_right _ (List.mem_append_right _ (List.mem_append_right _ (List.mem_append_right _ (List.mem_append_right _ ((List.mem_of_getElem? (i := 4) rfl))))))), rfl⟩)) rfl
set_option maxRecDepth 20000 in
set_option maxRecDepth 20000 in
theorem zm_4_63 : Cond.instanceMethod ({ cls := "AnswerSquareModel", name := "sayable", desc := "()I" } : MethodName) ∈ ztbl := zg (zt_4 (List.mem_of_getElem? (i := 63) rfl)) rfl
theorem zy_X4_sayable : zYv mX4_sayable 0 := ⟨zm_4_64, zm_1_5, zm_4_63, zs_X4_sayable, ⟨by decide +kernel, by decide +kernel⟩, by decide +kernel, by decide⟩
def mX4_sounds : ZM := (yX4_sounds, cX4_sounds, 5, (some (FieldType.int)))
set_option maxRecDepth 20000 in
theorem zm_4_68 : Cond.code ({ cls := "AnswerSquareModel", name := "sounds", desc := "(I)I" } : MethodName) prog_6_method_46_code (5 : Nat) (Option.some FieldType.int) ∈ ztbl := zg (zt_4 (List.mem_of_getElem? (i := 68) rfl)) rfl
set_option maxRecDepth 20000 in
theorem zm_4_67 : Cond.selects "AnswerSquareModel" ({ cls := "AnswerSquareModel", name := "sounds", desc := "(I)I" } : MethodName) ({ cls := "AnswerSquareModel", name := "sounds", desc := "(I)I" } : MethodName) ∈ ztbl := zg (zt_4 (List.mem_of_getElem? (i := 67) rfl)) rfl
set_option maxRecDepth 20000 in
set_option maxRecDepth 20000 in
theorem zm_4_66 : Cond.instanceMethod ({ cls := "AnswerSquareModel", name := "sounds", desc := "(I)I" } : MethodName) ∈ ztbl := zg (zt_4 (List.mem_of_getElem? (i := 66) rfl)) rfl
theorem zy_X4_sounds : zYv mX4_sounds 1 := ⟨zm_4_68, zm_1_5, zm_4_66, zm_4_67, ⟨by decide +kernel, by decide +kernel⟩, by decide +kernel, by decide⟩
def mX4_manyOf : ZM := (yX4_manyOf, cX4_manyOf, 3, (some (FieldType.int)))
set_option maxRecDepth 20000 in
theorem zm_4_71 : Cond.code ({ cls := "AnswerSquareModel", name := "manyOf", desc := "(I)I" } : MethodName) prog_6_method_19_code (3 : Nat) (Option.some FieldType.int) ∈ ztbl := zg (zt_4 (List.mem_of_getElem? (i := 71) rfl)) rfl
set_option maxRecDepth 20000 in
set_option maxRecDepth 20000 in
theorem zm_4_70 : Cond.static ({ cls := "AnswerSquareModel", name := "manyOf", desc := "(I)I" } : MethodName) ∈ ztbl := zg (zt_4 (List.mem_of_getElem? (i := 70) rfl)) rfl
theorem zy_X4_manyOf : zYs mX4_manyOf 1 := ⟨zm_4_71, zm_1_5, zm_4_70, ⟨by decide +kernel, by decide +kernel⟩, by decide +kernel, by decide⟩
def mX4_reach : ZM := (yX4_reach, cX4_reach, 4, (some (FieldType.int)))
set_option maxRecDepth 20000 in
theorem zm_4_75 : Cond.code ({ cls := "AnswerSquareModel", name := "reach", desc := "(I)I" } : MethodName) prog_6_method_43_code (4 : Nat) (Option.some FieldType.int) ∈ ztbl := zg (zt_4 (List.mem_of_getElem? (i := 75) rfl)) rfl
set_option maxRecDepth 20000 in
theorem zs_X4_reach : Cond.selects "AnswerSquareModel" ({ cls := "AnswerSquareModel", name := "reach", desc := "(I)I" } : MethodName) ({ cls := "AnswerSquareModel", name := "reach", desc := "(I)I" } : MethodName) ∈ ztbl := zg (List.mem_append_left _ (List.mem_map.mpr ⟨_, (show _ ∈ lw_privs_1 ++ (lw_privs_2 ++ (lw_privs_3 ++ (lw_privs_4 ++ (lw_privs_5 ++ (lw_privs_6))))) from List.mem_append_right _ (List.mem_append_right _ (List.mem_append_right _ (List.mem_append_right _ (List.mem_append_right _ ((List.mem_of_getElem? (i := 5) rfl))))))), rfl⟩)) rfl
set_option maxRecDepth 20000 in
set_option maxRecDepth 20000 in
theorem zm_4_74 : Cond.instanceMethod ({ cls := "AnswerSquareModel", name := "reach", desc := "(I)I" } : MethodName) ∈ ztbl := zg (zt_4 (List.mem_of_getElem? (i := 74) rfl)) rfl
theorem zy_X4_reach : zYv mX4_reach 1 := ⟨zm_4_75, zm_1_5, zm_4_74, zs_X4_reach, ⟨by decide +kernel, by decide +kernel⟩, by decide +kernel, by decide⟩
def mX4_began : ZM := (yX4_began, cX4_began, 4, (some (FieldType.int)))
set_option maxRecDepth 20000 in
theorem zm_4_79 : Cond.code ({ cls := "AnswerSquareModel", name := "began", desc := "(I)I" } : MethodName) prog_6_method_47_code (4 : Nat) (Option.some FieldType.int) ∈ ztbl := zg (zt_4 (List.mem_of_getElem? (i := 79) rfl)) rfl
set_option maxRecDepth 20000 in
theorem zm_4_78 : Cond.selects "AnswerSquareModel" ({ cls := "AnswerSquareModel", name := "began", desc := "(I)I" } : MethodName) ({ cls := "AnswerSquareModel", name := "began", desc := "(I)I" } : MethodName) ∈ ztbl := zg (zt_4 (List.mem_of_getElem? (i := 78) rfl)) rfl
set_option maxRecDepth 20000 in
set_option maxRecDepth 20000 in
theorem zm_4_77 : Cond.instanceMethod ({ cls := "AnswerSquareModel", name := "began", desc := "(I)I" } : MethodName) ∈ ztbl := zg (zt_4 (List.mem_of_getElem? (i := 77) rfl)) rfl
theorem zy_X4_began : zYv mX4_began 1 := ⟨zm_4_79, zm_1_5, zm_4_77, zm_4_78, ⟨by decide +kernel, by decide +kernel⟩, by decide +kernel, by decide⟩
def mX4_odds : ZM := (yX4_odds, cX4_odds, 9, (some (FieldType.int)))
set_option maxRecDepth 20000 in
theorem zm_4_83 : Cond.code ({ cls := "AnswerSquareModel", name := "odds", desc := "(III)I" } : MethodName) prog_6_method_48_code (9 : Nat) (Option.some FieldType.int) ∈ ztbl := zg (zt_4 (List.mem_of_getElem? (i := 83) rfl)) rfl
set_option maxRecDepth 20000 in
theorem zm_4_82 : Cond.selects "AnswerSquareModel" ({ cls := "AnswerSquareModel", name := "odds", desc := "(III)I" } : MethodName) ({ cls := "AnswerSquareModel", name := "odds", desc := "(III)I" } : MethodName) ∈ ztbl := zg (zt_4 (List.mem_of_getElem? (i := 82) rfl)) rfl
set_option maxRecDepth 20000 in
set_option maxRecDepth 20000 in
theorem zm_4_81 : Cond.instanceMethod ({ cls := "AnswerSquareModel", name := "odds", desc := "(III)I" } : MethodName) ∈ ztbl := zg (zt_4 (List.mem_of_getElem? (i := 81) rfl)) rfl
theorem zy_X4_odds : zYv mX4_odds 3 := ⟨zm_4_83, zm_1_5, zm_4_81, zm_4_82, ⟨by decide +kernel, by decide +kernel⟩, by decide +kernel, by decide⟩
def mX4_tells : ZM := (yX4_tells, cX4_tells, 3, (some (FieldType.int)))
set_option maxRecDepth 20000 in
theorem zm_4_87 : Cond.code ({ cls := "AnswerSquareModel", name := "tells", desc := "(II)I" } : MethodName) prog_6_method_49_code (3 : Nat) (Option.some FieldType.int) ∈ ztbl := zg (zt_4 (List.mem_of_getElem? (i := 87) rfl)) rfl
set_option maxRecDepth 20000 in
theorem zm_4_86 : Cond.selects "AnswerSquareModel" ({ cls := "AnswerSquareModel", name := "tells", desc := "(II)I" } : MethodName) ({ cls := "AnswerSquareModel", name := "tells", desc := "(II)I" } : MethodName) ∈ ztbl := zg (zt_4 (List.mem_of_getElem? (i := 86) rfl)) rfl
set_option maxRecDepth 20000 in
set_option maxRecDepth 20000 in
theorem zm_4_85 : Cond.instanceMethod ({ cls := "AnswerSquareModel", name := "tells", desc := "(II)I" } : MethodName) ∈ ztbl := zg (zt_4 (List.mem_of_getElem? (i := 85) rfl)) rfl
theorem zy_X4_tells : zYv mX4_tells 2 := ⟨zm_4_87, zm_1_5, zm_4_85, zm_4_86, ⟨by decide +kernel, by decide +kernel⟩, by decide +kernel, by decide⟩
def mX4_forget : ZM := (yX4_forget, cX4_forget, 2, (some (FieldType.int)))
set_option maxRecDepth 20000 in
theorem zm_4_91 : Cond.code ({ cls := "AnswerSquareModel", name := "forget", desc := "()I" } : MethodName) prog_6_method_50_code (2 : Nat) (Option.some FieldType.int) ∈ ztbl := zg (zt_4 (List.mem_of_getElem? (i := 91) rfl)) rfl
set_option maxRecDepth 20000 in
theorem zm_4_90 : Cond.selects "AnswerSquareModel" ({ cls := "AnswerSquareModel", name := "forget", desc := "()I" } : MethodName) ({ cls := "AnswerSquareModel", name := "forget", desc := "()I" } : MethodName) ∈ ztbl := zg (zt_4 (List.mem_of_getElem? (i := 90) rfl)) rfl
set_option maxRecDepth 20000 in
set_option maxRecDepth 20000 in
theorem zm_4_89 : Cond.instanceMethod ({ cls := "AnswerSquareModel", name := "forget", desc := "()I" } : MethodName) ∈ ztbl := zg (zt_4 (List.mem_of_getElem? (i := 89) rfl)) rfl
theorem zy_X4_forget : zYv mX4_forget 0 := ⟨zm_4_91, zm_1_5, zm_4_89, zm_4_90, ⟨by decide +kernel, by decide +kernel⟩, by decide +kernel, by decide⟩
def mX4_fits : ZM := (yX4_fits, cX4_fits, 4, (some (FieldType.int)))
set_option maxRecDepth 20000 in
theorem zm_4_95 : Cond.code ({ cls := "AnswerSquareModel", name := "fits", desc := "()I" } : MethodName) prog_6_method_52_code (4 : Nat) (Option.some FieldType.int) ∈ ztbl := zg (zt_4 (List.mem_of_getElem? (i := 95) rfl)) rfl
set_option maxRecDepth 20000 in
theorem zm_4_94 : Cond.selects "AnswerSquareModel" ({ cls := "AnswerSquareModel", name := "fits", desc := "()I" } : MethodName) ({ cls := "AnswerSquareModel", name := "fits", desc := "()I" } : MethodName) ∈ ztbl := zg (zt_4 (List.mem_of_getElem? (i := 94) rfl)) rfl
set_option maxRecDepth 20000 in
set_option maxRecDepth 20000 in
theorem zm_4_93 : Cond.instanceMethod ({ cls := "AnswerSquareModel", name := "fits", desc := "()I" } : MethodName) ∈ ztbl := zg (zt_4 (List.mem_of_getElem? (i := 93) rfl)) rfl
theorem zy_X4_fits : zYv mX4_fits 0 := ⟨zm_4_95, zm_1_5, zm_4_93, zm_4_94, ⟨by decide +kernel, by decide +kernel⟩, by decide +kernel, by decide⟩
def mX4_firstOf : ZM := (yX4_firstOf, cX4_firstOf, 3, (some (FieldType.int)))
set_option maxRecDepth 20000 in
theorem zm_4_99 : Cond.code ({ cls := "AnswerSquareModel", name := "firstOf", desc := "(I)I" } : MethodName) prog_6_method_51_code (3 : Nat) (Option.some FieldType.int) ∈ ztbl := zg (zt_4 (List.mem_of_getElem? (i := 99) rfl)) rfl
set_option maxRecDepth 20000 in
theorem zs_X4_firstOf : Cond.selects "AnswerSquareModel" ({ cls := "AnswerSquareModel", name := "firstOf", desc := "(I)I" } : MethodName) ({ cls := "AnswerSquareModel", name := "firstOf", desc := "(I)I" } : MethodName) ∈ ztbl := zg (List.mem_append_left _ (List.mem_map.mpr ⟨_, (show _ ∈ lw_privs_1 ++ (lw_privs_2 ++ (lw_privs_3 ++ (lw_privs_4 ++ (lw_privs_5 ++ (lw_privs_6))))) from List.mem_append_right _ (List.mem_append_right _ (List.mem_append_right _ (List.mem_append_right _ (List.mem_append_right _ ((List.mem_of_getElem? (i := 6) rfl))))))), rfl⟩)) rfl
set_option maxRecDepth 20000 in
set_option maxRecDepth 20000 in
theorem zm_4_98 : Cond.instanceMethod ({ cls := "AnswerSquareModel", name := "firstOf", desc := "(I)I" } : MethodName) ∈ ztbl := zg (zt_4 (List.mem_of_getElem? (i := 98) rfl)) rfl
theorem zy_X4_firstOf : zYv mX4_firstOf 1 := ⟨zm_4_99, zm_1_5, zm_4_98, zs_X4_firstOf, ⟨by decide +kernel, by decide +kernel⟩, by decide +kernel, by decide⟩
def mX4_orders : ZM := (yX4_orders, cX4_orders, 5, (some (FieldType.int)))
set_option maxRecDepth 20000 in
theorem zm_4_103 : Cond.code ({ cls := "AnswerSquareModel", name := "orders", desc := "(I)I" } : MethodName) prog_6_method_54_code (5 : Nat) (Option.some FieldType.int) ∈ ztbl := zg (zt_4 (List.mem_of_getElem? (i := 103) rfl)) rfl
set_option maxRecDepth 20000 in
theorem zm_4_102 : Cond.selects "AnswerSquareModel" ({ cls := "AnswerSquareModel", name := "orders", desc := "(I)I" } : MethodName) ({ cls := "AnswerSquareModel", name := "orders", desc := "(I)I" } : MethodName) ∈ ztbl := zg (zt_4 (List.mem_of_getElem? (i := 102) rfl)) rfl
set_option maxRecDepth 20000 in
set_option maxRecDepth 20000 in
theorem zm_4_101 : Cond.instanceMethod ({ cls := "AnswerSquareModel", name := "orders", desc := "(I)I" } : MethodName) ∈ ztbl := zg (zt_4 (List.mem_of_getElem? (i := 101) rfl)) rfl
theorem zy_X4_orders : zYv mX4_orders 1 := ⟨zm_4_103, zm_1_5, zm_4_101, zm_4_102, ⟨by decide +kernel, by decide +kernel⟩, by decide +kernel, by decide⟩
def mX4_canCome : ZM := (yX4_canCome, cX4_canCome, 7, (some (FieldType.boolean)))
set_option maxRecDepth 20000 in
theorem zm_4_107 : Cond.code ({ cls := "AnswerSquareModel", name := "canCome", desc := "(III)Z" } : MethodName) prog_6_method_53_code (7 : Nat) (Option.some FieldType.boolean) ∈ ztbl := zg (zt_4 (List.mem_of_getElem? (i := 107) rfl)) rfl
set_option maxRecDepth 20000 in
theorem zs_X4_canCome : Cond.selects "AnswerSquareModel" ({ cls := "AnswerSquareModel", name := "canCome", desc := "(III)Z" } : MethodName) ({ cls := "AnswerSquareModel", name := "canCome", desc := "(III)Z" } : MethodName) ∈ ztbl := zg (List.mem_append_left _ (List.mem_map.mpr ⟨_, (show _ ∈ lw_privs_1 ++ (lw_privs_2 ++ (lw_privs_3 ++ (lw_privs_4 ++ (lw_privs_5 ++ (lw_privs_6))))) from List.mem_append_right _ (List.mem_append_right _ (List.mem_append_right _ (List.mem_append_right _ (List.mem_append_right _ ((List.mem_of_getElem? (i := 7) rfl))))))), rfl⟩)) rfl
set_option maxRecDepth 20000 in
set_option maxRecDepth 20000 in
theorem zm_4_106 : Cond.instanceMethod ({ cls := "AnswerSquareModel", name := "canCome", desc := "(III)Z" } : MethodName) ∈ ztbl := zg (zt_4 (List.mem_of_getElem? (i := 106) rfl)) rfl
theorem zy_X4_canCome : zYv mX4_canCome 3 := ⟨zm_4_107, zm_1_5, zm_4_106, zs_X4_canCome, ⟨by decide +kernel, by decide +kernel⟩, by decide +kernel, by decide⟩
def mX4_mark : ZM := (yX4_mark, cX4_mark, 5, (some (FieldType.int)))
set_option maxRecDepth 20000 in
theorem zm_4_111 : Cond.code ({ cls := "AnswerSquareModel", name := "mark", desc := "(II)I" } : MethodName) prog_6_method_55_code (5 : Nat) (Option.some FieldType.int) ∈ ztbl := zg (zt_4 (List.mem_of_getElem? (i := 111) rfl)) rfl
set_option maxRecDepth 20000 in
theorem zm_4_110 : Cond.selects "AnswerSquareModel" ({ cls := "AnswerSquareModel", name := "mark", desc := "(II)I" } : MethodName) ({ cls := "AnswerSquareModel", name := "mark", desc := "(II)I" } : MethodName) ∈ ztbl := zg (zt_4 (List.mem_of_getElem? (i := 110) rfl)) rfl
set_option maxRecDepth 20000 in
set_option maxRecDepth 20000 in
theorem zm_4_109 : Cond.instanceMethod ({ cls := "AnswerSquareModel", name := "mark", desc := "(II)I" } : MethodName) ∈ ztbl := zg (zt_4 (List.mem_of_getElem? (i := 109) rfl)) rfl
theorem zy_X4_mark : zYv mX4_mark 2 := ⟨zm_4_111, zm_1_5, zm_4_109, zm_4_110, ⟨by decide +kernel, by decide +kernel⟩, by decide +kernel, by decide⟩
def mX4_keep : ZM := (yX4_keep, cX4_keep, 3, (some (FieldType.int)))
set_option maxRecDepth 20000 in
theorem zm_4_121 : Cond.code ({ cls := "AnswerSquareModel", name := "keep", desc := "(I)I" } : MethodName) prog_6_method_56_code (3 : Nat) (Option.some FieldType.int) ∈ ztbl := zg (zt_4 (List.mem_of_getElem? (i := 121) rfl)) rfl
set_option maxRecDepth 20000 in
theorem zm_4_120 : Cond.selects "AnswerSquareModel" ({ cls := "AnswerSquareModel", name := "keep", desc := "(I)I" } : MethodName) ({ cls := "AnswerSquareModel", name := "keep", desc := "(I)I" } : MethodName) ∈ ztbl := zg (zt_4 (List.mem_of_getElem? (i := 120) rfl)) rfl
set_option maxRecDepth 20000 in
set_option maxRecDepth 20000 in
theorem zm_4_119 : Cond.instanceMethod ({ cls := "AnswerSquareModel", name := "keep", desc := "(I)I" } : MethodName) ∈ ztbl := zg (zt_4 (List.mem_of_getElem? (i := 119) rfl)) rfl
theorem zy_X4_keep : zYv mX4_keep 1 := ⟨zm_4_121, zm_1_5, zm_4_119, zm_4_120, ⟨by decide +kernel, by decide +kernel⟩, by decide +kernel, by decide⟩
def mX4_back : ZM := (yX4_back, cX4_back, 3, (some (FieldType.int)))
set_option maxRecDepth 20000 in
theorem zm_4_125 : Cond.code ({ cls := "AnswerSquareModel", name := "back", desc := "(I)I" } : MethodName) prog_6_method_57_code (3 : Nat) (Option.some FieldType.int) ∈ ztbl := zg (zt_4 (List.mem_of_getElem? (i := 125) rfl)) rfl
set_option maxRecDepth 20000 in
theorem zm_4_124 : Cond.selects "AnswerSquareModel" ({ cls := "AnswerSquareModel", name := "back", desc := "(I)I" } : MethodName) ({ cls := "AnswerSquareModel", name := "back", desc := "(I)I" } : MethodName) ∈ ztbl := zg (zt_4 (List.mem_of_getElem? (i := 124) rfl)) rfl
set_option maxRecDepth 20000 in
set_option maxRecDepth 20000 in
theorem zm_4_123 : Cond.instanceMethod ({ cls := "AnswerSquareModel", name := "back", desc := "(I)I" } : MethodName) ∈ ztbl := zg (zt_4 (List.mem_of_getElem? (i := 123) rfl)) rfl
theorem zy_X4_back : zYv mX4_back 1 := ⟨zm_4_125, zm_1_5, zm_4_123, zm_4_124, ⟨by decide +kernel, by decide +kernel⟩, by decide +kernel, by decide⟩
def mX4_count : ZM := (yX4_count, cX4_count, 2, (some (FieldType.int)))
set_option maxRecDepth 20000 in
theorem zm_4_129 : Cond.code ({ cls := "AnswerSquareModel", name := "count", desc := "(I)I" } : MethodName) prog_6_method_58_code (2 : Nat) (Option.some FieldType.int) ∈ ztbl := zg (zt_4 (List.mem_of_getElem? (i := 129) rfl)) rfl
set_option maxRecDepth 20000 in
theorem zm_4_128 : Cond.selects "AnswerSquareModel" ({ cls := "AnswerSquareModel", name := "count", desc := "(I)I" } : MethodName) ({ cls := "AnswerSquareModel", name := "count", desc := "(I)I" } : MethodName) ∈ ztbl := zg (zt_4 (List.mem_of_getElem? (i := 128) rfl)) rfl
set_option maxRecDepth 20000 in
set_option maxRecDepth 20000 in
theorem zm_4_127 : Cond.instanceMethod ({ cls := "AnswerSquareModel", name := "count", desc := "(I)I" } : MethodName) ∈ ztbl := zg (zt_4 (List.mem_of_getElem? (i := 127) rfl)) rfl
theorem zy_X4_count : zYv mX4_count 1 := ⟨zm_4_129, zm_1_5, zm_4_127, zm_4_128, ⟨by decide +kernel, by decide +kernel⟩, by decide +kernel, by decide⟩
def mX4_trace : ZM := (yX4_trace, cX4_trace, 1, (some (FieldType.long)))
set_option maxRecDepth 20000 in
theorem zm_4_133 : Cond.code ({ cls := "AnswerSquareModel", name := "trace", desc := "()J" } : MethodName) prog_6_method_59_code (1 : Nat) (Option.some FieldType.long) ∈ ztbl := zg (zt_4 (List.mem_of_getElem? (i := 133) rfl)) rfl
set_option maxRecDepth 20000 in
theorem zm_4_132 : Cond.selects "AnswerSquareModel" ({ cls := "AnswerSquareModel", name := "trace", desc := "()J" } : MethodName) ({ cls := "AnswerSquareModel", name := "trace", desc := "()J" } : MethodName) ∈ ztbl := zg (zt_4 (List.mem_of_getElem? (i := 132) rfl)) rfl
set_option maxRecDepth 20000 in
set_option maxRecDepth 20000 in
theorem zm_4_131 : Cond.instanceMethod ({ cls := "AnswerSquareModel", name := "trace", desc := "()J" } : MethodName) ∈ ztbl := zg (zt_4 (List.mem_of_getElem? (i := 131) rfl)) rfl
theorem zy_X4_trace : zYv mX4_trace 0 := ⟨zm_4_133, zm_1_5, zm_4_131, zm_4_132, ⟨by decide +kernel, by decide +kernel⟩, by decide +kernel, by decide⟩
-- links of methods
set_option maxRecDepth 20000 in
theorem zm_1_11 : Cond.methodLink "AnswerSquareLaw" (9 : Nat) ({ cls := "AnswerSquare", name := "<init>", desc := "()V" } : MethodName) ∈ ztbl := zg (zt_1 (List.mem_of_getElem? (i := 11) rfl)) rfl
set_option maxRecDepth 20000 in
theorem zl_L_9 : zLk "AnswerSquareLaw" 9 mX3_init := Or.inl zm_1_11
set_option maxRecDepth 20000 in
theorem zm_1_14 : Cond.methodLink "AnswerSquare" (3 : Nat) ({ cls := "java/lang/Object", name := "<init>", desc := "()V" } : MethodName) ∈ ztbl := zg (zt_1 (List.mem_of_getElem? (i := 14) rfl)) rfl
set_option maxRecDepth 20000 in
theorem zl_X3_11 : zLk "AnswerSquare" 11 mX2_init := Or.inr ⟨_, List.mem_of_getElem? (i := 0) rfl⟩
set_option maxRecDepth 20000 in
theorem zm_1_22 : Cond.methodLink "AnswerSquare$Text" (3 : Nat) ({ cls := "java/lang/Object", name := "<init>", desc := "()V" } : MethodName) ∈ ztbl := zg (zt_1 (List.mem_of_getElem? (i := 22) rfl)) rfl
set_option maxRecDepth 20000 in
theorem zl_X3_18 : zLk "AnswerSquare" 18 mX0_init := Or.inr ⟨_, List.mem_of_getElem? (i := 5) rfl⟩
set_option maxRecDepth 20000 in
theorem zm_1_52 : Cond.methodLink "AnswerSquare$Duchy" (3 : Nat) ({ cls := "java/lang/Object", name := "<init>", desc := "()V" } : MethodName) ∈ ztbl := zg (zt_1 (List.mem_of_getElem? (i := 52) rfl)) rfl
set_option maxRecDepth 20000 in
theorem zl_X3_28 : zLk "AnswerSquare" 28 mX1_init := Or.inr ⟨_, List.mem_of_getElem? (i := 14) rfl⟩
set_option maxRecDepth 20000 in
theorem zm_1_94 : Cond.methodLink "AnswerSquare$Moment" (3 : Nat) ({ cls := "java/lang/Object", name := "<init>", desc := "()V" } : MethodName) ∈ ztbl := zg (zt_1 (List.mem_of_getElem? (i := 94) rfl)) rfl
set_option maxRecDepth 20000 in
theorem zm_1_172 : Cond.methodLink "AnswerSquareLaw" (13 : Nat) ({ cls := "AnswerSquare", name := "type", desc := "(I)I" } : MethodName) ∈ ztbl := zg (zt_1 (List.mem_of_getElem? (i := 172) rfl)) rfl
set_option maxRecDepth 20000 in
theorem zl_L_13 : zLk "AnswerSquareLaw" 13 mX3_type := Or.inl zm_1_172
set_option maxRecDepth 20000 in
theorem zl_X3_57 : zLk "AnswerSquare" 57 mX2_put := Or.inr ⟨_, List.mem_of_getElem? (i := 25) rfl⟩
set_option maxRecDepth 20000 in
theorem zm_1_180 : Cond.methodLink "AnswerSquareLaw" (18 : Nat) ({ cls := "AnswerSquare", name := "clear", desc := "()I" } : MethodName) ∈ ztbl := zg (zt_1 (List.mem_of_getElem? (i := 180) rfl)) rfl
set_option maxRecDepth 20000 in
theorem zl_L_18 : zLk "AnswerSquareLaw" 18 mX3_clear := Or.inl zm_1_180
set_option maxRecDepth 20000 in
theorem zm_1_184 : Cond.methodLink "AnswerSquareLaw" (23 : Nat) ({ cls := "AnswerSquare", name := "duchy", desc := "()I" } : MethodName) ∈ ztbl := zg (zt_1 (List.mem_of_getElem? (i := 184) rfl)) rfl
set_option maxRecDepth 20000 in
theorem zl_L_23 : zLk "AnswerSquareLaw" 23 mX3_duchy := Or.inl zm_1_184
set_option maxRecDepth 20000 in
theorem zl_X3_64 : zLk "AnswerSquare" 64 mX0_readFrom := Or.inr ⟨_, List.mem_of_getElem? (i := 26) rfl⟩
set_option maxRecDepth 20000 in
theorem zl_X0_38 : zLk "AnswerSquare$Duchy" 38 mX2_rewind := Or.inr ⟨_, List.mem_of_getElem? (i := 27) rfl⟩
set_option maxRecDepth 20000 in
theorem zm_1_196 : Cond.methodLink "AnswerSquare$Text" (31 : Nat) ({ cls := "AnswerSquare$Text", name := "advance", desc := "()V" } : MethodName) ∈ ztbl := zg (zt_1 (List.mem_of_getElem? (i := 196) rfl)) rfl
set_option maxRecDepth 20000 in
theorem zl_X2_31 : zLk "AnswerSquare$Text" 31 mX2_advance := Or.inl zm_1_196
set_option maxRecDepth 20000 in
theorem zm_1_200 : Cond.methodLink "AnswerSquare$Text" (34 : Nat) ({ cls := "AnswerSquare$Text", name := "byteAt", desc := "(I)I" } : MethodName) ∈ ztbl := zg (zt_1 (List.mem_of_getElem? (i := 200) rfl)) rfl
set_option maxRecDepth 20000 in
theorem zl_X2_34 : zLk "AnswerSquare$Text" 34 mX2_byteAt := Or.inl zm_1_200
set_option maxRecDepth 20000 in
theorem zm_1_204 : Cond.methodLink "AnswerSquare$Text" (38 : Nat) ({ cls := "AnswerSquare$Text", name := "isLetter", desc := "(I)Z" } : MethodName) ∈ ztbl := zg (zt_1 (List.mem_of_getElem? (i := 204) rfl)) rfl
set_option maxRecDepth 20000 in
theorem zl_X2_38 : zLk "AnswerSquare$Text" 38 mX2_isLetter := Or.inl zm_1_204
set_option maxRecDepth 20000 in
theorem zm_1_207 : Cond.methodLink "AnswerSquare$Text" (42 : Nat) ({ cls := "AnswerSquare$Text", name := "takeWord", desc := "(I)V" } : MethodName) ∈ ztbl := zg (zt_1 (List.mem_of_getElem? (i := 207) rfl)) rfl
set_option maxRecDepth 20000 in
theorem zl_X2_42 : zLk "AnswerSquare$Text" 42 mX2_takeWord := Or.inl zm_1_207
set_option maxRecDepth 20000 in
theorem zm_1_211 : Cond.methodLink "AnswerSquare$Text" (46 : Nat) ({ cls := "AnswerSquare$Text", name := "isDigit", desc := "(I)Z" } : MethodName) ∈ ztbl := zg (zt_1 (List.mem_of_getElem? (i := 211) rfl)) rfl
set_option maxRecDepth 20000 in
theorem zl_X2_46 : zLk "AnswerSquare$Text" 46 mX2_isDigit := Or.inl zm_1_211
set_option maxRecDepth 20000 in
theorem zm_1_214 : Cond.methodLink "AnswerSquare$Text" (49 : Nat) ({ cls := "AnswerSquare$Text", name := "takeNumber", desc := "(I)V" } : MethodName) ∈ ztbl := zg (zt_1 (List.mem_of_getElem? (i := 214) rfl)) rfl
set_option maxRecDepth 20000 in
theorem zl_X2_49 : zLk "AnswerSquare$Text" 49 mX2_takeNumber := Or.inl zm_1_214
set_option maxRecDepth 20000 in
theorem zm_1_218 : Cond.methodLink "AnswerSquare$Text" (52 : Nat) ({ cls := "java/lang/Math", name := "min", desc := "(II)I" } : MethodName) ∈ ztbl := zg (zt_1 (List.mem_of_getElem? (i := 218) rfl)) rfl
set_option maxRecDepth 20000 in
theorem zl_X2_52 : zLk "AnswerSquare$Text" 52 mJ9_min_7cf53 := Or.inl zm_1_218
set_option maxRecDepth 20000 in
theorem zm_1_221 : Cond.methodLink "AnswerSquare$Duchy" (46 : Nat) ({ cls := "AnswerSquare$Duchy", name := "readItem", desc := "(LAnswerSquare$Text;)Z" } : MethodName) ∈ ztbl := zg (zt_1 (List.mem_of_getElem? (i := 221) rfl)) rfl
set_option maxRecDepth 20000 in
theorem zl_X0_46 : zLk "AnswerSquare$Duchy" 46 mX0_readItem := Or.inl zm_1_221
set_option maxRecDepth 20000 in
theorem zm_1_225 : Cond.methodLink "AnswerSquare$Duchy" (62 : Nat) ({ cls := "AnswerSquare$Duchy", name := "hasRoomFor", desc := "(I)Z" } : MethodName) ∈ ztbl := zg (zt_1 (List.mem_of_getElem? (i := 225) rfl)) rfl
set_option maxRecDepth 20000 in
theorem zl_X0_62 : zLk "AnswerSquare$Duchy" 62 mX0_hasRoomFor := Or.inl zm_1_225
set_option maxRecDepth 20000 in
theorem zl_X0_53 : zLk "AnswerSquare$Duchy" 53 mX2_advance := Or.inr ⟨_, List.mem_of_getElem? (i := 28) rfl⟩
set_option maxRecDepth 20000 in
theorem zl_X0_66 : zLk "AnswerSquare$Duchy" 66 mX2_isNumber := Or.inr ⟨_, List.mem_of_getElem? (i := 29) rfl⟩
set_option maxRecDepth 20000 in
theorem zm_1_234 : Cond.methodLink "AnswerSquare$Duchy" (70 : Nat) ({ cls := "AnswerSquare$Duchy", name := "readNumbers", desc := "(LAnswerSquare$Text;I)I" } : MethodName) ∈ ztbl := zg (zt_1 (List.mem_of_getElem? (i := 234) rfl)) rfl
set_option maxRecDepth 20000 in
theorem zl_X0_70 : zLk "AnswerSquare$Duchy" 70 mX0_readNumbers := Or.inl zm_1_234
set_option maxRecDepth 20000 in
theorem zm_1_237 : Cond.methodLink "AnswerSquare$Duchy" (74 : Nat) ({ cls := "AnswerSquare$Duchy", name := "take", desc := "(III)V" } : MethodName) ∈ ztbl := zg (zt_1 (List.mem_of_getElem? (i := 237) rfl)) rfl
set_option maxRecDepth 20000 in
theorem zl_X0_74 : zLk "AnswerSquare$Duchy" 74 mX0_take := Or.inl zm_1_237
set_option maxRecDepth 20000 in
theorem zm_2_1 : Cond.methodLink "AnswerSquare$Duchy" (56 : Nat) ({ cls := "AnswerSquare$Duchy", name := "settle", desc := "()V" } : MethodName) ∈ ztbl := zg (zt_2 (List.mem_of_getElem? (i := 1) rfl)) rfl
set_option maxRecDepth 20000 in
theorem zl_X0_56 : zLk "AnswerSquare$Duchy" 56 mX0_settle := Or.inl zm_2_1
set_option maxRecDepth 20000 in
theorem zl_X3_68 : zLk "AnswerSquare" 68 mX1_reset := Or.inr ⟨_, List.mem_of_getElem? (i := 30) rfl⟩
set_option maxRecDepth 20000 in
theorem zm_2_9 : Cond.methodLink "AnswerSquare" (75 : Nat) ({ cls := "AnswerSquare", name := "tellNothing", desc := "()V" } : MethodName) ∈ ztbl := zg (zt_2 (List.mem_of_getElem? (i := 9) rfl)) rfl
set_option maxRecDepth 20000 in
theorem zl_X3_75 : zLk "AnswerSquare" 75 mX3_tellNothing := Or.inl zm_2_9
set_option maxRecDepth 20000 in
theorem zm_2_13 : Cond.methodLink "AnswerSquareLaw" (27 : Nat) ({ cls := "AnswerSquare", name := "saying", desc := "(II)I" } : MethodName) ∈ ztbl := zg (zt_2 (List.mem_of_getElem? (i := 13) rfl)) rfl
set_option maxRecDepth 20000 in
theorem zl_L_27 : zLk "AnswerSquareLaw" 27 mX3_saying := Or.inl zm_2_13
set_option maxRecDepth 20000 in
theorem zl_X3_78 : zLk "AnswerSquare" 78 mX0_hasSaying := Or.inr ⟨_, List.mem_of_getElem? (i := 31) rfl⟩
set_option maxRecDepth 20000 in
theorem zl_X3_81 : zLk "AnswerSquare" 81 mX0_isSound := Or.inr ⟨_, List.mem_of_getElem? (i := 32) rfl⟩
set_option maxRecDepth 20000 in
theorem zl_X3_90 : zLk "AnswerSquare" 90 mX0_knowers := Or.inr ⟨_, List.mem_of_getElem? (i := 33) rfl⟩
set_option maxRecDepth 20000 in
theorem zl_X3_94 : zLk "AnswerSquare" 94 mX1_timesIn := Or.inr ⟨_, List.mem_of_getElem? (i := 34) rfl⟩
set_option maxRecDepth 20000 in
theorem zm_2_33 : Cond.methodLink "AnswerSquareLaw" (32 : Nat) ({ cls := "AnswerSquare", name := "person", desc := "(II)I" } : MethodName) ∈ ztbl := zg (zt_2 (List.mem_of_getElem? (i := 33) rfl)) rfl
set_option maxRecDepth 20000 in
theorem zl_L_32 : zLk "AnswerSquareLaw" 32 mX3_person := Or.inl zm_2_33
set_option maxRecDepth 20000 in
theorem zl_X3_97 : zLk "AnswerSquare" 97 mX0_hasPerson := Or.inr ⟨_, List.mem_of_getElem? (i := 35) rfl⟩
set_option maxRecDepth 20000 in
theorem zm_2_41 : Cond.methodLink "AnswerSquare" (103 : Nat) ({ cls := "AnswerSquare", name := "thereNow", desc := "()I" } : MethodName) ∈ ztbl := zg (zt_2 (List.mem_of_getElem? (i := 41) rfl)) rfl
set_option maxRecDepth 20000 in
theorem zl_X3_103 : zLk "AnswerSquare" 103 mX3_thereNow := Or.inl zm_2_41
set_option maxRecDepth 20000 in
theorem zl_X3_185 : zLk "AnswerSquare" 185 mX1_there := Or.inr ⟨_, List.mem_of_getElem? (i := 36) rfl⟩
set_option maxRecDepth 20000 in
theorem zm_2_49 : Cond.methodLink "AnswerSquare$Moment" (67 : Nat) ({ cls := "AnswerSquare$Moment", name := "isThere", desc := "(III)Z" } : MethodName) ∈ ztbl := zg (zt_2 (List.mem_of_getElem? (i := 49) rfl)) rfl
set_option maxRecDepth 20000 in
theorem zl_X1_67 : zLk "AnswerSquare$Moment" 67 mX1_isThere := Or.inl zm_2_49
set_option maxRecDepth 20000 in
theorem zm_2_53 : Cond.methodLink "AnswerSquare$Moment" (49 : Nat) ({ cls := "AnswerSquare$Moment", name := "has", desc := "(I)Z" } : MethodName) ∈ ztbl := zg (zt_2 (List.mem_of_getElem? (i := 53) rfl)) rfl
set_option maxRecDepth 20000 in
theorem zl_X1_49 : zLk "AnswerSquare$Moment" 49 mX1_has := Or.inl zm_2_53
set_option maxRecDepth 20000 in
theorem zl_X3_107 : zLk "AnswerSquare" 107 mX0_answering := Or.inr ⟨_, List.mem_of_getElem? (i := 37) rfl⟩
set_option maxRecDepth 20000 in
theorem zm_2_61 : Cond.methodLink "AnswerSquare$Duchy" (96 : Nat) ({ cls := "AnswerSquare$Duchy", name := "canAnswer", desc := "(II)Z" } : MethodName) ∈ ztbl := zg (zt_2 (List.mem_of_getElem? (i := 61) rfl)) rfl
set_option maxRecDepth 20000 in
theorem zl_X0_96 : zLk "AnswerSquare$Duchy" 96 mX0_canAnswer := Or.inl zm_2_61
set_option maxRecDepth 20000 in
theorem zm_2_65 : Cond.methodLink "AnswerSquare$Duchy" (87 : Nat) ({ cls := "AnswerSquare$Duchy", name := "hasSaying", desc := "(I)Z" } : MethodName) ∈ ztbl := zg (zt_2 (List.mem_of_getElem? (i := 65) rfl)) rfl
set_option maxRecDepth 20000 in
theorem zl_X0_87 : zLk "AnswerSquare$Duchy" 87 mX0_hasSaying := Or.inl zm_2_65
set_option maxRecDepth 20000 in
theorem zl_X3_110 : zLk "AnswerSquare" 110 mX1_timesBy := Or.inr ⟨_, List.mem_of_getElem? (i := 38) rfl⟩
set_option maxRecDepth 20000 in
theorem zm_2_70 : Cond.methodLink "AnswerSquareLaw" (36 : Nat) ({ cls := "AnswerSquare", name := "talk", desc := "(II)I" } : MethodName) ∈ ztbl := zg (zt_2 (List.mem_of_getElem? (i := 70) rfl)) rfl
set_option maxRecDepth 20000 in
theorem zl_L_36 : zLk "AnswerSquareLaw" 36 mX3_talk := Or.inl zm_2_70
set_option maxRecDepth 20000 in
theorem zl_X3_113 : zLk "AnswerSquare" 113 mX1_has := Or.inr ⟨_, List.mem_of_getElem? (i := 39) rfl⟩
set_option maxRecDepth 20000 in
theorem zl_X3_134 : zLk "AnswerSquare" 134 mX1_isOpen := Or.inr ⟨_, List.mem_of_getElem? (i := 40) rfl⟩
set_option maxRecDepth 20000 in
theorem zm_2_79 : Cond.methodLink "AnswerSquare$Moment" (63 : Nat) ({ cls := "AnswerSquare$Moment", name := "firstAnswerTo", desc := "(I)I" } : MethodName) ∈ ztbl := zg (zt_2 (List.mem_of_getElem? (i := 79) rfl)) rfl
set_option maxRecDepth 20000 in
theorem zl_X1_63 : zLk "AnswerSquare$Moment" 63 mX1_firstAnswerTo := Or.inl zm_2_79
set_option maxRecDepth 20000 in
theorem zl_X3_140 : zLk "AnswerSquare" 140 mX1_isThere := Or.inr ⟨_, List.mem_of_getElem? (i := 41) rfl⟩
set_option maxRecDepth 20000 in
theorem zm_2_84 : Cond.methodLink "AnswerSquareLaw" (40 : Nat) ({ cls := "AnswerSquare", name := "hears", desc := "(I)I" } : MethodName) ∈ ztbl := zg (zt_2 (List.mem_of_getElem? (i := 84) rfl)) rfl
set_option maxRecDepth 20000 in
theorem zl_L_40 : zLk "AnswerSquareLaw" 40 mX3_hears := Or.inl zm_2_84
set_option maxRecDepth 20000 in
theorem zl_X3_144 : zLk "AnswerSquare" 144 mX1_add := Or.inr ⟨_, List.mem_of_getElem? (i := 42) rfl⟩
set_option maxRecDepth 20000 in
theorem zm_2_92 : Cond.methodLink "AnswerSquare$Moment" (53 : Nat) ({ cls := "AnswerSquare$Moment", name := "remember", desc := "(I)V" } : MethodName) ∈ ztbl := zg (zt_2 (List.mem_of_getElem? (i := 92) rfl)) rfl
set_option maxRecDepth 20000 in
theorem zl_X1_53 : zLk "AnswerSquare$Moment" 53 mX1_remember := Or.inl zm_2_92
set_option maxRecDepth 20000 in
theorem zm_2_96 : Cond.methodLink "AnswerSquare$Moment" (57 : Nat) ({ cls := "java/lang/Math", name := "min", desc := "(II)I" } : MethodName) ∈ ztbl := zg (zt_2 (List.mem_of_getElem? (i := 96) rfl)) rfl
set_option maxRecDepth 20000 in
theorem zl_X1_57 : zLk "AnswerSquare$Moment" 57 mJ9_min_7cf53 := Or.inl zm_2_96
set_option maxRecDepth 20000 in
theorem zm_2_97 : Cond.methodLink "AnswerSquareLaw" (44 : Nat) ({ cls := "AnswerSquare", name := "says", desc := "(II)I" } : MethodName) ∈ ztbl := zg (zt_2 (List.mem_of_getElem? (i := 97) rfl)) rfl
set_option maxRecDepth 20000 in
theorem zl_L_44 : zLk "AnswerSquareLaw" 44 mX3_says := Or.inl zm_2_97
set_option maxRecDepth 20000 in
theorem zl_X3_150 : zLk "AnswerSquare" 150 mX1_latestOf := Or.inr ⟨_, List.mem_of_getElem? (i := 43) rfl⟩
set_option maxRecDepth 20000 in
theorem zm_2_105 : Cond.methodLink "AnswerSquareLaw" (48 : Nat) ({ cls := "AnswerSquare", name := "hour", desc := "()I" } : MethodName) ∈ ztbl := zg (zt_2 (List.mem_of_getElem? (i := 105) rfl)) rfl
set_option maxRecDepth 20000 in
theorem zl_L_48 : zLk "AnswerSquareLaw" 48 mX3_hour := Or.inl zm_2_105
set_option maxRecDepth 20000 in
theorem zl_X3_154 : zLk "AnswerSquare" 154 mX1_passHour := Or.inr ⟨_, List.mem_of_getElem? (i := 44) rfl⟩
set_option maxRecDepth 20000 in
theorem zm_2_113 : Cond.methodLink "AnswerSquareLaw" (52 : Nat) ({ cls := "AnswerSquare", name := "undo", desc := "()I" } : MethodName) ∈ ztbl := zg (zt_2 (List.mem_of_getElem? (i := 113) rfl)) rfl
set_option maxRecDepth 20000 in
theorem zl_L_52 : zLk "AnswerSquareLaw" 52 mX3_undo := Or.inl zm_2_113
set_option maxRecDepth 20000 in
theorem zl_X3_161 : zLk "AnswerSquare" 161 mX1_takeBack := Or.inr ⟨_, List.mem_of_getElem? (i := 45) rfl⟩
set_option maxRecDepth 20000 in
theorem zm_2_121 : Cond.methodLink "AnswerSquareLaw" (56 : Nat) ({ cls := "AnswerSquare", name := "now", desc := "(I)I" } : MethodName) ∈ ztbl := zg (zt_2 (List.mem_of_getElem? (i := 121) rfl)) rfl
set_option maxRecDepth 20000 in
theorem zl_L_56 : zLk "AnswerSquareLaw" 56 mX3_now := Or.inl zm_2_121
set_option maxRecDepth 20000 in
theorem zl_X3_167 : zLk "AnswerSquare" 167 mX1_openOnes := Or.inr ⟨_, List.mem_of_getElem? (i := 46) rfl⟩
set_option maxRecDepth 20000 in
theorem zm_2_129 : Cond.methodLink "AnswerSquare$Moment" (71 : Nat) ({ cls := "AnswerSquare$Moment", name := "isOpen", desc := "(I)Z" } : MethodName) ∈ ztbl := zg (zt_2 (List.mem_of_getElem? (i := 129) rfl)) rfl
set_option maxRecDepth 20000 in
theorem zl_X1_71 : zLk "AnswerSquare$Moment" 71 mX1_isOpen := Or.inl zm_2_129
set_option maxRecDepth 20000 in
theorem zl_X3_170 : zLk "AnswerSquare" 170 mX1_farthest := Or.inr ⟨_, List.mem_of_getElem? (i := 47) rfl⟩
set_option maxRecDepth 20000 in
theorem zl_X3_173 : zLk "AnswerSquare" 173 mX1_lastOpen := Or.inr ⟨_, List.mem_of_getElem? (i := 48) rfl⟩
set_option maxRecDepth 20000 in
theorem zl_X3_176 : zLk "AnswerSquare" 176 mX1_firstAnswerers := Or.inr ⟨_, List.mem_of_getElem? (i := 49) rfl⟩
set_option maxRecDepth 20000 in
theorem zm_2_142 : Cond.methodLink "AnswerSquare" (179 : Nat) ({ cls := "AnswerSquare", name := "hoursToSilence", desc := "()I" } : MethodName) ∈ ztbl := zg (zt_2 (List.mem_of_getElem? (i := 142) rfl)) rfl
set_option maxRecDepth 20000 in
theorem zl_X3_179 : zLk "AnswerSquare" 179 mX3_hoursToSilence := Or.inl zm_2_142
set_option maxRecDepth 20000 in
theorem zm_2_146 : Cond.methodLink "AnswerSquareLaw" (60 : Nat) ({ cls := "AnswerSquare", name := "worth", desc := "(I)I" } : MethodName) ∈ ztbl := zg (zt_2 (List.mem_of_getElem? (i := 146) rfl)) rfl
set_option maxRecDepth 20000 in
theorem zl_L_60 : zLk "AnswerSquareLaw" 60 mX3_worth := Or.inl zm_2_146
set_option maxRecDepth 20000 in
theorem zl_X3_182 : zLk "AnswerSquare" 182 mX0_worthOf := Or.inr ⟨_, List.mem_of_getElem? (i := 50) rfl⟩
set_option maxRecDepth 20000 in
theorem zm_2_154 : Cond.methodLink "AnswerSquareLaw" (64 : Nat) ({ cls := "AnswerSquare", name := "chain", desc := "(II)I" } : MethodName) ∈ ztbl := zg (zt_2 (List.mem_of_getElem? (i := 154) rfl)) rfl
set_option maxRecDepth 20000 in
theorem zl_L_64 : zLk "AnswerSquareLaw" 64 mX3_chain := Or.inl zm_2_154
set_option maxRecDepth 20000 in
theorem zm_2_158 : Cond.methodLink "AnswerSquare" (188 : Nat) ({ cls := "AnswerSquare", name := "chainLength", desc := "(II)I" } : MethodName) ∈ ztbl := zg (zt_2 (List.mem_of_getElem? (i := 158) rfl)) rfl
set_option maxRecDepth 20000 in
theorem zl_X3_188 : zLk "AnswerSquare" 188 mX3_chainLength := Or.inl zm_2_158
set_option maxRecDepth 20000 in
theorem zl_X3_198 : zLk "AnswerSquare" 198 mX0_answeredBy := Or.inr ⟨_, List.mem_of_getElem? (i := 51) rfl⟩
set_option maxRecDepth 20000 in
theorem zm_2_166 : Cond.methodLink "AnswerSquare" (191 : Nat) ({ cls := "AnswerSquare", name := "chainStep", desc := "(III)I" } : MethodName) ∈ ztbl := zg (zt_2 (List.mem_of_getElem? (i := 166) rfl)) rfl
set_option maxRecDepth 20000 in
theorem zl_X3_191 : zLk "AnswerSquare" 191 mX3_chainStep := Or.inl zm_2_166
set_option maxRecDepth 20000 in
theorem zm_2_170 : Cond.methodLink "AnswerSquare" (201 : Nat) ({ cls := "AnswerSquare", name := "lowest", desc := "(I)I" } : MethodName) ∈ ztbl := zg (zt_2 (List.mem_of_getElem? (i := 170) rfl)) rfl
set_option maxRecDepth 20000 in
theorem zl_X3_201 : zLk "AnswerSquare" 201 mX3_lowest := Or.inl zm_2_170
set_option maxRecDepth 20000 in
theorem zm_2_173 : Cond.methodLink "AnswerSquareLaw" (68 : Nat) ({ cls := "AnswerSquare", name := "sounds", desc := "(I)I" } : MethodName) ∈ ztbl := zg (zt_2 (List.mem_of_getElem? (i := 173) rfl)) rfl
set_option maxRecDepth 20000 in
theorem zl_L_68 : zLk "AnswerSquareLaw" 68 mX3_sounds := Or.inl zm_2_173
set_option maxRecDepth 20000 in
theorem zl_X3_204 : zLk "AnswerSquare" 204 mX0_hasAll := Or.inr ⟨_, List.mem_of_getElem? (i := 52) rfl⟩
set_option maxRecDepth 20000 in
theorem zm_2_181 : Cond.methodLink "AnswerSquare$Duchy" (81 : Nat) ({ cls := "java/lang/Math", name := "min", desc := "(II)I" } : MethodName) ∈ ztbl := zg (zt_2 (List.mem_of_getElem? (i := 181) rfl)) rfl
set_option maxRecDepth 20000 in
theorem zl_X0_81 : zLk "AnswerSquare$Duchy" 81 mJ9_min_7cf53 := Or.inl zm_2_181
set_option maxRecDepth 20000 in
theorem zm_2_182 : Cond.methodLink "AnswerSquare" (213 : Nat) ({ cls := "AnswerSquare", name := "suffices", desc := "(II)Z" } : MethodName) ∈ ztbl := zg (zt_2 (List.mem_of_getElem? (i := 182) rfl)) rfl
set_option maxRecDepth 20000 in
theorem zl_X3_213 : zLk "AnswerSquare" 213 mX3_suffices := Or.inl zm_2_182
set_option maxRecDepth 20000 in
theorem zl_X3_225 : zLk "AnswerSquare" 225 mX0_reachable := Or.inr ⟨_, List.mem_of_getElem? (i := 53) rfl⟩
set_option maxRecDepth 20000 in
theorem zm_2_190 : Cond.methodLink "AnswerSquare$Duchy" (99 : Nat) ({ cls := "AnswerSquare$Duchy", name := "answering", desc := "(I)I" } : MethodName) ∈ ztbl := zg (zt_2 (List.mem_of_getElem? (i := 190) rfl)) rfl
set_option maxRecDepth 20000 in
theorem zl_X0_99 : zLk "AnswerSquare$Duchy" 99 mX0_answering := Or.inl zm_2_190
set_option maxRecDepth 20000 in
theorem zm_2_191 : Cond.methodLink "AnswerSquare" (217 : Nat) ({ cls := "java/lang/Integer", name := "bitCount", desc := "(I)I" } : MethodName) ∈ ztbl := zg (zt_2 (List.mem_of_getElem? (i := 191) rfl)) rfl
set_option maxRecDepth 20000 in
theorem zl_X3_217 : zLk "AnswerSquare" 217 mJ6_bitCount_0f7a4 := Or.inl zm_2_191
set_option maxRecDepth 20000 in
theorem zm_2_197 : Cond.methodLink "AnswerSquareLaw" (72 : Nat) ({ cls := "AnswerSquare", name := "began", desc := "(I)I" } : MethodName) ∈ ztbl := zg (zt_2 (List.mem_of_getElem? (i := 197) rfl)) rfl
set_option maxRecDepth 20000 in
theorem zl_L_72 : zLk "AnswerSquareLaw" 72 mX3_began := Or.inl zm_2_197
set_option maxRecDepth 20000 in
theorem zm_2_201 : Cond.methodLink "AnswerSquare" (222 : Nat) ({ cls := "AnswerSquare", name := "beginnings", desc := "(I)I" } : MethodName) ∈ ztbl := zg (zt_2 (List.mem_of_getElem? (i := 201) rfl)) rfl
set_option maxRecDepth 20000 in
theorem zl_X3_222 : zLk "AnswerSquare" 222 mX3_beginnings := Or.inl zm_2_201
set_option maxRecDepth 20000 in
theorem zm_2_205 : Cond.methodLink "AnswerSquareLaw" (76 : Nat) ({ cls := "AnswerSquare", name := "odds", desc := "(III)I" } : MethodName) ∈ ztbl := zg (zt_2 (List.mem_of_getElem? (i := 205) rfl)) rfl
set_option maxRecDepth 20000 in
theorem zl_L_76 : zLk "AnswerSquareLaw" 76 mX3_odds := Or.inl zm_2_205
set_option maxRecDepth 20000 in
theorem zm_2_209 : Cond.methodLink "AnswerSquare" (228 : Nat) ({ cls := "AnswerSquare", name := "commonDivisor", desc := "(II)I" } : MethodName) ∈ ztbl := zg (zt_2 (List.mem_of_getElem? (i := 209) rfl)) rfl
set_option maxRecDepth 20000 in
theorem zl_X3_228 : zLk "AnswerSquare" 228 mX3_commonDivisor := Or.inl zm_2_209
set_option maxRecDepth 20000 in
theorem zm_2_212 : Cond.methodLink "AnswerSquareLaw" (81 : Nat) ({ cls := "AnswerSquare", name := "tells", desc := "(II)I" } : MethodName) ∈ ztbl := zg (zt_2 (List.mem_of_getElem? (i := 212) rfl)) rfl
set_option maxRecDepth 20000 in
theorem zl_L_81 : zLk "AnswerSquareLaw" 81 mX3_tells := Or.inl zm_2_212
set_option maxRecDepth 20000 in
theorem zm_2_216 : Cond.methodLink "AnswerSquareLaw" (85 : Nat) ({ cls := "AnswerSquare", name := "forget", desc := "()I" } : MethodName) ∈ ztbl := zg (zt_2 (List.mem_of_getElem? (i := 216) rfl)) rfl
set_option maxRecDepth 20000 in
theorem zl_L_85 : zLk "AnswerSquareLaw" 85 mX3_forget := Or.inl zm_2_216
set_option maxRecDepth 20000 in
theorem zm_2_220 : Cond.methodLink "AnswerSquareLaw" (89 : Nat) ({ cls := "AnswerSquare", name := "fits", desc := "()I" } : MethodName) ∈ ztbl := zg (zt_2 (List.mem_of_getElem? (i := 220) rfl)) rfl
set_option maxRecDepth 20000 in
theorem zl_L_89 : zLk "AnswerSquareLaw" 89 mX3_fits := Or.inl zm_2_220
set_option maxRecDepth 20000 in
theorem zl_X3_231 : zLk "AnswerSquare" 231 mX1_aheadOf := Or.inr ⟨_, List.mem_of_getElem? (i := 54) rfl⟩
set_option maxRecDepth 20000 in
theorem zm_2_228 : Cond.methodLink "AnswerSquareLaw" (93 : Nat) ({ cls := "AnswerSquare", name := "orders", desc := "(I)I" } : MethodName) ∈ ztbl := zg (zt_2 (List.mem_of_getElem? (i := 228) rfl)) rfl
set_option maxRecDepth 20000 in
theorem zl_L_93 : zLk "AnswerSquareLaw" 93 mX3_orders := Or.inl zm_2_228
set_option maxRecDepth 20000 in
theorem zm_2_232 : Cond.methodLink "AnswerSquare" (234 : Nat) ({ cls := "AnswerSquare", name := "waysTo", desc := "(II)I" } : MethodName) ∈ ztbl := zg (zt_2 (List.mem_of_getElem? (i := 232) rfl)) rfl
set_option maxRecDepth 20000 in
theorem zl_X3_234 : zLk "AnswerSquare" 234 mX3_waysTo := Or.inl zm_2_232
set_option maxRecDepth 20000 in
theorem zl_X3_237 : zLk "AnswerSquare" 237 mX0_canFollow := Or.inr ⟨_, List.mem_of_getElem? (i := 55) rfl⟩
set_option maxRecDepth 20000 in
theorem zm_3_0 : Cond.methodLink "AnswerSquare$Duchy" (102 : Nat) ({ cls := "AnswerSquare$Duchy", name := "isSound", desc := "(I)Z" } : MethodName) ∈ ztbl := zg (zt_3 (List.mem_of_getElem? (i := 0) rfl)) rfl
set_option maxRecDepth 20000 in
theorem zl_X0_102 : zLk "AnswerSquare$Duchy" 102 mX0_isSound := Or.inl zm_3_0
set_option maxRecDepth 20000 in
theorem zm_3_1 : Cond.methodLink "AnswerSquareLaw" (97 : Nat) ({ cls := "AnswerSquare", name := "mark", desc := "(II)I" } : MethodName) ∈ ztbl := zg (zt_3 (List.mem_of_getElem? (i := 1) rfl)) rfl
set_option maxRecDepth 20000 in
theorem zl_L_97 : zLk "AnswerSquareLaw" 97 mX3_mark := Or.inl zm_3_1
set_option maxRecDepth 20000 in
theorem zm_3_6 : Cond.methodLink "AnswerSquare" (241 : Nat) ({ cls := "AnswerSquare", name := "asSaying", desc := "(I)I" } : MethodName) ∈ ztbl := zg (zt_3 (List.mem_of_getElem? (i := 6) rfl)) rfl
set_option maxRecDepth 20000 in
theorem zl_X3_241 : zLk "AnswerSquare" 241 mX3_asSaying := Or.inl zm_3_6
set_option maxRecDepth 20000 in
theorem zm_3_10 : Cond.methodLink "AnswerSquare" (244 : Nat) ({ cls := "AnswerSquare", name := "asCough", desc := "(I)I" } : MethodName) ∈ ztbl := zg (zt_3 (List.mem_of_getElem? (i := 10) rfl)) rfl
set_option maxRecDepth 20000 in
theorem zl_X3_244 : zLk "AnswerSquare" 244 mX3_asCough := Or.inl zm_3_10
set_option maxRecDepth 20000 in
theorem zl_X3_261 : zLk "AnswerSquare" 261 mX0_answersCount := Or.inr ⟨_, List.mem_of_getElem? (i := 56) rfl⟩
set_option maxRecDepth 20000 in
theorem zm_3_19 : Cond.methodLink "AnswerSquare$Duchy" (90 : Nat) ({ cls := "java/lang/Integer", name := "bitCount", desc := "(I)I" } : MethodName) ∈ ztbl := zg (zt_3 (List.mem_of_getElem? (i := 19) rfl)) rfl
set_option maxRecDepth 20000 in
theorem zl_X0_90 : zLk "AnswerSquare$Duchy" 90 mJ6_bitCount_0f7a4 := Or.inl zm_3_19
set_option maxRecDepth 20000 in
theorem zm_3_20 : Cond.methodLink "AnswerSquare" (247 : Nat) ({ cls := "AnswerSquare", name := "asBell", desc := "(I)I" } : MethodName) ∈ ztbl := zg (zt_3 (List.mem_of_getElem? (i := 20) rfl)) rfl
set_option maxRecDepth 20000 in
theorem zl_X3_247 : zLk "AnswerSquare" 247 mX3_asBell := Or.inl zm_3_20
set_option maxRecDepth 20000 in
theorem zm_3_25 : Cond.methodLink "AnswerSquare" (250 : Nat) ({ cls := "AnswerSquare", name := "asKnock", desc := "(I)I" } : MethodName) ∈ ztbl := zg (zt_3 (List.mem_of_getElem? (i := 25) rfl)) rfl
set_option maxRecDepth 20000 in
theorem zl_X3_250 : zLk "AnswerSquare" 250 mX3_asKnock := Or.inl zm_3_25
set_option maxRecDepth 20000 in
theorem zm_3_30 : Cond.methodLink "AnswerSquare" (253 : Nat) ({ cls := "AnswerSquare", name := "asEcho", desc := "(I)I" } : MethodName) ∈ ztbl := zg (zt_3 (List.mem_of_getElem? (i := 30) rfl)) rfl
set_option maxRecDepth 20000 in
theorem zl_X3_253 : zLk "AnswerSquare" 253 mX3_asEcho := Or.inl zm_3_30
set_option maxRecDepth 20000 in
theorem zm_3_35 : Cond.methodLink "AnswerSquare" (256 : Nat) ({ cls := "AnswerSquare", name := "asOwl", desc := "(I)I" } : MethodName) ∈ ztbl := zg (zt_3 (List.mem_of_getElem? (i := 35) rfl)) rfl
set_option maxRecDepth 20000 in
theorem zl_X3_256 : zLk "AnswerSquare" 256 mX3_asOwl := Or.inl zm_3_35
set_option maxRecDepth 20000 in
theorem zm_3_40 : Cond.methodLink "AnswerSquareLaw" (101 : Nat) ({ cls := "AnswerSquare", name := "keep", desc := "(I)I" } : MethodName) ∈ ztbl := zg (zt_3 (List.mem_of_getElem? (i := 40) rfl)) rfl
set_option maxRecDepth 20000 in
theorem zl_L_101 : zLk "AnswerSquareLaw" 101 mX3_keep := Or.inl zm_3_40
set_option maxRecDepth 20000 in
theorem zm_3_44 : Cond.methodLink "AnswerSquare" (272 : Nat) ({ cls := "AnswerSquare", name := "imageOf", desc := "(I)LAnswerSquare$Moment;" } : MethodName) ∈ ztbl := zg (zt_3 (List.mem_of_getElem? (i := 44) rfl)) rfl
set_option maxRecDepth 20000 in
theorem zl_X3_272 : zLk "AnswerSquare" 272 mX3_imageOf := Or.inl zm_3_44
set_option maxRecDepth 20000 in
theorem zl_X3_276 : zLk "AnswerSquare" 276 mX1_become := Or.inr ⟨_, List.mem_of_getElem? (i := 57) rfl⟩
set_option maxRecDepth 20000 in
theorem zm_3_52 : Cond.methodLink "AnswerSquare$Moment" (43 : Nat) ({ cls := "java/lang/System", name := "arraycopy", desc := "(Ljava/lang/Object;ILjava/lang/Object;II)V" } : MethodName) ∈ ztbl := zg (zt_3 (List.mem_of_getElem? (i := 52) rfl)) rfl
set_option maxRecDepth 20000 in
theorem zm_3_55 : Cond.methodLink "AnswerSquareLaw" (105 : Nat) ({ cls := "AnswerSquare", name := "back", desc := "(I)I" } : MethodName) ∈ ztbl := zg (zt_3 (List.mem_of_getElem? (i := 55) rfl)) rfl
set_option maxRecDepth 20000 in
theorem zl_L_105 : zLk "AnswerSquareLaw" 105 mX3_back := Or.inl zm_3_55
set_option maxRecDepth 20000 in
theorem zm_3_59 : Cond.methodLink "AnswerSquareLaw" (109 : Nat) ({ cls := "AnswerSquare", name := "count", desc := "(I)I" } : MethodName) ∈ ztbl := zg (zt_3 (List.mem_of_getElem? (i := 59) rfl)) rfl
set_option maxRecDepth 20000 in
theorem zl_L_109 : zLk "AnswerSquareLaw" 109 mX3_count := Or.inl zm_3_59
set_option maxRecDepth 20000 in
theorem zm_3_63 : Cond.methodLink "AnswerSquareLaw" (113 : Nat) ({ cls := "AnswerSquare", name := "trace", desc := "()J" } : MethodName) ∈ ztbl := zg (zt_3 (List.mem_of_getElem? (i := 63) rfl)) rfl
set_option maxRecDepth 20000 in
theorem zl_L_113 : zLk "AnswerSquareLaw" 113 mX3_trace := Or.inl zm_3_63
set_option maxRecDepth 20000 in
theorem zm_3_69 : Cond.methodLink "AnswerSquareLaw" (12 : Nat) ({ cls := "AnswerSquareModel", name := "<init>", desc := "()V" } : MethodName) ∈ ztbl := zg (zt_3 (List.mem_of_getElem? (i := 69) rfl)) rfl
set_option maxRecDepth 20000 in
theorem zl_L_12 : zLk "AnswerSquareLaw" 12 mX4_init := Or.inl zm_3_69
set_option maxRecDepth 20000 in
theorem zm_3_72 : Cond.methodLink "AnswerSquareModel" (1 : Nat) ({ cls := "java/lang/Object", name := "<init>", desc := "()V" } : MethodName) ∈ ztbl := zg (zt_3 (List.mem_of_getElem? (i := 72) rfl)) rfl
set_option maxRecDepth 20000 in
theorem zm_3_73 : Cond.methodLink "AnswerSquareModel" (51 : Nat) ({ cls := "AnswerSquareModel", name := "plain", desc := "()V" } : MethodName) ∈ ztbl := zg (zt_3 (List.mem_of_getElem? (i := 73) rfl)) rfl
set_option maxRecDepth 20000 in
theorem zl_X4_51 : zLk "AnswerSquareModel" 51 mX4_plain := Or.inl zm_3_73
set_option maxRecDepth 20000 in
theorem zm_3_77 : Cond.methodLink "AnswerSquareModel" (54 : Nat) ({ cls := "AnswerSquareModel", name := "takeDraft", desc := "()V" } : MethodName) ∈ ztbl := zg (zt_3 (List.mem_of_getElem? (i := 77) rfl)) rfl
set_option maxRecDepth 20000 in
theorem zl_X4_54 : zLk "AnswerSquareModel" 54 mX4_takeDraft := Or.inl zm_3_77
set_option maxRecDepth 20000 in
theorem zm_3_150 : Cond.methodLink "AnswerSquareLaw" (17 : Nat) ({ cls := "AnswerSquareModel", name := "type", desc := "(I)I" } : MethodName) ∈ ztbl := zg (zt_3 (List.mem_of_getElem? (i := 150) rfl)) rfl
set_option maxRecDepth 20000 in
theorem zl_L_17 : zLk "AnswerSquareLaw" 17 mX4_type := Or.inl zm_3_150
set_option maxRecDepth 20000 in
theorem zm_3_154 : Cond.methodLink "AnswerSquareModel" (57 : Nat) ({ cls := "AnswerSquareModel", name := "in", desc := "(III)Z" } : MethodName) ∈ ztbl := zg (zt_3 (List.mem_of_getElem? (i := 154) rfl)) rfl
set_option maxRecDepth 20000 in
theorem zl_X4_57 : zLk "AnswerSquareModel" 57 mX4_in := Or.inl zm_3_154
set_option maxRecDepth 20000 in
theorem zm_3_157 : Cond.methodLink "AnswerSquareLaw" (22 : Nat) ({ cls := "AnswerSquareModel", name := "clear", desc := "()I" } : MethodName) ∈ ztbl := zg (zt_3 (List.mem_of_getElem? (i := 157) rfl)) rfl
set_option maxRecDepth 20000 in
theorem zl_L_22 : zLk "AnswerSquareLaw" 22 mX4_clear := Or.inl zm_3_157
set_option maxRecDepth 20000 in
theorem zm_3_161 : Cond.methodLink "AnswerSquareLaw" (26 : Nat) ({ cls := "AnswerSquareModel", name := "duchy", desc := "()I" } : MethodName) ∈ ztbl := zg (zt_3 (List.mem_of_getElem? (i := 161) rfl)) rfl
set_option maxRecDepth 20000 in
theorem zl_L_26 : zLk "AnswerSquareLaw" 26 mX4_duchy := Or.inl zm_3_161
set_option maxRecDepth 20000 in
theorem zm_3_165 : Cond.methodLink "AnswerSquareModel" (84 : Nat) ({ cls := "AnswerSquareModel", name := "step", desc := "()V" } : MethodName) ∈ ztbl := zg (zt_3 (List.mem_of_getElem? (i := 165) rfl)) rfl
set_option maxRecDepth 20000 in
theorem zl_X4_84 : zLk "AnswerSquareModel" 84 mX4_step := Or.inl zm_3_165
set_option maxRecDepth 20000 in
theorem zm_3_169 : Cond.methodLink "AnswerSquareModel" (68 : Nat) ({ cls := "AnswerSquareModel", name := "here", desc := "()I" } : MethodName) ∈ ztbl := zg (zt_3 (List.mem_of_getElem? (i := 169) rfl)) rfl
set_option maxRecDepth 20000 in
theorem zl_X4_68 : zLk "AnswerSquareModel" 68 mX4_here := Or.inl zm_3_169
set_option maxRecDepth 20000 in
theorem zm_3_173 : Cond.methodLink "AnswerSquareModel" (105 : Nat) ({ cls := "AnswerSquareModel", name := "mayBe", desc := "(I)Z" } : MethodName) ∈ ztbl := zg (zt_3 (List.mem_of_getElem? (i := 173) rfl)) rfl
set_option maxRecDepth 20000 in
theorem zl_X4_105 : zLk "AnswerSquareModel" 105 mX4_mayBe := Or.inl zm_3_173
set_option maxRecDepth 20000 in
theorem zm_3_177 : Cond.methodLink "AnswerSquareModel" (87 : Nat) ({ cls := "AnswerSquareModel", name := "due", desc := "(Z)I" } : MethodName) ∈ ztbl := zg (zt_3 (List.mem_of_getElem? (i := 177) rfl)) rfl
set_option maxRecDepth 20000 in
theorem zl_X4_87 : zLk "AnswerSquareModel" 87 mX4_due := Or.inl zm_3_177
set_option maxRecDepth 20000 in
theorem zm_3_181 : Cond.methodLink "AnswerSquareModel" (109 : Nat) ({ cls := "AnswerSquareModel", name := "readRow", desc := "(I)V" } : MethodName) ∈ ztbl := zg (zt_3 (List.mem_of_getElem? (i := 181) rfl)) rfl
set_option maxRecDepth 20000 in
theorem zl_X4_109 : zLk "AnswerSquareModel" 109 mX4_readRow := Or.inl zm_3_181
set_option maxRecDepth 20000 in
theorem zm_3_185 : Cond.methodLink "AnswerSquareModel" (95 : Nat) ({ cls := "AnswerSquareModel", name := "number", desc := "(II)I" } : MethodName) ∈ ztbl := zg (zt_3 (List.mem_of_getElem? (i := 185) rfl)) rfl
set_option maxRecDepth 20000 in
theorem zl_X4_95 : zLk "AnswerSquareModel" 95 mX4_number := Or.inl zm_3_185
set_option maxRecDepth 20000 in
theorem zm_3_189 : Cond.methodLink "AnswerSquareModel" (99 : Nat) ({ cls := "AnswerSquareModel", name := "readSet", desc := "()I" } : MethodName) ∈ ztbl := zg (zt_3 (List.mem_of_getElem? (i := 189) rfl)) rfl
set_option maxRecDepth 20000 in
theorem zl_X4_99 : zLk "AnswerSquareModel" 99 mX4_readSet := Or.inl zm_3_189
set_option maxRecDepth 20000 in
theorem zm_3_193 : Cond.methodLink "AnswerSquareLaw" (31 : Nat) ({ cls := "AnswerSquareModel", name := "saying", desc := "(II)I" } : MethodName) ∈ ztbl := zg (zt_3 (List.mem_of_getElem? (i := 193) rfl)) rfl
set_option maxRecDepth 20000 in
theorem zl_L_31 : zLk "AnswerSquareLaw" 31 mX4_saying := Or.inl zm_3_193
set_option maxRecDepth 20000 in
theorem zm_3_197 : Cond.methodLink "AnswerSquareModel" (117 : Nat) ({ cls := "AnswerSquareModel", name := "isSaying", desc := "(I)Z" } : MethodName) ∈ ztbl := zg (zt_3 (List.mem_of_getElem? (i := 197) rfl)) rfl
set_option maxRecDepth 20000 in
theorem zl_X4_117 : zLk "AnswerSquareModel" 117 mX4_isSaying := Or.inl zm_3_197
set_option maxRecDepth 20000 in
theorem zm_3_201 : Cond.methodLink "AnswerSquareModel" (120 : Nat) ({ cls := "AnswerSquareModel", name := "isSound", desc := "(I)Z" } : MethodName) ∈ ztbl := zg (zt_3 (List.mem_of_getElem? (i := 201) rfl)) rfl
set_option maxRecDepth 20000 in
theorem zl_X4_120 : zLk "AnswerSquareModel" 120 mX4_isSound := Or.inl zm_3_201
set_option maxRecDepth 20000 in
theorem zm_3_205 : Cond.methodLink "AnswerSquareModel" (123 : Nat) ({ cls := "AnswerSquareModel", name := "knownBy", desc := "(I)I" } : MethodName) ∈ ztbl := zg (zt_3 (List.mem_of_getElem? (i := 205) rfl)) rfl
set_option maxRecDepth 20000 in
theorem zl_X4_123 : zLk "AnswerSquareModel" 123 mX4_knownBy := Or.inl zm_3_205
set_option maxRecDepth 20000 in
theorem zm_3_209 : Cond.methodLink "AnswerSquareModel" (127 : Nat) ({ cls := "AnswerSquareModel", name := "oftenOf", desc := "(I)I" } : MethodName) ∈ ztbl := zg (zt_3 (List.mem_of_getElem? (i := 209) rfl)) rfl
set_option maxRecDepth 20000 in
theorem zl_X4_127 : zLk "AnswerSquareModel" 127 mX4_oftenOf := Or.inl zm_3_209
set_option maxRecDepth 20000 in
theorem zm_3_213 : Cond.methodLink "AnswerSquareLaw" (35 : Nat) ({ cls := "AnswerSquareModel", name := "person", desc := "(II)I" } : MethodName) ∈ ztbl := zg (zt_3 (List.mem_of_getElem? (i := 213) rfl)) rfl
set_option maxRecDepth 20000 in
theorem zl_L_35 : zLk "AnswerSquareLaw" 35 mX4_person := Or.inl zm_3_213
set_option maxRecDepth 20000 in
theorem zm_3_217 : Cond.methodLink "AnswerSquareModel" (130 : Nat) ({ cls := "AnswerSquareModel", name := "isPerson", desc := "(I)Z" } : MethodName) ∈ ztbl := zg (zt_3 (List.mem_of_getElem? (i := 217) rfl)) rfl
set_option maxRecDepth 20000 in
theorem zl_X4_130 : zLk "AnswerSquareModel" 130 mX4_isPerson := Or.inl zm_3_217
set_option maxRecDepth 20000 in
theorem zm_3_221 : Cond.methodLink "AnswerSquareModel" (133 : Nat) ({ cls := "AnswerSquareModel", name := "there", desc := "(I)I" } : MethodName) ∈ ztbl := zg (zt_3 (List.mem_of_getElem? (i := 221) rfl)) rfl
set_option maxRecDepth 20000 in
theorem zl_X4_133 : zLk "AnswerSquareModel" 133 mX4_there := Or.inl zm_3_221
set_option maxRecDepth 20000 in
theorem zm_3_225 : Cond.methodLink "AnswerSquareModel" (113 : Nat) ({ cls := "AnswerSquareModel", name := "isThere", desc := "(II)Z" } : MethodName) ∈ ztbl := zg (zt_3 (List.mem_of_getElem? (i := 225) rfl)) rfl
set_option maxRecDepth 20000 in
theorem zl_X4_113 : zLk "AnswerSquareModel" 113 mX4_isThere := Or.inl zm_3_225
set_option maxRecDepth 20000 in
theorem zm_3_229 : Cond.methodLink "AnswerSquareModel" (136 : Nat) ({ cls := "AnswerSquareModel", name := "mayOf", desc := "(II)I" } : MethodName) ∈ ztbl := zg (zt_3 (List.mem_of_getElem? (i := 229) rfl)) rfl
set_option maxRecDepth 20000 in
theorem zl_X4_136 : zLk "AnswerSquareModel" 136 mX4_mayOf := Or.inl zm_3_229
set_option maxRecDepth 20000 in
theorem zm_3_233 : Cond.methodLink "AnswerSquareLaw" (39 : Nat) ({ cls := "AnswerSquareModel", name := "talk", desc := "(II)I" } : MethodName) ∈ ztbl := zg (zt_3 (List.mem_of_getElem? (i := 233) rfl)) rfl
set_option maxRecDepth 20000 in
theorem zl_L_39 : zLk "AnswerSquareLaw" 39 mX4_talk := Or.inl zm_3_233
set_option maxRecDepth 20000 in
theorem zm_3_237 : Cond.methodLink "AnswerSquareModel" (139 : Nat) ({ cls := "AnswerSquareModel", name := "rootOf", desc := "(I)I" } : MethodName) ∈ ztbl := zg (zt_3 (List.mem_of_getElem? (i := 237) rfl)) rfl
set_option maxRecDepth 20000 in
theorem zl_X4_139 : zLk "AnswerSquareModel" 139 mX4_rootOf := Or.inl zm_3_237
set_option maxRecDepth 20000 in
theorem zm_4_1 : Cond.methodLink "AnswerSquareModel" (142 : Nat) ({ cls := "AnswerSquareModel", name := "farOf", desc := "(I)I" } : MethodName) ∈ ztbl := zg (zt_4 (List.mem_of_getElem? (i := 1) rfl)) rfl
set_option maxRecDepth 20000 in
theorem zl_X4_142 : zLk "AnswerSquareModel" 142 mX4_farOf := Or.inl zm_4_1
set_option maxRecDepth 20000 in
theorem zm_4_5 : Cond.methodLink "AnswerSquareModel" (145 : Nat) ({ cls := "AnswerSquareModel", name := "firstAnswer", desc := "(I)I" } : MethodName) ∈ ztbl := zg (zt_4 (List.mem_of_getElem? (i := 5) rfl)) rfl
set_option maxRecDepth 20000 in
theorem zl_X4_145 : zLk "AnswerSquareModel" 145 mX4_firstAnswer := Or.inl zm_4_5
set_option maxRecDepth 20000 in
theorem zm_4_9 : Cond.methodLink "AnswerSquareLaw" (43 : Nat) ({ cls := "AnswerSquareModel", name := "hears", desc := "(I)I" } : MethodName) ∈ ztbl := zg (zt_4 (List.mem_of_getElem? (i := 9) rfl)) rfl
set_option maxRecDepth 20000 in
theorem zl_L_43 : zLk "AnswerSquareLaw" 43 mX4_hears := Or.inl zm_4_9
set_option maxRecDepth 20000 in
theorem zm_4_13 : Cond.methodLink "AnswerSquareModel" (151 : Nat) ({ cls := "AnswerSquareModel", name := "add", desc := "(III)V" } : MethodName) ∈ ztbl := zg (zt_4 (List.mem_of_getElem? (i := 13) rfl)) rfl
set_option maxRecDepth 20000 in
theorem zl_X4_151 : zLk "AnswerSquareModel" 151 mX4_add := Or.inl zm_4_13
set_option maxRecDepth 20000 in
theorem zm_4_17 : Cond.methodLink "AnswerSquareModel" (148 : Nat) ({ cls := "AnswerSquareModel", name := "know", desc := "()V" } : MethodName) ∈ ztbl := zg (zt_4 (List.mem_of_getElem? (i := 17) rfl)) rfl
set_option maxRecDepth 20000 in
theorem zl_X4_148 : zLk "AnswerSquareModel" 148 mX4_know := Or.inl zm_4_17
set_option maxRecDepth 20000 in
theorem zm_4_21 : Cond.methodLink "AnswerSquareLaw" (47 : Nat) ({ cls := "AnswerSquareModel", name := "says", desc := "(II)I" } : MethodName) ∈ ztbl := zg (zt_4 (List.mem_of_getElem? (i := 21) rfl)) rfl
set_option maxRecDepth 20000 in
theorem zl_L_47 : zLk "AnswerSquareLaw" 47 mX4_says := Or.inl zm_4_21
set_option maxRecDepth 20000 in
theorem zm_4_25 : Cond.methodLink "AnswerSquareLaw" (51 : Nat) ({ cls := "AnswerSquareModel", name := "hour", desc := "()I" } : MethodName) ∈ ztbl := zg (zt_4 (List.mem_of_getElem? (i := 25) rfl)) rfl
set_option maxRecDepth 20000 in
theorem zl_L_51 : zLk "AnswerSquareLaw" 51 mX4_hour := Or.inl zm_4_25
set_option maxRecDepth 20000 in
theorem zm_4_29 : Cond.methodLink "AnswerSquareLaw" (55 : Nat) ({ cls := "AnswerSquareModel", name := "undo", desc := "()I" } : MethodName) ∈ ztbl := zg (zt_4 (List.mem_of_getElem? (i := 29) rfl)) rfl
set_option maxRecDepth 20000 in
theorem zl_L_55 : zLk "AnswerSquareLaw" 55 mX4_undo := Or.inl zm_4_29
set_option maxRecDepth 20000 in
theorem zm_4_33 : Cond.methodLink "AnswerSquareLaw" (59 : Nat) ({ cls := "AnswerSquareModel", name := "now", desc := "(I)I" } : MethodName) ∈ ztbl := zg (zt_4 (List.mem_of_getElem? (i := 33) rfl)) rfl
set_option maxRecDepth 20000 in
theorem zl_L_59 : zLk "AnswerSquareLaw" 59 mX4_now := Or.inl zm_4_33
set_option maxRecDepth 20000 in
theorem zm_4_37 : Cond.methodLink "AnswerSquareModel" (155 : Nat) ({ cls := "AnswerSquareModel", name := "farthest", desc := "()I" } : MethodName) ∈ ztbl := zg (zt_4 (List.mem_of_getElem? (i := 37) rfl)) rfl
set_option maxRecDepth 20000 in
theorem zl_X4_155 : zLk "AnswerSquareModel" 155 mX4_farthest := Or.inl zm_4_37
set_option maxRecDepth 20000 in
theorem zm_4_41 : Cond.methodLink "AnswerSquareModel" (158 : Nat) ({ cls := "AnswerSquareModel", name := "silent", desc := "()I" } : MethodName) ∈ ztbl := zg (zt_4 (List.mem_of_getElem? (i := 41) rfl)) rfl
set_option maxRecDepth 20000 in
theorem zl_X4_158 : zLk "AnswerSquareModel" 158 mX4_silent := Or.inl zm_4_41
set_option maxRecDepth 20000 in
theorem zm_4_45 : Cond.methodLink "AnswerSquareLaw" (63 : Nat) ({ cls := "AnswerSquareModel", name := "worth", desc := "(I)I" } : MethodName) ∈ ztbl := zg (zt_4 (List.mem_of_getElem? (i := 45) rfl)) rfl
set_option maxRecDepth 20000 in
theorem zl_L_63 : zLk "AnswerSquareLaw" 63 mX4_worth := Or.inl zm_4_45
set_option maxRecDepth 20000 in
theorem zm_4_49 : Cond.methodLink "AnswerSquareLaw" (67 : Nat) ({ cls := "AnswerSquareModel", name := "chain", desc := "(II)I" } : MethodName) ∈ ztbl := zg (zt_4 (List.mem_of_getElem? (i := 49) rfl)) rfl
set_option maxRecDepth 20000 in
theorem zl_L_67 : zLk "AnswerSquareLaw" 67 mX4_chain := Or.inl zm_4_49
set_option maxRecDepth 20000 in
theorem zm_4_53 : Cond.methodLink "AnswerSquareModel" (167 : Nat) ({ cls := "AnswerSquareModel", name := "chainOf", desc := "(II)I" } : MethodName) ∈ ztbl := zg (zt_4 (List.mem_of_getElem? (i := 53) rfl)) rfl
set_option maxRecDepth 20000 in
theorem zl_X4_167 : zLk "AnswerSquareModel" 167 mX4_chainOf := Or.inl zm_4_53
set_option maxRecDepth 20000 in
theorem zm_4_57 : Cond.methodLink "AnswerSquareModel" (164 : Nat) ({ cls := "AnswerSquareModel", name := "nextOf", desc := "(I)I" } : MethodName) ∈ ztbl := zg (zt_4 (List.mem_of_getElem? (i := 57) rfl)) rfl
set_option maxRecDepth 20000 in
theorem zl_X4_164 : zLk "AnswerSquareModel" 164 mX4_nextOf := Or.inl zm_4_57
set_option maxRecDepth 20000 in
theorem zm_4_61 : Cond.methodLink "AnswerSquareModel" (161 : Nat) ({ cls := "AnswerSquareModel", name := "sayable", desc := "()I" } : MethodName) ∈ ztbl := zg (zt_4 (List.mem_of_getElem? (i := 61) rfl)) rfl
set_option maxRecDepth 20000 in
theorem zl_X4_161 : zLk "AnswerSquareModel" 161 mX4_sayable := Or.inl zm_4_61
set_option maxRecDepth 20000 in
theorem zm_4_65 : Cond.methodLink "AnswerSquareLaw" (71 : Nat) ({ cls := "AnswerSquareModel", name := "sounds", desc := "(I)I" } : MethodName) ∈ ztbl := zg (zt_4 (List.mem_of_getElem? (i := 65) rfl)) rfl
set_option maxRecDepth 20000 in
theorem zl_L_71 : zLk "AnswerSquareLaw" 71 mX4_sounds := Or.inl zm_4_65
set_option maxRecDepth 20000 in
theorem zm_4_69 : Cond.methodLink "AnswerSquareModel" (170 : Nat) ({ cls := "AnswerSquareModel", name := "manyOf", desc := "(I)I" } : MethodName) ∈ ztbl := zg (zt_4 (List.mem_of_getElem? (i := 69) rfl)) rfl
set_option maxRecDepth 20000 in
theorem zl_X4_170 : zLk "AnswerSquareModel" 170 mX4_manyOf := Or.inl zm_4_69
set_option maxRecDepth 20000 in
theorem zm_4_72 : Cond.methodLink "AnswerSquareModel" (173 : Nat) ({ cls := "AnswerSquareModel", name := "reach", desc := "(I)I" } : MethodName) ∈ ztbl := zg (zt_4 (List.mem_of_getElem? (i := 72) rfl)) rfl
set_option maxRecDepth 20000 in
theorem zl_X4_173 : zLk "AnswerSquareModel" 173 mX4_reach := Or.inl zm_4_72
set_option maxRecDepth 20000 in
theorem zm_4_76 : Cond.methodLink "AnswerSquareLaw" (75 : Nat) ({ cls := "AnswerSquareModel", name := "began", desc := "(I)I" } : MethodName) ∈ ztbl := zg (zt_4 (List.mem_of_getElem? (i := 76) rfl)) rfl
set_option maxRecDepth 20000 in
theorem zl_L_75 : zLk "AnswerSquareLaw" 75 mX4_began := Or.inl zm_4_76
set_option maxRecDepth 20000 in
theorem zm_4_80 : Cond.methodLink "AnswerSquareLaw" (80 : Nat) ({ cls := "AnswerSquareModel", name := "odds", desc := "(III)I" } : MethodName) ∈ ztbl := zg (zt_4 (List.mem_of_getElem? (i := 80) rfl)) rfl
set_option maxRecDepth 20000 in
theorem zl_L_80 : zLk "AnswerSquareLaw" 80 mX4_odds := Or.inl zm_4_80
set_option maxRecDepth 20000 in
theorem zm_4_84 : Cond.methodLink "AnswerSquareLaw" (84 : Nat) ({ cls := "AnswerSquareModel", name := "tells", desc := "(II)I" } : MethodName) ∈ ztbl := zg (zt_4 (List.mem_of_getElem? (i := 84) rfl)) rfl
set_option maxRecDepth 20000 in
theorem zl_L_84 : zLk "AnswerSquareLaw" 84 mX4_tells := Or.inl zm_4_84
set_option maxRecDepth 20000 in
theorem zm_4_88 : Cond.methodLink "AnswerSquareLaw" (88 : Nat) ({ cls := "AnswerSquareModel", name := "forget", desc := "()I" } : MethodName) ∈ ztbl := zg (zt_4 (List.mem_of_getElem? (i := 88) rfl)) rfl
set_option maxRecDepth 20000 in
theorem zl_L_88 : zLk "AnswerSquareLaw" 88 mX4_forget := Or.inl zm_4_88
set_option maxRecDepth 20000 in
theorem zm_4_92 : Cond.methodLink "AnswerSquareLaw" (92 : Nat) ({ cls := "AnswerSquareModel", name := "fits", desc := "()I" } : MethodName) ∈ ztbl := zg (zt_4 (List.mem_of_getElem? (i := 92) rfl)) rfl
set_option maxRecDepth 20000 in
theorem zl_L_92 : zLk "AnswerSquareLaw" 92 mX4_fits := Or.inl zm_4_92
set_option maxRecDepth 20000 in
theorem zm_4_96 : Cond.methodLink "AnswerSquareModel" (176 : Nat) ({ cls := "AnswerSquareModel", name := "firstOf", desc := "(I)I" } : MethodName) ∈ ztbl := zg (zt_4 (List.mem_of_getElem? (i := 96) rfl)) rfl
set_option maxRecDepth 20000 in
theorem zl_X4_176 : zLk "AnswerSquareModel" 176 mX4_firstOf := Or.inl zm_4_96
set_option maxRecDepth 20000 in
theorem zm_4_100 : Cond.methodLink "AnswerSquareLaw" (96 : Nat) ({ cls := "AnswerSquareModel", name := "orders", desc := "(I)I" } : MethodName) ∈ ztbl := zg (zt_4 (List.mem_of_getElem? (i := 100) rfl)) rfl
set_option maxRecDepth 20000 in
theorem zl_L_96 : zLk "AnswerSquareLaw" 96 mX4_orders := Or.inl zm_4_100
set_option maxRecDepth 20000 in
theorem zm_4_104 : Cond.methodLink "AnswerSquareModel" (179 : Nat) ({ cls := "AnswerSquareModel", name := "canCome", desc := "(III)Z" } : MethodName) ∈ ztbl := zg (zt_4 (List.mem_of_getElem? (i := 104) rfl)) rfl
set_option maxRecDepth 20000 in
theorem zl_X4_179 : zLk "AnswerSquareModel" 179 mX4_canCome := Or.inl zm_4_104
set_option maxRecDepth 20000 in
theorem zm_4_108 : Cond.methodLink "AnswerSquareLaw" (100 : Nat) ({ cls := "AnswerSquareModel", name := "mark", desc := "(II)I" } : MethodName) ∈ ztbl := zg (zt_4 (List.mem_of_getElem? (i := 108) rfl)) rfl
set_option maxRecDepth 20000 in
theorem zl_L_100 : zLk "AnswerSquareLaw" 100 mX4_mark := Or.inl zm_4_108
set_option maxRecDepth 20000 in
theorem zm_4_118 : Cond.methodLink "AnswerSquareLaw" (104 : Nat) ({ cls := "AnswerSquareModel", name := "keep", desc := "(I)I" } : MethodName) ∈ ztbl := zg (zt_4 (List.mem_of_getElem? (i := 118) rfl)) rfl
set_option maxRecDepth 20000 in
theorem zl_L_104 : zLk "AnswerSquareLaw" 104 mX4_keep := Or.inl zm_4_118
set_option maxRecDepth 20000 in
theorem zm_4_122 : Cond.methodLink "AnswerSquareLaw" (108 : Nat) ({ cls := "AnswerSquareModel", name := "back", desc := "(I)I" } : MethodName) ∈ ztbl := zg (zt_4 (List.mem_of_getElem? (i := 122) rfl)) rfl
set_option maxRecDepth 20000 in
theorem zl_L_108 : zLk "AnswerSquareLaw" 108 mX4_back := Or.inl zm_4_122
set_option maxRecDepth 20000 in
theorem zm_4_126 : Cond.methodLink "AnswerSquareLaw" (112 : Nat) ({ cls := "AnswerSquareModel", name := "count", desc := "(I)I" } : MethodName) ∈ ztbl := zg (zt_4 (List.mem_of_getElem? (i := 126) rfl)) rfl
set_option maxRecDepth 20000 in
theorem zl_L_112 : zLk "AnswerSquareLaw" 112 mX4_count := Or.inl zm_4_126
set_option maxRecDepth 20000 in
theorem zm_4_130 : Cond.methodLink "AnswerSquareLaw" (117 : Nat) ({ cls := "AnswerSquareModel", name := "trace", desc := "()J" } : MethodName) ∈ ztbl := zg (zt_4 (List.mem_of_getElem? (i := 130) rfl)) rfl
set_option maxRecDepth 20000 in
theorem zl_L_117 : zLk "AnswerSquareLaw" 117 mX4_trace := Or.inl zm_4_130
set_option maxRecDepth 20000 in
theorem zm_2_194 : Cond.constant "java/lang/Integer" (265 : Nat) (1431655765 : Int32) ∈ ztbl := zg (zt_2 (List.mem_of_getElem? (i := 194) rfl)) rfl
set_option maxRecDepth 20000 in
theorem zm_2_195 : Cond.constant "java/lang/Integer" (266 : Nat) (858993459 : Int32) ∈ ztbl := zg (zt_2 (List.mem_of_getElem? (i := 195) rfl)) rfl
set_option maxRecDepth 20000 in
theorem zm_2_196 : Cond.constant "java/lang/Integer" (267 : Nat) (252645135 : Int32) ∈ ztbl := zg (zt_2 (List.mem_of_getElem? (i := 196) rfl)) rfl
set_option maxRecDepth 20000 in
theorem zm_3_5 : Cond.constant "AnswerSquare" (240 : Nat) (-1000000 : Int32) ∈ ztbl := zg (zt_3 (List.mem_of_getElem? (i := 5) rfl)) rfl
set_option maxRecDepth 20000 in
theorem zm_3_14 : Cond.constantLong "AnswerSquare" (259 : Nat) (10 : Int64) ∈ ztbl := zg (zt_3 (List.mem_of_getElem? (i := 14) rfl)) rfl
set_option maxRecDepth 20000 in
theorem zm_3_24 : Cond.constantLong "AnswerSquare" (264 : Nat) (100 : Int64) ∈ ztbl := zg (zt_3 (List.mem_of_getElem? (i := 24) rfl)) rfl
set_option maxRecDepth 20000 in
theorem zm_3_29 : Cond.constantLong "AnswerSquare" (266 : Nat) (1000 : Int64) ∈ ztbl := zg (zt_3 (List.mem_of_getElem? (i := 29) rfl)) rfl
set_option maxRecDepth 20000 in
theorem zm_3_34 : Cond.constantLong "AnswerSquare" (268 : Nat) (10000 : Int64) ∈ ztbl := zg (zt_3 (List.mem_of_getElem? (i := 34) rfl)) rfl
set_option maxRecDepth 20000 in
theorem zm_3_39 : Cond.constantLong "AnswerSquare" (270 : Nat) (100000 : Int64) ∈ ztbl := zg (zt_3 (List.mem_of_getElem? (i := 39) rfl)) rfl
set_option maxRecDepth 20000 in
theorem zm_4_112 : Cond.constant "AnswerSquareModel" (182 : Nat) (-1000000 : Int32) ∈ ztbl := zg (zt_4 (List.mem_of_getElem? (i := 112) rfl)) rfl
set_option maxRecDepth 20000 in
theorem zm_4_113 : Cond.constantLong "AnswerSquareModel" (187 : Nat) (11 : Int64) ∈ ztbl := zg (zt_4 (List.mem_of_getElem? (i := 113) rfl)) rfl
set_option maxRecDepth 20000 in
theorem zm_4_114 : Cond.constantLong "AnswerSquareModel" (189 : Nat) (101 : Int64) ∈ ztbl := zg (zt_4 (List.mem_of_getElem? (i := 114) rfl)) rfl
set_option maxRecDepth 20000 in
theorem zm_4_115 : Cond.constantLong "AnswerSquareModel" (191 : Nat) (1011 : Int64) ∈ ztbl := zg (zt_4 (List.mem_of_getElem? (i := 115) rfl)) rfl
set_option maxRecDepth 20000 in
theorem zm_4_116 : Cond.constantLong "AnswerSquareModel" (193 : Nat) (10101 : Int64) ∈ ztbl := zg (zt_4 (List.mem_of_getElem? (i := 116) rfl)) rfl
set_option maxRecDepth 20000 in
theorem zm_4_117 : Cond.constantLong "AnswerSquareModel" (195 : Nat) (100001 : Int64) ∈ ztbl := zg (zt_4 (List.mem_of_getElem? (i := 117) rfl)) rfl
set_option maxRecDepth 20000 in
theorem zm_1_0 : Cond.initialized "AnswerSquareLaw" ∈ ztbl := zg (zt_1 (List.mem_of_getElem? (i := 0) rfl)) rfl
set_option maxRecDepth 20000 in
theorem zm_1_8 : Cond.initialized "java/lang/System" ∈ ztbl := zg (zt_1 (List.mem_of_getElem? (i := 8) rfl)) rfl
set_option maxRecDepth 20000 in
theorem zm_1_9 : Cond.classLink "AnswerSquareLaw" (7 : Nat) "AnswerSquare" ∈ ztbl := zg (zt_1 (List.mem_of_getElem? (i := 9) rfl)) rfl
set_option maxRecDepth 20000 in
theorem zm_1_10 : Cond.instantiable "AnswerSquare" (11 : Nat) ∈ ztbl := zg (zt_1 (List.mem_of_getElem? (i := 10) rfl)) rfl
set_option maxRecDepth 20000 in
theorem zm_1_12 : Cond.instanceMethod ({ cls := "AnswerSquare", name := "<init>", desc := "()V" } : MethodName) ∈ ztbl := zg (zt_1 (List.mem_of_getElem? (i := 12) rfl)) rfl
set_option maxRecDepth 20000 in
theorem zm_1_15 : Cond.instanceMethod ({ cls := "java/lang/Object", name := "<init>", desc := "()V" } : MethodName) ∈ ztbl := zg (zt_1 (List.mem_of_getElem? (i := 15) rfl)) rfl
set_option maxRecDepth 20000 in
theorem zm_1_17 : Cond.classLink "AnswerSquare" (9 : Nat) "AnswerSquare$Text" ∈ ztbl := zg (zt_1 (List.mem_of_getElem? (i := 17) rfl)) rfl
set_option maxRecDepth 20000 in
theorem zm_1_18 : Cond.instantiable "AnswerSquare$Text" (6 : Nat) ∈ ztbl := zg (zt_1 (List.mem_of_getElem? (i := 18) rfl)) rfl
set_option maxRecDepth 20000 in
theorem zm_1_20 : Cond.instanceMethod ({ cls := "AnswerSquare$Text", name := "<init>", desc := "()V" } : MethodName) ∈ ztbl := zg (zt_1 (List.mem_of_getElem? (i := 20) rfl)) rfl
set_option maxRecDepth 20000 in
theorem zm_1_46 : Cond.arrayClass FieldType.int ∈ ztbl := zg (zt_1 (List.mem_of_getElem? (i := 46) rfl)) rfl
set_option maxRecDepth 20000 in
theorem zm_1_47 : Cond.classLink "AnswerSquare" (16 : Nat) "AnswerSquare$Duchy" ∈ ztbl := zg (zt_1 (List.mem_of_getElem? (i := 47) rfl)) rfl
set_option maxRecDepth 20000 in
theorem zm_1_48 : Cond.instantiable "AnswerSquare$Duchy" (9 : Nat) ∈ ztbl := zg (zt_1 (List.mem_of_getElem? (i := 48) rfl)) rfl
set_option maxRecDepth 20000 in
theorem zm_1_50 : Cond.instanceMethod ({ cls := "AnswerSquare$Duchy", name := "<init>", desc := "()V" } : MethodName) ∈ ztbl := zg (zt_1 (List.mem_of_getElem? (i := 50) rfl)) rfl
set_option maxRecDepth 20000 in
theorem zm_1_89 : Cond.classLink "AnswerSquare" (26 : Nat) "AnswerSquare$Moment" ∈ ztbl := zg (zt_1 (List.mem_of_getElem? (i := 89) rfl)) rfl
set_option maxRecDepth 20000 in
theorem zm_1_90 : Cond.instantiable "AnswerSquare$Moment" (11 : Nat) ∈ ztbl := zg (zt_1 (List.mem_of_getElem? (i := 90) rfl)) rfl
set_option maxRecDepth 20000 in
theorem zm_1_92 : Cond.instanceMethod ({ cls := "AnswerSquare$Moment", name := "<init>", desc := "()V" } : MethodName) ∈ ztbl := zg (zt_1 (List.mem_of_getElem? (i := 92) rfl)) rfl
set_option maxRecDepth 20000 in
theorem zm_3_53 : Cond.static ({ cls := "java/lang/System", name := "arraycopy", desc := "(Ljava/lang/Object;ILjava/lang/Object;II)V" } : MethodName) ∈ ztbl := zg (zt_3 (List.mem_of_getElem? (i := 53) rfl)) rfl
set_option maxRecDepth 20000 in
theorem zm_3_54 : Cond.native ({ cls := "java/lang/System", name := "arraycopy", desc := "(Ljava/lang/Object;ILjava/lang/Object;II)V" } : MethodName) ∈ ztbl := zg (zt_3 (List.mem_of_getElem? (i := 54) rfl)) rfl
set_option maxRecDepth 20000 in
theorem zm_3_67 : Cond.classLink "AnswerSquareLaw" (10 : Nat) "AnswerSquareModel" ∈ ztbl := zg (zt_3 (List.mem_of_getElem? (i := 67) rfl)) rfl
set_option maxRecDepth 20000 in
theorem zm_3_68 : Cond.instantiable "AnswerSquareModel" (22 : Nat) ∈ ztbl := zg (zt_3 (List.mem_of_getElem? (i := 68) rfl)) rfl
set_option maxRecDepth 20000 in
theorem zm_3_70 : Cond.instanceMethod ({ cls := "AnswerSquareModel", name := "<init>", desc := "()V" } : MethodName) ∈ ztbl := zg (zt_3 (List.mem_of_getElem? (i := 70) rfl)) rfl
set_option maxRecDepth 20000 in
theorem zm_3_148 : Cond.arrayClass FieldType.byte ∈ ztbl := zg (zt_3 (List.mem_of_getElem? (i := 148) rfl)) rfl
set_option maxRecDepth 20000 in
theorem zm_3_149 : Cond.arrayClass FieldType.boolean ∈ ztbl := zg (zt_3 (List.mem_of_getElem? (i := 149) rfl)) rfl
