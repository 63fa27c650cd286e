theorem mem_tables_1_1 {w : Cond} (i : Nat) (h : tables_1_1[i]? = some w) (hg : goodWord w = true) : w ∈ TB := tb_in (List.mem_append_right _ (List.mem_append_left _ (List.mem_of_getElem? h))) hg
theorem mem_tables_1_2 {w : Cond} (i : Nat) (h : tables_1_2[i]? = some w) (hg : goodWord w = true) : w ∈ TB := tb_in (List.mem_append_right _ (List.mem_append_right _ (List.mem_append_left _ (List.mem_of_getElem? h)))) hg
theorem mem_tables_1_3 {w : Cond} (i : Nat) (h : tables_1_3[i]? = some w) (hg : goodWord w = true) : w ∈ TB := tb_in (List.mem_append_right _ (List.mem_append_right _ (List.mem_append_right _ (List.mem_append_left _ (List.mem_of_getElem? h))))) hg
theorem mem_tables_1_4 {w : Cond} (i : Nat) (h : tables_1_4[i]? = some w) (hg : goodWord w = true) : w ∈ TB := tb_in (List.mem_append_right _ (List.mem_append_right _ (List.mem_append_right _ (List.mem_append_right _ (List.mem_of_getElem? h))))) hg
set_option maxRecDepth 20000 in
theorem m_c_Desk_9 : Cond.classLink R_Desk 9 R_Game ∈ TB := mem_tables_1_1 20 rfl rfl
set_option maxRecDepth 20000 in
theorem m_c_Game_15 : Cond.classLink R_Game 15 R_Draws ∈ TB := mem_tables_1_1 26 rfl rfl
set_option maxRecDepth 20000 in
theorem m_c_Game_22 : Cond.classLink R_Game 22 R_Maker ∈ TB := mem_tables_1_1 39 rfl rfl
set_option maxRecDepth 20000 in
theorem m_c_Game_29 : Cond.classLink R_Game 29 R_Level ∈ TB := mem_tables_1_1 64 rfl rfl
set_option maxRecDepth 20000 in
theorem m_c_Game_36 : Cond.classLink R_Game 36 R_Monsters ∈ TB := mem_tables_1_1 88 rfl rfl
set_option maxRecDepth 20000 in
theorem m_c_Game_43 : Cond.classLink R_Game 43 R_Distances ∈ TB := mem_tables_1_1 125 rfl rfl
set_option maxRecDepth 20000 in
theorem m_c_Game_50 : Cond.classLink R_Game 50 R_Hero ∈ TB := mem_tables_1_1 142 rfl rfl
set_option maxRecDepth 20000 in
theorem m_c_Maker_9 : Cond.classLink R_Maker 9 R_Draws ∈ TB := mem_tables_1_1 45 rfl rfl
set_option maxRecDepth 20000 in
theorem m_f_Desk_100 : Cond.fieldLink R_Desk 100 "DungeonDesk$Monsters" "awake" "[I" ∈ TB := mem_tables_1_1 107 rfl rfl
set_option maxRecDepth 20000 in
theorem m_f_Desk_107 : Cond.fieldLink R_Desk 107 "DungeonDesk$Hero" "health" "I" ∈ TB := mem_tables_1_1 157 rfl rfl
set_option maxRecDepth 20000 in
theorem m_f_Desk_109 : Cond.fieldLink R_Desk 109 "DungeonDesk$Hero" "hit" "I" ∈ TB := mem_tables_1_1 160 rfl rfl
set_option maxRecDepth 20000 in
theorem m_f_Desk_112 : Cond.fieldLink R_Desk 112 "DungeonDesk$Hero" "energy" "I" ∈ TB := mem_tables_1_1 162 rfl rfl
set_option maxRecDepth 20000 in
theorem m_f_Desk_114 : Cond.fieldLink R_Desk 114 "DungeonDesk$Hero" "haste" "I" ∈ TB := mem_tables_1_1 166 rfl rfl
set_option maxRecDepth 20000 in
theorem m_f_Desk_117 : Cond.fieldLink R_Desk 117 "DungeonDesk$Game" "depth" "I" ∈ TB := mem_tables_1_1 198 rfl rfl
set_option maxRecDepth 20000 in
theorem m_f_Desk_120 : Cond.fieldLink R_Desk 120 "DungeonDesk$Hero" "bagSize" "I" ∈ TB := mem_tables_1_1 169 rfl rfl
set_option maxRecDepth 20000 in
theorem m_f_Desk_14 : Cond.fieldLink R_Desk 14 "DungeonDesk" "game" "LDungeonDesk$Game;" ∈ TB := mem_tables_1_2 104 rfl rfl
set_option maxRecDepth 20000 in
theorem m_f_Desk_142 : Cond.fieldLink R_Desk 142 "DungeonDesk$Game" "play" "LDungeonDesk$Draws;" ∈ TB := mem_tables_1_1 187 rfl rfl
set_option maxRecDepth 20000 in
theorem m_f_Desk_146 : Cond.fieldLink R_Desk 146 "DungeonDesk$Draws" "state" "J" ∈ TB := mem_tables_1_1 35 rfl rfl
set_option maxRecDepth 20000 in
theorem m_f_Desk_154 : Cond.fieldLink R_Desk 154 "DungeonDesk$Monsters" "made" "I" ∈ TB := mem_tables_1_1 111 rfl rfl
set_option maxRecDepth 20000 in
theorem m_f_Desk_157 : Cond.fieldLink R_Desk 157 "DungeonDesk$Game" "slain" "I" ∈ TB := mem_tables_1_1 202 rfl rfl
set_option maxRecDepth 20000 in
theorem m_f_Desk_171 : Cond.fieldLink R_Desk 171 "DungeonDesk$Game" "won" "Z" ∈ TB := mem_tables_1_1 204 rfl rfl
set_option maxRecDepth 20000 in
theorem m_f_Desk_175 : Cond.fieldLink R_Desk 175 "DungeonDesk$Distances" "greatest" "I" ∈ TB := mem_tables_1_1 134 rfl rfl
set_option maxRecDepth 20000 in
theorem m_f_Desk_18 : Cond.fieldLink R_Desk 18 "DungeonDesk" "keys" "[I" ∈ TB := mem_tables_1_2 105 rfl rfl
set_option maxRecDepth 20000 in
theorem m_f_Desk_22 : Cond.fieldLink R_Desk 22 "DungeonDesk" "keyCount" "I" ∈ TB := mem_tables_1_2 106 rfl rfl
set_option maxRecDepth 20000 in
theorem m_f_Desk_33 : Cond.fieldLink R_Desk 33 "DungeonDesk$Game" "ticks" "I" ∈ TB := mem_tables_1_1 200 rfl rfl
set_option maxRecDepth 20000 in
theorem m_f_Desk_36 : Cond.fieldLink R_Desk 36 "DungeonDesk$Game" "level" "LDungeonDesk$Level;" ∈ TB := mem_tables_1_1 190 rfl rfl
set_option maxRecDepth 20000 in
theorem m_f_Desk_40 : Cond.fieldLink R_Desk 40 "DungeonDesk$Level" "ground" "[I" ∈ TB := mem_tables_1_1 71 rfl rfl
set_option maxRecDepth 20000 in
theorem m_f_Desk_45 : Cond.fieldLink R_Desk 45 "DungeonDesk$Game" "hero" "LDungeonDesk$Hero;" ∈ TB := mem_tables_1_1 196 rfl rfl
set_option maxRecDepth 20000 in
theorem m_f_Desk_49 : Cond.fieldLink R_Desk 49 "DungeonDesk$Hero" "place" "I" ∈ TB := mem_tables_1_1 154 rfl rfl
set_option maxRecDepth 20000 in
theorem m_f_Desk_58 : Cond.fieldLink R_Desk 58 "DungeonDesk$Level" "known" "[I" ∈ TB := mem_tables_1_1 75 rfl rfl
set_option maxRecDepth 20000 in
theorem m_f_Desk_64 : Cond.fieldLink R_Desk 64 "DungeonDesk$Level" "things" "[I" ∈ TB := mem_tables_1_1 73 rfl rfl
set_option maxRecDepth 20000 in
theorem m_f_Desk_67 : Cond.fieldLink R_Desk 67 "DungeonDesk$Game" "distances" "LDungeonDesk$Distances;" ∈ TB := mem_tables_1_1 194 rfl rfl
set_option maxRecDepth 20000 in
theorem m_f_Desk_76 : Cond.fieldLink R_Desk 76 "DungeonDesk$Game" "monsters" "LDungeonDesk$Monsters;" ∈ TB := mem_tables_1_1 192 rfl rfl
set_option maxRecDepth 20000 in
theorem m_f_Desk_89 : Cond.fieldLink R_Desk 89 "DungeonDesk$Monsters" "kind" "[I" ∈ TB := mem_tables_1_1 95 rfl rfl
set_option maxRecDepth 20000 in
theorem m_f_Desk_92 : Cond.fieldLink R_Desk 92 "DungeonDesk$Monsters" "place" "[I" ∈ TB := mem_tables_1_1 98 rfl rfl
set_option maxRecDepth 20000 in
theorem m_f_Desk_94 : Cond.fieldLink R_Desk 94 "DungeonDesk$Monsters" "health" "[I" ∈ TB := mem_tables_1_1 101 rfl rfl
set_option maxRecDepth 20000 in
theorem m_f_Desk_97 : Cond.fieldLink R_Desk 97 "DungeonDesk$Monsters" "energy" "[I" ∈ TB := mem_tables_1_1 104 rfl rfl
set_option maxRecDepth 20000 in
theorem m_f_Distances_15 : Cond.fieldLink R_Distances 15 "DungeonDesk$Distances" "queue" "[I" ∈ TB := mem_tables_1_1 132 rfl rfl
set_option maxRecDepth 20000 in
theorem m_f_Distances_18 : Cond.fieldLink R_Distances 18 "DungeonDesk$Distances" "greatest" "I" ∈ TB := mem_tables_1_1 133 rfl rfl
set_option maxRecDepth 20000 in
theorem m_f_Distances_9 : Cond.fieldLink R_Distances 9 "DungeonDesk$Distances" "steps" "[I" ∈ TB := mem_tables_1_1 131 rfl rfl
set_option maxRecDepth 20000 in
theorem m_f_Draws_7 : Cond.fieldLink R_Draws 7 "DungeonDesk$Draws" "state" "J" ∈ TB := mem_tables_1_1 32 rfl rfl
set_option maxRecDepth 20000 in
theorem m_f_Game_109 : Cond.fieldLink R_Game 109 "DungeonDesk$Hero" "place" "I" ∈ TB := mem_tables_1_1 153 rfl rfl
set_option maxRecDepth 20000 in
theorem m_f_Game_123 : Cond.fieldLink R_Game 123 "DungeonDesk$Hero" "hit" "I" ∈ TB := mem_tables_1_1 159 rfl rfl
set_option maxRecDepth 20000 in
theorem m_f_Game_155 : Cond.fieldLink R_Game 155 "DungeonDesk$Hero" "health" "I" ∈ TB := mem_tables_1_1 156 rfl rfl
set_option maxRecDepth 20000 in
theorem m_f_Game_166 : Cond.fieldLink R_Game 166 "DungeonDesk$Hero" "haste" "I" ∈ TB := mem_tables_1_1 165 rfl rfl
set_option maxRecDepth 20000 in
theorem m_f_Game_178 : Cond.fieldLink R_Game 178 "DungeonDesk$Hero" "energy" "I" ∈ TB := mem_tables_1_1 163 rfl rfl
set_option maxRecDepth 20000 in
theorem m_f_Game_18 : Cond.fieldLink R_Game 18 "DungeonDesk$Game" "play" "LDungeonDesk$Draws;" ∈ TB := mem_tables_1_1 186 rfl rfl
set_option maxRecDepth 20000 in
theorem m_f_Game_181 : Cond.fieldLink R_Game 181 "DungeonDesk$Monsters" "made" "I" ∈ TB := mem_tables_1_1 110 rfl rfl
set_option maxRecDepth 20000 in
theorem m_f_Game_190 : Cond.fieldLink R_Game 190 "DungeonDesk$Monsters" "energy" "[I" ∈ TB := mem_tables_1_1 105 rfl rfl
set_option maxRecDepth 20000 in
theorem m_f_Game_193 : Cond.fieldLink R_Game 193 "DungeonDesk$Monsters" "SPEED_OF" "[I" ∈ TB := mem_tables_1_2 201 rfl rfl
set_option maxRecDepth 20000 in
theorem m_f_Game_196 : Cond.fieldLink R_Game 196 "DungeonDesk$Monsters" "kind" "[I" ∈ TB := mem_tables_1_1 96 rfl rfl
set_option maxRecDepth 20000 in
theorem m_f_Game_202 : Cond.fieldLink R_Game 202 "DungeonDesk$Monsters" "place" "[I" ∈ TB := mem_tables_1_1 99 rfl rfl
set_option maxRecDepth 20000 in
theorem m_f_Game_204 : Cond.fieldLink R_Game 204 "DungeonDesk$Monsters" "awake" "[I" ∈ TB := mem_tables_1_1 108 rfl rfl
set_option maxRecDepth 20000 in
theorem m_f_Game_214 : Cond.fieldLink R_Game 214 "DungeonDesk$Monsters" "health" "[I" ∈ TB := mem_tables_1_1 102 rfl rfl
set_option maxRecDepth 20000 in
theorem m_f_Game_222 : Cond.fieldLink R_Game 222 "DungeonDesk$Monsters" "HIT_OF" "[I" ∈ TB := mem_tables_1_2 212 rfl rfl
set_option maxRecDepth 20000 in
theorem m_f_Game_25 : Cond.fieldLink R_Game 25 "DungeonDesk$Game" "maker" "LDungeonDesk$Maker;" ∈ TB := mem_tables_1_1 188 rfl rfl
set_option maxRecDepth 20000 in
theorem m_f_Game_32 : Cond.fieldLink R_Game 32 "DungeonDesk$Game" "level" "LDungeonDesk$Level;" ∈ TB := mem_tables_1_1 189 rfl rfl
set_option maxRecDepth 20000 in
theorem m_f_Game_39 : Cond.fieldLink R_Game 39 "DungeonDesk$Game" "monsters" "LDungeonDesk$Monsters;" ∈ TB := mem_tables_1_1 191 rfl rfl
set_option maxRecDepth 20000 in
theorem m_f_Game_46 : Cond.fieldLink R_Game 46 "DungeonDesk$Game" "distances" "LDungeonDesk$Distances;" ∈ TB := mem_tables_1_1 193 rfl rfl
set_option maxRecDepth 20000 in
theorem m_f_Game_53 : Cond.fieldLink R_Game 53 "DungeonDesk$Game" "hero" "LDungeonDesk$Hero;" ∈ TB := mem_tables_1_1 195 rfl rfl
set_option maxRecDepth 20000 in
theorem m_f_Game_57 : Cond.fieldLink R_Game 57 "DungeonDesk$Game" "depth" "I" ∈ TB := mem_tables_1_1 197 rfl rfl
set_option maxRecDepth 20000 in
theorem m_f_Game_60 : Cond.fieldLink R_Game 60 "DungeonDesk$Game" "ticks" "I" ∈ TB := mem_tables_1_1 199 rfl rfl
set_option maxRecDepth 20000 in
theorem m_f_Game_63 : Cond.fieldLink R_Game 63 "DungeonDesk$Game" "slain" "I" ∈ TB := mem_tables_1_1 201 rfl rfl
set_option maxRecDepth 20000 in
theorem m_f_Game_66 : Cond.fieldLink R_Game 66 "DungeonDesk$Game" "won" "Z" ∈ TB := mem_tables_1_1 203 rfl rfl
set_option maxRecDepth 20000 in
theorem m_f_Game_70 : Cond.fieldLink R_Game 70 "DungeonDesk$Draws" "state" "J" ∈ TB := mem_tables_1_1 33 rfl rfl
set_option maxRecDepth 20000 in
theorem m_f_Game_81 : Cond.fieldLink R_Game 81 "DungeonDesk$Level" "start" "I" ∈ TB := mem_tables_1_1 77 rfl rfl
set_option maxRecDepth 20000 in
theorem m_f_Game_9 : Cond.fieldLink R_Game 9 "DungeonDesk$Game" "seed" "I" ∈ TB := mem_tables_1_1 185 rfl rfl
set_option maxRecDepth 20000 in
theorem m_f_Hero_11 : Cond.fieldLink R_Hero 11 "DungeonDesk$Hero" "bag" "[I" ∈ TB := mem_tables_1_1 167 rfl rfl
set_option maxRecDepth 20000 in
theorem m_f_Hero_18 : Cond.fieldLink R_Hero 18 "DungeonDesk$Hero" "place" "I" ∈ TB := mem_tables_1_1 152 rfl rfl
set_option maxRecDepth 20000 in
theorem m_f_Hero_22 : Cond.fieldLink R_Hero 22 "DungeonDesk$Hero" "health" "I" ∈ TB := mem_tables_1_1 155 rfl rfl
set_option maxRecDepth 20000 in
theorem m_f_Hero_25 : Cond.fieldLink R_Hero 25 "DungeonDesk$Hero" "hit" "I" ∈ TB := mem_tables_1_1 158 rfl rfl
set_option maxRecDepth 20000 in
theorem m_f_Hero_30 : Cond.fieldLink R_Hero 30 "DungeonDesk$Hero" "energy" "I" ∈ TB := mem_tables_1_1 161 rfl rfl
set_option maxRecDepth 20000 in
theorem m_f_Hero_33 : Cond.fieldLink R_Hero 33 "DungeonDesk$Hero" "haste" "I" ∈ TB := mem_tables_1_1 164 rfl rfl
set_option maxRecDepth 20000 in
theorem m_f_Hero_36 : Cond.fieldLink R_Hero 36 "DungeonDesk$Hero" "bagSize" "I" ∈ TB := mem_tables_1_1 168 rfl rfl
set_option maxRecDepth 20000 in
theorem m_f_Level_15 : Cond.fieldLink R_Level 15 "DungeonDesk$Level" "things" "[I" ∈ TB := mem_tables_1_1 72 rfl rfl
set_option maxRecDepth 20000 in
theorem m_f_Level_18 : Cond.fieldLink R_Level 18 "DungeonDesk$Level" "known" "[I" ∈ TB := mem_tables_1_1 74 rfl rfl
set_option maxRecDepth 20000 in
theorem m_f_Level_21 : Cond.fieldLink R_Level 21 "DungeonDesk$Level" "start" "I" ∈ TB := mem_tables_1_1 76 rfl rfl
set_option maxRecDepth 20000 in
theorem m_f_Level_31 : Cond.fieldLink R_Level 31 "DungeonDesk$Level" "STEPS" "[I" ∈ TB := mem_tables_1_2 102 rfl rfl
set_option maxRecDepth 20000 in
theorem m_f_Level_9 : Cond.fieldLink R_Level 9 "DungeonDesk$Level" "ground" "[I" ∈ TB := mem_tables_1_1 70 rfl rfl
set_option maxRecDepth 20000 in
theorem m_f_Maker_12 : Cond.fieldLink R_Maker 12 "DungeonDesk$Maker" "making" "LDungeonDesk$Draws;" ∈ TB := mem_tables_1_1 47 rfl rfl
set_option maxRecDepth 20000 in
theorem m_f_Maker_18 : Cond.fieldLink R_Maker 18 "DungeonDesk$Maker" "left" "[I" ∈ TB := mem_tables_1_1 48 rfl rfl
set_option maxRecDepth 20000 in
theorem m_f_Maker_22 : Cond.fieldLink R_Maker 22 "DungeonDesk$Maker" "top" "[I" ∈ TB := mem_tables_1_1 49 rfl rfl
set_option maxRecDepth 20000 in
theorem m_f_Maker_25 : Cond.fieldLink R_Maker 25 "DungeonDesk$Maker" "width" "[I" ∈ TB := mem_tables_1_1 50 rfl rfl
set_option maxRecDepth 20000 in
theorem m_f_Maker_28 : Cond.fieldLink R_Maker 28 "DungeonDesk$Maker" "height" "[I" ∈ TB := mem_tables_1_1 51 rfl rfl
set_option maxRecDepth 20000 in
theorem m_f_Maker_33 : Cond.fieldLink R_Maker 33 "DungeonDesk$Draws" "state" "J" ∈ TB := mem_tables_1_1 34 rfl rfl
set_option maxRecDepth 20000 in
theorem m_f_Maker_67 : Cond.fieldLink R_Maker 67 "DungeonDesk$Level" "start" "I" ∈ TB := mem_tables_1_1 78 rfl rfl
set_option maxRecDepth 20000 in
theorem m_f_Model_102 : Cond.fieldLink R_Model 102 "DungeonDeskModel" "went" "I" ∈ TB := mem_tables_1_3 141 rfl rfl
set_option maxRecDepth 20000 in
theorem m_f_Model_105 : Cond.fieldLink R_Model 105 "DungeonDeskModel" "recorded" "I" ∈ TB := mem_tables_1_3 145 rfl rfl
set_option maxRecDepth 20000 in
theorem m_f_Model_120 : Cond.fieldLink R_Model 120 "DungeonDeskModel" "level" "I" ∈ TB := mem_tables_1_3 138 rfl rfl
set_option maxRecDepth 20000 in
theorem m_f_Model_129 : Cond.fieldLink R_Model 129 "DungeonDeskModel" "px" "I" ∈ TB := mem_tables_1_3 132 rfl rfl
set_option maxRecDepth 20000 in
theorem m_f_Model_13 : Cond.fieldLink R_Model 13 "DungeonDeskModel" "thing" "[I" ∈ TB := mem_tables_1_3 117 rfl rfl
set_option maxRecDepth 20000 in
theorem m_f_Model_132 : Cond.fieldLink R_Model 132 "DungeonDeskModel" "py" "I" ∈ TB := mem_tables_1_3 133 rfl rfl
set_option maxRecDepth 20000 in
theorem m_f_Model_135 : Cond.fieldLink R_Model 135 "DungeonDeskModel" "power" "I" ∈ TB := mem_tables_1_3 136 rfl rfl
set_option maxRecDepth 20000 in
theorem m_f_Model_138 : Cond.fieldLink R_Model 138 "DungeonDeskModel" "monsters" "I" ∈ TB := mem_tables_1_3 127 rfl rfl
set_option maxRecDepth 20000 in
theorem m_f_Model_16 : Cond.fieldLink R_Model 16 "DungeonDeskModel" "distance" "[I" ∈ TB := mem_tables_1_3 118 rfl rfl
set_option maxRecDepth 20000 in
theorem m_f_Model_19 : Cond.fieldLink R_Model 19 "DungeonDeskModel" "known" "[Z" ∈ TB := mem_tables_1_3 119 rfl rfl
set_option maxRecDepth 20000 in
theorem m_f_Model_23 : Cond.fieldLink R_Model 23 "DungeonDeskModel" "kind" "[I" ∈ TB := mem_tables_1_3 120 rfl rfl
set_option maxRecDepth 20000 in
theorem m_f_Model_26 : Cond.fieldLink R_Model 26 "DungeonDeskModel" "mx" "[I" ∈ TB := mem_tables_1_3 121 rfl rfl
set_option maxRecDepth 20000 in
theorem m_f_Model_29 : Cond.fieldLink R_Model 29 "DungeonDeskModel" "my" "[I" ∈ TB := mem_tables_1_3 122 rfl rfl
set_option maxRecDepth 20000 in
theorem m_f_Model_32 : Cond.fieldLink R_Model 32 "DungeonDeskModel" "health" "[I" ∈ TB := mem_tables_1_3 123 rfl rfl
set_option maxRecDepth 20000 in
theorem m_f_Model_35 : Cond.fieldLink R_Model 35 "DungeonDeskModel" "energy" "[I" ∈ TB := mem_tables_1_3 124 rfl rfl
set_option maxRecDepth 20000 in
theorem m_f_Model_38 : Cond.fieldLink R_Model 38 "DungeonDeskModel" "awake" "[Z" ∈ TB := mem_tables_1_3 125 rfl rfl
set_option maxRecDepth 20000 in
theorem m_f_Model_41 : Cond.fieldLink R_Model 41 "DungeonDeskModel" "gone" "[Z" ∈ TB := mem_tables_1_3 126 rfl rfl
set_option maxRecDepth 20000 in
theorem m_f_Model_44 : Cond.fieldLink R_Model 44 "DungeonDeskModel" "left" "[I" ∈ TB := mem_tables_1_3 128 rfl rfl
set_option maxRecDepth 20000 in
theorem m_f_Model_47 : Cond.fieldLink R_Model 47 "DungeonDeskModel" "top" "[I" ∈ TB := mem_tables_1_3 129 rfl rfl
set_option maxRecDepth 20000 in
theorem m_f_Model_50 : Cond.fieldLink R_Model 50 "DungeonDeskModel" "wide" "[I" ∈ TB := mem_tables_1_3 130 rfl rfl
set_option maxRecDepth 20000 in
theorem m_f_Model_53 : Cond.fieldLink R_Model 53 "DungeonDeskModel" "high" "[I" ∈ TB := mem_tables_1_3 131 rfl rfl
set_option maxRecDepth 20000 in
theorem m_f_Model_56 : Cond.fieldLink R_Model 56 "DungeonDeskModel" "bag" "[I" ∈ TB := mem_tables_1_3 142 rfl rfl
set_option maxRecDepth 20000 in
theorem m_f_Model_59 : Cond.fieldLink R_Model 59 "DungeonDeskModel" "keys" "[I" ∈ TB := mem_tables_1_3 144 rfl rfl
set_option maxRecDepth 20000 in
theorem m_f_Model_62 : Cond.fieldLink R_Model 62 "DungeonDeskModel" "seed" "I" ∈ TB := mem_tables_1_3 113 rfl rfl
set_option maxRecDepth 20000 in
theorem m_f_Model_7 : Cond.fieldLink R_Model 7 "DungeonDeskModel" "floor" "[I" ∈ TB := mem_tables_1_3 116 rfl rfl
set_option maxRecDepth 20000 in
theorem m_f_Model_73 : Cond.fieldLink R_Model 73 "DungeonDeskModel" "making" "J" ∈ TB := mem_tables_1_3 114 rfl rfl
set_option maxRecDepth 20000 in
theorem m_f_Model_81 : Cond.fieldLink R_Model 81 "DungeonDeskModel" "play" "J" ∈ TB := mem_tables_1_3 115 rfl rfl
set_option maxRecDepth 20000 in
theorem m_f_Model_84 : Cond.fieldLink R_Model 84 "DungeonDeskModel" "life" "I" ∈ TB := mem_tables_1_3 134 rfl rfl
set_option maxRecDepth 20000 in
theorem m_f_Model_87 : Cond.fieldLink R_Model 87 "DungeonDeskModel" "hit" "I" ∈ TB := mem_tables_1_3 135 rfl rfl
set_option maxRecDepth 20000 in
theorem m_f_Model_90 : Cond.fieldLink R_Model 90 "DungeonDeskModel" "haste" "I" ∈ TB := mem_tables_1_3 137 rfl rfl
set_option maxRecDepth 20000 in
theorem m_f_Model_93 : Cond.fieldLink R_Model 93 "DungeonDeskModel" "things" "I" ∈ TB := mem_tables_1_3 143 rfl rfl
set_option maxRecDepth 20000 in
theorem m_f_Model_96 : Cond.fieldLink R_Model 96 "DungeonDeskModel" "state" "I" ∈ TB := mem_tables_1_3 139 rfl rfl
set_option maxRecDepth 20000 in
theorem m_f_Model_99 : Cond.fieldLink R_Model 99 "DungeonDeskModel" "ticks" "I" ∈ TB := mem_tables_1_3 140 rfl rfl
set_option maxRecDepth 20000 in
theorem m_f_Monsters_11 : Cond.fieldLink R_Monsters 11 "DungeonDesk$Monsters" "kind" "[I" ∈ TB := mem_tables_1_1 94 rfl rfl
set_option maxRecDepth 20000 in
theorem m_f_Monsters_15 : Cond.fieldLink R_Monsters 15 "DungeonDesk$Monsters" "place" "[I" ∈ TB := mem_tables_1_1 97 rfl rfl
set_option maxRecDepth 20000 in
theorem m_f_Monsters_18 : Cond.fieldLink R_Monsters 18 "DungeonDesk$Monsters" "health" "[I" ∈ TB := mem_tables_1_1 100 rfl rfl
set_option maxRecDepth 20000 in
theorem m_f_Monsters_21 : Cond.fieldLink R_Monsters 21 "DungeonDesk$Monsters" "energy" "[I" ∈ TB := mem_tables_1_1 103 rfl rfl
set_option maxRecDepth 20000 in
theorem m_f_Monsters_24 : Cond.fieldLink R_Monsters 24 "DungeonDesk$Monsters" "awake" "[I" ∈ TB := mem_tables_1_1 106 rfl rfl
set_option maxRecDepth 20000 in
theorem m_f_Monsters_27 : Cond.fieldLink R_Monsters 27 "DungeonDesk$Monsters" "made" "I" ∈ TB := mem_tables_1_1 109 rfl rfl
set_option maxRecDepth 20000 in
theorem m_f_Monsters_31 : Cond.fieldLink R_Monsters 31 "DungeonDesk$Monsters" "HEALTH_OF" "[I" ∈ TB := mem_tables_1_2 57 rfl rfl
set_option maxRecDepth 20000 in
theorem m_kl_Desk_126 : Cond.constantLong R_Desk 126 17 ∈ TB := mem_tables_1_3 16 rfl rfl
set_option maxRecDepth 20000 in
theorem m_kl_Desk_152 : Cond.constantLong R_Desk 152 1000003 ∈ TB := mem_tables_1_3 20 rfl rfl
set_option maxRecDepth 20000 in
theorem m_kl_Draws_13 : Cond.constantLong R_Draws 13 6364136223846793005 ∈ TB := mem_tables_1_2 17 rfl rfl
set_option maxRecDepth 20000 in
theorem m_kl_Draws_15 : Cond.constantLong R_Draws 15 1442695040888963407 ∈ TB := mem_tables_1_2 18 rfl rfl
set_option maxRecDepth 20000 in
theorem m_kl_Maker_31 : Cond.constantLong R_Maker 31 1000003 ∈ TB := mem_tables_1_1 237 rfl rfl
set_option maxRecDepth 20000 in
theorem m_kl_Model_123 : Cond.constantLong R_Model 123 1000003 ∈ TB := mem_tables_1_3 65 rfl rfl
set_option maxRecDepth 20000 in
theorem m_kl_Model_214 : Cond.constantLong R_Model 214 17 ∈ TB := mem_tables_1_4 54 rfl rfl
set_option maxRecDepth 20000 in
theorem m_kl_Model_69 : Cond.constantLong R_Model 69 6364136223846793005 ∈ TB := mem_tables_1_3 73 rfl rfl
set_option maxRecDepth 20000 in
theorem m_kl_Model_71 : Cond.constantLong R_Model 71 1442695040888963407 ∈ TB := mem_tables_1_3 74 rfl rfl
set_option maxRecDepth 20000 in
theorem m_m_Desk_103 : Cond.methodLink R_Desk 103 y_Hero_isDead ∈ TB := mem_tables_1_3 6 rfl rfl
set_option maxRecDepth 20000 in
theorem m_m_Desk_11 : Cond.methodLink R_Desk 11 y_Game_init ∈ TB := mem_tables_1_1 22 rfl rfl
set_option maxRecDepth 20000 in
theorem m_m_Desk_123 : Cond.methodLink R_Desk 123 y_Hero_thingInBag ∈ TB := mem_tables_1_3 7 rfl rfl
set_option maxRecDepth 20000 in
theorem m_m_Desk_128 : Cond.methodLink R_Desk 128 y_Desk_mix ∈ TB := mem_tables_1_3 17 rfl rfl
set_option maxRecDepth 20000 in
theorem m_m_Desk_132 : Cond.methodLink R_Desk 132 y_Desk_mixHero ∈ TB := mem_tables_1_3 21 rfl rfl
set_option maxRecDepth 20000 in
theorem m_m_Desk_136 : Cond.methodLink R_Desk 136 y_Desk_mixMonsters ∈ TB := mem_tables_1_3 25 rfl rfl
set_option maxRecDepth 20000 in
theorem m_m_Desk_139 : Cond.methodLink R_Desk 139 y_Desk_mixThings ∈ TB := mem_tables_1_3 29 rfl rfl
set_option maxRecDepth 20000 in
theorem m_m_Desk_160 : Cond.methodLink R_Desk 160 y_Monsters_countThere ∈ TB := mem_tables_1_3 37 rfl rfl
set_option maxRecDepth 20000 in
theorem m_m_Desk_164 : Cond.methodLink R_Desk 164 y_Desk_countFilled ∈ TB := mem_tables_1_3 41 rfl rfl
set_option maxRecDepth 20000 in
theorem m_m_Desk_168 : Cond.methodLink R_Desk 168 y_Level_countFloorInSight ∈ TB := mem_tables_1_3 44 rfl rfl
set_option maxRecDepth 20000 in
theorem m_m_Desk_26 : Cond.methodLink R_Desk 26 y_Game_begin ∈ TB := mem_tables_1_1 228 rfl rfl
set_option maxRecDepth 20000 in
theorem m_m_Desk_29 : Cond.methodLink R_Desk 29 y_Game_press ∈ TB := mem_tables_1_2 118 rfl rfl
set_option maxRecDepth 20000 in
theorem m_m_Desk_3 : Cond.methodLink R_Desk 3 objectInit ∈ TB := mem_tables_1_1 17 rfl rfl
set_option maxRecDepth 20000 in
theorem m_m_Desk_54 : Cond.methodLink R_Desk 54 y_Level_inSight ∈ TB := mem_tables_1_2 230 rfl rfl
set_option maxRecDepth 20000 in
theorem m_m_Desk_61 : Cond.methodLink R_Desk 61 y_Desk_whoIsAt ∈ TB := mem_tables_1_2 231 rfl rfl
set_option maxRecDepth 20000 in
theorem m_m_Desk_71 : Cond.methodLink R_Desk 71 y_Distances_from ∈ TB := mem_tables_1_2 237 rfl rfl
set_option maxRecDepth 20000 in
theorem m_m_Desk_80 : Cond.methodLink R_Desk 80 y_Monsters_at ∈ TB := mem_tables_1_2 235 rfl rfl
set_option maxRecDepth 20000 in
theorem m_m_Desk_85 : Cond.methodLink R_Desk 85 y_Monsters_isThere ∈ TB := mem_tables_1_2 236 rfl rfl
set_option maxRecDepth 20000 in
theorem m_m_Distances_22 : Cond.methodLink R_Distances 22 y_Arrays_fill ∈ TB := mem_tables_1_2 97 rfl rfl
set_option maxRecDepth 20000 in
theorem m_m_Distances_28 : Cond.methodLink R_Distances 28 y_Level_isFloor ∈ TB := mem_tables_1_2 98 rfl rfl
set_option maxRecDepth 20000 in
theorem m_m_Distances_3 : Cond.methodLink R_Distances 3 objectInit ∈ TB := mem_tables_1_1 130 rfl rfl
set_option maxRecDepth 20000 in
theorem m_m_Distances_34 : Cond.methodLink R_Distances 34 y_Level_neighbour ∈ TB := mem_tables_1_2 99 rfl rfl
set_option maxRecDepth 20000 in
theorem m_m_Draws_1 : Cond.methodLink R_Draws 1 objectInit ∈ TB := mem_tables_1_1 31 rfl rfl
set_option maxRecDepth 20000 in
theorem m_m_Game_100 : Cond.methodLink R_Game 100 y_Game_useThing ∈ TB := mem_tables_1_2 162 rfl rfl
set_option maxRecDepth 20000 in
theorem m_m_Game_103 : Cond.methodLink R_Game 103 y_Game_descend ∈ TB := mem_tables_1_2 184 rfl rfl
set_option maxRecDepth 20000 in
theorem m_m_Game_106 : Cond.methodLink R_Game 106 y_Game_passTime ∈ TB := mem_tables_1_2 192 rfl rfl
set_option maxRecDepth 20000 in
theorem m_m_Game_112 : Cond.methodLink R_Game 112 y_Level_neighbour ∈ TB := mem_tables_1_2 130 rfl rfl
set_option maxRecDepth 20000 in
theorem m_m_Game_116 : Cond.methodLink R_Game 116 y_Level_isFloor ∈ TB := mem_tables_1_2 131 rfl rfl
set_option maxRecDepth 20000 in
theorem m_m_Game_120 : Cond.methodLink R_Game 120 y_Monsters_at ∈ TB := mem_tables_1_2 132 rfl rfl
set_option maxRecDepth 20000 in
theorem m_m_Game_126 : Cond.methodLink R_Game 126 y_Monsters_strike ∈ TB := mem_tables_1_2 133 rfl rfl
set_option maxRecDepth 20000 in
theorem m_m_Game_130 : Cond.methodLink R_Game 130 y_Level_learnFrom ∈ TB := mem_tables_1_2 74 rfl rfl
set_option maxRecDepth 20000 in
theorem m_m_Game_133 : Cond.methodLink R_Game 133 y_Distances_measure ∈ TB := mem_tables_1_2 93 rfl rfl
set_option maxRecDepth 20000 in
theorem m_m_Game_137 : Cond.methodLink R_Game 137 y_Level_thingAt ∈ TB := mem_tables_1_2 145 rfl rfl
set_option maxRecDepth 20000 in
theorem m_m_Game_140 : Cond.methodLink R_Game 140 y_Hero_bagIsFull ∈ TB := mem_tables_1_2 149 rfl rfl
set_option maxRecDepth 20000 in
theorem m_m_Game_143 : Cond.methodLink R_Game 143 y_Hero_putInBag ∈ TB := mem_tables_1_2 153 rfl rfl
set_option maxRecDepth 20000 in
theorem m_m_Game_146 : Cond.methodLink R_Game 146 y_Level_takeThing ∈ TB := mem_tables_1_2 158 rfl rfl
set_option maxRecDepth 20000 in
theorem m_m_Game_149 : Cond.methodLink R_Game 149 y_Hero_thingInBag ∈ TB := mem_tables_1_2 166 rfl rfl
set_option maxRecDepth 20000 in
theorem m_m_Game_152 : Cond.methodLink R_Game 152 y_Hero_dropFromBag ∈ TB := mem_tables_1_2 170 rfl rfl
set_option maxRecDepth 20000 in
theorem m_m_Game_158 : Cond.methodLink R_Game 158 Lib.Math.min.name ∈ TB := mem_tables_1_2 174 rfl rfl
set_option maxRecDepth 20000 in
theorem m_m_Game_163 : Cond.methodLink R_Game 163 y_Game_drawFreePlace ∈ TB := mem_tables_1_2 175 rfl rfl
set_option maxRecDepth 20000 in
theorem m_m_Game_169 : Cond.methodLink R_Game 169 y_Game_isFree ∈ TB := mem_tables_1_2 179 rfl rfl
set_option maxRecDepth 20000 in
theorem m_m_Game_17 : Cond.methodLink R_Game 17 y_Draws_init ∈ TB := mem_tables_1_1 28 rfl rfl
set_option maxRecDepth 20000 in
theorem m_m_Game_172 : Cond.methodLink R_Game 172 y_Draws_draw ∈ TB := mem_tables_1_2 183 rfl rfl
set_option maxRecDepth 20000 in
theorem m_m_Game_175 : Cond.methodLink R_Game 175 y_Level_hasStairs ∈ TB := mem_tables_1_2 188 rfl rfl
set_option maxRecDepth 20000 in
theorem m_m_Game_184 : Cond.methodLink R_Game 184 y_Game_takeTurns ∈ TB := mem_tables_1_2 196 rfl rfl
set_option maxRecDepth 20000 in
theorem m_m_Game_187 : Cond.methodLink R_Game 187 y_Monsters_isThere ∈ TB := mem_tables_1_2 200 rfl rfl
set_option maxRecDepth 20000 in
theorem m_m_Game_199 : Cond.methodLink R_Game 199 y_Game_act ∈ TB := mem_tables_1_2 203 rfl rfl
set_option maxRecDepth 20000 in
theorem m_m_Game_207 : Cond.methodLink R_Game 207 y_Level_inSight ∈ TB := mem_tables_1_2 207 rfl rfl
set_option maxRecDepth 20000 in
theorem m_m_Game_210 : Cond.methodLink R_Game 210 y_Game_goOrHit ∈ TB := mem_tables_1_2 208 rfl rfl
set_option maxRecDepth 20000 in
theorem m_m_Game_216 : Cond.methodLink R_Game 216 y_Game_bestStep ∈ TB := mem_tables_1_2 214 rfl rfl
set_option maxRecDepth 20000 in
theorem m_m_Game_219 : Cond.methodLink R_Game 219 y_Distances_from ∈ TB := mem_tables_1_2 218 rfl rfl
set_option maxRecDepth 20000 in
theorem m_m_Game_24 : Cond.methodLink R_Game 24 y_Maker_init ∈ TB := mem_tables_1_1 41 rfl rfl
set_option maxRecDepth 20000 in
theorem m_m_Game_3 : Cond.methodLink R_Game 3 objectInit ∈ TB := mem_tables_1_1 25 rfl rfl
set_option maxRecDepth 20000 in
theorem m_m_Game_31 : Cond.methodLink R_Game 31 y_Level_init ∈ TB := mem_tables_1_1 66 rfl rfl
set_option maxRecDepth 20000 in
theorem m_m_Game_38 : Cond.methodLink R_Game 38 y_Monsters_init ∈ TB := mem_tables_1_1 90 rfl rfl
set_option maxRecDepth 20000 in
theorem m_m_Game_45 : Cond.methodLink R_Game 45 y_Distances_init ∈ TB := mem_tables_1_1 127 rfl rfl
set_option maxRecDepth 20000 in
theorem m_m_Game_52 : Cond.methodLink R_Game 52 y_Hero_init ∈ TB := mem_tables_1_1 144 rfl rfl
set_option maxRecDepth 20000 in
theorem m_m_Game_74 : Cond.methodLink R_Game 74 y_Hero_reset ∈ TB := mem_tables_1_1 232 rfl rfl
set_option maxRecDepth 20000 in
theorem m_m_Game_77 : Cond.methodLink R_Game 77 y_Maker_make ∈ TB := mem_tables_1_1 233 rfl rfl
set_option maxRecDepth 20000 in
theorem m_m_Game_84 : Cond.methodLink R_Game 84 y_Game_arrive ∈ TB := mem_tables_1_2 70 rfl rfl
set_option maxRecDepth 20000 in
theorem m_m_Game_88 : Cond.methodLink R_Game 88 y_Hero_isDead ∈ TB := mem_tables_1_2 122 rfl rfl
set_option maxRecDepth 20000 in
theorem m_m_Game_92 : Cond.methodLink R_Game 92 y_Game_walk ∈ TB := mem_tables_1_2 126 rfl rfl
set_option maxRecDepth 20000 in
theorem m_m_Game_96 : Cond.methodLink R_Game 96 y_Game_pickUp ∈ TB := mem_tables_1_2 141 rfl rfl
set_option maxRecDepth 20000 in
theorem m_m_Hero_15 : Cond.methodLink R_Hero 15 y_Hero_reset ∈ TB := mem_tables_1_1 148 rfl rfl
set_option maxRecDepth 20000 in
theorem m_m_Hero_3 : Cond.methodLink R_Hero 3 objectInit ∈ TB := mem_tables_1_1 147 rfl rfl
set_option maxRecDepth 20000 in
theorem m_m_Hero_39 : Cond.methodLink R_Hero 39 y_Hero_bagIsFull ∈ TB := mem_tables_1_2 157 rfl rfl
set_option maxRecDepth 20000 in
theorem m_m_Level_25 : Cond.methodLink R_Level 25 y_Arrays_fill ∈ TB := mem_tables_1_2 2 rfl rfl
set_option maxRecDepth 20000 in
theorem m_m_Level_3 : Cond.methodLink R_Level 3 objectInit ∈ TB := mem_tables_1_1 69 rfl rfl
set_option maxRecDepth 20000 in
theorem m_m_Level_34 : Cond.methodLink R_Level 34 y_Level_isCell ∈ TB := mem_tables_1_2 67 rfl rfl
set_option maxRecDepth 20000 in
theorem m_m_Level_38 : Cond.methodLink R_Level 38 Lib.Math.abs.name ∈ TB := mem_tables_1_2 82 rfl rfl
set_option maxRecDepth 20000 in
theorem m_m_Level_44 : Cond.methodLink R_Level 44 Lib.Math.max.name ∈ TB := mem_tables_1_2 85 rfl rfl
set_option maxRecDepth 20000 in
theorem m_m_Level_48 : Cond.methodLink R_Level 48 y_Math_floorDiv ∈ TB := mem_tables_1_2 86 rfl rfl
set_option maxRecDepth 20000 in
theorem m_m_Level_51 : Cond.methodLink R_Level 51 y_Level_isFloor ∈ TB := mem_tables_1_2 89 rfl rfl
set_option maxRecDepth 20000 in
theorem m_m_Level_54 : Cond.methodLink R_Level 54 y_Level_inSight ∈ TB := mem_tables_1_2 78 rfl rfl
set_option maxRecDepth 20000 in
theorem m_m_Maker_11 : Cond.methodLink R_Maker 11 y_Draws_init ∈ TB := mem_tables_1_1 46 rfl rfl
set_option maxRecDepth 20000 in
theorem m_m_Maker_3 : Cond.methodLink R_Maker 3 objectInit ∈ TB := mem_tables_1_1 44 rfl rfl
set_option maxRecDepth 20000 in
theorem m_m_Maker_37 : Cond.methodLink R_Maker 37 y_Level_clear ∈ TB := mem_tables_1_1 238 rfl rfl
set_option maxRecDepth 20000 in
theorem m_m_Maker_42 : Cond.methodLink R_Maker 42 y_Monsters_clear ∈ TB := mem_tables_1_2 5 rfl rfl
set_option maxRecDepth 20000 in
theorem m_m_Maker_45 : Cond.methodLink R_Maker 45 y_Maker_digRoom ∈ TB := mem_tables_1_2 9 rfl rfl
set_option maxRecDepth 20000 in
theorem m_m_Maker_49 : Cond.methodLink R_Maker 49 y_Maker_digWay ∈ TB := mem_tables_1_2 33 rfl rfl
set_option maxRecDepth 20000 in
theorem m_m_Maker_53 : Cond.methodLink R_Maker 53 y_Maker_drawPlace ∈ TB := mem_tables_1_2 49 rfl rfl
set_option maxRecDepth 20000 in
theorem m_m_Maker_57 : Cond.methodLink R_Maker 57 y_Level_setGround ∈ TB := mem_tables_1_2 29 rfl rfl
set_option maxRecDepth 20000 in
theorem m_m_Maker_61 : Cond.methodLink R_Maker 61 y_Maker_centreRow ∈ TB := mem_tables_1_2 41 rfl rfl
set_option maxRecDepth 20000 in
theorem m_m_Maker_64 : Cond.methodLink R_Maker 64 y_Maker_centreColumn ∈ TB := mem_tables_1_2 37 rfl rfl
set_option maxRecDepth 20000 in
theorem m_m_Maker_71 : Cond.methodLink R_Maker 71 y_Draws_draw ∈ TB := mem_tables_1_2 13 rfl rfl
set_option maxRecDepth 20000 in
theorem m_m_Maker_74 : Cond.methodLink R_Maker 74 y_Monsters_add ∈ TB := mem_tables_1_2 53 rfl rfl
set_option maxRecDepth 20000 in
theorem m_m_Maker_77 : Cond.methodLink R_Maker 77 y_Level_layThing ∈ TB := mem_tables_1_2 63 rfl rfl
set_option maxRecDepth 20000 in
theorem m_m_Maker_80 : Cond.methodLink R_Maker 80 y_Maker_digRow ∈ TB := mem_tables_1_2 19 rfl rfl
set_option maxRecDepth 20000 in
theorem m_m_Maker_84 : Cond.methodLink R_Maker 84 y_Maker_digColumn ∈ TB := mem_tables_1_2 45 rfl rfl
set_option maxRecDepth 20000 in
theorem m_m_Maker_87 : Cond.methodLink R_Maker 87 Lib.Math.min.name ∈ TB := mem_tables_1_2 23 rfl rfl
set_option maxRecDepth 20000 in
theorem m_m_Maker_93 : Cond.methodLink R_Maker 93 Lib.Math.max.name ∈ TB := mem_tables_1_2 26 rfl rfl
set_option maxRecDepth 20000 in
theorem m_m_Model_1 : Cond.methodLink R_Model 1 objectInit ∈ TB := mem_tables_1_3 56 rfl rfl
set_option maxRecDepth 20000 in
theorem m_m_Model_108 : Cond.methodLink R_Model 108 y_Model_build ∈ TB := mem_tables_1_3 61 rfl rfl
set_option maxRecDepth 20000 in
theorem m_m_Model_112 : Cond.methodLink R_Model 112 y_Model_make ∈ TB := mem_tables_1_3 66 rfl rfl
set_option maxRecDepth 20000 in
theorem m_m_Model_116 : Cond.methodLink R_Model 116 y_Model_dig ∈ TB := mem_tables_1_3 75 rfl rfl
set_option maxRecDepth 20000 in
theorem m_m_Model_125 : Cond.methodLink R_Model 125 y_Model_way ∈ TB := mem_tables_1_3 79 rfl rfl
set_option maxRecDepth 20000 in
theorem m_m_Model_141 : Cond.methodLink R_Model 141 y_Model_monsterAt ∈ TB := mem_tables_1_3 83 rfl rfl
set_option maxRecDepth 20000 in
theorem m_m_Model_145 : Cond.methodLink R_Model 145 y_Model_know ∈ TB := mem_tables_1_3 87 rfl rfl
set_option maxRecDepth 20000 in
theorem m_m_Model_148 : Cond.methodLink R_Model 148 y_Model_in ∈ TB := mem_tables_1_3 99 rfl rfl
set_option maxRecDepth 20000 in
theorem m_m_Model_152 : Cond.methodLink R_Model 152 y_Model_down ∈ TB := mem_tables_1_3 106 rfl rfl
set_option maxRecDepth 20000 in
theorem m_m_Model_155 : Cond.methodLink R_Model 155 y_Model_isFloor ∈ TB := mem_tables_1_3 109 rfl rfl
set_option maxRecDepth 20000 in
theorem m_m_Model_159 : Cond.methodLink R_Model 159 y_Model_isNear ∈ TB := mem_tables_1_3 95 rfl rfl
set_option maxRecDepth 20000 in
theorem m_m_Model_162 : Cond.methodLink R_Model 162 y_Model_isClear ∈ TB := mem_tables_1_3 102 rfl rfl
set_option maxRecDepth 20000 in
theorem m_m_Model_166 : Cond.methodLink R_Model 166 y_Model_isSeen ∈ TB := mem_tables_1_3 91 rfl rfl
set_option maxRecDepth 20000 in
theorem m_m_Model_169 : Cond.methodLink R_Model 169 y_Model_dx ∈ TB := mem_tables_1_3 232 rfl rfl
set_option maxRecDepth 20000 in
theorem m_m_Model_172 : Cond.methodLink R_Model 172 y_Model_dy ∈ TB := mem_tables_1_3 235 rfl rfl
set_option maxRecDepth 20000 in
theorem m_m_Model_175 : Cond.methodLink R_Model 175 y_Model_draw ∈ TB := mem_tables_1_4 6 rfl rfl
set_option maxRecDepth 20000 in
theorem m_m_Model_178 : Cond.methodLink R_Model 178 y_Model_wound ∈ TB := mem_tables_1_4 18 rfl rfl
set_option maxRecDepth 20000 in
theorem m_m_Model_181 : Cond.methodLink R_Model 181 y_Model_put ∈ TB := mem_tables_1_4 22 rfl rfl
set_option maxRecDepth 20000 in
theorem m_m_Model_185 : Cond.methodLink R_Model 185 y_Model_measure ∈ TB := mem_tables_1_4 26 rfl rfl
set_option maxRecDepth 20000 in
theorem m_m_Model_188 : Cond.methodLink R_Model 188 y_Model_acts ∈ TB := mem_tables_1_4 14 rfl rfl
set_option maxRecDepth 20000 in
theorem m_m_Model_191 : Cond.methodLink R_Model 191 y_Model_turn ∈ TB := mem_tables_1_3 221 rfl rfl
set_option maxRecDepth 20000 in
theorem m_m_Model_194 : Cond.methodLink R_Model 194 y_Model_isKey ∈ TB := mem_tables_1_3 218 rfl rfl
set_option maxRecDepth 20000 in
theorem m_m_Model_198 : Cond.methodLink R_Model 198 y_Model_does ∈ TB := mem_tables_1_3 224 rfl rfl
set_option maxRecDepth 20000 in
theorem m_m_Model_201 : Cond.methodLink R_Model 201 y_Model_goes ∈ TB := mem_tables_1_3 228 rfl rfl
set_option maxRecDepth 20000 in
theorem m_m_Model_204 : Cond.methodLink R_Model 204 y_Model_gets ∈ TB := mem_tables_1_3 238 rfl rfl
set_option maxRecDepth 20000 in
theorem m_m_Model_208 : Cond.methodLink R_Model 208 y_Model_uses ∈ TB := mem_tables_1_4 2 rfl rfl
set_option maxRecDepth 20000 in
theorem m_m_Model_211 : Cond.methodLink R_Model 211 y_Model_pass ∈ TB := mem_tables_1_4 10 rfl rfl
set_option maxRecDepth 20000 in
theorem m_m_Model_216 : Cond.methodLink R_Model 216 y_Model_player ∈ TB := mem_tables_1_4 55 rfl rfl
set_option maxRecDepth 20000 in
theorem m_m_Model_219 : Cond.methodLink R_Model 219 y_Model_monster ∈ TB := mem_tables_1_4 56 rfl rfl
set_option maxRecDepth 20000 in
theorem m_m_Model_66 : Cond.methodLink R_Model 66 y_Model_begin ∈ TB := mem_tables_1_3 57 rfl rfl
set_option maxRecDepth 20000 in
theorem m_m_Model_77 : Cond.methodLink R_Model 77 y_Model_next ∈ TB := mem_tables_1_3 70 rfl rfl
set_option maxRecDepth 20000 in
theorem m_m_Monsters_3 : Cond.methodLink R_Monsters 3 objectInit ∈ TB := mem_tables_1_1 93 rfl rfl
set_option maxRecDepth 20000 in
theorem m_m_Monsters_34 : Cond.methodLink R_Monsters 34 y_Monsters_at ∈ TB := mem_tables_1_2 59 rfl rfl
set_option maxRecDepth 20000 in
theorem m_m_Monsters_38 : Cond.methodLink R_Monsters 38 y_Monsters_isThere ∈ TB := mem_tables_1_2 137 rfl rfl
set_option maxRecDepth 20000 in
theorem i_Desk : ∀ w ∈ u_ws R_Desk F_Desk 3, w ∈ TB := by
  intro w hw
  obtain ⟨k, hk, rfl⟩ := List.mem_map.mp hw
  have hk := List.mem_range.mp hk
  rcases (show k = 0 ∨ k = 1 ∨ k = 2 by omega) with rfl | rfl | rfl
  · exact mem_tables_1_2 107 rfl rfl
  · exact mem_tables_1_2 109 rfl rfl
  · exact mem_tables_1_2 111 rfl rfl
set_option maxRecDepth 20000 in
theorem in_Desk : Cond.instantiable R_Desk 3 ∈ TB := mem_tables_1_1 13 rfl rfl
set_option maxRecDepth 20000 in
theorem ini_Desk : Cond.initialized R_Desk ∈ TB := mem_tables_1_1 1 rfl rfl
theorem dv_Desk : ∀ j, j < 3 → defaultValue (t_Desk j) = vp_V [.null, .null, .int 0] j := by decide +kernel
set_option maxRecDepth 20000 in
theorem i_Game : ∀ w ∈ u_ws R_Game F_Game 11, w ∈ TB := by
  intro w hw
  obtain ⟨k, hk, rfl⟩ := List.mem_map.mp hw
  have hk := List.mem_range.mp hk
  rcases (show k = 0 ∨ k = 1 ∨ k = 2 ∨ k = 3 ∨ k = 4 ∨ k = 5 ∨ k = 6 ∨ k = 7 ∨ k = 8 ∨ k = 9 ∨ k = 10 by omega) with rfl | rfl | rfl | rfl | rfl | rfl | rfl | rfl | rfl | rfl | rfl
  · exact mem_tables_1_1 205 rfl rfl
  · exact mem_tables_1_1 207 rfl rfl
  · exact mem_tables_1_1 209 rfl rfl
  · exact mem_tables_1_1 211 rfl rfl
  · exact mem_tables_1_1 213 rfl rfl
  · exact mem_tables_1_1 215 rfl rfl
  · exact mem_tables_1_1 217 rfl rfl
  · exact mem_tables_1_1 219 rfl rfl
  · exact mem_tables_1_1 221 rfl rfl
  · exact mem_tables_1_1 223 rfl rfl
  · exact mem_tables_1_1 225 rfl rfl
set_option maxRecDepth 20000 in
theorem in_Game : Cond.instantiable R_Game 11 ∈ TB := mem_tables_1_1 21 rfl rfl
set_option maxRecDepth 20000 in
theorem ini_Game : Cond.initialized R_Game ∈ TB := mem_tables_1_1 2 rfl rfl
theorem dv_Game : ∀ j, j < 11 → defaultValue (t_Game j) = vp_V [.int 0, .null, .null, .null, .null, .null, .null, .int 0, .int 0, .int 0, .int 0] j := by decide +kernel
set_option maxRecDepth 20000 in
theorem i_Draws : ∀ w ∈ u_ws R_Draws F_Draws 1, w ∈ TB := by
  intro w hw
  obtain ⟨k, hk, rfl⟩ := List.mem_map.mp hw
  have hk := List.mem_range.mp hk
  rcases (show k = 0 by omega) with rfl
  · exact mem_tables_1_1 36 rfl rfl
set_option maxRecDepth 20000 in
theorem in_Draws : Cond.instantiable R_Draws 1 ∈ TB := mem_tables_1_1 27 rfl rfl
set_option maxRecDepth 20000 in
theorem ini_Draws : Cond.initialized R_Draws ∈ TB := mem_tables_1_1 3 rfl rfl
theorem dv_Draws : ∀ j, j < 1 → defaultValue (t_Draws j) = vp_V [.long 0] j := by decide +kernel
set_option maxRecDepth 20000 in
theorem i_Maker : ∀ w ∈ u_ws R_Maker F_Maker 5, w ∈ TB := by
  intro w hw
  obtain ⟨k, hk, rfl⟩ := List.mem_map.mp hw
  have hk := List.mem_range.mp hk
  rcases (show k = 0 ∨ k = 1 ∨ k = 2 ∨ k = 3 ∨ k = 4 by omega) with rfl | rfl | rfl | rfl | rfl
  · exact mem_tables_1_1 52 rfl rfl
  · exact mem_tables_1_1 54 rfl rfl
  · exact mem_tables_1_1 56 rfl rfl
  · exact mem_tables_1_1 58 rfl rfl
  · exact mem_tables_1_1 60 rfl rfl
set_option maxRecDepth 20000 in
theorem in_Maker : Cond.instantiable R_Maker 5 ∈ TB := mem_tables_1_1 40 rfl rfl
set_option maxRecDepth 20000 in
theorem ini_Maker : Cond.initialized R_Maker ∈ TB := mem_tables_1_1 4 rfl rfl
theorem dv_Maker : ∀ j, j < 5 → defaultValue (t_Maker j) = vp_V [.null, .null, .null, .null, .null] j := by decide +kernel
set_option maxRecDepth 20000 in
theorem i_Level : ∀ w ∈ u_ws R_Level F_Level 4, w ∈ TB := by
  intro w hw
  obtain ⟨k, hk, rfl⟩ := List.mem_map.mp hw
  have hk := List.mem_range.mp hk
  rcases (show k = 0 ∨ k = 1 ∨ k = 2 ∨ k = 3 by omega) with rfl | rfl | rfl | rfl
  · exact mem_tables_1_1 79 rfl rfl
  · exact mem_tables_1_1 81 rfl rfl
  · exact mem_tables_1_1 83 rfl rfl
  · exact mem_tables_1_1 85 rfl rfl
set_option maxRecDepth 20000 in
theorem in_Level : Cond.instantiable R_Level 4 ∈ TB := mem_tables_1_1 65 rfl rfl
set_option maxRecDepth 20000 in
theorem ini_Level : Cond.initialized R_Level ∈ TB := mem_tables_1_1 5 rfl rfl
theorem dv_Level : ∀ j, j < 4 → defaultValue (t_Level j) = vp_V [.null, .null, .null, .int 0] j := by decide +kernel
set_option maxRecDepth 20000 in
theorem i_Monsters : ∀ w ∈ u_ws R_Monsters F_Monsters 6, w ∈ TB := by
  intro w hw
  obtain ⟨k, hk, rfl⟩ := List.mem_map.mp hw
  have hk := List.mem_range.mp hk
  rcases (show k = 0 ∨ k = 1 ∨ k = 2 ∨ k = 3 ∨ k = 4 ∨ k = 5 by omega) with rfl | rfl | rfl | rfl | rfl | rfl
  · exact mem_tables_1_1 112 rfl rfl
  · exact mem_tables_1_1 114 rfl rfl
  · exact mem_tables_1_1 116 rfl rfl
  · exact mem_tables_1_1 118 rfl rfl
  · exact mem_tables_1_1 120 rfl rfl
  · exact mem_tables_1_1 122 rfl rfl
set_option maxRecDepth 20000 in
theorem in_Monsters : Cond.instantiable R_Monsters 6 ∈ TB := mem_tables_1_1 89 rfl rfl
set_option maxRecDepth 20000 in
theorem ini_Monsters : Cond.initialized R_Monsters ∈ TB := mem_tables_1_1 6 rfl rfl
theorem dv_Monsters : ∀ j, j < 6 → defaultValue (t_Monsters j) = vp_V [.null, .null, .null, .null, .null, .int 0] j := by decide +kernel
set_option maxRecDepth 20000 in
theorem i_Distances : ∀ w ∈ u_ws R_Distances F_Distances 3, w ∈ TB := by
  intro w hw
  obtain ⟨k, hk, rfl⟩ := List.mem_map.mp hw
  have hk := List.mem_range.mp hk
  rcases (show k = 0 ∨ k = 1 ∨ k = 2 by omega) with rfl | rfl | rfl
  · exact mem_tables_1_1 135 rfl rfl
  · exact mem_tables_1_1 137 rfl rfl
  · exact mem_tables_1_1 139 rfl rfl
set_option maxRecDepth 20000 in
theorem in_Distances : Cond.instantiable R_Distances 3 ∈ TB := mem_tables_1_1 126 rfl rfl
set_option maxRecDepth 20000 in
theorem ini_Distances : Cond.initialized R_Distances ∈ TB := mem_tables_1_1 7 rfl rfl
theorem dv_Distances : ∀ j, j < 3 → defaultValue (t_Distances j) = vp_V [.null, .null, .int 0] j := by decide +kernel
set_option maxRecDepth 20000 in
theorem i_Hero : ∀ w ∈ u_ws R_Hero F_Hero 7, w ∈ TB := by
  intro w hw
  obtain ⟨k, hk, rfl⟩ := List.mem_map.mp hw
  have hk := List.mem_range.mp hk
  rcases (show k = 0 ∨ k = 1 ∨ k = 2 ∨ k = 3 ∨ k = 4 ∨ k = 5 ∨ k = 6 by omega) with rfl | rfl | rfl | rfl | rfl | rfl | rfl
  · exact mem_tables_1_1 170 rfl rfl
  · exact mem_tables_1_1 172 rfl rfl
  · exact mem_tables_1_1 174 rfl rfl
  · exact mem_tables_1_1 176 rfl rfl
  · exact mem_tables_1_1 178 rfl rfl
  · exact mem_tables_1_1 180 rfl rfl
  · exact mem_tables_1_1 182 rfl rfl
set_option maxRecDepth 20000 in
theorem in_Hero : Cond.instantiable R_Hero 7 ∈ TB := mem_tables_1_1 143 rfl rfl
set_option maxRecDepth 20000 in
theorem ini_Hero : Cond.initialized R_Hero ∈ TB := mem_tables_1_1 8 rfl rfl
theorem dv_Hero : ∀ j, j < 7 → defaultValue (t_Hero j) = vp_V [.int 0, .int 0, .int 0, .int 0, .int 0, .null, .int 0] j := by decide +kernel
set_option maxRecDepth 20000 in
theorem i_Model : ∀ w ∈ u_ws R_Model F_Model 33, w ∈ TB := by
  intro w hw
  obtain ⟨k, hk, rfl⟩ := List.mem_map.mp hw
  have hk := List.mem_range.mp hk
  rcases (show k = 0 ∨ k = 1 ∨ k = 2 ∨ k = 3 ∨ k = 4 ∨ k = 5 ∨ k = 6 ∨ k = 7 ∨ k = 8 ∨ k = 9 ∨ k = 10 ∨ k = 11 ∨ k = 12 ∨ k = 13 ∨ k = 14 ∨ k = 15 ∨ k = 16 ∨ k = 17 ∨ k = 18 ∨ k = 19 ∨ k = 20 ∨ k = 21 ∨ k = 22 ∨ k = 23 ∨ k = 24 ∨ k = 25 ∨ k = 26 ∨ k = 27 ∨ k = 28 ∨ k = 29 ∨ k = 30 ∨ k = 31 ∨ k = 32 by omega) with rfl | rfl | rfl | rfl | rfl | rfl | rfl | rfl | rfl | rfl | rfl | rfl | rfl | rfl | rfl | rfl | rfl | rfl | rfl | rfl | rfl | rfl | rfl | rfl | rfl | rfl | rfl | rfl | rfl | rfl | rfl | rfl | rfl
  · exact mem_tables_1_3 146 rfl rfl
  · exact mem_tables_1_3 148 rfl rfl
  · exact mem_tables_1_3 150 rfl rfl
  · exact mem_tables_1_3 152 rfl rfl
  · exact mem_tables_1_3 154 rfl rfl
  · exact mem_tables_1_3 156 rfl rfl
  · exact mem_tables_1_3 158 rfl rfl
  · exact mem_tables_1_3 160 rfl rfl
  · exact mem_tables_1_3 162 rfl rfl
  · exact mem_tables_1_3 164 rfl rfl
  · exact mem_tables_1_3 166 rfl rfl
  · exact mem_tables_1_3 168 rfl rfl
  · exact mem_tables_1_3 170 rfl rfl
  · exact mem_tables_1_3 172 rfl rfl
  · exact mem_tables_1_3 174 rfl rfl
  · exact mem_tables_1_3 176 rfl rfl
  · exact mem_tables_1_3 178 rfl rfl
  · exact mem_tables_1_3 180 rfl rfl
  · exact mem_tables_1_3 182 rfl rfl
  · exact mem_tables_1_3 184 rfl rfl
  · exact mem_tables_1_3 186 rfl rfl
  · exact mem_tables_1_3 188 rfl rfl
  · exact mem_tables_1_3 190 rfl rfl
  · exact mem_tables_1_3 192 rfl rfl
  · exact mem_tables_1_3 194 rfl rfl
  · exact mem_tables_1_3 196 rfl rfl
  · exact mem_tables_1_3 198 rfl rfl
  · exact mem_tables_1_3 200 rfl rfl
  · exact mem_tables_1_3 202 rfl rfl
  · exact mem_tables_1_3 204 rfl rfl
  · exact mem_tables_1_3 206 rfl rfl
  · exact mem_tables_1_3 208 rfl rfl
  · exact mem_tables_1_3 210 rfl rfl
set_option maxRecDepth 20000 in
theorem in_Model : Cond.instantiable R_Model 33 ∈ TB := mem_tables_1_3 52 rfl rfl
set_option maxRecDepth 20000 in
theorem ini_Model : Cond.initialized R_Model ∈ TB := mem_tables_1_1 11 rfl rfl
theorem dv_Model : ∀ j, j < 33 → defaultValue (t_Model j) = vp_V [.int 0, .long 0, .long 0, .null, .null, .null, .null, .null, .null, .null, .null, .null, .null, .null, .int 0, .null, .null, .null, .null, .int 0, .int 0, .int 0, .int 0, .int 0, .int 0, .int 0, .int 0, .int 0, .int 0, .null, .int 0, .null, .int 0] j := by decide +kernel
set_option maxRecDepth 20000 in
theorem ar_int : Cond.arrayClass .int ∈ TB := mem_tables_1_1 63 rfl rfl
set_option maxRecDepth 20000 in
theorem ar_boolean : Cond.arrayClass .boolean ∈ TB := mem_tables_1_3 213 rfl rfl
set_option maxRecDepth 20000 in
theorem ob_im : Cond.instanceMethod objectInit ∈ TB := mem_tables_1_1 18 rfl rfl
set_option maxRecDepth 20000 in
theorem ob_code : Cond.code objectInit ⟨#[0xb1]⟩ 1 none ∈ TB := mem_tables_1_1 19 rfl rfl
set_option maxRecDepth 20000 in
theorem k_Hero_isDead : KV y_Hero_isDead b_Hero_isDead 1 (some .boolean) := ⟨mem_tables_1_2 125 rfl rfl, mem_tables_1_2 123 rfl rfl, mem_tables_1_2 124 rfl rfl, mem_tables_1_1 8 rfl rfl⟩
theorem kd_Hero_isDead : KD y_Hero_isDead 0 := ⟨by decide, by decide, by decide +kernel⟩
set_option maxRecDepth 20000 in
theorem k_Level_isCell : KS y_Level_isCell b_Level_isCell 1 (some .boolean) := ⟨mem_tables_1_2 69 rfl rfl, mem_tables_1_2 68 rfl rfl, mem_tables_1_1 5 rfl rfl⟩
theorem kd_Level_isCell : KD y_Level_isCell 1 := ⟨by decide, by decide, by decide +kernel⟩
set_option maxRecDepth 20000 in
theorem k_Level_hasStairs : KV y_Level_hasStairs b_Level_hasStairs 2 (some .boolean) := ⟨mem_tables_1_2 191 rfl rfl, mem_tables_1_2 189 rfl rfl, mem_tables_1_2 190 rfl rfl, mem_tables_1_1 5 rfl rfl⟩
theorem kd_Level_hasStairs : KD y_Level_hasStairs 1 := ⟨by decide, by decide, by decide +kernel⟩
set_option maxRecDepth 20000 in
theorem k_Arrays_fill : KS y_Arrays_fill b_Arrays_fill 4 none := ⟨mem_tables_1_2 4 rfl rfl, mem_tables_1_2 3 rfl rfl, mem_tables_1_1 9 rfl rfl⟩
theorem kd_Arrays_fill : KD y_Arrays_fill 2 := ⟨by decide, by decide, by decide +kernel⟩
set_option maxRecDepth 20000 in
theorem k_Level_clear : KV y_Level_clear b_Level_clear 1 none := ⟨mem_tables_1_2 1 rfl rfl, mem_tables_1_1 239 rfl rfl, mem_tables_1_2 0 rfl rfl, mem_tables_1_1 5 rfl rfl⟩
theorem kd_Level_clear : KD y_Level_clear 0 := ⟨by decide, by decide, by decide +kernel⟩
set_option maxRecDepth 20000 in
theorem k_Monsters_clear : KV y_Monsters_clear b_Monsters_clear 1 none := ⟨mem_tables_1_2 8 rfl rfl, mem_tables_1_2 6 rfl rfl, mem_tables_1_2 7 rfl rfl, mem_tables_1_1 6 rfl rfl⟩
theorem kd_Monsters_clear : KD y_Monsters_clear 0 := ⟨by decide, by decide, by decide +kernel⟩
set_option maxRecDepth 20000 in
theorem k_Maker_centreColumn : KV y_Maker_centreColumn b_Maker_centreColumn 2 (some .int) := ⟨mem_tables_1_2 40 rfl rfl, mem_tables_1_2 39 rfl rfl, tb_in (List.mem_append_left _ (by decide +kernel)) rfl, mem_tables_1_1 4 rfl rfl⟩
theorem kd_Maker_centreColumn : KD y_Maker_centreColumn 1 := ⟨by decide, by decide, by decide +kernel⟩
set_option maxRecDepth 20000 in
theorem k_Maker_centreRow : KV y_Maker_centreRow b_Maker_centreRow 2 (some .int) := ⟨mem_tables_1_2 44 rfl rfl, mem_tables_1_2 43 rfl rfl, tb_in (List.mem_append_left _ (by decide +kernel)) rfl, mem_tables_1_1 4 rfl rfl⟩
theorem kd_Maker_centreRow : KD y_Maker_centreRow 1 := ⟨by decide, by decide, by decide +kernel⟩
set_option maxRecDepth 20000 in
theorem k_Draws_draw : KV y_Draws_draw b_Draws_draw 2 (some .int) := ⟨mem_tables_1_2 16 rfl rfl, mem_tables_1_2 14 rfl rfl, mem_tables_1_2 15 rfl rfl, mem_tables_1_1 3 rfl rfl⟩
theorem kd_Draws_draw : KD y_Draws_draw 1 := ⟨by decide, by decide, by decide +kernel⟩
set_option maxRecDepth 20000 in
theorem k_Level_setGround : KV y_Level_setGround b_Level_setGround 3 none := ⟨mem_tables_1_2 32 rfl rfl, mem_tables_1_2 30 rfl rfl, mem_tables_1_2 31 rfl rfl, mem_tables_1_1 5 rfl rfl⟩
theorem kd_Level_setGround : KD y_Level_setGround 2 := ⟨by decide, by decide, by decide +kernel⟩
set_option maxRecDepth 20000 in
theorem k_Maker_digRow : KV y_Maker_digRow b_Maker_digRow 6 none := ⟨mem_tables_1_2 22 rfl rfl, mem_tables_1_2 21 rfl rfl, tb_in (List.mem_append_left _ (by decide +kernel)) rfl, mem_tables_1_1 4 rfl rfl⟩
theorem kd_Maker_digRow : KD y_Maker_digRow 4 := ⟨by decide, by decide, by decide +kernel⟩
set_option maxRecDepth 20000 in
theorem k_Maker_digColumn : KV y_Maker_digColumn b_Maker_digColumn 6 none := ⟨mem_tables_1_2 48 rfl rfl, mem_tables_1_2 47 rfl rfl, tb_in (List.mem_append_left _ (by decide +kernel)) rfl, mem_tables_1_1 4 rfl rfl⟩
theorem kd_Maker_digColumn : KD y_Maker_digColumn 4 := ⟨by decide, by decide, by decide +kernel⟩
set_option maxRecDepth 20000 in
theorem k_Maker_digWay : KV y_Maker_digWay b_Maker_digWay 9 none := ⟨mem_tables_1_2 36 rfl rfl, mem_tables_1_2 35 rfl rfl, tb_in (List.mem_append_left _ (by decide +kernel)) rfl, mem_tables_1_1 4 rfl rfl⟩
theorem kd_Maker_digWay : KD y_Maker_digWay 3 := ⟨by decide, by decide, by decide +kernel⟩
set_option maxRecDepth 20000 in
theorem k_Maker_drawPlace : KV y_Maker_drawPlace b_Maker_drawPlace 4 (some .int) := ⟨mem_tables_1_2 52 rfl rfl, mem_tables_1_2 51 rfl rfl, tb_in (List.mem_append_left _ (by decide +kernel)) rfl, mem_tables_1_1 4 rfl rfl⟩
theorem kd_Maker_drawPlace : KD y_Maker_drawPlace 1 := ⟨by decide, by decide, by decide +kernel⟩
set_option maxRecDepth 20000 in
theorem k_Maker_digRoom : KV y_Maker_digRoom b_Maker_digRoom 4 none := ⟨mem_tables_1_2 12 rfl rfl, mem_tables_1_2 11 rfl rfl, tb_in (List.mem_append_left _ (by decide +kernel)) rfl, mem_tables_1_1 4 rfl rfl⟩
theorem kd_Maker_digRoom : KD y_Maker_digRoom 2 := ⟨by decide, by decide, by decide +kernel⟩
set_option maxRecDepth 20000 in
theorem k_Monsters_at : KV y_Monsters_at b_Monsters_at 3 (some .int) := ⟨mem_tables_1_2 62 rfl rfl, mem_tables_1_2 60 rfl rfl, mem_tables_1_2 61 rfl rfl, mem_tables_1_1 6 rfl rfl⟩
theorem kd_Monsters_at : KD y_Monsters_at 1 := ⟨by decide, by decide, by decide +kernel⟩
set_option maxRecDepth 20000 in
theorem k_Monsters_add : KV y_Monsters_add b_Monsters_add 3 none := ⟨mem_tables_1_2 56 rfl rfl, mem_tables_1_2 54 rfl rfl, mem_tables_1_2 55 rfl rfl, mem_tables_1_1 6 rfl rfl⟩
theorem kd_Monsters_add : KD y_Monsters_add 2 := ⟨by decide, by decide, by decide +kernel⟩
set_option maxRecDepth 20000 in
theorem k_Level_layThing : KV y_Level_layThing b_Level_layThing 3 none := ⟨mem_tables_1_2 66 rfl rfl, mem_tables_1_2 64 rfl rfl, mem_tables_1_2 65 rfl rfl, mem_tables_1_1 5 rfl rfl⟩
theorem kd_Level_layThing : KD y_Level_layThing 2 := ⟨by decide, by decide, by decide +kernel⟩
set_option maxRecDepth 20000 in
theorem k_Maker_make : KV y_Maker_make b_Maker_make 7 none := ⟨mem_tables_1_1 236 rfl rfl, mem_tables_1_1 234 rfl rfl, mem_tables_1_1 235 rfl rfl, mem_tables_1_1 4 rfl rfl⟩
theorem kd_Maker_make : KD y_Maker_make 4 := ⟨by decide, by decide, by decide +kernel⟩
set_option maxRecDepth 20000 in
theorem k_Math_floorDiv : KS y_Math_floorDiv b_Math_floorDiv 3 (some .int) := ⟨mem_tables_1_2 88 rfl rfl, mem_tables_1_2 87 rfl rfl, mem_tables_1_1 10 rfl rfl⟩
theorem kd_Math_floorDiv : KD y_Math_floorDiv 2 := ⟨by decide, by decide, by decide +kernel⟩
set_option maxRecDepth 20000 in
theorem k_Level_isFloor : KV y_Level_isFloor b_Level_isFloor 2 (some .boolean) := ⟨mem_tables_1_2 92 rfl rfl, mem_tables_1_2 90 rfl rfl, mem_tables_1_2 91 rfl rfl, mem_tables_1_1 5 rfl rfl⟩
theorem kd_Level_isFloor : KD y_Level_isFloor 1 := ⟨by decide, by decide, by decide +kernel⟩
set_option maxRecDepth 20000 in
theorem k_Level_inSight : KV y_Level_inSight b_Level_inSight 11 (some .boolean) := ⟨mem_tables_1_2 81 rfl rfl, mem_tables_1_2 79 rfl rfl, mem_tables_1_2 80 rfl rfl, mem_tables_1_1 5 rfl rfl⟩
theorem kd_Level_inSight : KD y_Level_inSight 2 := ⟨by decide, by decide, by decide +kernel⟩
set_option maxRecDepth 20000 in
theorem k_Level_learnFrom : KV y_Level_learnFrom b_Level_learnFrom 3 none := ⟨mem_tables_1_2 77 rfl rfl, mem_tables_1_2 75 rfl rfl, mem_tables_1_2 76 rfl rfl, mem_tables_1_1 5 rfl rfl⟩
theorem kd_Level_learnFrom : KD y_Level_learnFrom 1 := ⟨by decide, by decide, by decide +kernel⟩
set_option maxRecDepth 20000 in
theorem k_Level_neighbour : KS y_Level_neighbour b_Level_neighbour 2 (some .int) := ⟨mem_tables_1_2 101 rfl rfl, mem_tables_1_2 100 rfl rfl, mem_tables_1_1 5 rfl rfl⟩
theorem kd_Level_neighbour : KD y_Level_neighbour 2 := ⟨by decide, by decide, by decide +kernel⟩
set_option maxRecDepth 20000 in
theorem k_Distances_measure : KV y_Distances_measure b_Distances_measure 8 none := ⟨mem_tables_1_2 96 rfl rfl, mem_tables_1_2 94 rfl rfl, mem_tables_1_2 95 rfl rfl, mem_tables_1_1 7 rfl rfl⟩
theorem kd_Distances_measure : KD y_Distances_measure 2 := ⟨by decide, by decide, by decide +kernel⟩
set_option maxRecDepth 20000 in
theorem k_Game_arrive : KV y_Game_arrive b_Game_arrive 2 none := ⟨mem_tables_1_2 73 rfl rfl, mem_tables_1_2 72 rfl rfl, tb_in (List.mem_append_left _ (by decide +kernel)) rfl, mem_tables_1_1 2 rfl rfl⟩
theorem kd_Game_arrive : KD y_Game_arrive 1 := ⟨by decide, by decide, by decide +kernel⟩
set_option maxRecDepth 20000 in
theorem k_Game_descend : KV y_Game_descend b_Game_descend 1 (some .int) := ⟨mem_tables_1_2 187 rfl rfl, mem_tables_1_2 186 rfl rfl, tb_in (List.mem_append_left _ (by decide +kernel)) rfl, mem_tables_1_1 2 rfl rfl⟩
theorem kd_Game_descend : KD y_Game_descend 0 := ⟨by decide, by decide, by decide +kernel⟩
set_option maxRecDepth 20000 in
theorem k_Hero_thingInBag : KV y_Hero_thingInBag b_Hero_thingInBag 2 (some .int) := ⟨mem_tables_1_2 169 rfl rfl, mem_tables_1_2 167 rfl rfl, mem_tables_1_2 168 rfl rfl, mem_tables_1_1 8 rfl rfl⟩
theorem kd_Hero_thingInBag : KD y_Hero_thingInBag 1 := ⟨by decide, by decide, by decide +kernel⟩
set_option maxRecDepth 20000 in
theorem k_Hero_dropFromBag : KV y_Hero_dropFromBag b_Hero_dropFromBag 3 none := ⟨mem_tables_1_2 173 rfl rfl, mem_tables_1_2 171 rfl rfl, mem_tables_1_2 172 rfl rfl, mem_tables_1_1 8 rfl rfl⟩
theorem kd_Hero_dropFromBag : KD y_Hero_dropFromBag 1 := ⟨by decide, by decide, by decide +kernel⟩
set_option maxRecDepth 20000 in
theorem k_Game_isFree : KV y_Game_isFree b_Game_isFree 2 (some .boolean) := ⟨mem_tables_1_2 182 rfl rfl, mem_tables_1_2 181 rfl rfl, tb_in (List.mem_append_left _ (by decide +kernel)) rfl, mem_tables_1_1 2 rfl rfl⟩
theorem kd_Game_isFree : KD y_Game_isFree 1 := ⟨by decide, by decide, by decide +kernel⟩
set_option maxRecDepth 20000 in
theorem k_Game_drawFreePlace : KV y_Game_drawFreePlace b_Game_drawFreePlace 4 (some .int) := ⟨mem_tables_1_2 178 rfl rfl, mem_tables_1_2 177 rfl rfl, tb_in (List.mem_append_left _ (by decide +kernel)) rfl, mem_tables_1_1 2 rfl rfl⟩
theorem kd_Game_drawFreePlace : KD y_Game_drawFreePlace 0 := ⟨by decide, by decide, by decide +kernel⟩
set_option maxRecDepth 20000 in
theorem k_Game_useThing : KV y_Game_useThing b_Game_useThing 3 (some .int) := ⟨mem_tables_1_2 165 rfl rfl, mem_tables_1_2 164 rfl rfl, tb_in (List.mem_append_left _ (by decide +kernel)) rfl, mem_tables_1_1 2 rfl rfl⟩
theorem kd_Game_useThing : KD y_Game_useThing 1 := ⟨by decide, by decide, by decide +kernel⟩
set_option maxRecDepth 20000 in
theorem k_Level_thingAt : KV y_Level_thingAt b_Level_thingAt 2 (some .int) := ⟨mem_tables_1_2 148 rfl rfl, mem_tables_1_2 146 rfl rfl, mem_tables_1_2 147 rfl rfl, mem_tables_1_1 5 rfl rfl⟩
theorem kd_Level_thingAt : KD y_Level_thingAt 1 := ⟨by decide, by decide, by decide +kernel⟩
set_option maxRecDepth 20000 in
theorem k_Hero_bagIsFull : KV y_Hero_bagIsFull b_Hero_bagIsFull 1 (some .boolean) := ⟨mem_tables_1_2 152 rfl rfl, mem_tables_1_2 150 rfl rfl, mem_tables_1_2 151 rfl rfl, mem_tables_1_1 8 rfl rfl⟩
theorem kd_Hero_bagIsFull : KD y_Hero_bagIsFull 0 := ⟨by decide, by decide, by decide +kernel⟩
set_option maxRecDepth 20000 in
theorem k_Hero_putInBag : KV y_Hero_putInBag b_Hero_putInBag 2 none := ⟨mem_tables_1_2 156 rfl rfl, mem_tables_1_2 154 rfl rfl, mem_tables_1_2 155 rfl rfl, mem_tables_1_1 8 rfl rfl⟩
theorem kd_Hero_putInBag : KD y_Hero_putInBag 1 := ⟨by decide, by decide, by decide +kernel⟩
set_option maxRecDepth 20000 in
theorem k_Level_takeThing : KV y_Level_takeThing b_Level_takeThing 2 none := ⟨mem_tables_1_2 161 rfl rfl, mem_tables_1_2 159 rfl rfl, mem_tables_1_2 160 rfl rfl, mem_tables_1_1 5 rfl rfl⟩
theorem kd_Level_takeThing : KD y_Level_takeThing 1 := ⟨by decide, by decide, by decide +kernel⟩
set_option maxRecDepth 20000 in
theorem k_Game_pickUp : KV y_Game_pickUp b_Game_pickUp 2 (some .int) := ⟨mem_tables_1_2 144 rfl rfl, mem_tables_1_2 143 rfl rfl, tb_in (List.mem_append_left _ (by decide +kernel)) rfl, mem_tables_1_1 2 rfl rfl⟩
theorem kd_Game_pickUp : KD y_Game_pickUp 0 := ⟨by decide, by decide, by decide +kernel⟩
set_option maxRecDepth 20000 in
theorem k_Monsters_isThere : KV y_Monsters_isThere b_Monsters_isThere 2 (some .boolean) := ⟨mem_tables_1_2 140 rfl rfl, mem_tables_1_2 138 rfl rfl, mem_tables_1_2 139 rfl rfl, mem_tables_1_1 6 rfl rfl⟩
theorem kd_Monsters_isThere : KD y_Monsters_isThere 1 := ⟨by decide, by decide, by decide +kernel⟩
set_option maxRecDepth 20000 in
theorem k_Monsters_strike : KV y_Monsters_strike b_Monsters_strike 3 (some .boolean) := ⟨mem_tables_1_2 136 rfl rfl, mem_tables_1_2 134 rfl rfl, mem_tables_1_2 135 rfl rfl, mem_tables_1_1 6 rfl rfl⟩
theorem kd_Monsters_strike : KD y_Monsters_strike 2 := ⟨by decide, by decide, by decide +kernel⟩
set_option maxRecDepth 20000 in
theorem k_Game_walk : KV y_Game_walk b_Game_walk 4 (some .int) := ⟨mem_tables_1_2 129 rfl rfl, mem_tables_1_2 128 rfl rfl, tb_in (List.mem_append_left _ (by decide +kernel)) rfl, mem_tables_1_1 2 rfl rfl⟩
theorem kd_Game_walk : KD y_Game_walk 1 := ⟨by decide, by decide, by decide +kernel⟩
set_option maxRecDepth 20000 in
theorem k_Distances_from : KV y_Distances_from b_Distances_from 2 (some .int) := ⟨mem_tables_1_2 221 rfl rfl, mem_tables_1_2 219 rfl rfl, mem_tables_1_2 220 rfl rfl, mem_tables_1_1 7 rfl rfl⟩
theorem kd_Distances_from : KD y_Distances_from 1 := ⟨by decide, by decide, by decide +kernel⟩
set_option maxRecDepth 20000 in
theorem k_Game_bestStep : KV y_Game_bestStep b_Game_bestStep 6 (some .int) := ⟨mem_tables_1_2 217 rfl rfl, mem_tables_1_2 216 rfl rfl, tb_in (List.mem_append_left _ (by decide +kernel)) rfl, mem_tables_1_1 2 rfl rfl⟩
theorem kd_Game_bestStep : KD y_Game_bestStep 2 := ⟨by decide, by decide, by decide +kernel⟩
set_option maxRecDepth 20000 in
theorem k_Game_goOrHit : KV y_Game_goOrHit b_Game_goOrHit 3 none := ⟨mem_tables_1_2 211 rfl rfl, mem_tables_1_2 210 rfl rfl, tb_in (List.mem_append_left _ (by decide +kernel)) rfl, mem_tables_1_1 2 rfl rfl⟩
theorem kd_Game_goOrHit : KD y_Game_goOrHit 2 := ⟨by decide, by decide, by decide +kernel⟩
set_option maxRecDepth 20000 in
theorem k_Game_act : KV y_Game_act b_Game_act 4 none := ⟨mem_tables_1_2 206 rfl rfl, mem_tables_1_2 205 rfl rfl, tb_in (List.mem_append_left _ (by decide +kernel)) rfl, mem_tables_1_1 2 rfl rfl⟩
theorem kd_Game_act : KD y_Game_act 1 := ⟨by decide, by decide, by decide +kernel⟩
set_option maxRecDepth 20000 in
theorem k_Game_takeTurns : KV y_Game_takeTurns b_Game_takeTurns 3 none := ⟨mem_tables_1_2 199 rfl rfl, mem_tables_1_2 198 rfl rfl, tb_in (List.mem_append_left _ (by decide +kernel)) rfl, mem_tables_1_1 2 rfl rfl⟩
theorem kd_Game_takeTurns : KD y_Game_takeTurns 1 := ⟨by decide, by decide, by decide +kernel⟩
set_option maxRecDepth 20000 in
theorem k_Game_passTime : KV y_Game_passTime b_Game_passTime 3 none := ⟨mem_tables_1_2 195 rfl rfl, mem_tables_1_2 194 rfl rfl, tb_in (List.mem_append_left _ (by decide +kernel)) rfl, mem_tables_1_1 2 rfl rfl⟩
theorem kd_Game_passTime : KD y_Game_passTime 0 := ⟨by decide, by decide, by decide +kernel⟩
set_option maxRecDepth 20000 in
theorem k_Game_press : KV y_Game_press b_Game_press 3 (some .int) := ⟨mem_tables_1_2 121 rfl rfl, mem_tables_1_2 119 rfl rfl, mem_tables_1_2 120 rfl rfl, mem_tables_1_1 2 rfl rfl⟩
theorem kd_Game_press : KD y_Game_press 1 := ⟨by decide, by decide, by decide +kernel⟩
set_option maxRecDepth 20000 in
theorem k_Desk_key : KV y_Desk_key b_Desk_key 3 (some .int) := ⟨mem_tables_1_2 117 rfl rfl, mem_tables_1_2 115 rfl rfl, mem_tables_1_2 116 rfl rfl, mem_tables_1_1 1 rfl rfl⟩
theorem kd_Desk_key : KD y_Desk_key 1 := ⟨by decide, by decide, by decide +kernel⟩
set_option maxRecDepth 20000 in
theorem k_Hero_reset : KV y_Hero_reset b_Hero_reset 1 none := ⟨mem_tables_1_1 151 rfl rfl, mem_tables_1_1 149 rfl rfl, mem_tables_1_1 150 rfl rfl, mem_tables_1_1 8 rfl rfl⟩
theorem kd_Hero_reset : KD y_Hero_reset 0 := ⟨by decide, by decide, by decide +kernel⟩
set_option maxRecDepth 20000 in
theorem k_Game_begin : KV y_Game_begin b_Game_begin 1 none := ⟨mem_tables_1_1 231 rfl rfl, mem_tables_1_1 229 rfl rfl, mem_tables_1_1 230 rfl rfl, mem_tables_1_1 2 rfl rfl⟩
theorem kd_Game_begin : KD y_Game_begin 0 := ⟨by decide, by decide, by decide +kernel⟩
set_option maxRecDepth 20000 in
theorem k_Desk_rewind : KV y_Desk_rewind b_Desk_rewind 3 (some .int) := ⟨mem_tables_1_2 225 rfl rfl, mem_tables_1_2 223 rfl rfl, mem_tables_1_2 224 rfl rfl, mem_tables_1_1 1 rfl rfl⟩
theorem kd_Desk_rewind : KD y_Desk_rewind 1 := ⟨by decide, by decide, by decide +kernel⟩
set_option maxRecDepth 20000 in
theorem k_Desk_whoIsAt : KV y_Desk_whoIsAt b_Desk_whoIsAt 3 (some .int) := ⟨mem_tables_1_2 234 rfl rfl, mem_tables_1_2 233 rfl rfl, tb_in (List.mem_append_left _ (by decide +kernel)) rfl, mem_tables_1_1 1 rfl rfl⟩
theorem kd_Desk_whoIsAt : KD y_Desk_whoIsAt 1 := ⟨by decide, by decide, by decide +kernel⟩
set_option maxRecDepth 20000 in
theorem k_Desk_cell : KV y_Desk_cell b_Desk_cell 5 (some .int) := ⟨mem_tables_1_2 229 rfl rfl, mem_tables_1_2 227 rfl rfl, mem_tables_1_2 228 rfl rfl, mem_tables_1_1 1 rfl rfl⟩
theorem kd_Desk_cell : KD y_Desk_cell 3 := ⟨by decide, by decide, by decide +kernel⟩
set_option maxRecDepth 20000 in
theorem k_Desk_monster : KV y_Desk_monster b_Desk_monster 4 (some .int) := ⟨mem_tables_1_3 1 rfl rfl, mem_tables_1_2 239 rfl rfl, mem_tables_1_3 0 rfl rfl, mem_tables_1_1 1 rfl rfl⟩
theorem kd_Desk_monster : KD y_Desk_monster 2 := ⟨by decide, by decide, by decide +kernel⟩
set_option maxRecDepth 20000 in
theorem k_Desk_player : KV y_Desk_player b_Desk_player 3 (some .int) := ⟨mem_tables_1_3 5 rfl rfl, mem_tables_1_3 3 rfl rfl, mem_tables_1_3 4 rfl rfl, mem_tables_1_1 1 rfl rfl⟩
theorem kd_Desk_player : KD y_Desk_player 1 := ⟨by decide, by decide, by decide +kernel⟩
set_option maxRecDepth 20000 in
theorem k_Desk_recorded : KV y_Desk_recorded b_Desk_recorded 2 (some .int) := ⟨mem_tables_1_3 11 rfl rfl, mem_tables_1_3 9 rfl rfl, mem_tables_1_3 10 rfl rfl, mem_tables_1_1 1 rfl rfl⟩
theorem kd_Desk_recorded : KD y_Desk_recorded 1 := ⟨by decide, by decide, by decide +kernel⟩
set_option maxRecDepth 20000 in
theorem k_Desk_mix : KS y_Desk_mix b_Desk_mix 4 (some .long) := ⟨mem_tables_1_3 19 rfl rfl, mem_tables_1_3 18 rfl rfl, mem_tables_1_1 1 rfl rfl⟩
theorem kd_Desk_mix : KD y_Desk_mix 2 := ⟨by decide, by decide, by decide +kernel⟩
set_option maxRecDepth 20000 in
theorem k_Desk_mixHero : KV y_Desk_mixHero b_Desk_mixHero 7 (some .long) := ⟨mem_tables_1_3 24 rfl rfl, mem_tables_1_3 23 rfl rfl, tb_in (List.mem_append_left _ (by decide +kernel)) rfl, mem_tables_1_1 1 rfl rfl⟩
theorem kd_Desk_mixHero : KD y_Desk_mixHero 1 := ⟨by decide, by decide, by decide +kernel⟩
set_option maxRecDepth 20000 in
theorem k_Desk_mixMonsters : KV y_Desk_mixMonsters b_Desk_mixMonsters 7 (some .long) := ⟨mem_tables_1_3 28 rfl rfl, mem_tables_1_3 27 rfl rfl, tb_in (List.mem_append_left _ (by decide +kernel)) rfl, mem_tables_1_1 1 rfl rfl⟩
theorem kd_Desk_mixMonsters : KD y_Desk_mixMonsters 1 := ⟨by decide, by decide, by decide +kernel⟩
set_option maxRecDepth 20000 in
theorem k_Desk_mixThings : KV y_Desk_mixThings b_Desk_mixThings 7 (some .long) := ⟨mem_tables_1_3 32 rfl rfl, mem_tables_1_3 31 rfl rfl, tb_in (List.mem_append_left _ (by decide +kernel)) rfl, mem_tables_1_1 1 rfl rfl⟩
theorem kd_Desk_mixThings : KD y_Desk_mixThings 1 := ⟨by decide, by decide, by decide +kernel⟩
set_option maxRecDepth 20000 in
theorem k_Desk_hash : KV y_Desk_hash b_Desk_hash 3 (some .long) := ⟨mem_tables_1_3 15 rfl rfl, mem_tables_1_3 13 rfl rfl, mem_tables_1_3 14 rfl rfl, mem_tables_1_1 1 rfl rfl⟩
theorem kd_Desk_hash : KD y_Desk_hash 0 := ⟨by decide, by decide, by decide +kernel⟩
set_option maxRecDepth 20000 in
theorem k_Monsters_countThere : KV y_Monsters_countThere b_Monsters_countThere 4 (some .int) := ⟨mem_tables_1_3 40 rfl rfl, mem_tables_1_3 38 rfl rfl, mem_tables_1_3 39 rfl rfl, mem_tables_1_1 6 rfl rfl⟩
theorem kd_Monsters_countThere : KD y_Monsters_countThere 1 := ⟨by decide, by decide, by decide +kernel⟩
set_option maxRecDepth 20000 in
theorem k_Desk_countFilled : KS y_Desk_countFilled b_Desk_countFilled 6 (some .int) := ⟨mem_tables_1_3 43 rfl rfl, mem_tables_1_3 42 rfl rfl, mem_tables_1_1 1 rfl rfl⟩
theorem kd_Desk_countFilled : KD y_Desk_countFilled 1 := ⟨by decide, by decide, by decide +kernel⟩
set_option maxRecDepth 20000 in
theorem k_Level_countFloorInSight : KV y_Level_countFloorInSight b_Level_countFloorInSight 4 (some .int) := ⟨mem_tables_1_3 47 rfl rfl, mem_tables_1_3 45 rfl rfl, mem_tables_1_3 46 rfl rfl, mem_tables_1_1 5 rfl rfl⟩
theorem kd_Level_countFloorInSight : KD y_Level_countFloorInSight 1 := ⟨by decide, by decide, by decide +kernel⟩
set_option maxRecDepth 20000 in
theorem k_Desk_count : KV y_Desk_count b_Desk_count 2 (some .int) := ⟨mem_tables_1_3 36 rfl rfl, mem_tables_1_3 34 rfl rfl, mem_tables_1_3 35 rfl rfl, mem_tables_1_1 1 rfl rfl⟩
theorem kd_Desk_count : KD y_Desk_count 1 := ⟨by decide, by decide, by decide +kernel⟩
set_option maxRecDepth 20000 in
theorem k_Model_turn : KS y_Model_turn b_Model_turn 1 (some .int) := ⟨mem_tables_1_3 223 rfl rfl, mem_tables_1_3 222 rfl rfl, mem_tables_1_1 11 rfl rfl⟩
theorem kd_Model_turn : KD y_Model_turn 1 := ⟨by decide, by decide, by decide +kernel⟩
set_option maxRecDepth 20000 in
theorem k_Model_in : KS y_Model_in b_Model_in 3 (some .boolean) := ⟨mem_tables_1_3 101 rfl rfl, mem_tables_1_3 100 rfl rfl, mem_tables_1_1 11 rfl rfl⟩
theorem kd_Model_in : KD y_Model_in 3 := ⟨by decide, by decide, by decide +kernel⟩
set_option maxRecDepth 20000 in
theorem k_Model_isKey : KS y_Model_isKey b_Model_isKey 1 (some .boolean) := ⟨mem_tables_1_3 220 rfl rfl, mem_tables_1_3 219 rfl rfl, mem_tables_1_1 11 rfl rfl⟩
theorem kd_Model_isKey : KD y_Model_isKey 1 := ⟨by decide, by decide, by decide +kernel⟩
set_option maxRecDepth 20000 in
theorem k_Model_next : KS y_Model_next b_Model_next 2 (some .long) := ⟨mem_tables_1_3 72 rfl rfl, mem_tables_1_3 71 rfl rfl, mem_tables_1_1 11 rfl rfl⟩
theorem kd_Model_next : KD y_Model_next 1 := ⟨by decide, by decide, by decide +kernel⟩
set_option maxRecDepth 20000 in
theorem k_Model_draw : KV y_Model_draw b_Model_draw 2 (some .int) := ⟨mem_tables_1_4 9 rfl rfl, mem_tables_1_4 8 rfl rfl, tb_in (List.mem_append_left _ (by decide +kernel)) rfl, mem_tables_1_1 11 rfl rfl⟩
theorem kd_Model_draw : KD y_Model_draw 1 := ⟨by decide, by decide, by decide +kernel⟩
set_option maxRecDepth 20000 in
theorem k_Model_monsterAt : KV y_Model_monsterAt b_Model_monsterAt 4 (some .int) := ⟨mem_tables_1_3 86 rfl rfl, mem_tables_1_3 85 rfl rfl, tb_in (List.mem_append_left _ (by decide +kernel)) rfl, mem_tables_1_1 11 rfl rfl⟩
theorem kd_Model_monsterAt : KD y_Model_monsterAt 2 := ⟨by decide, by decide, by decide +kernel⟩
set_option maxRecDepth 20000 in
theorem k_Model_uses : KV y_Model_uses b_Model_uses 6 (some .boolean) := ⟨mem_tables_1_4 5 rfl rfl, mem_tables_1_4 4 rfl rfl, tb_in (List.mem_append_left _ (by decide +kernel)) rfl, mem_tables_1_1 11 rfl rfl⟩
theorem kd_Model_uses : KD y_Model_uses 1 := ⟨by decide, by decide, by decide +kernel⟩
set_option maxRecDepth 20000 in
theorem k_Model_gets : KV y_Model_gets b_Model_gets 2 (some .boolean) := ⟨mem_tables_1_4 1 rfl rfl, mem_tables_1_4 0 rfl rfl, tb_in (List.mem_append_left _ (by decide +kernel)) rfl, mem_tables_1_1 11 rfl rfl⟩
theorem kd_Model_gets : KD y_Model_gets 0 := ⟨by decide, by decide, by decide +kernel⟩
set_option maxRecDepth 20000 in
theorem k_Model_dx : KS y_Model_dx b_Model_dx 1 (some .int) := ⟨mem_tables_1_3 234 rfl rfl, mem_tables_1_3 233 rfl rfl, mem_tables_1_1 11 rfl rfl⟩
theorem kd_Model_dx : KD y_Model_dx 1 := ⟨by decide, by decide, by decide +kernel⟩
set_option maxRecDepth 20000 in
theorem k_Model_dy : KS y_Model_dy b_Model_dy 1 (some .int) := ⟨mem_tables_1_3 237 rfl rfl, mem_tables_1_3 236 rfl rfl, mem_tables_1_1 11 rfl rfl⟩
theorem kd_Model_dy : KD y_Model_dy 1 := ⟨by decide, by decide, by decide +kernel⟩
set_option maxRecDepth 20000 in
theorem k_Model_isFloor : KV y_Model_isFloor b_Model_isFloor 3 (some .boolean) := ⟨mem_tables_1_3 112 rfl rfl, mem_tables_1_3 111 rfl rfl, tb_in (List.mem_append_left _ (by decide +kernel)) rfl, mem_tables_1_1 11 rfl rfl⟩
theorem kd_Model_isFloor : KD y_Model_isFloor 2 := ⟨by decide, by decide, by decide +kernel⟩
set_option maxRecDepth 20000 in
theorem k_Model_goes : KV y_Model_goes b_Model_goes 5 (some .boolean) := ⟨mem_tables_1_3 231 rfl rfl, mem_tables_1_3 230 rfl rfl, tb_in (List.mem_append_left _ (by decide +kernel)) rfl, mem_tables_1_1 11 rfl rfl⟩
theorem kd_Model_goes : KD y_Model_goes 1 := ⟨by decide, by decide, by decide +kernel⟩
set_option maxRecDepth 20000 in
theorem k_Model_make : KV y_Model_make b_Model_make 2 (some .int) := ⟨mem_tables_1_3 69 rfl rfl, mem_tables_1_3 68 rfl rfl, tb_in (List.mem_append_left _ (by decide +kernel)) rfl, mem_tables_1_1 11 rfl rfl⟩
theorem kd_Model_make : KD y_Model_make 1 := ⟨by decide, by decide, by decide +kernel⟩
set_option maxRecDepth 20000 in
theorem k_Model_dig : KV y_Model_dig b_Model_dig 7 none := ⟨mem_tables_1_3 78 rfl rfl, mem_tables_1_3 77 rfl rfl, tb_in (List.mem_append_left _ (by decide +kernel)) rfl, mem_tables_1_1 11 rfl rfl⟩
theorem kd_Model_dig : KD y_Model_dig 4 := ⟨by decide, by decide, by decide +kernel⟩
set_option maxRecDepth 20000 in
theorem k_Model_way : KV y_Model_way b_Model_way 7 none := ⟨mem_tables_1_3 82 rfl rfl, mem_tables_1_3 81 rfl rfl, tb_in (List.mem_append_left _ (by decide +kernel)) rfl, mem_tables_1_1 11 rfl rfl⟩
theorem kd_Model_way : KD y_Model_way 2 := ⟨by decide, by decide, by decide +kernel⟩
set_option maxRecDepth 20000 in
theorem k_Model_isNear : KV y_Model_isNear b_Model_isNear 3 (some .boolean) := ⟨mem_tables_1_3 98 rfl rfl, mem_tables_1_3 97 rfl rfl, tb_in (List.mem_append_left _ (by decide +kernel)) rfl, mem_tables_1_1 11 rfl rfl⟩
theorem kd_Model_isNear : KD y_Model_isNear 2 := ⟨by decide, by decide, by decide +kernel⟩
set_option maxRecDepth 20000 in
theorem k_Model_down : KS y_Model_down b_Model_down 2 (some .int) := ⟨mem_tables_1_3 108 rfl rfl, mem_tables_1_3 107 rfl rfl, mem_tables_1_1 11 rfl rfl⟩
theorem kd_Model_down : KD y_Model_down 2 := ⟨by decide, by decide, by decide +kernel⟩
set_option maxRecDepth 20000 in
theorem k_Model_isClear : KV y_Model_isClear b_Model_isClear 11 (some .boolean) := ⟨mem_tables_1_3 105 rfl rfl, mem_tables_1_3 104 rfl rfl, tb_in (List.mem_append_left _ (by decide +kernel)) rfl, mem_tables_1_1 11 rfl rfl⟩
theorem kd_Model_isClear : KD y_Model_isClear 4 := ⟨by decide, by decide, by decide +kernel⟩
set_option maxRecDepth 20000 in
theorem k_Model_isSeen : KV y_Model_isSeen b_Model_isSeen 3 (some .boolean) := ⟨mem_tables_1_3 94 rfl rfl, mem_tables_1_3 93 rfl rfl, tb_in (List.mem_append_left _ (by decide +kernel)) rfl, mem_tables_1_1 11 rfl rfl⟩
theorem kd_Model_isSeen : KD y_Model_isSeen 2 := ⟨by decide, by decide, by decide +kernel⟩
set_option maxRecDepth 20000 in
theorem k_Model_know : KV y_Model_know b_Model_know 2 none := ⟨mem_tables_1_3 90 rfl rfl, mem_tables_1_3 89 rfl rfl, tb_in (List.mem_append_left _ (by decide +kernel)) rfl, mem_tables_1_1 11 rfl rfl⟩
theorem kd_Model_know : KD y_Model_know 0 := ⟨by decide, by decide, by decide +kernel⟩
set_option maxRecDepth 20000 in
theorem k_Model_build : KV y_Model_build b_Model_build 9 none := ⟨mem_tables_1_3 64 rfl rfl, mem_tables_1_3 63 rfl rfl, tb_in (List.mem_append_left _ (by decide +kernel)) rfl, mem_tables_1_1 11 rfl rfl⟩
theorem kd_Model_build : KD y_Model_build 1 := ⟨by decide, by decide, by decide +kernel⟩
set_option maxRecDepth 20000 in
theorem k_Model_measure : KV y_Model_measure b_Model_measure 7 none := ⟨mem_tables_1_4 29 rfl rfl, mem_tables_1_4 28 rfl rfl, tb_in (List.mem_append_left _ (by decide +kernel)) rfl, mem_tables_1_1 11 rfl rfl⟩
theorem kd_Model_measure : KD y_Model_measure 0 := ⟨by decide, by decide, by decide +kernel⟩
set_option maxRecDepth 20000 in
theorem k_Model_wound : KV y_Model_wound b_Model_wound 2 none := ⟨mem_tables_1_4 21 rfl rfl, mem_tables_1_4 20 rfl rfl, tb_in (List.mem_append_left _ (by decide +kernel)) rfl, mem_tables_1_1 11 rfl rfl⟩
theorem kd_Model_wound : KD y_Model_wound 1 := ⟨by decide, by decide, by decide +kernel⟩
set_option maxRecDepth 20000 in
theorem k_Model_put : KV y_Model_put b_Model_put 4 none := ⟨mem_tables_1_4 25 rfl rfl, mem_tables_1_4 24 rfl rfl, tb_in (List.mem_append_left _ (by decide +kernel)) rfl, mem_tables_1_1 11 rfl rfl⟩
theorem kd_Model_put : KD y_Model_put 3 := ⟨by decide, by decide, by decide +kernel⟩
set_option maxRecDepth 20000 in
theorem k_Model_acts : KV y_Model_acts b_Model_acts 10 none := ⟨mem_tables_1_4 17 rfl rfl, mem_tables_1_4 16 rfl rfl, tb_in (List.mem_append_left _ (by decide +kernel)) rfl, mem_tables_1_1 11 rfl rfl⟩
theorem kd_Model_acts : KD y_Model_acts 1 := ⟨by decide, by decide, by decide +kernel⟩
set_option maxRecDepth 20000 in
theorem k_Model_pass : KV y_Model_pass b_Model_pass 2 none := ⟨mem_tables_1_4 13 rfl rfl, mem_tables_1_4 12 rfl rfl, tb_in (List.mem_append_left _ (by decide +kernel)) rfl, mem_tables_1_1 11 rfl rfl⟩
theorem kd_Model_pass : KD y_Model_pass 0 := ⟨by decide, by decide, by decide +kernel⟩
set_option maxRecDepth 20000 in
theorem k_Model_does : KV y_Model_does b_Model_does 4 (some .int) := ⟨mem_tables_1_3 227 rfl rfl, mem_tables_1_3 226 rfl rfl, tb_in (List.mem_append_left _ (by decide +kernel)) rfl, mem_tables_1_1 11 rfl rfl⟩
theorem kd_Model_does : KD y_Model_does 1 := ⟨by decide, by decide, by decide +kernel⟩
set_option maxRecDepth 20000 in
theorem k_Model_key : KV y_Model_key b_Model_key 2 (some .int) := ⟨mem_tables_1_3 217 rfl rfl, mem_tables_1_3 215 rfl rfl, mem_tables_1_3 216 rfl rfl, mem_tables_1_1 11 rfl rfl⟩
theorem kd_Model_key : KD y_Model_key 1 := ⟨by decide, by decide, by decide +kernel⟩
set_option maxRecDepth 20000 in
theorem k_Model_begin : KV y_Model_begin b_Model_begin 1 none := ⟨mem_tables_1_3 60 rfl rfl, mem_tables_1_3 59 rfl rfl, tb_in (List.mem_append_left _ (by decide +kernel)) rfl, mem_tables_1_1 11 rfl rfl⟩
theorem kd_Model_begin : KD y_Model_begin 0 := ⟨by decide, by decide, by decide +kernel⟩
set_option maxRecDepth 20000 in
theorem k_Model_rewind : KV y_Model_rewind b_Model_rewind 3 (some .int) := ⟨mem_tables_1_4 33 rfl rfl, mem_tables_1_4 31 rfl rfl, mem_tables_1_4 32 rfl rfl, mem_tables_1_1 11 rfl rfl⟩
theorem kd_Model_rewind : KD y_Model_rewind 1 := ⟨by decide, by decide, by decide +kernel⟩
set_option maxRecDepth 20000 in
theorem k_Model_cell : KV y_Model_cell b_Model_cell 6 (some .int) := ⟨mem_tables_1_4 37 rfl rfl, mem_tables_1_4 35 rfl rfl, mem_tables_1_4 36 rfl rfl, mem_tables_1_1 11 rfl rfl⟩
theorem kd_Model_cell : KD y_Model_cell 3 := ⟨by decide, by decide, by decide +kernel⟩
set_option maxRecDepth 20000 in
theorem k_Model_monster : KV y_Model_monster b_Model_monster 3 (some .int) := ⟨mem_tables_1_4 41 rfl rfl, mem_tables_1_4 39 rfl rfl, mem_tables_1_4 40 rfl rfl, mem_tables_1_1 11 rfl rfl⟩
theorem kd_Model_monster : KD y_Model_monster 2 := ⟨by decide, by decide, by decide +kernel⟩
set_option maxRecDepth 20000 in
theorem k_Model_player : KV y_Model_player b_Model_player 2 (some .int) := ⟨mem_tables_1_4 45 rfl rfl, mem_tables_1_4 43 rfl rfl, mem_tables_1_4 44 rfl rfl, mem_tables_1_1 11 rfl rfl⟩
theorem kd_Model_player : KD y_Model_player 1 := ⟨by decide, by decide, by decide +kernel⟩
set_option maxRecDepth 20000 in
theorem k_Model_recorded : KV y_Model_recorded b_Model_recorded 2 (some .int) := ⟨mem_tables_1_4 49 rfl rfl, mem_tables_1_4 47 rfl rfl, mem_tables_1_4 48 rfl rfl, mem_tables_1_1 11 rfl rfl⟩
theorem kd_Model_recorded : KD y_Model_recorded 1 := ⟨by decide, by decide, by decide +kernel⟩
set_option maxRecDepth 20000 in
theorem k_Model_hash : KV y_Model_hash b_Model_hash 5 (some .long) := ⟨mem_tables_1_4 53 rfl rfl, mem_tables_1_4 51 rfl rfl, mem_tables_1_4 52 rfl rfl, mem_tables_1_1 11 rfl rfl⟩
theorem kd_Model_hash : KD y_Model_hash 0 := ⟨by decide, by decide, by decide +kernel⟩
set_option maxRecDepth 20000 in
theorem k_Model_count : KV y_Model_count b_Model_count 4 (some .int) := ⟨mem_tables_1_4 60 rfl rfl, mem_tables_1_4 58 rfl rfl, mem_tables_1_4 59 rfl rfl, mem_tables_1_1 11 rfl rfl⟩
theorem kd_Model_count : KD y_Model_count 1 := ⟨by decide, by decide, by decide +kernel⟩
set_option maxRecDepth 20000 in
theorem k_Draws_init : KI y_Draws_init b_Draws_init 1 none := ⟨mem_tables_1_1 30 rfl rfl, mem_tables_1_1 29 rfl rfl, mem_tables_1_1 3 rfl rfl⟩
theorem kd_Draws_init : KD y_Draws_init 0 := ⟨by decide, by decide, by decide +kernel⟩
set_option maxRecDepth 20000 in
theorem k_Maker_init : KI y_Maker_init b_Maker_init 1 none := ⟨mem_tables_1_1 43 rfl rfl, mem_tables_1_1 42 rfl rfl, mem_tables_1_1 4 rfl rfl⟩
theorem kd_Maker_init : KD y_Maker_init 0 := ⟨by decide, by decide, by decide +kernel⟩
set_option maxRecDepth 20000 in
theorem k_Level_init : KI y_Level_init b_Level_init 1 none := ⟨mem_tables_1_1 68 rfl rfl, mem_tables_1_1 67 rfl rfl, mem_tables_1_1 5 rfl rfl⟩
theorem kd_Level_init : KD y_Level_init 0 := ⟨by decide, by decide, by decide +kernel⟩
set_option maxRecDepth 20000 in
theorem k_Monsters_init : KI y_Monsters_init b_Monsters_init 1 none := ⟨mem_tables_1_1 92 rfl rfl, mem_tables_1_1 91 rfl rfl, mem_tables_1_1 6 rfl rfl⟩
theorem kd_Monsters_init : KD y_Monsters_init 0 := ⟨by decide, by decide, by decide +kernel⟩
set_option maxRecDepth 20000 in
theorem k_Distances_init : KI y_Distances_init b_Distances_init 1 none := ⟨mem_tables_1_1 129 rfl rfl, mem_tables_1_1 128 rfl rfl, mem_tables_1_1 7 rfl rfl⟩
theorem kd_Distances_init : KD y_Distances_init 0 := ⟨by decide, by decide, by decide +kernel⟩
set_option maxRecDepth 20000 in
theorem k_Hero_init : KI y_Hero_init b_Hero_init 1 none := ⟨mem_tables_1_1 146 rfl rfl, mem_tables_1_1 145 rfl rfl, mem_tables_1_1 8 rfl rfl⟩
theorem kd_Hero_init : KD y_Hero_init 0 := ⟨by decide, by decide, by decide +kernel⟩
set_option maxRecDepth 20000 in
theorem k_Game_init : KI y_Game_init b_Game_init 2 none := ⟨mem_tables_1_1 24 rfl rfl, mem_tables_1_1 23 rfl rfl, mem_tables_1_1 2 rfl rfl⟩
theorem kd_Game_init : KD y_Game_init 1 := ⟨by decide, by decide, by decide +kernel⟩
set_option maxRecDepth 20000 in
theorem k_Desk_init : KI y_Desk_init b_Desk_init 2 none := ⟨mem_tables_1_1 16 rfl rfl, mem_tables_1_1 15 rfl rfl, mem_tables_1_1 1 rfl rfl⟩
theorem kd_Desk_init : KD y_Desk_init 1 := ⟨by decide, by decide, by decide +kernel⟩
set_option maxRecDepth 20000 in
theorem k_Model_init : KI y_Model_init b_Model_init 2 none := ⟨mem_tables_1_3 55 rfl rfl, mem_tables_1_3 54 rfl rfl, mem_tables_1_1 11 rfl rfl⟩
theorem kd_Model_init : KD y_Model_init 1 := ⟨by decide, by decide, by decide +kernel⟩
set_option maxRecDepth 20000 in
theorem k_Math_abs : Cond.static Lib.Math.abs.name ∈ TB ∧ Cond.initialized "java/lang/Math" ∈ TB ∧ Cond.code Lib.Math.abs.name Lib.Math.abs.code 1 (some .int) ∈ TB := ⟨mem_tables_1_2 83 rfl rfl, mem_tables_1_1 10 rfl rfl, mem_tables_1_2 84 rfl rfl⟩
set_option maxRecDepth 20000 in
theorem k_Math_max : Cond.static Lib.Math.max.name ∈ TB ∧ Cond.initialized "java/lang/Math" ∈ TB ∧ Cond.code Lib.Math.max.name Lib.Math.max.code 2 (some .int) ∈ TB := ⟨mem_tables_1_2 27 rfl rfl, mem_tables_1_1 10 rfl rfl, mem_tables_1_2 28 rfl rfl⟩
set_option maxRecDepth 20000 in
theorem k_Math_min : Cond.static Lib.Math.min.name ∈ TB ∧ Cond.initialized "java/lang/Math" ∈ TB ∧ Cond.code Lib.Math.min.name Lib.Math.min.code 2 (some .int) ∈ TB := ⟨mem_tables_1_2 24 rfl rfl, mem_tables_1_1 10 rfl rfl, mem_tables_1_2 25 rfl rfl⟩
