theorem d_Desk_count_0 : decode b_Desk_count 0 = .ok (.iload_n 1, 1) := by decide +kernel
theorem d_Desk_count_1 : decode b_Desk_count 1 = .ok (.tableswitch 233 0 10 #[59, 69, 76, 86, 100, 114, 130, 146, 169, 185, 220], 59) := by decide +kernel
theorem d_Desk_count_60 : decode b_Desk_count 60 = .ok (.aload_n 0, 1) := by decide +kernel
theorem d_Desk_count_61 : decode b_Desk_count 61 = .ok (.getfield 14, 3) := by decide +kernel
theorem d_Desk_count_64 : decode b_Desk_count 64 = .ok (.getfield 33, 3) := by decide +kernel
theorem d_Desk_count_67 : decode b_Desk_count 67 = .ok (.goto 168, 3) := by decide +kernel
theorem d_Desk_count_70 : decode b_Desk_count 70 = .ok (.aload_n 0, 1) := by decide +kernel
theorem d_Desk_count_71 : decode b_Desk_count 71 = .ok (.getfield 22, 3) := by decide +kernel
theorem d_Desk_count_74 : decode b_Desk_count 74 = .ok (.goto 161, 3) := by decide +kernel
theorem d_Desk_count_77 : decode b_Desk_count 77 = .ok (.aload_n 0, 1) := by decide +kernel
theorem d_Desk_count_78 : decode b_Desk_count 78 = .ok (.getfield 14, 3) := by decide +kernel
theorem d_Desk_count_81 : decode b_Desk_count 81 = .ok (.getfield 157, 3) := by decide +kernel
theorem d_Desk_count_84 : decode b_Desk_count 84 = .ok (.goto 151, 3) := by decide +kernel
theorem d_Desk_count_87 : decode b_Desk_count 87 = .ok (.aload_n 0, 1) := by decide +kernel
theorem d_Desk_count_88 : decode b_Desk_count 88 = .ok (.getfield 14, 3) := by decide +kernel
theorem d_Desk_count_91 : decode b_Desk_count 91 = .ok (.getfield 76, 3) := by decide +kernel
theorem d_Desk_count_94 : decode b_Desk_count 94 = .ok (.iconst 0, 1) := by decide +kernel
theorem d_Desk_count_95 : decode b_Desk_count 95 = .ok (.invokevirtual 160, 3) := by decide +kernel
theorem d_Desk_count_98 : decode b_Desk_count 98 = .ok (.goto 137, 3) := by decide +kernel
theorem d_Desk_count_101 : decode b_Desk_count 101 = .ok (.aload_n 0, 1) := by decide +kernel
theorem d_Desk_count_102 : decode b_Desk_count 102 = .ok (.getfield 14, 3) := by decide +kernel
theorem d_Desk_count_105 : decode b_Desk_count 105 = .ok (.getfield 76, 3) := by decide +kernel
theorem d_Desk_count_108 : decode b_Desk_count 108 = .ok (.iconst 1, 1) := by decide +kernel
theorem d_Desk_count_109 : decode b_Desk_count 109 = .ok (.invokevirtual 160, 3) := by decide +kernel
theorem d_Desk_count_112 : decode b_Desk_count 112 = .ok (.goto 123, 3) := by decide +kernel
theorem d_Desk_count_115 : decode b_Desk_count 115 = .ok (.aload_n 0, 1) := by decide +kernel
theorem d_Desk_count_116 : decode b_Desk_count 116 = .ok (.getfield 14, 3) := by decide +kernel
theorem d_Desk_count_119 : decode b_Desk_count 119 = .ok (.getfield 36, 3) := by decide +kernel
theorem d_Desk_count_122 : decode b_Desk_count 122 = .ok (.getfield 64, 3) := by decide +kernel
theorem d_Desk_count_125 : decode b_Desk_count 125 = .ok (.invokestatic 164, 3) := by decide +kernel
theorem d_Desk_count_128 : decode b_Desk_count 128 = .ok (.goto 107, 3) := by decide +kernel
theorem d_Desk_count_131 : decode b_Desk_count 131 = .ok (.aload_n 0, 1) := by decide +kernel
theorem d_Desk_count_132 : decode b_Desk_count 132 = .ok (.getfield 14, 3) := by decide +kernel
theorem d_Desk_count_135 : decode b_Desk_count 135 = .ok (.getfield 36, 3) := by decide +kernel
theorem d_Desk_count_138 : decode b_Desk_count 138 = .ok (.getfield 40, 3) := by decide +kernel
theorem d_Desk_count_141 : decode b_Desk_count 141 = .ok (.invokestatic 164, 3) := by decide +kernel
theorem d_Desk_count_144 : decode b_Desk_count 144 = .ok (.goto 91, 3) := by decide +kernel
theorem d_Desk_count_147 : decode b_Desk_count 147 = .ok (.aload_n 0, 1) := by decide +kernel
theorem d_Desk_count_148 : decode b_Desk_count 148 = .ok (.getfield 14, 3) := by decide +kernel
theorem d_Desk_count_151 : decode b_Desk_count 151 = .ok (.getfield 36, 3) := by decide +kernel
theorem d_Desk_count_154 : decode b_Desk_count 154 = .ok (.aload_n 0, 1) := by decide +kernel
theorem d_Desk_count_155 : decode b_Desk_count 155 = .ok (.getfield 14, 3) := by decide +kernel
theorem d_Desk_count_158 : decode b_Desk_count 158 = .ok (.getfield 45, 3) := by decide +kernel
theorem d_Desk_count_161 : decode b_Desk_count 161 = .ok (.getfield 49, 3) := by decide +kernel
theorem d_Desk_count_164 : decode b_Desk_count 164 = .ok (.invokevirtual 168, 3) := by decide +kernel
theorem d_Desk_count_167 : decode b_Desk_count 167 = .ok (.goto 68, 3) := by decide +kernel
theorem d_Desk_count_170 : decode b_Desk_count 170 = .ok (.aload_n 0, 1) := by decide +kernel
theorem d_Desk_count_171 : decode b_Desk_count 171 = .ok (.getfield 14, 3) := by decide +kernel
theorem d_Desk_count_174 : decode b_Desk_count 174 = .ok (.getfield 36, 3) := by decide +kernel
theorem d_Desk_count_177 : decode b_Desk_count 177 = .ok (.getfield 58, 3) := by decide +kernel
theorem d_Desk_count_180 : decode b_Desk_count 180 = .ok (.invokestatic 164, 3) := by decide +kernel
theorem d_Desk_count_183 : decode b_Desk_count 183 = .ok (.goto 52, 3) := by decide +kernel
theorem d_Desk_count_186 : decode b_Desk_count 186 = .ok (.aload_n 0, 1) := by decide +kernel
theorem d_Desk_count_187 : decode b_Desk_count 187 = .ok (.getfield 14, 3) := by decide +kernel
theorem d_Desk_count_190 : decode b_Desk_count 190 = .ok (.getfield 45, 3) := by decide +kernel
theorem d_Desk_count_193 : decode b_Desk_count 193 = .ok (.invokevirtual 103, 3) := by decide +kernel
theorem d_Desk_count_196 : decode b_Desk_count 196 = .ok (.ifCond .eq 7, 3) := by decide +kernel
theorem d_Desk_count_199 : decode b_Desk_count 199 = .ok (.iconst 1, 1) := by decide +kernel
theorem d_Desk_count_200 : decode b_Desk_count 200 = .ok (.goto 35, 3) := by decide +kernel
theorem d_Desk_count_203 : decode b_Desk_count 203 = .ok (.aload_n 0, 1) := by decide +kernel
theorem d_Desk_count_204 : decode b_Desk_count 204 = .ok (.getfield 14, 3) := by decide +kernel
theorem d_Desk_count_207 : decode b_Desk_count 207 = .ok (.getfield 171, 3) := by decide +kernel
theorem d_Desk_count_210 : decode b_Desk_count 210 = .ok (.ifCond .eq 7, 3) := by decide +kernel
theorem d_Desk_count_213 : decode b_Desk_count 213 = .ok (.iconst 2, 1) := by decide +kernel
theorem d_Desk_count_214 : decode b_Desk_count 214 = .ok (.goto 21, 3) := by decide +kernel
theorem d_Desk_count_217 : decode b_Desk_count 217 = .ok (.iconst 0, 1) := by decide +kernel
theorem d_Desk_count_218 : decode b_Desk_count 218 = .ok (.goto 17, 3) := by decide +kernel
theorem d_Desk_count_221 : decode b_Desk_count 221 = .ok (.aload_n 0, 1) := by decide +kernel
theorem d_Desk_count_222 : decode b_Desk_count 222 = .ok (.getfield 14, 3) := by decide +kernel
theorem d_Desk_count_225 : decode b_Desk_count 225 = .ok (.getfield 67, 3) := by decide +kernel
theorem d_Desk_count_228 : decode b_Desk_count 228 = .ok (.getfield 175, 3) := by decide +kernel
theorem d_Desk_count_231 : decode b_Desk_count 231 = .ok (.goto 4, 3) := by decide +kernel
theorem d_Desk_count_234 : decode b_Desk_count 234 = .ok (.iconst (-1), 1) := by decide +kernel
theorem d_Desk_count_235 : decode b_Desk_count 235 = .ok (.ireturn, 1) := by decide +kernel
def f_Desk_count (n : Nat) (x1 : Int32) (σ : St) : Option (Int32 × St) := if x1 = 0 then (some (σ.1 3, σ)) else (if x1 = 1 then (some (σ.1 0, σ)) else (if x1 = 2 then (some (σ.1 4, σ)) else (if x1 = 3 then (bd (f_Monsters_countThere n 0 σ) (fun r5 σ6 => some (r5, σ6))) else (if x1 = 4 then (bd (f_Monsters_countThere n 1 σ) (fun r9 σ10 => some (r9, σ10))) else (if x1 = 5 then (bd (f_Desk_countFilled_things n σ) (fun r13 σ14 => some (r13, σ14))) else (if x1 = 6 then (bd (f_Desk_countFilled_ground n σ) (fun r17 σ18 => some (r17, σ18))) else (if x1 = 7 then (bd (f_Level_countFloorInSight n (σ.1 9) σ) (fun r21 σ22 => some (r21, σ22))) else (if x1 = 8 then (bd (f_Desk_countFilled_known n σ) (fun r25 σ26 => some (r25, σ26))) else (if x1 = 9 then (bd (f_Hero_isDead n σ) (fun r29 σ30 => if r29 = 0 then (if (σ30.1 5) = 0 then (some (0, σ30)) else (some (2, σ30))) else (some (1, σ30)))) else (if x1 = 10 then (some (σ.1 8, σ)) else (some ((-1), σ))))))))))))
set_option maxHeartbeats 4000000 in
set_option maxRecDepth 100000 in
theorem c_Desk_count (l : Launch) (D : va_G) (ad : Nat → Nat) (cA : Nat → ClassId) (tz : Nat → Nat) (n : Nat) (x1 : Int32) (σ : St) (r : Int32) (σr : St) (hf : f_Desk_count n x1 σ = some (r, σr)) : Ki l D cA tz (wl ad cA) y_Desk_count (.code y_Desk_count b_Desk_count 2 (some .int) :: TB) ({ frames := 3, cells := 0, slots := 0, locals := 76 }) [.ref (ad 0), .int x1] σ r σr := by
  refine x_openi (own := R_Desk) rfl (by decide) (fun p e s m args below meth c A Q X hml hZ hA H locs ls h hl rt => ?_)
  have hx := X.1
  have hb := X.2.1
  have hl : lv_has ls 2 [(0, .ref (ad 0)), (1, .int x1)] := hl
  unfold f_Desk_count at hf
  refine lv_iload_n hx hb d_Desk_count_0 rfl (lv_at hl 1 rfl) ?_
  by_cases c1 : x1 = 0
  · have hf := it c1 hf
    refine lv_tableIn (off := 59) (tgt := 60) hx hb d_Desk_count_1 (by rw [c1]; decide) (by rw [c1]; decide) (by rw [c1]; decide) (by decide) ?_
    refine lv_aload_n hx hb d_Desk_count_60 rfl (lv_at hl 0 rfl) ?_
    refine G_desk_game X h m_f_Desk_14 d_Desk_count_61 ?_
    refine G_game_ticks X h m_f_Desk_33 d_Desk_count_64 ?_
    refine lv_goto (tgt := 235) hx hb d_Desk_count_67 (by decide) ?_
    exact rt _ _ H locs 235 ls hf h d_Desk_count_235
  · have hf := ie c1 hf
    by_cases c2 : x1 = 1
    · have hf := it c2 hf
      refine lv_tableIn (off := 69) (tgt := 70) hx hb d_Desk_count_1 (by rw [c2]; decide) (by rw [c2]; decide) (by rw [c2]; decide) (by decide) ?_
      refine lv_aload_n hx hb d_Desk_count_70 rfl (lv_at hl 0 rfl) ?_
      refine G_desk_keyCount X h m_f_Desk_22 d_Desk_count_71 ?_
      refine lv_goto (tgt := 235) hx hb d_Desk_count_74 (by decide) ?_
      exact rt _ _ H locs 235 ls hf h d_Desk_count_235
    · have hf := ie c2 hf
      by_cases c3 : x1 = 2
      · have hf := it c3 hf
        refine lv_tableIn (off := 76) (tgt := 77) hx hb d_Desk_count_1 (by rw [c3]; decide) (by rw [c3]; decide) (by rw [c3]; decide) (by decide) ?_
        refine lv_aload_n hx hb d_Desk_count_77 rfl (lv_at hl 0 rfl) ?_
        refine G_desk_game X h m_f_Desk_14 d_Desk_count_78 ?_
        refine G_game_slain X h m_f_Desk_157 d_Desk_count_81 ?_
        refine lv_goto (tgt := 235) hx hb d_Desk_count_84 (by decide) ?_
        exact rt _ _ H locs 235 ls hf h d_Desk_count_235
      · have hf := ie c3 hf
        by_cases c4 : x1 = 3
        · have hf := it c4 hf
          refine lv_tableIn (off := 86) (tgt := 87) hx hb d_Desk_count_1 (by rw [c4]; decide) (by rw [c4]; decide) (by rw [c4]; decide) (by decide) ?_
          refine lv_aload_n hx hb d_Desk_count_87 rfl (lv_at hl 0 rfl) ?_
          refine G_desk_game X h m_f_Desk_14 d_Desk_count_88 ?_
          refine G_game_monsters X h m_f_Desk_76 d_Desk_count_91 ?_
          refine lv_iconst (v := 0) hx hb d_Desk_count_94 (by decide) ?_
          obtain ⟨r5, σ6, h7, hf⟩ := bd_s hf
          refine x_Vi (As := [.int 0]) (rest := []) X hml hl.1 hZ hA h (c_Monsters_countThere l D ad cA tz n 0 σ r5 σ6 h7) k_Monsters_countThere m_m_Desk_160 kd_Monsters_countThere ⟨rfl, rfl, Nat.le_of_ble_eq_true rfl, Nat.le_of_ble_eq_true rfl⟩ 6 rfl rfl rfl rfl rfl (Nat.le_of_ble_eq_true rfl) d_Desk_count_95 (fun H locs h => ?_)
          refine lv_goto (tgt := 235) hx hb d_Desk_count_98 (by decide) ?_
          exact rt _ _ H locs 235 ls hf h d_Desk_count_235
        · have hf := ie c4 hf
          by_cases c8 : x1 = 4
          · have hf := it c8 hf
            refine lv_tableIn (off := 100) (tgt := 101) hx hb d_Desk_count_1 (by rw [c8]; decide) (by rw [c8]; decide) (by rw [c8]; decide) (by decide) ?_
            refine lv_aload_n hx hb d_Desk_count_101 rfl (lv_at hl 0 rfl) ?_
            refine G_desk_game X h m_f_Desk_14 d_Desk_count_102 ?_
            refine G_game_monsters X h m_f_Desk_76 d_Desk_count_105 ?_
            refine lv_iconst (v := 1) hx hb d_Desk_count_108 (by decide) ?_
            obtain ⟨r9, σ10, h11, hf⟩ := bd_s hf
            refine x_Vi (As := [.int 1]) (rest := []) X hml hl.1 hZ hA h (c_Monsters_countThere l D ad cA tz n 1 σ r9 σ10 h11) k_Monsters_countThere m_m_Desk_160 kd_Monsters_countThere ⟨rfl, rfl, Nat.le_of_ble_eq_true rfl, Nat.le_of_ble_eq_true rfl⟩ 6 rfl rfl rfl rfl rfl (Nat.le_of_ble_eq_true rfl) d_Desk_count_109 (fun H locs h => ?_)
            refine lv_goto (tgt := 235) hx hb d_Desk_count_112 (by decide) ?_
            exact rt _ _ H locs 235 ls hf h d_Desk_count_235
          · have hf := ie c8 hf
            by_cases c12 : x1 = 5
            · have hf := it c12 hf
              refine lv_tableIn (off := 114) (tgt := 115) hx hb d_Desk_count_1 (by rw [c12]; decide) (by rw [c12]; decide) (by rw [c12]; decide) (by decide) ?_
              refine lv_aload_n hx hb d_Desk_count_115 rfl (lv_at hl 0 rfl) ?_
              refine G_desk_game X h m_f_Desk_14 d_Desk_count_116 ?_
              refine G_game_level X h m_f_Desk_36 d_Desk_count_119 ?_
              refine G_level_things X h m_f_Desk_64 d_Desk_count_122 ?_
              obtain ⟨r13, σ14, h15, hf⟩ := bd_s hf
              refine x_Si (As := [.ref (ad 11)]) (rest := []) X hml hl.1 hZ hA h (c_Desk_countFilled_things l D ad cA tz n σ r13 σ14 h15) k_Desk_countFilled m_m_Desk_164 kd_Desk_countFilled ⟨rfl, rfl, Nat.le_of_ble_eq_true rfl, Nat.le_of_ble_eq_true rfl⟩ rfl rfl (Nat.le_of_ble_eq_true rfl) d_Desk_count_125 (fun H locs h => ?_)
              refine lv_goto (tgt := 235) hx hb d_Desk_count_128 (by decide) ?_
              exact rt _ _ H locs 235 ls hf h d_Desk_count_235
            · have hf := ie c12 hf
              by_cases c16 : x1 = 6
              · have hf := it c16 hf
                refine lv_tableIn (off := 130) (tgt := 131) hx hb d_Desk_count_1 (by rw [c16]; decide) (by rw [c16]; decide) (by rw [c16]; decide) (by decide) ?_
                refine lv_aload_n hx hb d_Desk_count_131 rfl (lv_at hl 0 rfl) ?_
                refine G_desk_game X h m_f_Desk_14 d_Desk_count_132 ?_
                refine G_game_level X h m_f_Desk_36 d_Desk_count_135 ?_
                refine G_level_ground X h m_f_Desk_40 d_Desk_count_138 ?_
                obtain ⟨r17, σ18, h19, hf⟩ := bd_s hf
                refine x_Si (As := [.ref (ad 10)]) (rest := []) X hml hl.1 hZ hA h (c_Desk_countFilled_ground l D ad cA tz n σ r17 σ18 h19) k_Desk_countFilled m_m_Desk_164 kd_Desk_countFilled ⟨rfl, rfl, Nat.le_of_ble_eq_true rfl, Nat.le_of_ble_eq_true rfl⟩ rfl rfl (Nat.le_of_ble_eq_true rfl) d_Desk_count_141 (fun H locs h => ?_)
                refine lv_goto (tgt := 235) hx hb d_Desk_count_144 (by decide) ?_
                exact rt _ _ H locs 235 ls hf h d_Desk_count_235
              · have hf := ie c16 hf
                by_cases c20 : x1 = 7
                · have hf := it c20 hf
                  refine lv_tableIn (off := 146) (tgt := 147) hx hb d_Desk_count_1 (by rw [c20]; decide) (by rw [c20]; decide) (by rw [c20]; decide) (by decide) ?_
                  refine lv_aload_n hx hb d_Desk_count_147 rfl (lv_at hl 0 rfl) ?_
                  refine G_desk_game X h m_f_Desk_14 d_Desk_count_148 ?_
                  refine G_game_level X h m_f_Desk_36 d_Desk_count_151 ?_
                  refine lv_aload_n hx hb d_Desk_count_154 rfl (lv_at hl 0 rfl) ?_
                  refine G_desk_game X h m_f_Desk_14 d_Desk_count_155 ?_
                  refine G_game_hero X h m_f_Desk_45 d_Desk_count_158 ?_
                  refine G_hero_place X h m_f_Desk_49 d_Desk_count_161 ?_
                  obtain ⟨r21, σ22, h23, hf⟩ := bd_s hf
                  refine x_Vi (As := [.int (σ.1 9)]) (rest := []) X hml hl.1 hZ hA h (c_Level_countFloorInSight l D ad cA tz n (σ.1 9) σ r21 σ22 h23) k_Level_countFloorInSight m_m_Desk_168 kd_Level_countFloorInSight ⟨rfl, rfl, Nat.le_of_ble_eq_true rfl, Nat.le_of_ble_eq_true rfl⟩ 5 rfl rfl rfl rfl rfl (Nat.le_of_ble_eq_true rfl) d_Desk_count_164 (fun H locs h => ?_)
                  refine lv_goto (tgt := 235) hx hb d_Desk_count_167 (by decide) ?_
                  exact rt _ _ H locs 235 ls hf h d_Desk_count_235
                · have hf := ie c20 hf
                  by_cases c24 : x1 = 8
                  · have hf := it c24 hf
                    refine lv_tableIn (off := 169) (tgt := 170) hx hb d_Desk_count_1 (by rw [c24]; decide) (by rw [c24]; decide) (by rw [c24]; decide) (by decide) ?_
                    refine lv_aload_n hx hb d_Desk_count_170 rfl (lv_at hl 0 rfl) ?_
                    refine G_desk_game X h m_f_Desk_14 d_Desk_count_171 ?_
                    refine G_game_level X h m_f_Desk_36 d_Desk_count_174 ?_
                    refine G_level_known X h m_f_Desk_58 d_Desk_count_177 ?_
                    obtain ⟨r25, σ26, h27, hf⟩ := bd_s hf
                    refine x_Si (As := [.ref (ad 12)]) (rest := []) X hml hl.1 hZ hA h (c_Desk_countFilled_known l D ad cA tz n σ r25 σ26 h27) k_Desk_countFilled m_m_Desk_164 kd_Desk_countFilled ⟨rfl, rfl, Nat.le_of_ble_eq_true rfl, Nat.le_of_ble_eq_true rfl⟩ rfl rfl (Nat.le_of_ble_eq_true rfl) d_Desk_count_180 (fun H locs h => ?_)
                    refine lv_goto (tgt := 235) hx hb d_Desk_count_183 (by decide) ?_
                    exact rt _ _ H locs 235 ls hf h d_Desk_count_235
                  · have hf := ie c24 hf
                    by_cases c28 : x1 = 9
                    · have hf := it c28 hf
                      refine lv_tableIn (off := 185) (tgt := 186) hx hb d_Desk_count_1 (by rw [c28]; decide) (by rw [c28]; decide) (by rw [c28]; decide) (by decide) ?_
                      refine lv_aload_n hx hb d_Desk_count_186 rfl (lv_at hl 0 rfl) ?_
                      refine G_desk_game X h m_f_Desk_14 d_Desk_count_187 ?_
                      refine G_game_hero X h m_f_Desk_45 d_Desk_count_190 ?_
                      obtain ⟨r29, σ30, h31, hf⟩ := bd_s hf
                      refine x_Vi (As := []) (rest := []) X hml hl.1 hZ hA h (c_Hero_isDead l D ad cA tz n σ r29 σ30 h31) k_Hero_isDead m_m_Desk_103 kd_Hero_isDead ⟨rfl, rfl, Nat.le_of_ble_eq_true rfl, Nat.le_of_ble_eq_true rfl⟩ 8 rfl rfl rfl rfl rfl (Nat.le_of_ble_eq_true rfl) d_Desk_count_193 (fun H locs h => ?_)
                      refine lv_if_eq (tgt := 203) hx hb d_Desk_count_196 (by decide) (fun c32 => ?_) (fun c32 => ?_)
                      · have hf := it c32 hf
                        refine lv_aload_n hx hb d_Desk_count_203 rfl (lv_at hl 0 rfl) ?_
                        refine G_desk_game X h m_f_Desk_14 d_Desk_count_204 ?_
                        refine G_game_won X h m_f_Desk_171 d_Desk_count_207 ?_
                        refine lv_if_eq (tgt := 217) hx hb d_Desk_count_210 (by decide) (fun c33 => ?_) (fun c33 => ?_)
                        · have hf := it c33 hf
                          refine lv_iconst (v := 0) hx hb d_Desk_count_217 (by decide) ?_
                          refine lv_goto (tgt := 235) hx hb d_Desk_count_218 (by decide) ?_
                          exact rt _ _ H locs 235 ls hf h d_Desk_count_235
                        · have hf := ie c33 hf
                          refine lv_iconst (v := 2) hx hb d_Desk_count_213 (by decide) ?_
                          refine lv_goto (tgt := 235) hx hb d_Desk_count_214 (by decide) ?_
                          exact rt _ _ H locs 235 ls hf h d_Desk_count_235
                      · have hf := ie c32 hf
                        refine lv_iconst (v := 1) hx hb d_Desk_count_199 (by decide) ?_
                        refine lv_goto (tgt := 235) hx hb d_Desk_count_200 (by decide) ?_
                        exact rt _ _ H locs 235 ls hf h d_Desk_count_235
                    · have hf := ie c28 hf
                      by_cases c34 : x1 = 10
                      · have hf := it c34 hf
                        refine lv_tableIn (off := 220) (tgt := 221) hx hb d_Desk_count_1 (by rw [c34]; decide) (by rw [c34]; decide) (by rw [c34]; decide) (by decide) ?_
                        refine lv_aload_n hx hb d_Desk_count_221 rfl (lv_at hl 0 rfl) ?_
                        refine G_desk_game X h m_f_Desk_14 d_Desk_count_222 ?_
                        refine G_game_distances X h m_f_Desk_67 d_Desk_count_225 ?_
                        refine G_dist_greatest X h m_f_Desk_175 d_Desk_count_228 ?_
                        refine lv_goto (tgt := 235) hx hb d_Desk_count_231 (by decide) ?_
                        exact rt _ _ H locs 235 ls hf h d_Desk_count_235
                      · have hf := ie c34 hf
                        refine lv_tableOut (tgt := 234) hx hb d_Desk_count_1 (by have zc1 := lv_neT c1 (show (0 : Int32).toInt = 0 by decide); have zc2 := lv_neT c2 (show (1 : Int32).toInt = 1 by decide); have zc3 := lv_neT c3 (show (2 : Int32).toInt = 2 by decide); have zc4 := lv_neT c4 (show (3 : Int32).toInt = 3 by decide); have zc8 := lv_neT c8 (show (4 : Int32).toInt = 4 by decide); have zc12 := lv_neT c12 (show (5 : Int32).toInt = 5 by decide); have zc16 := lv_neT c16 (show (6 : Int32).toInt = 6 by decide); have zc20 := lv_neT c20 (show (7 : Int32).toInt = 7 by decide); have zc24 := lv_neT c24 (show (8 : Int32).toInt = 8 by decide); have zc28 := lv_neT c28 (show (9 : Int32).toInt = 9 by decide); have zc34 := lv_neT c34 (show (10 : Int32).toInt = 10 by decide); omega) (by decide) ?_
                        refine lv_iconst (v := (-1)) hx hb d_Desk_count_234 (by decide) ?_
                        exact rt _ _ H locs 235 ls hf h d_Desk_count_235

