theorem d_Desk_cell_0 : decode b_Desk_cell 0 = .ok (.iload_n 1, 1) := by decide +kernel
theorem d_Desk_cell_1 : decode b_Desk_cell 1 = .ok (.ifCond .lt 19, 3) := by decide +kernel
theorem d_Desk_cell_4 : decode b_Desk_cell 4 = .ok (.iload_n 1, 1) := by decide +kernel
theorem d_Desk_cell_5 : decode b_Desk_cell 5 = .ok (.bipush 12, 2) := by decide +kernel
theorem d_Desk_cell_7 : decode b_Desk_cell 7 = .ok (.if_icmp .ge 13, 3) := by decide +kernel
theorem d_Desk_cell_10 : decode b_Desk_cell 10 = .ok (.iload_n 2, 1) := by decide +kernel
theorem d_Desk_cell_11 : decode b_Desk_cell 11 = .ok (.ifCond .lt 9, 3) := by decide +kernel
theorem d_Desk_cell_14 : decode b_Desk_cell 14 = .ok (.iload_n 2, 1) := by decide +kernel
theorem d_Desk_cell_15 : decode b_Desk_cell 15 = .ok (.bipush 10, 2) := by decide +kernel
theorem d_Desk_cell_17 : decode b_Desk_cell 17 = .ok (.if_icmp .lt 5, 3) := by decide +kernel
theorem d_Desk_cell_20 : decode b_Desk_cell 20 = .ok (.iconst (-1), 1) := by decide +kernel
theorem d_Desk_cell_21 : decode b_Desk_cell 21 = .ok (.ireturn, 1) := by decide +kernel
theorem d_Desk_cell_22 : decode b_Desk_cell 22 = .ok (.iload_n 2, 1) := by decide +kernel
theorem d_Desk_cell_23 : decode b_Desk_cell 23 = .ok (.bipush 12, 2) := by decide +kernel
theorem d_Desk_cell_25 : decode b_Desk_cell 25 = .ok (.imul, 1) := by decide +kernel
theorem d_Desk_cell_26 : decode b_Desk_cell 26 = .ok (.iload_n 1, 1) := by decide +kernel
theorem d_Desk_cell_27 : decode b_Desk_cell 27 = .ok (.iadd, 1) := by decide +kernel
theorem d_Desk_cell_28 : decode b_Desk_cell 28 = .ok (.istore 4, 2) := by decide +kernel
theorem d_Desk_cell_30 : decode b_Desk_cell 30 = .ok (.iload_n 3, 1) := by decide +kernel
theorem d_Desk_cell_31 : decode b_Desk_cell 31 = .ok (.tableswitch 142 0 5 #[37, 53, 86, 102, 111, 127], 37) := by decide +kernel
theorem d_Desk_cell_68 : decode b_Desk_cell 68 = .ok (.aload_n 0, 1) := by decide +kernel
theorem d_Desk_cell_69 : decode b_Desk_cell 69 = .ok (.getfield 14, 3) := by decide +kernel
theorem d_Desk_cell_72 : decode b_Desk_cell 72 = .ok (.getfield 36, 3) := by decide +kernel
theorem d_Desk_cell_75 : decode b_Desk_cell 75 = .ok (.getfield 40, 3) := by decide +kernel
theorem d_Desk_cell_78 : decode b_Desk_cell 78 = .ok (.iload 4, 2) := by decide +kernel
theorem d_Desk_cell_80 : decode b_Desk_cell 80 = .ok (.iaload, 1) := by decide +kernel
theorem d_Desk_cell_81 : decode b_Desk_cell 81 = .ok (.goto 93, 3) := by decide +kernel
theorem d_Desk_cell_84 : decode b_Desk_cell 84 = .ok (.aload_n 0, 1) := by decide +kernel
theorem d_Desk_cell_85 : decode b_Desk_cell 85 = .ok (.getfield 14, 3) := by decide +kernel
theorem d_Desk_cell_88 : decode b_Desk_cell 88 = .ok (.getfield 36, 3) := by decide +kernel
theorem d_Desk_cell_91 : decode b_Desk_cell 91 = .ok (.aload_n 0, 1) := by decide +kernel
theorem d_Desk_cell_92 : decode b_Desk_cell 92 = .ok (.getfield 14, 3) := by decide +kernel
theorem d_Desk_cell_95 : decode b_Desk_cell 95 = .ok (.getfield 45, 3) := by decide +kernel
theorem d_Desk_cell_98 : decode b_Desk_cell 98 = .ok (.getfield 49, 3) := by decide +kernel
theorem d_Desk_cell_101 : decode b_Desk_cell 101 = .ok (.iload 4, 2) := by decide +kernel
theorem d_Desk_cell_103 : decode b_Desk_cell 103 = .ok (.invokevirtual 54, 3) := by decide +kernel
theorem d_Desk_cell_106 : decode b_Desk_cell 106 = .ok (.ifCond .eq 7, 3) := by decide +kernel
theorem d_Desk_cell_109 : decode b_Desk_cell 109 = .ok (.iconst 1, 1) := by decide +kernel
theorem d_Desk_cell_110 : decode b_Desk_cell 110 = .ok (.goto 64, 3) := by decide +kernel
theorem d_Desk_cell_113 : decode b_Desk_cell 113 = .ok (.iconst 0, 1) := by decide +kernel
theorem d_Desk_cell_114 : decode b_Desk_cell 114 = .ok (.goto 60, 3) := by decide +kernel
theorem d_Desk_cell_117 : decode b_Desk_cell 117 = .ok (.aload_n 0, 1) := by decide +kernel
theorem d_Desk_cell_118 : decode b_Desk_cell 118 = .ok (.getfield 14, 3) := by decide +kernel
theorem d_Desk_cell_121 : decode b_Desk_cell 121 = .ok (.getfield 36, 3) := by decide +kernel
theorem d_Desk_cell_124 : decode b_Desk_cell 124 = .ok (.getfield 58, 3) := by decide +kernel
theorem d_Desk_cell_127 : decode b_Desk_cell 127 = .ok (.iload 4, 2) := by decide +kernel
theorem d_Desk_cell_129 : decode b_Desk_cell 129 = .ok (.iaload, 1) := by decide +kernel
theorem d_Desk_cell_130 : decode b_Desk_cell 130 = .ok (.goto 44, 3) := by decide +kernel
theorem d_Desk_cell_133 : decode b_Desk_cell 133 = .ok (.aload_n 0, 1) := by decide +kernel
theorem d_Desk_cell_134 : decode b_Desk_cell 134 = .ok (.iload 4, 2) := by decide +kernel
theorem d_Desk_cell_136 : decode b_Desk_cell 136 = .ok (.invokevirtual 61, 3) := by decide +kernel
theorem d_Desk_cell_139 : decode b_Desk_cell 139 = .ok (.goto 35, 3) := by decide +kernel
theorem d_Desk_cell_142 : decode b_Desk_cell 142 = .ok (.aload_n 0, 1) := by decide +kernel
theorem d_Desk_cell_143 : decode b_Desk_cell 143 = .ok (.getfield 14, 3) := by decide +kernel
theorem d_Desk_cell_146 : decode b_Desk_cell 146 = .ok (.getfield 36, 3) := by decide +kernel
theorem d_Desk_cell_149 : decode b_Desk_cell 149 = .ok (.getfield 64, 3) := by decide +kernel
theorem d_Desk_cell_152 : decode b_Desk_cell 152 = .ok (.iload 4, 2) := by decide +kernel
theorem d_Desk_cell_154 : decode b_Desk_cell 154 = .ok (.iaload, 1) := by decide +kernel
theorem d_Desk_cell_155 : decode b_Desk_cell 155 = .ok (.goto 19, 3) := by decide +kernel
theorem d_Desk_cell_158 : decode b_Desk_cell 158 = .ok (.aload_n 0, 1) := by decide +kernel
theorem d_Desk_cell_159 : decode b_Desk_cell 159 = .ok (.getfield 14, 3) := by decide +kernel
theorem d_Desk_cell_162 : decode b_Desk_cell 162 = .ok (.getfield 67, 3) := by decide +kernel
theorem d_Desk_cell_165 : decode b_Desk_cell 165 = .ok (.iload 4, 2) := by decide +kernel
theorem d_Desk_cell_167 : decode b_Desk_cell 167 = .ok (.invokevirtual 71, 3) := by decide +kernel
theorem d_Desk_cell_170 : decode b_Desk_cell 170 = .ok (.goto 4, 3) := by decide +kernel
theorem d_Desk_cell_173 : decode b_Desk_cell 173 = .ok (.iconst (-1), 1) := by decide +kernel
theorem d_Desk_cell_174 : decode b_Desk_cell 174 = .ok (.ireturn, 1) := by decide +kernel
def f_Desk_cell (n : Nat) (x1 : Int32) (x2 : Int32) (x3 : Int32) (σ : St) : Option (Int32 × St) := if x1 < 0 then (some ((-1), σ)) else (if 12 ≤ x1 then (some ((-1), σ)) else (if x2 < 0 then (some ((-1), σ)) else (if x2 < 10 then (bnd ((x2 * 12) + x1) (fun v5 => if x3 = 0 then (gd (inb v5 120) (some (σ.2.2 1 v5.toNatClampNeg, σ))) else (if x3 = 1 then (bd (f_Level_inSight n (σ.1 9) v5 σ) (fun r9 σ10 => if r9 = 0 then (some (0, σ10)) else (some (1, σ10)))) else (if x3 = 2 then (gd (inb v5 120) (some (σ.2.2 3 v5.toNatClampNeg, σ))) else (if x3 = 3 then (bd (f_Desk_whoIsAt n v5 σ) (fun r16 σ17 => some (r16, σ17))) else (if x3 = 4 then (gd (inb v5 120) (some (σ.2.2 2 v5.toNatClampNeg, σ))) else (if x3 = 5 then (bd (f_Distances_from n v5 σ) (fun r22 σ23 => some (r22, σ23))) else (some ((-1), σ))))))))) else (some ((-1), σ)))))
set_option maxHeartbeats 4000000 in
set_option maxRecDepth 100000 in
theorem c_Desk_cell (l : Launch) (D : va_G) (ad : Nat → Nat) (cA : Nat → ClassId) (tz : Nat → Nat) (n : Nat) (x1 : Int32) (x2 : Int32) (x3 : Int32) (σ : St) (r : Int32) (σr : St) (hf : f_Desk_cell n x1 x2 x3 σ = some (r, σr)) : Ki l D cA tz (wl ad cA) y_Desk_cell (.code y_Desk_cell b_Desk_cell 5 (some .int) :: TB) ({ frames := 2, cells := 0, slots := 0, locals := 53 }) [.ref (ad 0), .int x1, .int x2, .int x3] σ r σr := by
  refine x_openi (own := R_Desk) rfl (by decide) (fun p e s m args below meth c A Q X hml hZ hA H locs ls h hl rt => ?_)
  have hx := X.1
  have hb := X.2.1
  have hl : lv_has ls 5 [(0, .ref (ad 0)), (1, .int x1), (2, .int x2), (3, .int x3)] := hl
  unfold f_Desk_cell at hf
  refine lv_iload_n hx hb d_Desk_cell_0 rfl (lv_at hl 1 rfl) ?_
  refine lv_if_lt (tgt := 20) hx hb d_Desk_cell_1 (by decide) (fun c1 => ?_) (fun c1 => ?_)
  · have hf := it c1 hf
    refine lv_iconst (v := (-1)) hx hb d_Desk_cell_20 (by decide) ?_
    exact rt _ _ H locs 21 ls hf h d_Desk_cell_21
  · have hf := ie c1 hf
    refine lv_iload_n hx hb d_Desk_cell_4 rfl (lv_at hl 1 rfl) ?_
    refine lv_bipush (v := 12) hx hb d_Desk_cell_5 (by decide) ?_
    refine lv_icmp_ge (tgt := 20) hx hb d_Desk_cell_7 (by decide) (fun c2 => ?_) (fun c2 => ?_)
    · have hf := it c2 hf
      refine lv_iconst (v := (-1)) hx hb d_Desk_cell_20 (by decide) ?_
      exact rt _ _ H locs 21 ls hf h d_Desk_cell_21
    · have hf := ie c2 hf
      refine lv_iload_n hx hb d_Desk_cell_10 rfl (lv_at hl 2 rfl) ?_
      refine lv_if_lt (tgt := 20) hx hb d_Desk_cell_11 (by decide) (fun c3 => ?_) (fun c3 => ?_)
      · have hf := it c3 hf
        refine lv_iconst (v := (-1)) hx hb d_Desk_cell_20 (by decide) ?_
        exact rt _ _ H locs 21 ls hf h d_Desk_cell_21
      · have hf := ie c3 hf
        refine lv_iload_n hx hb d_Desk_cell_14 rfl (lv_at hl 2 rfl) ?_
        refine lv_bipush (v := 10) hx hb d_Desk_cell_15 (by decide) ?_
        refine lv_icmp_lt (tgt := 22) hx hb d_Desk_cell_17 (by decide) (fun c4 => ?_) (fun c4 => ?_)
        · have hf := it c4 hf
          refine lv_iload_n hx hb d_Desk_cell_22 rfl (lv_at hl 2 rfl) ?_
          refine lv_bipush (v := 12) hx hb d_Desk_cell_23 (by decide) ?_
          refine lv_imul hx hb d_Desk_cell_25 ?_
          refine lv_iload_n hx hb d_Desk_cell_26 rfl (lv_at hl 1 rfl) ?_
          refine lv_iadd hx hb d_Desk_cell_27 ?_
          refine lv_topi (fun v5 ev5 => ?_)
          have hf := nm_b hf ev5
          refine lv_istore (lv' := [(4, .int v5), (0, .ref (ad 0)), (1, .int x1), (2, .int x2), (3, .int x3)]) hx hb d_Desk_cell_28 hl (by decide) rfl (fun ls hl => ?_)
          refine lv_iload_n hx hb d_Desk_cell_30 rfl (lv_at hl 4 rfl) ?_
          by_cases c6 : x3 = 0
          · have hf := it c6 hf
            refine lv_tableIn (off := 37) (tgt := 68) hx hb d_Desk_cell_31 (by rw [c6]; decide) (by rw [c6]; decide) (by rw [c6]; decide) (by decide) ?_
            refine lv_aload_n hx hb d_Desk_cell_68 rfl (lv_at hl 1 rfl) ?_
            refine G_desk_game X h m_f_Desk_14 d_Desk_cell_69 ?_
            refine G_game_level X h m_f_Desk_36 d_Desk_cell_72 ?_
            refine G_level_ground X h m_f_Desk_40 d_Desk_cell_75 ?_
            refine lv_iload hx hb d_Desk_cell_78 (lv_at hl 0 rfl) ?_
            obtain ⟨g7, hf⟩ := gd_s hf
            refine R_ground X h (inb_s g7) d_Desk_cell_80 ?_
            refine lv_goto (tgt := 174) hx hb d_Desk_cell_81 (by decide) ?_
            exact rt _ _ H locs 174 ls hf h d_Desk_cell_174
          · have hf := ie c6 hf
            by_cases c8 : x3 = 1
            · have hf := it c8 hf
              refine lv_tableIn (off := 53) (tgt := 84) hx hb d_Desk_cell_31 (by rw [c8]; decide) (by rw [c8]; decide) (by rw [c8]; decide) (by decide) ?_
              refine lv_aload_n hx hb d_Desk_cell_84 rfl (lv_at hl 1 rfl) ?_
              refine G_desk_game X h m_f_Desk_14 d_Desk_cell_85 ?_
              refine G_game_level X h m_f_Desk_36 d_Desk_cell_88 ?_
              refine lv_aload_n hx hb d_Desk_cell_91 rfl (lv_at hl 1 rfl) ?_
              refine G_desk_game X h m_f_Desk_14 d_Desk_cell_92 ?_
              refine G_game_hero X h m_f_Desk_45 d_Desk_cell_95 ?_
              refine G_hero_place X h m_f_Desk_49 d_Desk_cell_98 ?_
              refine lv_iload hx hb d_Desk_cell_101 (lv_at hl 0 rfl) ?_
              obtain ⟨r9, σ10, h11, hf⟩ := bd_s hf
              refine x_Vi (As := [.int (σ.1 9), .int v5]) (rest := []) X hml hl.1 hZ hA h (c_Level_inSight l D ad cA tz n (σ.1 9) v5 σ r9 σ10 h11) k_Level_inSight m_m_Desk_54 kd_Level_inSight ⟨rfl, rfl, Nat.le_of_ble_eq_true rfl, Nat.le_of_ble_eq_true rfl⟩ 5 rfl rfl rfl rfl rfl (Nat.le_of_ble_eq_true rfl) d_Desk_cell_103 (fun H locs h => ?_)
              refine lv_if_eq (tgt := 113) hx hb d_Desk_cell_106 (by decide) (fun c12 => ?_) (fun c12 => ?_)
              · have hf := it c12 hf
                refine lv_iconst (v := 0) hx hb d_Desk_cell_113 (by decide) ?_
                refine lv_goto (tgt := 174) hx hb d_Desk_cell_114 (by decide) ?_
                exact rt _ _ H locs 174 ls hf h d_Desk_cell_174
              · have hf := ie c12 hf
                refine lv_iconst (v := 1) hx hb d_Desk_cell_109 (by decide) ?_
                refine lv_goto (tgt := 174) hx hb d_Desk_cell_110 (by decide) ?_
                exact rt _ _ H locs 174 ls hf h d_Desk_cell_174
            · have hf := ie c8 hf
              by_cases c13 : x3 = 2
              · have hf := it c13 hf
                refine lv_tableIn (off := 86) (tgt := 117) hx hb d_Desk_cell_31 (by rw [c13]; decide) (by rw [c13]; decide) (by rw [c13]; decide) (by decide) ?_
                refine lv_aload_n hx hb d_Desk_cell_117 rfl (lv_at hl 1 rfl) ?_
                refine G_desk_game X h m_f_Desk_14 d_Desk_cell_118 ?_
                refine G_game_level X h m_f_Desk_36 d_Desk_cell_121 ?_
                refine G_level_known X h m_f_Desk_58 d_Desk_cell_124 ?_
                refine lv_iload hx hb d_Desk_cell_127 (lv_at hl 0 rfl) ?_
                obtain ⟨g14, hf⟩ := gd_s hf
                refine R_known X h (inb_s g14) d_Desk_cell_129 ?_
                refine lv_goto (tgt := 174) hx hb d_Desk_cell_130 (by decide) ?_
                exact rt _ _ H locs 174 ls hf h d_Desk_cell_174
              · have hf := ie c13 hf
                by_cases c15 : x3 = 3
                · have hf := it c15 hf
                  refine lv_tableIn (off := 102) (tgt := 133) hx hb d_Desk_cell_31 (by rw [c15]; decide) (by rw [c15]; decide) (by rw [c15]; decide) (by decide) ?_
                  refine lv_aload_n hx hb d_Desk_cell_133 rfl (lv_at hl 1 rfl) ?_
                  refine lv_iload hx hb d_Desk_cell_134 (lv_at hl 0 rfl) ?_
                  obtain ⟨r16, σ17, h18, hf⟩ := bd_s hf
                  refine x_Vi (As := [.int v5]) (rest := []) X hml hl.1 hZ hA h (c_Desk_whoIsAt l D ad cA tz n v5 σ r16 σ17 h18) k_Desk_whoIsAt m_m_Desk_61 kd_Desk_whoIsAt ⟨rfl, rfl, Nat.le_of_ble_eq_true rfl, Nat.le_of_ble_eq_true rfl⟩ 0 rfl rfl rfl rfl rfl (Nat.le_of_ble_eq_true rfl) d_Desk_cell_136 (fun H locs h => ?_)
                  refine lv_goto (tgt := 174) hx hb d_Desk_cell_139 (by decide) ?_
                  exact rt _ _ H locs 174 ls hf h d_Desk_cell_174
                · have hf := ie c15 hf
                  by_cases c19 : x3 = 4
                  · have hf := it c19 hf
                    refine lv_tableIn (off := 111) (tgt := 142) hx hb d_Desk_cell_31 (by rw [c19]; decide) (by rw [c19]; decide) (by rw [c19]; decide) (by decide) ?_
                    refine lv_aload_n hx hb d_Desk_cell_142 rfl (lv_at hl 1 rfl) ?_
                    refine G_desk_game X h m_f_Desk_14 d_Desk_cell_143 ?_
                    refine G_game_level X h m_f_Desk_36 d_Desk_cell_146 ?_
                    refine G_level_things X h m_f_Desk_64 d_Desk_cell_149 ?_
                    refine lv_iload hx hb d_Desk_cell_152 (lv_at hl 0 rfl) ?_
                    obtain ⟨g20, hf⟩ := gd_s hf
                    refine R_things X h (inb_s g20) d_Desk_cell_154 ?_
                    refine lv_goto (tgt := 174) hx hb d_Desk_cell_155 (by decide) ?_
                    exact rt _ _ H locs 174 ls hf h d_Desk_cell_174
                  · have hf := ie c19 hf
                    by_cases c21 : x3 = 5
                    · have hf := it c21 hf
                      refine lv_tableIn (off := 127) (tgt := 158) hx hb d_Desk_cell_31 (by rw [c21]; decide) (by rw [c21]; decide) (by rw [c21]; decide) (by decide) ?_
                      refine lv_aload_n hx hb d_Desk_cell_158 rfl (lv_at hl 1 rfl) ?_
                      refine G_desk_game X h m_f_Desk_14 d_Desk_cell_159 ?_
                      refine G_game_distances X h m_f_Desk_67 d_Desk_cell_162 ?_
                      refine lv_iload hx hb d_Desk_cell_165 (lv_at hl 0 rfl) ?_
                      obtain ⟨r22, σ23, h24, hf⟩ := bd_s hf
                      refine x_Vi (As := [.int v5]) (rest := []) X hml hl.1 hZ hA h (c_Distances_from l D ad cA tz n v5 σ r22 σ23 h24) k_Distances_from m_m_Desk_71 kd_Distances_from ⟨rfl, rfl, Nat.le_of_ble_eq_true rfl, Nat.le_of_ble_eq_true rfl⟩ 7 rfl rfl rfl rfl rfl (Nat.le_of_ble_eq_true rfl) d_Desk_cell_167 (fun H locs h => ?_)
                      refine lv_goto (tgt := 174) hx hb d_Desk_cell_170 (by decide) ?_
                      exact rt _ _ H locs 174 ls hf h d_Desk_cell_174
                    · have hf := ie c21 hf
                      refine lv_tableOut (tgt := 173) hx hb d_Desk_cell_31 (by have zc6 := lv_neT c6 (show (0 : Int32).toInt = 0 by decide); have zc8 := lv_neT c8 (show (1 : Int32).toInt = 1 by decide); have zc13 := lv_neT c13 (show (2 : Int32).toInt = 2 by decide); have zc15 := lv_neT c15 (show (3 : Int32).toInt = 3 by decide); have zc19 := lv_neT c19 (show (4 : Int32).toInt = 4 by decide); have zc21 := lv_neT c21 (show (5 : Int32).toInt = 5 by decide); omega) (by decide) ?_
                      refine lv_iconst (v := (-1)) hx hb d_Desk_cell_173 (by decide) ?_
                      exact rt _ _ H locs 174 ls hf h d_Desk_cell_174
        · have hf := ie c4 hf
          refine lv_iconst (v := (-1)) hx hb d_Desk_cell_20 (by decide) ?_
          exact rt _ _ H locs 21 ls hf h d_Desk_cell_21
theorem d_Desk_monster_0 : decode b_Desk_monster 0 = .ok (.iload_n 2, 1) := by decide +kernel
theorem d_Desk_monster_1 : decode b_Desk_monster 1 = .ok (.ifCond .lt 8, 3) := by decide +kernel
theorem d_Desk_monster_4 : decode b_Desk_monster 4 = .ok (.iload_n 2, 1) := by decide +kernel
theorem d_Desk_monster_5 : decode b_Desk_monster 5 = .ok (.iconst 5, 1) := by decide +kernel
theorem d_Desk_monster_6 : decode b_Desk_monster 6 = .ok (.if_icmp .le 5, 3) := by decide +kernel
theorem d_Desk_monster_9 : decode b_Desk_monster 9 = .ok (.iconst (-1), 1) := by decide +kernel
theorem d_Desk_monster_10 : decode b_Desk_monster 10 = .ok (.ireturn, 1) := by decide +kernel
theorem d_Desk_monster_11 : decode b_Desk_monster 11 = .ok (.aload_n 0, 1) := by decide +kernel
theorem d_Desk_monster_12 : decode b_Desk_monster 12 = .ok (.getfield 14, 3) := by decide +kernel
theorem d_Desk_monster_15 : decode b_Desk_monster 15 = .ok (.getfield 76, 3) := by decide +kernel
theorem d_Desk_monster_18 : decode b_Desk_monster 18 = .ok (.astore_n 3, 1) := by decide +kernel
theorem d_Desk_monster_19 : decode b_Desk_monster 19 = .ok (.aload_n 3, 1) := by decide +kernel
theorem d_Desk_monster_20 : decode b_Desk_monster 20 = .ok (.iload_n 1, 1) := by decide +kernel
theorem d_Desk_monster_21 : decode b_Desk_monster 21 = .ok (.invokevirtual 85, 3) := by decide +kernel
theorem d_Desk_monster_24 : decode b_Desk_monster 24 = .ok (.ifCond .ne 6, 3) := by decide +kernel
theorem d_Desk_monster_27 : decode b_Desk_monster 27 = .ok (.bipush (-2), 2) := by decide +kernel
theorem d_Desk_monster_29 : decode b_Desk_monster 29 = .ok (.ireturn, 1) := by decide +kernel
theorem d_Desk_monster_30 : decode b_Desk_monster 30 = .ok (.iload_n 2, 1) := by decide +kernel
theorem d_Desk_monster_31 : decode b_Desk_monster 31 = .ok (.tableswitch 84 0 4 #[33, 42, 54, 66, 75], 33) := by decide +kernel
theorem d_Desk_monster_64 : decode b_Desk_monster 64 = .ok (.aload_n 3, 1) := by decide +kernel
theorem d_Desk_monster_65 : decode b_Desk_monster 65 = .ok (.getfield 89, 3) := by decide +kernel
theorem d_Desk_monster_68 : decode b_Desk_monster 68 = .ok (.iload_n 1, 1) := by decide +kernel
theorem d_Desk_monster_69 : decode b_Desk_monster 69 = .ok (.iaload, 1) := by decide +kernel
theorem d_Desk_monster_70 : decode b_Desk_monster 70 = .ok (.goto 51, 3) := by decide +kernel
theorem d_Desk_monster_73 : decode b_Desk_monster 73 = .ok (.aload_n 3, 1) := by decide +kernel
theorem d_Desk_monster_74 : decode b_Desk_monster 74 = .ok (.getfield 92, 3) := by decide +kernel
theorem d_Desk_monster_77 : decode b_Desk_monster 77 = .ok (.iload_n 1, 1) := by decide +kernel
theorem d_Desk_monster_78 : decode b_Desk_monster 78 = .ok (.iaload, 1) := by decide +kernel
theorem d_Desk_monster_79 : decode b_Desk_monster 79 = .ok (.bipush 12, 2) := by decide +kernel
theorem d_Desk_monster_81 : decode b_Desk_monster 81 = .ok (.irem, 1) := by decide +kernel
theorem d_Desk_monster_82 : decode b_Desk_monster 82 = .ok (.goto 39, 3) := by decide +kernel
theorem d_Desk_monster_85 : decode b_Desk_monster 85 = .ok (.aload_n 3, 1) := by decide +kernel
theorem d_Desk_monster_86 : decode b_Desk_monster 86 = .ok (.getfield 92, 3) := by decide +kernel
theorem d_Desk_monster_89 : decode b_Desk_monster 89 = .ok (.iload_n 1, 1) := by decide +kernel
theorem d_Desk_monster_90 : decode b_Desk_monster 90 = .ok (.iaload, 1) := by decide +kernel
theorem d_Desk_monster_91 : decode b_Desk_monster 91 = .ok (.bipush 12, 2) := by decide +kernel
theorem d_Desk_monster_93 : decode b_Desk_monster 93 = .ok (.idiv, 1) := by decide +kernel
theorem d_Desk_monster_94 : decode b_Desk_monster 94 = .ok (.goto 27, 3) := by decide +kernel
theorem d_Desk_monster_97 : decode b_Desk_monster 97 = .ok (.aload_n 3, 1) := by decide +kernel
theorem d_Desk_monster_98 : decode b_Desk_monster 98 = .ok (.getfield 94, 3) := by decide +kernel
theorem d_Desk_monster_101 : decode b_Desk_monster 101 = .ok (.iload_n 1, 1) := by decide +kernel
theorem d_Desk_monster_102 : decode b_Desk_monster 102 = .ok (.iaload, 1) := by decide +kernel
theorem d_Desk_monster_103 : decode b_Desk_monster 103 = .ok (.goto 18, 3) := by decide +kernel
theorem d_Desk_monster_106 : decode b_Desk_monster 106 = .ok (.aload_n 3, 1) := by decide +kernel
theorem d_Desk_monster_107 : decode b_Desk_monster 107 = .ok (.getfield 97, 3) := by decide +kernel
theorem d_Desk_monster_110 : decode b_Desk_monster 110 = .ok (.iload_n 1, 1) := by decide +kernel
theorem d_Desk_monster_111 : decode b_Desk_monster 111 = .ok (.iaload, 1) := by decide +kernel
theorem d_Desk_monster_112 : decode b_Desk_monster 112 = .ok (.goto 9, 3) := by decide +kernel
theorem d_Desk_monster_115 : decode b_Desk_monster 115 = .ok (.aload_n 3, 1) := by decide +kernel
theorem d_Desk_monster_116 : decode b_Desk_monster 116 = .ok (.getfield 100, 3) := by decide +kernel
theorem d_Desk_monster_119 : decode b_Desk_monster 119 = .ok (.iload_n 1, 1) := by decide +kernel
theorem d_Desk_monster_120 : decode b_Desk_monster 120 = .ok (.iaload, 1) := by decide +kernel
theorem d_Desk_monster_121 : decode b_Desk_monster 121 = .ok (.ireturn, 1) := by decide +kernel
def f_Desk_monster (n : Nat) (x1 : Int32) (x2 : Int32) (σ : St) : Option (Int32 × St) := if x2 < 0 then (some ((-1), σ)) else (if x2 ≤ 5 then (bd (f_Monsters_isThere n x1 σ) (fun r3 σ4 => if r3 = 0 then (some ((-2), σ4)) else (if x2 = 0 then (gd (inb x1 5) (some (σ4.2.2 4 x1.toNatClampNeg, σ4))) else (if x2 = 1 then (gd (inb x1 5) (some ((σ4.2.2 5 x1.toNatClampNeg) - (σ4.2.2 5 x1.toNatClampNeg) / 12 * 12, σ4))) else (if x2 = 2 then (gd (inb x1 5) (some ((σ4.2.2 5 x1.toNatClampNeg) / 12, σ4))) else (if x2 = 3 then (gd (inb x1 5) (some (σ4.2.2 6 x1.toNatClampNeg, σ4))) else (if x2 = 4 then (gd (inb x1 5) (some (σ4.2.2 7 x1.toNatClampNeg, σ4))) else (gd (inb x1 5) (some (σ4.2.2 8 x1.toNatClampNeg, σ4)))))))))) else (some ((-1), σ)))
set_option maxHeartbeats 4000000 in
set_option maxRecDepth 100000 in
theorem c_Desk_monster (l : Launch) (D : va_G) (ad : Nat → Nat) (cA : Nat → ClassId) (tz : Nat → Nat) (n : Nat) (x1 : Int32) (x2 : Int32) (σ : St) (r : Int32) (σr : St) (hf : f_Desk_monster n x1 x2 σ = some (r, σr)) : Ki l D cA tz (wl ad cA) y_Desk_monster (.code y_Desk_monster b_Desk_monster 4 (some .int) :: TB) ({ frames := 1, cells := 0, slots := 0, locals := 21 }) [.ref (ad 0), .int x1, .int x2] σ r σr := by
  refine x_openi (own := R_Desk) rfl (by decide) (fun p e s m args below meth c A Q X hml hZ hA H locs ls h hl rt => ?_)
  have hx := X.1
  have hb := X.2.1
  have hl : lv_has ls 4 [(0, .ref (ad 0)), (1, .int x1), (2, .int x2)] := hl
  unfold f_Desk_monster at hf
  refine lv_iload_n hx hb d_Desk_monster_0 rfl (lv_at hl 2 rfl) ?_
  refine lv_if_lt (tgt := 9) hx hb d_Desk_monster_1 (by decide) (fun c1 => ?_) (fun c1 => ?_)
  · have hf := it c1 hf
    refine lv_iconst (v := (-1)) hx hb d_Desk_monster_9 (by decide) ?_
    exact rt _ _ H locs 10 ls hf h d_Desk_monster_10
  · have hf := ie c1 hf
    refine lv_iload_n hx hb d_Desk_monster_4 rfl (lv_at hl 2 rfl) ?_
    refine lv_iconst (v := 5) hx hb d_Desk_monster_5 (by decide) ?_
    refine lv_icmp_le (tgt := 11) hx hb d_Desk_monster_6 (by decide) (fun c2 => ?_) (fun c2 => ?_)
    · have hf := it c2 hf
      refine lv_aload_n hx hb d_Desk_monster_11 rfl (lv_at hl 0 rfl) ?_
      refine G_desk_game X h m_f_Desk_14 d_Desk_monster_12 ?_
      refine G_game_monsters X h m_f_Desk_76 d_Desk_monster_15 ?_
      refine lv_astore_n (lv' := [(3, .ref (ad 6)), (0, .ref (ad 0)), (1, .int x1), (2, .int x2)]) hx hb d_Desk_monster_18 rfl hl (by decide) rfl (fun ls hl => ?_)
      refine lv_aload_n hx hb d_Desk_monster_19 rfl (lv_at hl 0 rfl) ?_
      refine lv_iload_n hx hb d_Desk_monster_20 rfl (lv_at hl 2 rfl) ?_
      obtain ⟨r3, σ4, h5, hf⟩ := bd_s hf
      refine x_Vi (As := [.int x1]) (rest := []) X hml hl.1 hZ hA h (c_Monsters_isThere l D ad cA tz n x1 σ r3 σ4 h5) k_Monsters_isThere m_m_Desk_85 kd_Monsters_isThere ⟨rfl, rfl, Nat.le_of_ble_eq_true rfl, Nat.le_of_ble_eq_true rfl⟩ 6 rfl rfl rfl rfl rfl (Nat.le_of_ble_eq_true rfl) d_Desk_monster_21 (fun H locs h => ?_)
      refine lv_if_ne (tgt := 30) hx hb d_Desk_monster_24 (by decide) (fun c6 => ?_) (fun c6 => ?_)
      · have hf := ie c6 hf
        refine lv_iload_n hx hb d_Desk_monster_30 rfl (lv_at hl 3 rfl) ?_
        by_cases c7 : x2 = 0
        · have hf := it c7 hf
          refine lv_tableIn (off := 33) (tgt := 64) hx hb d_Desk_monster_31 (by rw [c7]; decide) (by rw [c7]; decide) (by rw [c7]; decide) (by decide) ?_
          refine lv_aload_n hx hb d_Desk_monster_64 rfl (lv_at hl 0 rfl) ?_
          refine G_monsters_kind X h m_f_Desk_89 d_Desk_monster_65 ?_
          refine lv_iload_n hx hb d_Desk_monster_68 rfl (lv_at hl 2 rfl) ?_
          obtain ⟨g8, hf⟩ := gd_s hf
          refine R_kind X h (inb_s g8) d_Desk_monster_69 ?_
          refine lv_goto (tgt := 121) hx hb d_Desk_monster_70 (by decide) ?_
          exact rt _ _ H locs 121 ls hf h d_Desk_monster_121
        · have hf := ie c7 hf
          by_cases c9 : x2 = 1
          · have hf := it c9 hf
            refine lv_tableIn (off := 42) (tgt := 73) hx hb d_Desk_monster_31 (by rw [c9]; decide) (by rw [c9]; decide) (by rw [c9]; decide) (by decide) ?_
            refine lv_aload_n hx hb d_Desk_monster_73 rfl (lv_at hl 0 rfl) ?_
            refine G_monsters_place X h m_f_Desk_92 d_Desk_monster_74 ?_
            refine lv_iload_n hx hb d_Desk_monster_77 rfl (lv_at hl 2 rfl) ?_
            obtain ⟨g10, hf⟩ := gd_s hf
            refine R_place X h (inb_s g10) d_Desk_monster_78 ?_
            refine lv_bipush (v := 12) hx hb d_Desk_monster_79 (by decide) ?_
            refine lv_irem hx hb d_Desk_monster_81 (by decide) ?_
            refine lv_goto (tgt := 121) hx hb d_Desk_monster_82 (by decide) ?_
            exact rt _ _ H locs 121 ls hf h d_Desk_monster_121
          · have hf := ie c9 hf
            by_cases c11 : x2 = 2
            · have hf := it c11 hf
              refine lv_tableIn (off := 54) (tgt := 85) hx hb d_Desk_monster_31 (by rw [c11]; decide) (by rw [c11]; decide) (by rw [c11]; decide) (by decide) ?_
              refine lv_aload_n hx hb d_Desk_monster_85 rfl (lv_at hl 0 rfl) ?_
              refine G_monsters_place X h m_f_Desk_92 d_Desk_monster_86 ?_
              refine lv_iload_n hx hb d_Desk_monster_89 rfl (lv_at hl 2 rfl) ?_
              obtain ⟨g12, hf⟩ := gd_s hf
              refine R_place X h (inb_s g12) d_Desk_monster_90 ?_
              refine lv_bipush (v := 12) hx hb d_Desk_monster_91 (by decide) ?_
              refine lv_idiv hx hb d_Desk_monster_93 (by decide) ?_
              refine lv_goto (tgt := 121) hx hb d_Desk_monster_94 (by decide) ?_
              exact rt _ _ H locs 121 ls hf h d_Desk_monster_121
            · have hf := ie c11 hf
              by_cases c13 : x2 = 3
              · have hf := it c13 hf
                refine lv_tableIn (off := 66) (tgt := 97) hx hb d_Desk_monster_31 (by rw [c13]; decide) (by rw [c13]; decide) (by rw [c13]; decide) (by decide) ?_
                refine lv_aload_n hx hb d_Desk_monster_97 rfl (lv_at hl 0 rfl) ?_
                refine G_monsters_health X h m_f_Desk_94 d_Desk_monster_98 ?_
                refine lv_iload_n hx hb d_Desk_monster_101 rfl (lv_at hl 2 rfl) ?_
                obtain ⟨g14, hf⟩ := gd_s hf
                refine R_health X h (inb_s g14) d_Desk_monster_102 ?_
                refine lv_goto (tgt := 121) hx hb d_Desk_monster_103 (by decide) ?_
                exact rt _ _ H locs 121 ls hf h d_Desk_monster_121
              · have hf := ie c13 hf
                by_cases c15 : x2 = 4
                · have hf := it c15 hf
                  refine lv_tableIn (off := 75) (tgt := 106) hx hb d_Desk_monster_31 (by rw [c15]; decide) (by rw [c15]; decide) (by rw [c15]; decide) (by decide) ?_
                  refine lv_aload_n hx hb d_Desk_monster_106 rfl (lv_at hl 0 rfl) ?_
                  refine G_monsters_energy X h m_f_Desk_97 d_Desk_monster_107 ?_
                  refine lv_iload_n hx hb d_Desk_monster_110 rfl (lv_at hl 2 rfl) ?_
                  obtain ⟨g16, hf⟩ := gd_s hf
                  refine R_energy X h (inb_s g16) d_Desk_monster_111 ?_
                  refine lv_goto (tgt := 121) hx hb d_Desk_monster_112 (by decide) ?_
                  exact rt _ _ H locs 121 ls hf h d_Desk_monster_121
                · have hf := ie c15 hf
                  refine lv_tableOut (tgt := 115) hx hb d_Desk_monster_31 (by have zc7 := lv_neT c7 (show (0 : Int32).toInt = 0 by decide); have zc9 := lv_neT c9 (show (1 : Int32).toInt = 1 by decide); have zc11 := lv_neT c11 (show (2 : Int32).toInt = 2 by decide); have zc13 := lv_neT c13 (show (3 : Int32).toInt = 3 by decide); have zc15 := lv_neT c15 (show (4 : Int32).toInt = 4 by decide); omega) (by decide) ?_
                  refine lv_aload_n hx hb d_Desk_monster_115 rfl (lv_at hl 0 rfl) ?_
                  refine G_monsters_awake X h m_f_Desk_100 d_Desk_monster_116 ?_
                  refine lv_iload_n hx hb d_Desk_monster_119 rfl (lv_at hl 2 rfl) ?_
                  obtain ⟨g17, hf⟩ := gd_s hf
                  refine R_awake X h (inb_s g17) d_Desk_monster_120 ?_
                  exact rt _ _ H locs 121 ls hf h d_Desk_monster_121
      · have hf := it c6 hf
        refine lv_bipush (v := (-2)) hx hb d_Desk_monster_27 (by decide) ?_
        exact rt _ _ H locs 29 ls hf h d_Desk_monster_29
    · have hf := ie c2 hf
      refine lv_iconst (v := (-1)) hx hb d_Desk_monster_9 (by decide) ?_
      exact rt _ _ H locs 10 ls hf h d_Desk_monster_10
theorem d_Desk_player_0 : decode b_Desk_player 0 = .ok (.aload_n 0, 1) := by decide +kernel
theorem d_Desk_player_1 : decode b_Desk_player 1 = .ok (.getfield 14, 3) := by decide +kernel
theorem d_Desk_player_4 : decode b_Desk_player 4 = .ok (.getfield 45, 3) := by decide +kernel
theorem d_Desk_player_7 : decode b_Desk_player 7 = .ok (.astore_n 2, 1) := by decide +kernel
theorem d_Desk_player_8 : decode b_Desk_player 8 = .ok (.iload_n 1, 1) := by decide +kernel
theorem d_Desk_player_9 : decode b_Desk_player 9 = .ok (.tableswitch 158 0 13 #[71, 81, 91, 109, 116, 123, 130, 140, 158, 158, 147, 147, 147, 147], 71) := by decide +kernel
theorem d_Desk_player_80 : decode b_Desk_player 80 = .ok (.aload_n 2, 1) := by decide +kernel
theorem d_Desk_player_81 : decode b_Desk_player 81 = .ok (.getfield 49, 3) := by decide +kernel
theorem d_Desk_player_84 : decode b_Desk_player 84 = .ok (.bipush 12, 2) := by decide +kernel
theorem d_Desk_player_86 : decode b_Desk_player 86 = .ok (.irem, 1) := by decide +kernel
theorem d_Desk_player_87 : decode b_Desk_player 87 = .ok (.goto 81, 3) := by decide +kernel
theorem d_Desk_player_90 : decode b_Desk_player 90 = .ok (.aload_n 2, 1) := by decide +kernel
theorem d_Desk_player_91 : decode b_Desk_player 91 = .ok (.getfield 49, 3) := by decide +kernel
theorem d_Desk_player_94 : decode b_Desk_player 94 = .ok (.bipush 12, 2) := by decide +kernel
theorem d_Desk_player_96 : decode b_Desk_player 96 = .ok (.idiv, 1) := by decide +kernel
theorem d_Desk_player_97 : decode b_Desk_player 97 = .ok (.goto 71, 3) := by decide +kernel
theorem d_Desk_player_100 : decode b_Desk_player 100 = .ok (.aload_n 2, 1) := by decide +kernel
theorem d_Desk_player_101 : decode b_Desk_player 101 = .ok (.invokevirtual 103, 3) := by decide +kernel
theorem d_Desk_player_104 : decode b_Desk_player 104 = .ok (.ifCond .eq 7, 3) := by decide +kernel
theorem d_Desk_player_107 : decode b_Desk_player 107 = .ok (.iconst 0, 1) := by decide +kernel
theorem d_Desk_player_108 : decode b_Desk_player 108 = .ok (.goto 60, 3) := by decide +kernel
theorem d_Desk_player_111 : decode b_Desk_player 111 = .ok (.aload_n 2, 1) := by decide +kernel
theorem d_Desk_player_112 : decode b_Desk_player 112 = .ok (.getfield 107, 3) := by decide +kernel
theorem d_Desk_player_115 : decode b_Desk_player 115 = .ok (.goto 53, 3) := by decide +kernel
theorem d_Desk_player_118 : decode b_Desk_player 118 = .ok (.aload_n 2, 1) := by decide +kernel
theorem d_Desk_player_119 : decode b_Desk_player 119 = .ok (.getfield 109, 3) := by decide +kernel
theorem d_Desk_player_122 : decode b_Desk_player 122 = .ok (.goto 46, 3) := by decide +kernel
theorem d_Desk_player_125 : decode b_Desk_player 125 = .ok (.aload_n 2, 1) := by decide +kernel
theorem d_Desk_player_126 : decode b_Desk_player 126 = .ok (.getfield 112, 3) := by decide +kernel
theorem d_Desk_player_129 : decode b_Desk_player 129 = .ok (.goto 39, 3) := by decide +kernel
theorem d_Desk_player_132 : decode b_Desk_player 132 = .ok (.aload_n 2, 1) := by decide +kernel
theorem d_Desk_player_133 : decode b_Desk_player 133 = .ok (.getfield 114, 3) := by decide +kernel
theorem d_Desk_player_136 : decode b_Desk_player 136 = .ok (.goto 32, 3) := by decide +kernel
theorem d_Desk_player_139 : decode b_Desk_player 139 = .ok (.aload_n 0, 1) := by decide +kernel
theorem d_Desk_player_140 : decode b_Desk_player 140 = .ok (.getfield 14, 3) := by decide +kernel
theorem d_Desk_player_143 : decode b_Desk_player 143 = .ok (.getfield 117, 3) := by decide +kernel
theorem d_Desk_player_146 : decode b_Desk_player 146 = .ok (.goto 22, 3) := by decide +kernel
theorem d_Desk_player_149 : decode b_Desk_player 149 = .ok (.aload_n 2, 1) := by decide +kernel
theorem d_Desk_player_150 : decode b_Desk_player 150 = .ok (.getfield 120, 3) := by decide +kernel
theorem d_Desk_player_153 : decode b_Desk_player 153 = .ok (.goto 15, 3) := by decide +kernel
theorem d_Desk_player_156 : decode b_Desk_player 156 = .ok (.aload_n 2, 1) := by decide +kernel
theorem d_Desk_player_157 : decode b_Desk_player 157 = .ok (.iload_n 1, 1) := by decide +kernel
theorem d_Desk_player_158 : decode b_Desk_player 158 = .ok (.bipush 10, 2) := by decide +kernel
theorem d_Desk_player_160 : decode b_Desk_player 160 = .ok (.isub, 1) := by decide +kernel
theorem d_Desk_player_161 : decode b_Desk_player 161 = .ok (.invokevirtual 123, 3) := by decide +kernel
theorem d_Desk_player_164 : decode b_Desk_player 164 = .ok (.goto 4, 3) := by decide +kernel
theorem d_Desk_player_167 : decode b_Desk_player 167 = .ok (.iconst (-1), 1) := by decide +kernel
theorem d_Desk_player_168 : decode b_Desk_player 168 = .ok (.ireturn, 1) := by decide +kernel
def f_Desk_player (n : Nat) (x1 : Int32) (σ : St) : Option (Int32 × St) := if x1 = 0 then (some ((σ.1 9) - (σ.1 9) / 12 * 12, σ)) else (if x1 = 1 then (some ((σ.1 9) / 12, σ)) else (if x1 = 2 then (bd (f_Hero_isDead n σ) (fun r4 σ5 => if r4 = 0 then (some (σ5.1 10, σ5)) else (some (0, σ5)))) else (if x1 = 3 then (some (σ.1 11, σ)) else (if x1 = 4 then (some (σ.1 12, σ)) else (if x1 = 5 then (some (σ.1 13, σ)) else (if x1 = 6 then (some (σ.1 2, σ)) else (if x1 = 7 then (some (σ.1 14, σ)) else (if x1 = 8 then (some ((-1), σ)) else (if x1 = 9 then (some ((-1), σ)) else (if x1 = 10 then (bd (f_Hero_thingInBag n (x1 - 10) σ) (fun r16 σ17 => some (r16, σ17))) else (if x1 = 11 then (bd (f_Hero_thingInBag n (x1 - 10) σ) (fun r20 σ21 => some (r20, σ21))) else (if x1 = 12 then (bd (f_Hero_thingInBag n (x1 - 10) σ) (fun r24 σ25 => some (r24, σ25))) else (if x1 = 13 then (bd (f_Hero_thingInBag n (x1 - 10) σ) (fun r28 σ29 => some (r28, σ29))) else (some ((-1), σ)))))))))))))))
set_option maxHeartbeats 4000000 in
set_option maxRecDepth 100000 in
theorem c_Desk_player (l : Launch) (D : va_G) (ad : Nat → Nat) (cA : Nat → ClassId) (tz : Nat → Nat) (n : Nat) (x1 : Int32) (σ : St) (r : Int32) (σr : St) (hf : f_Desk_player n x1 σ = some (r, σr)) : Ki l D cA tz (wl ad cA) y_Desk_player (.code y_Desk_player b_Desk_player 3 (some .int) :: TB) ({ frames := 1, cells := 0, slots := 0, locals := 21 }) [.ref (ad 0), .int x1] σ r σr := by
  refine x_openi (own := R_Desk) rfl (by decide) (fun p e s m args below meth c A Q X hml hZ hA H locs ls h hl rt => ?_)
  have hx := X.1
  have hb := X.2.1
  have hl : lv_has ls 3 [(0, .ref (ad 0)), (1, .int x1)] := hl
  unfold f_Desk_player at hf
  refine lv_aload_n hx hb d_Desk_player_0 rfl (lv_at hl 0 rfl) ?_
  refine G_desk_game X h m_f_Desk_14 d_Desk_player_1 ?_
  refine G_game_hero X h m_f_Desk_45 d_Desk_player_4 ?_
  refine lv_astore_n (lv' := [(2, .ref (ad 8)), (0, .ref (ad 0)), (1, .int x1)]) hx hb d_Desk_player_7 rfl hl (by decide) rfl (fun ls hl => ?_)
  refine lv_iload_n hx hb d_Desk_player_8 rfl (lv_at hl 2 rfl) ?_
  by_cases c1 : x1 = 0
  · have hf := it c1 hf
    refine lv_tableIn (off := 71) (tgt := 80) hx hb d_Desk_player_9 (by rw [c1]; decide) (by rw [c1]; decide) (by rw [c1]; decide) (by decide) ?_
    refine lv_aload_n hx hb d_Desk_player_80 rfl (lv_at hl 0 rfl) ?_
    refine G_hero_place X h m_f_Desk_49 d_Desk_player_81 ?_
    refine lv_bipush (v := 12) hx hb d_Desk_player_84 (by decide) ?_
    refine lv_irem hx hb d_Desk_player_86 (by decide) ?_
    refine lv_goto (tgt := 168) hx hb d_Desk_player_87 (by decide) ?_
    exact rt _ _ H locs 168 ls hf h d_Desk_player_168
  · have hf := ie c1 hf
    by_cases c2 : x1 = 1
    · have hf := it c2 hf
      refine lv_tableIn (off := 81) (tgt := 90) hx hb d_Desk_player_9 (by rw [c2]; decide) (by rw [c2]; decide) (by rw [c2]; decide) (by decide) ?_
      refine lv_aload_n hx hb d_Desk_player_90 rfl (lv_at hl 0 rfl) ?_
      refine G_hero_place X h m_f_Desk_49 d_Desk_player_91 ?_
      refine lv_bipush (v := 12) hx hb d_Desk_player_94 (by decide) ?_
      refine lv_idiv hx hb d_Desk_player_96 (by decide) ?_
      refine lv_goto (tgt := 168) hx hb d_Desk_player_97 (by decide) ?_
      exact rt _ _ H locs 168 ls hf h d_Desk_player_168
    · have hf := ie c2 hf
      by_cases c3 : x1 = 2
      · have hf := it c3 hf
        refine lv_tableIn (off := 91) (tgt := 100) hx hb d_Desk_player_9 (by rw [c3]; decide) (by rw [c3]; decide) (by rw [c3]; decide) (by decide) ?_
        refine lv_aload_n hx hb d_Desk_player_100 rfl (lv_at hl 0 rfl) ?_
        obtain ⟨r4, σ5, h6, hf⟩ := bd_s hf
        refine x_Vi (As := []) (rest := []) X hml hl.1 hZ hA h (c_Hero_isDead l D ad cA tz n σ r4 σ5 h6) k_Hero_isDead m_m_Desk_103 kd_Hero_isDead ⟨rfl, rfl, Nat.le_of_ble_eq_true rfl, Nat.le_of_ble_eq_true rfl⟩ 8 rfl rfl rfl rfl rfl (Nat.le_of_ble_eq_true rfl) d_Desk_player_101 (fun H locs h => ?_)
        refine lv_if_eq (tgt := 111) hx hb d_Desk_player_104 (by decide) (fun c7 => ?_) (fun c7 => ?_)
        · have hf := it c7 hf
          refine lv_aload_n hx hb d_Desk_player_111 rfl (lv_at hl 0 rfl) ?_
          refine G_hero_health X h m_f_Desk_107 d_Desk_player_112 ?_
          refine lv_goto (tgt := 168) hx hb d_Desk_player_115 (by decide) ?_
          exact rt _ _ H locs 168 ls hf h d_Desk_player_168
        · have hf := ie c7 hf
          refine lv_iconst (v := 0) hx hb d_Desk_player_107 (by decide) ?_
          refine lv_goto (tgt := 168) hx hb d_Desk_player_108 (by decide) ?_
          exact rt _ _ H locs 168 ls hf h d_Desk_player_168
      · have hf := ie c3 hf
        by_cases c8 : x1 = 3
        · have hf := it c8 hf
          refine lv_tableIn (off := 109) (tgt := 118) hx hb d_Desk_player_9 (by rw [c8]; decide) (by rw [c8]; decide) (by rw [c8]; decide) (by decide) ?_
          refine lv_aload_n hx hb d_Desk_player_118 rfl (lv_at hl 0 rfl) ?_
          refine G_hero_hit X h m_f_Desk_109 d_Desk_player_119 ?_
          refine lv_goto (tgt := 168) hx hb d_Desk_player_122 (by decide) ?_
          exact rt _ _ H locs 168 ls hf h d_Desk_player_168
        · have hf := ie c8 hf
          by_cases c9 : x1 = 4
          · have hf := it c9 hf
            refine lv_tableIn (off := 116) (tgt := 125) hx hb d_Desk_player_9 (by rw [c9]; decide) (by rw [c9]; decide) (by rw [c9]; decide) (by decide) ?_
            refine lv_aload_n hx hb d_Desk_player_125 rfl (lv_at hl 0 rfl) ?_
            refine G_hero_energy X h m_f_Desk_112 d_Desk_player_126 ?_
            refine lv_goto (tgt := 168) hx hb d_Desk_player_129 (by decide) ?_
            exact rt _ _ H locs 168 ls hf h d_Desk_player_168
          · have hf := ie c9 hf
            by_cases c10 : x1 = 5
            · have hf := it c10 hf
              refine lv_tableIn (off := 123) (tgt := 132) hx hb d_Desk_player_9 (by rw [c10]; decide) (by rw [c10]; decide) (by rw [c10]; decide) (by decide) ?_
              refine lv_aload_n hx hb d_Desk_player_132 rfl (lv_at hl 0 rfl) ?_
              refine G_hero_haste X h m_f_Desk_114 d_Desk_player_133 ?_
              refine lv_goto (tgt := 168) hx hb d_Desk_player_136 (by decide) ?_
              exact rt _ _ H locs 168 ls hf h d_Desk_player_168
            · have hf := ie c10 hf
              by_cases c11 : x1 = 6
              · have hf := it c11 hf
                refine lv_tableIn (off := 130) (tgt := 139) hx hb d_Desk_player_9 (by rw [c11]; decide) (by rw [c11]; decide) (by rw [c11]; decide) (by decide) ?_
                refine lv_aload_n hx hb d_Desk_player_139 rfl (lv_at hl 1 rfl) ?_
                refine G_desk_game X h m_f_Desk_14 d_Desk_player_140 ?_
                refine G_game_depth X h m_f_Desk_117 d_Desk_player_143 ?_
                refine lv_goto (tgt := 168) hx hb d_Desk_player_146 (by decide) ?_
                exact rt _ _ H locs 168 ls hf h d_Desk_player_168
              · have hf := ie c11 hf
                by_cases c12 : x1 = 7
                · have hf := it c12 hf
                  refine lv_tableIn (off := 140) (tgt := 149) hx hb d_Desk_player_9 (by rw [c12]; decide) (by rw [c12]; decide) (by rw [c12]; decide) (by decide) ?_
                  refine lv_aload_n hx hb d_Desk_player_149 rfl (lv_at hl 0 rfl) ?_
                  refine G_hero_bagSize X h m_f_Desk_120 d_Desk_player_150 ?_
                  refine lv_goto (tgt := 168) hx hb d_Desk_player_153 (by decide) ?_
                  exact rt _ _ H locs 168 ls hf h d_Desk_player_168
                · have hf := ie c12 hf
                  by_cases c13 : x1 = 8
                  · have hf := it c13 hf
                    refine lv_tableIn (off := 158) (tgt := 167) hx hb d_Desk_player_9 (by rw [c13]; decide) (by rw [c13]; decide) (by rw [c13]; decide) (by decide) ?_
                    refine lv_iconst (v := (-1)) hx hb d_Desk_player_167 (by decide) ?_
                    exact rt _ _ H locs 168 ls hf h d_Desk_player_168
                  · have hf := ie c13 hf
                    by_cases c14 : x1 = 9
                    · have hf := it c14 hf
                      refine lv_tableIn (off := 158) (tgt := 167) hx hb d_Desk_player_9 (by rw [c14]; decide) (by rw [c14]; decide) (by rw [c14]; decide) (by decide) ?_
                      refine lv_iconst (v := (-1)) hx hb d_Desk_player_167 (by decide) ?_
                      exact rt _ _ H locs 168 ls hf h d_Desk_player_168
                    · have hf := ie c14 hf
                      by_cases c15 : x1 = 10
                      · have hf := it c15 hf
                        refine lv_tableIn (off := 147) (tgt := 156) hx hb d_Desk_player_9 (by rw [c15]; decide) (by rw [c15]; decide) (by rw [c15]; decide) (by decide) ?_
                        refine lv_aload_n hx hb d_Desk_player_156 rfl (lv_at hl 0 rfl) ?_
                        refine lv_iload_n hx hb d_Desk_player_157 rfl (lv_at hl 2 rfl) ?_
                        refine lv_bipush (v := 10) hx hb d_Desk_player_158 (by decide) ?_
                        refine lv_isub hx hb d_Desk_player_160 ?_
                        obtain ⟨r16, σ17, h18, hf⟩ := bd_s hf
                        refine x_Vi (As := [.int (x1 - 10)]) (rest := []) X hml hl.1 hZ hA h (c_Hero_thingInBag l D ad cA tz n (x1 - 10) σ r16 σ17 h18) k_Hero_thingInBag m_m_Desk_123 kd_Hero_thingInBag ⟨rfl, rfl, Nat.le_of_ble_eq_true rfl, Nat.le_of_ble_eq_true rfl⟩ 8 rfl rfl rfl rfl rfl (Nat.le_of_ble_eq_true rfl) d_Desk_player_161 (fun H locs h => ?_)
                        refine lv_goto (tgt := 168) hx hb d_Desk_player_164 (by decide) ?_
                        exact rt _ _ H locs 168 ls hf h d_Desk_player_168
                      · have hf := ie c15 hf
                        by_cases c19 : x1 = 11
                        · have hf := it c19 hf
                          refine lv_tableIn (off := 147) (tgt := 156) hx hb d_Desk_player_9 (by rw [c19]; decide) (by rw [c19]; decide) (by rw [c19]; decide) (by decide) ?_
                          refine lv_aload_n hx hb d_Desk_player_156 rfl (lv_at hl 0 rfl) ?_
                          refine lv_iload_n hx hb d_Desk_player_157 rfl (lv_at hl 2 rfl) ?_
                          refine lv_bipush (v := 10) hx hb d_Desk_player_158 (by decide) ?_
                          refine lv_isub hx hb d_Desk_player_160 ?_
                          obtain ⟨r20, σ21, h22, hf⟩ := bd_s hf
                          refine x_Vi (As := [.int (x1 - 10)]) (rest := []) X hml hl.1 hZ hA h (c_Hero_thingInBag l D ad cA tz n (x1 - 10) σ r20 σ21 h22) k_Hero_thingInBag m_m_Desk_123 kd_Hero_thingInBag ⟨rfl, rfl, Nat.le_of_ble_eq_true rfl, Nat.le_of_ble_eq_true rfl⟩ 8 rfl rfl rfl rfl rfl (Nat.le_of_ble_eq_true rfl) d_Desk_player_161 (fun H locs h => ?_)
                          refine lv_goto (tgt := 168) hx hb d_Desk_player_164 (by decide) ?_
                          exact rt _ _ H locs 168 ls hf h d_Desk_player_168
                        · have hf := ie c19 hf
                          by_cases c23 : x1 = 12
                          · have hf := it c23 hf
                            refine lv_tableIn (off := 147) (tgt := 156) hx hb d_Desk_player_9 (by rw [c23]; decide) (by rw [c23]; decide) (by rw [c23]; decide) (by decide) ?_
                            refine lv_aload_n hx hb d_Desk_player_156 rfl (lv_at hl 0 rfl) ?_
                            refine lv_iload_n hx hb d_Desk_player_157 rfl (lv_at hl 2 rfl) ?_
                            refine lv_bipush (v := 10) hx hb d_Desk_player_158 (by decide) ?_
                            refine lv_isub hx hb d_Desk_player_160 ?_
                            obtain ⟨r24, σ25, h26, hf⟩ := bd_s hf
                            refine x_Vi (As := [.int (x1 - 10)]) (rest := []) X hml hl.1 hZ hA h (c_Hero_thingInBag l D ad cA tz n (x1 - 10) σ r24 σ25 h26) k_Hero_thingInBag m_m_Desk_123 kd_Hero_thingInBag ⟨rfl, rfl, Nat.le_of_ble_eq_true rfl, Nat.le_of_ble_eq_true rfl⟩ 8 rfl rfl rfl rfl rfl (Nat.le_of_ble_eq_true rfl) d_Desk_player_161 (fun H locs h => ?_)
                            refine lv_goto (tgt := 168) hx hb d_Desk_player_164 (by decide) ?_
                            exact rt _ _ H locs 168 ls hf h d_Desk_player_168
                          · have hf := ie c23 hf
                            by_cases c27 : x1 = 13
                            · have hf := it c27 hf
                              refine lv_tableIn (off := 147) (tgt := 156) hx hb d_Desk_player_9 (by rw [c27]; decide) (by rw [c27]; decide) (by rw [c27]; decide) (by decide) ?_
                              refine lv_aload_n hx hb d_Desk_player_156 rfl (lv_at hl 0 rfl) ?_
                              refine lv_iload_n hx hb d_Desk_player_157 rfl (lv_at hl 2 rfl) ?_
                              refine lv_bipush (v := 10) hx hb d_Desk_player_158 (by decide) ?_
                              refine lv_isub hx hb d_Desk_player_160 ?_
                              obtain ⟨r28, σ29, h30, hf⟩ := bd_s hf
                              refine x_Vi (As := [.int (x1 - 10)]) (rest := []) X hml hl.1 hZ hA h (c_Hero_thingInBag l D ad cA tz n (x1 - 10) σ r28 σ29 h30) k_Hero_thingInBag m_m_Desk_123 kd_Hero_thingInBag ⟨rfl, rfl, Nat.le_of_ble_eq_true rfl, Nat.le_of_ble_eq_true rfl⟩ 8 rfl rfl rfl rfl rfl (Nat.le_of_ble_eq_true rfl) d_Desk_player_161 (fun H locs h => ?_)
                              refine lv_goto (tgt := 168) hx hb d_Desk_player_164 (by decide) ?_
                              exact rt _ _ H locs 168 ls hf h d_Desk_player_168
                            · have hf := ie c27 hf
                              refine lv_tableOut (tgt := 167) hx hb d_Desk_player_9 (by have zc1 := lv_neT c1 (show (0 : Int32).toInt = 0 by decide); have zc2 := lv_neT c2 (show (1 : Int32).toInt = 1 by decide); have zc3 := lv_neT c3 (show (2 : Int32).toInt = 2 by decide); have zc8 := lv_neT c8 (show (3 : Int32).toInt = 3 by decide); have zc9 := lv_neT c9 (show (4 : Int32).toInt = 4 by decide); have zc10 := lv_neT c10 (show (5 : Int32).toInt = 5 by decide); have zc11 := lv_neT c11 (show (6 : Int32).toInt = 6 by decide); have zc12 := lv_neT c12 (show (7 : Int32).toInt = 7 by decide); have zc13 := lv_neT c13 (show (8 : Int32).toInt = 8 by decide); have zc14 := lv_neT c14 (show (9 : Int32).toInt = 9 by decide); have zc15 := lv_neT c15 (show (10 : Int32).toInt = 10 by decide); have zc19 := lv_neT c19 (show (11 : Int32).toInt = 11 by decide); have zc23 := lv_neT c23 (show (12 : Int32).toInt = 12 by decide); have zc27 := lv_neT c27 (show (13 : Int32).toInt = 13 by decide); omega) (by decide) ?_
                              refine lv_iconst (v := (-1)) hx hb d_Desk_player_167 (by decide) ?_
                              exact rt _ _ H locs 168 ls hf h d_Desk_player_168
theorem d_Desk_recorded_0 : decode b_Desk_recorded 0 = .ok (.iload_n 1, 1) := by decide +kernel
theorem d_Desk_recorded_1 : decode b_Desk_recorded 1 = .ok (.ifCond .lt 20, 3) := by decide +kernel
theorem d_Desk_recorded_4 : decode b_Desk_recorded 4 = .ok (.iload_n 1, 1) := by decide +kernel
theorem d_Desk_recorded_5 : decode b_Desk_recorded 5 = .ok (.aload_n 0, 1) := by decide +kernel
theorem d_Desk_recorded_6 : decode b_Desk_recorded 6 = .ok (.getfield 22, 3) := by decide +kernel
theorem d_Desk_recorded_9 : decode b_Desk_recorded 9 = .ok (.if_icmp .ge 12, 3) := by decide +kernel
theorem d_Desk_recorded_12 : decode b_Desk_recorded 12 = .ok (.aload_n 0, 1) := by decide +kernel
theorem d_Desk_recorded_13 : decode b_Desk_recorded 13 = .ok (.getfield 18, 3) := by decide +kernel
theorem d_Desk_recorded_16 : decode b_Desk_recorded 16 = .ok (.iload_n 1, 1) := by decide +kernel
theorem d_Desk_recorded_17 : decode b_Desk_recorded 17 = .ok (.iaload, 1) := by decide +kernel
theorem d_Desk_recorded_18 : decode b_Desk_recorded 18 = .ok (.goto 5, 3) := by decide +kernel
theorem d_Desk_recorded_21 : decode b_Desk_recorded 21 = .ok (.bipush (-2), 2) := by decide +kernel
theorem d_Desk_recorded_23 : decode b_Desk_recorded 23 = .ok (.ireturn, 1) := by decide +kernel
def f_Desk_recorded (n : Nat) (x1 : Int32) (σ : St) : Option (Int32 × St) := if x1 < 0 then (some ((-2), σ)) else (if (σ.1 0) ≤ x1 then (some ((-2), σ)) else (gd (inb x1 512) (some (σ.2.2 0 x1.toNatClampNeg, σ))))
set_option maxHeartbeats 4000000 in
set_option maxRecDepth 100000 in
theorem c_Desk_recorded (l : Launch) (D : va_G) (ad : Nat → Nat) (cA : Nat → ClassId) (tz : Nat → Nat) (n : Nat) (x1 : Int32) (σ : St) (r : Int32) (σr : St) (hf : f_Desk_recorded n x1 σ = some (r, σr)) : Ki l D cA tz (wl ad cA) y_Desk_recorded (.code y_Desk_recorded b_Desk_recorded 2 (some .int) :: TB) ({ frames := 0, cells := 0, slots := 0, locals := 0 }) [.ref (ad 0), .int x1] σ r σr := by
  refine x_openi (own := R_Desk) rfl (by decide) (fun p e s m args below meth c A Q X hml hZ hA H locs ls h hl rt => ?_)
  have hx := X.1
  have hb := X.2.1
  have hl : lv_has ls 2 [(0, .ref (ad 0)), (1, .int x1)] := hl
  unfold f_Desk_recorded at hf
  refine lv_iload_n hx hb d_Desk_recorded_0 rfl (lv_at hl 1 rfl) ?_
  refine lv_if_lt (tgt := 21) hx hb d_Desk_recorded_1 (by decide) (fun c1 => ?_) (fun c1 => ?_)
  · have hf := it c1 hf
    refine lv_bipush (v := (-2)) hx hb d_Desk_recorded_21 (by decide) ?_
    exact rt _ _ H locs 23 ls hf h d_Desk_recorded_23
  · have hf := ie c1 hf
    refine lv_iload_n hx hb d_Desk_recorded_4 rfl (lv_at hl 1 rfl) ?_
    refine lv_aload_n hx hb d_Desk_recorded_5 rfl (lv_at hl 0 rfl) ?_
    refine G_desk_keyCount X h m_f_Desk_22 d_Desk_recorded_6 ?_
    refine lv_icmp_ge (tgt := 21) hx hb d_Desk_recorded_9 (by decide) (fun c2 => ?_) (fun c2 => ?_)
    · have hf := it c2 hf
      refine lv_bipush (v := (-2)) hx hb d_Desk_recorded_21 (by decide) ?_
      exact rt _ _ H locs 23 ls hf h d_Desk_recorded_23
    · have hf := ie c2 hf
      refine lv_aload_n hx hb d_Desk_recorded_12 rfl (lv_at hl 0 rfl) ?_
      refine G_desk_keys X h m_f_Desk_18 d_Desk_recorded_13 ?_
      refine lv_iload_n hx hb d_Desk_recorded_16 rfl (lv_at hl 1 rfl) ?_
      obtain ⟨g3, hf⟩ := gd_s hf
      refine R_keys X h (inb_s g3) d_Desk_recorded_17 ?_
      refine lv_goto (tgt := 23) hx hb d_Desk_recorded_18 (by decide) ?_
      exact rt _ _ H locs 23 ls hf h d_Desk_recorded_23
theorem d_Desk_mix_0 : decode b_Desk_mix 0 = .ok (.lload_n 0, 1) := by decide +kernel
theorem d_Desk_mix_1 : decode b_Desk_mix 1 = .ok (.ldc2_w 152, 3) := by decide +kernel
theorem d_Desk_mix_4 : decode b_Desk_mix 4 = .ok (.lmul, 1) := by decide +kernel
theorem d_Desk_mix_5 : decode b_Desk_mix 5 = .ok (.lload_n 2, 1) := by decide +kernel
theorem d_Desk_mix_6 : decode b_Desk_mix 6 = .ok (.ladd, 1) := by decide +kernel
theorem d_Desk_mix_7 : decode b_Desk_mix 7 = .ok (.lreturn, 1) := by decide +kernel
def f_Desk_mix (n : Nat) (x0 : Int64) (x2 : Int64) (σ : St) : Option (Int64 × St) := some ((x0 * 1000003) + x2, σ)
set_option maxHeartbeats 4000000 in
set_option maxRecDepth 100000 in
theorem c_Desk_mix (l : Launch) (D : va_G) (ad : Nat → Nat) (cA : Nat → ClassId) (tz : Nat → Nat) (n : Nat) (x0 : Int64) (x2 : Int64) (σ : St) (r : Int64) (σr : St) (hf : f_Desk_mix n x0 x2 σ = some (r, σr)) : Kl l D cA tz (wl ad cA) y_Desk_mix (.code y_Desk_mix b_Desk_mix 4 (some .long) :: TB) ({ frames := 0, cells := 0, slots := 0, locals := 0 }) [.long x0, .long x2] σ r σr := by
  refine x_openl (own := R_Desk) rfl (by decide) (fun p e s m args below meth c A Q X hml hZ hA H locs ls h hl rt => ?_)
  have hx := X.1
  have hb := X.2.1
  have hl : lv_has ls 4 [(0, .long x0), (2, .long x2)] := hl
  unfold f_Desk_mix at hf
  refine lv_lload_n hx hb d_Desk_mix_0 rfl (lv_at hl 0 rfl) ?_
  refine lv_ldc2 (v := 1000003) hx hb X.2.2.1 (X.2.2.2.1 _ m_kl_Desk_152) d_Desk_mix_1 ?_
  refine lv_lmul hx hb d_Desk_mix_4 ?_
  refine lv_lload_n hx hb d_Desk_mix_5 rfl (lv_at hl 1 rfl) ?_
  refine lv_ladd hx hb d_Desk_mix_6 ?_
  exact rt _ _ H locs 7 ls hf h d_Desk_mix_7

