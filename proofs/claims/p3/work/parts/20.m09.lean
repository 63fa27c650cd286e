theorem d_Model_player_0 : decode b_Model_player 0 = .ok (.iload_n 1, 1) := by decide +kernel
theorem d_Model_player_1 : decode b_Model_player 1 = .ok (.bipush 10, 2) := by decide +kernel
theorem d_Model_player_3 : decode b_Model_player 3 = .ok (.bipush 13, 2) := by decide +kernel
theorem d_Model_player_5 : decode b_Model_player 5 = .ok (.invokestatic 148, 3) := by decide +kernel
theorem d_Model_player_8 : decode b_Model_player 8 = .ok (.ifCond .eq 29, 3) := by decide +kernel
theorem d_Model_player_11 : decode b_Model_player 11 = .ok (.iload_n 1, 1) := by decide +kernel
theorem d_Model_player_12 : decode b_Model_player 12 = .ok (.bipush 10, 2) := by decide +kernel
theorem d_Model_player_14 : decode b_Model_player 14 = .ok (.isub, 1) := by decide +kernel
theorem d_Model_player_15 : decode b_Model_player 15 = .ok (.aload_n 0, 1) := by decide +kernel
theorem d_Model_player_16 : decode b_Model_player 16 = .ok (.getfield 93, 3) := by decide +kernel
theorem d_Model_player_19 : decode b_Model_player 19 = .ok (.if_icmp .ge 15, 3) := by decide +kernel
theorem d_Model_player_22 : decode b_Model_player 22 = .ok (.aload_n 0, 1) := by decide +kernel
theorem d_Model_player_23 : decode b_Model_player 23 = .ok (.getfield 56, 3) := by decide +kernel
theorem d_Model_player_26 : decode b_Model_player 26 = .ok (.iload_n 1, 1) := by decide +kernel
theorem d_Model_player_27 : decode b_Model_player 27 = .ok (.bipush 10, 2) := by decide +kernel
theorem d_Model_player_29 : decode b_Model_player 29 = .ok (.isub, 1) := by decide +kernel
theorem d_Model_player_30 : decode b_Model_player 30 = .ok (.iaload, 1) := by decide +kernel
theorem d_Model_player_31 : decode b_Model_player 31 = .ok (.goto 5, 3) := by decide +kernel
theorem d_Model_player_34 : decode b_Model_player 34 = .ok (.bipush (-2), 2) := by decide +kernel
theorem d_Model_player_36 : decode b_Model_player 36 = .ok (.ireturn, 1) := by decide +kernel
theorem d_Model_player_37 : decode b_Model_player 37 = .ok (.iload_n 1, 1) := by decide +kernel
theorem d_Model_player_38 : decode b_Model_player 38 = .ok (.tableswitch 86 0 7 #[46, 51, 56, 61, 66, 71, 76, 81], 46) := by decide +kernel
theorem d_Model_player_84 : decode b_Model_player 84 = .ok (.aload_n 0, 1) := by decide +kernel
theorem d_Model_player_85 : decode b_Model_player 85 = .ok (.getfield 129, 3) := by decide +kernel
theorem d_Model_player_88 : decode b_Model_player 88 = .ok (.ireturn, 1) := by decide +kernel
theorem d_Model_player_89 : decode b_Model_player 89 = .ok (.aload_n 0, 1) := by decide +kernel
theorem d_Model_player_90 : decode b_Model_player 90 = .ok (.getfield 132, 3) := by decide +kernel
theorem d_Model_player_93 : decode b_Model_player 93 = .ok (.ireturn, 1) := by decide +kernel
theorem d_Model_player_94 : decode b_Model_player 94 = .ok (.aload_n 0, 1) := by decide +kernel
theorem d_Model_player_95 : decode b_Model_player 95 = .ok (.getfield 84, 3) := by decide +kernel
theorem d_Model_player_98 : decode b_Model_player 98 = .ok (.ireturn, 1) := by decide +kernel
theorem d_Model_player_99 : decode b_Model_player 99 = .ok (.aload_n 0, 1) := by decide +kernel
theorem d_Model_player_100 : decode b_Model_player 100 = .ok (.getfield 87, 3) := by decide +kernel
theorem d_Model_player_103 : decode b_Model_player 103 = .ok (.ireturn, 1) := by decide +kernel
theorem d_Model_player_104 : decode b_Model_player 104 = .ok (.aload_n 0, 1) := by decide +kernel
theorem d_Model_player_105 : decode b_Model_player 105 = .ok (.getfield 135, 3) := by decide +kernel
theorem d_Model_player_108 : decode b_Model_player 108 = .ok (.ireturn, 1) := by decide +kernel
theorem d_Model_player_109 : decode b_Model_player 109 = .ok (.aload_n 0, 1) := by decide +kernel
theorem d_Model_player_110 : decode b_Model_player 110 = .ok (.getfield 90, 3) := by decide +kernel
theorem d_Model_player_113 : decode b_Model_player 113 = .ok (.ireturn, 1) := by decide +kernel
theorem d_Model_player_114 : decode b_Model_player 114 = .ok (.aload_n 0, 1) := by decide +kernel
theorem d_Model_player_115 : decode b_Model_player 115 = .ok (.getfield 120, 3) := by decide +kernel
theorem d_Model_player_118 : decode b_Model_player 118 = .ok (.ireturn, 1) := by decide +kernel
theorem d_Model_player_119 : decode b_Model_player 119 = .ok (.aload_n 0, 1) := by decide +kernel
theorem d_Model_player_120 : decode b_Model_player 120 = .ok (.getfield 93, 3) := by decide +kernel
theorem d_Model_player_123 : decode b_Model_player 123 = .ok (.ireturn, 1) := by decide +kernel
theorem d_Model_player_124 : decode b_Model_player 124 = .ok (.iconst (-1), 1) := by decide +kernel
theorem d_Model_player_125 : decode b_Model_player 125 = .ok (.ireturn, 1) := by decide +kernel
def f_Model_player (n : Nat) (x1 : Int32) (σ : St) : Option (Int32 × St) := bd (f_Model_in n x1 10 13 σ) (fun r1 σ2 => if r1 = 0 then (if x1 = 0 then (some (σ2.1 2, σ2)) else (if x1 = 1 then (some (σ2.1 3, σ2)) else (if x1 = 2 then (some (σ2.1 4, σ2)) else (if x1 = 3 then (some (σ2.1 5, σ2)) else (if x1 = 4 then (some (σ2.1 6, σ2)) else (if x1 = 5 then (some (σ2.1 7, σ2)) else (if x1 = 6 then (some (σ2.1 8, σ2)) else (if x1 = 7 then (some (σ2.1 12, σ2)) else (some ((-1), σ2)))))))))) else (if (σ2.1 12) ≤ (x1 - 10) then (some ((-2), σ2)) else (gd (inb (x1 - 10) 5) (some (σ2.2.2 15 (x1 - 10).toNatClampNeg, σ2)))))
set_option maxHeartbeats 4000000 in
set_option maxRecDepth 100000 in
theorem c_Model_player (l : Launch) (D : va_G) (ad : Nat → Nat) (cA : Nat → ClassId) (tz : Nat → Nat) (n : Nat) (x1 : Int32) (σ : St) (r : Int32) (σr : St) (hf : f_Model_player n x1 σ = some (r, σr)) : Ki l D cA tz (wm ad cA) y_Model_player (.code y_Model_player b_Model_player 2 (some .int) :: TB) ({ frames := 1, cells := 0, slots := 0, locals := 22 }) [.ref (ad 0), .int x1] σ r σr := by
  refine x_openi (own := R_Model) rfl (by decide) (fun p e s m args below meth c A Q X hml hZ hA H locs ls h hl rt => ?_)
  have hx := X.1
  have hb := X.2.1
  have hl : lv_has ls 2 [(0, .ref (ad 0)), (1, .int x1)] := hl
  unfold f_Model_player at hf
  refine lv_iload_n hx hb d_Model_player_0 rfl (lv_at hl 1 rfl) ?_
  refine lv_bipush (v := 10) hx hb d_Model_player_1 (by decide) ?_
  refine lv_bipush (v := 13) hx hb d_Model_player_3 (by decide) ?_
  obtain ⟨r1, σ2, h3, hf⟩ := bd_s hf
  refine x_Si (As := [.int x1, .int 10, .int 13]) (rest := []) X hml hl.1 hZ hA h (c_Model_in l D ad cA tz n x1 10 13 σ r1 σ2 h3) k_Model_in m_m_Model_148 kd_Model_in ⟨rfl, rfl, Nat.le_of_ble_eq_true rfl, Nat.le_of_ble_eq_true rfl⟩ rfl rfl (Nat.le_of_ble_eq_true rfl) d_Model_player_5 (fun H locs h => ?_)
  refine lv_if_eq (tgt := 37) hx hb d_Model_player_8 (by decide) (fun c4 => ?_) (fun c4 => ?_)
  · have hf := it c4 hf
    refine lv_iload_n hx hb d_Model_player_37 rfl (lv_at hl 1 rfl) ?_
    by_cases c5 : x1 = 0
    · have hf := it c5 hf
      refine lv_tableIn (off := 46) (tgt := 84) hx hb d_Model_player_38 (by rw [c5]; decide) (by rw [c5]; decide) (by rw [c5]; decide) (by decide) ?_
      refine lv_aload_n hx hb d_Model_player_84 rfl (lv_at hl 0 rfl) ?_
      refine G_model_px X h m_f_Model_129 d_Model_player_85 ?_
      exact rt _ _ H locs 88 ls hf h d_Model_player_88
    · have hf := ie c5 hf
      by_cases c6 : x1 = 1
      · have hf := it c6 hf
        refine lv_tableIn (off := 51) (tgt := 89) hx hb d_Model_player_38 (by rw [c6]; decide) (by rw [c6]; decide) (by rw [c6]; decide) (by decide) ?_
        refine lv_aload_n hx hb d_Model_player_89 rfl (lv_at hl 0 rfl) ?_
        refine G_model_py X h m_f_Model_132 d_Model_player_90 ?_
        exact rt _ _ H locs 93 ls hf h d_Model_player_93
      · have hf := ie c6 hf
        by_cases c7 : x1 = 2
        · have hf := it c7 hf
          refine lv_tableIn (off := 56) (tgt := 94) hx hb d_Model_player_38 (by rw [c7]; decide) (by rw [c7]; decide) (by rw [c7]; decide) (by decide) ?_
          refine lv_aload_n hx hb d_Model_player_94 rfl (lv_at hl 0 rfl) ?_
          refine G_model_life X h m_f_Model_84 d_Model_player_95 ?_
          exact rt _ _ H locs 98 ls hf h d_Model_player_98
        · have hf := ie c7 hf
          by_cases c8 : x1 = 3
          · have hf := it c8 hf
            refine lv_tableIn (off := 61) (tgt := 99) hx hb d_Model_player_38 (by rw [c8]; decide) (by rw [c8]; decide) (by rw [c8]; decide) (by decide) ?_
            refine lv_aload_n hx hb d_Model_player_99 rfl (lv_at hl 0 rfl) ?_
            refine G_model_hit X h m_f_Model_87 d_Model_player_100 ?_
            exact rt _ _ H locs 103 ls hf h d_Model_player_103
          · have hf := ie c8 hf
            by_cases c9 : x1 = 4
            · have hf := it c9 hf
              refine lv_tableIn (off := 66) (tgt := 104) hx hb d_Model_player_38 (by rw [c9]; decide) (by rw [c9]; decide) (by rw [c9]; decide) (by decide) ?_
              refine lv_aload_n hx hb d_Model_player_104 rfl (lv_at hl 0 rfl) ?_
              refine G_model_power X h m_f_Model_135 d_Model_player_105 ?_
              exact rt _ _ H locs 108 ls hf h d_Model_player_108
            · have hf := ie c9 hf
              by_cases c10 : x1 = 5
              · have hf := it c10 hf
                refine lv_tableIn (off := 71) (tgt := 109) hx hb d_Model_player_38 (by rw [c10]; decide) (by rw [c10]; decide) (by rw [c10]; decide) (by decide) ?_
                refine lv_aload_n hx hb d_Model_player_109 rfl (lv_at hl 0 rfl) ?_
                refine G_model_haste X h m_f_Model_90 d_Model_player_110 ?_
                exact rt _ _ H locs 113 ls hf h d_Model_player_113
              · have hf := ie c10 hf
                by_cases c11 : x1 = 6
                · have hf := it c11 hf
                  refine lv_tableIn (off := 76) (tgt := 114) hx hb d_Model_player_38 (by rw [c11]; decide) (by rw [c11]; decide) (by rw [c11]; decide) (by decide) ?_
                  refine lv_aload_n hx hb d_Model_player_114 rfl (lv_at hl 0 rfl) ?_
                  refine G_model_level X h m_f_Model_120 d_Model_player_115 ?_
                  exact rt _ _ H locs 118 ls hf h d_Model_player_118
                · have hf := ie c11 hf
                  by_cases c12 : x1 = 7
                  · have hf := it c12 hf
                    refine lv_tableIn (off := 81) (tgt := 119) hx hb d_Model_player_38 (by rw [c12]; decide) (by rw [c12]; decide) (by rw [c12]; decide) (by decide) ?_
                    refine lv_aload_n hx hb d_Model_player_119 rfl (lv_at hl 0 rfl) ?_
                    refine G_model_things X h m_f_Model_93 d_Model_player_120 ?_
                    exact rt _ _ H locs 123 ls hf h d_Model_player_123
                  · have hf := ie c12 hf
                    refine lv_tableOut (tgt := 124) hx hb d_Model_player_38 (by have zc5 := lv_neT c5 (show (0 : Int32).toInt = 0 by decide); have zc6 := lv_neT c6 (show (1 : Int32).toInt = 1 by decide); have zc7 := lv_neT c7 (show (2 : Int32).toInt = 2 by decide); have zc8 := lv_neT c8 (show (3 : Int32).toInt = 3 by decide); have zc9 := lv_neT c9 (show (4 : Int32).toInt = 4 by decide); have zc10 := lv_neT c10 (show (5 : Int32).toInt = 5 by decide); have zc11 := lv_neT c11 (show (6 : Int32).toInt = 6 by decide); have zc12 := lv_neT c12 (show (7 : Int32).toInt = 7 by decide); omega) (by decide) ?_
                    refine lv_iconst (v := (-1)) hx hb d_Model_player_124 (by decide) ?_
                    exact rt _ _ H locs 125 ls hf h d_Model_player_125
  · have hf := ie c4 hf
    refine lv_iload_n hx hb d_Model_player_11 rfl (lv_at hl 1 rfl) ?_
    refine lv_bipush (v := 10) hx hb d_Model_player_12 (by decide) ?_
    refine lv_isub hx hb d_Model_player_14 ?_
    refine lv_aload_n hx hb d_Model_player_15 rfl (lv_at hl 0 rfl) ?_
    refine G_model_things X h m_f_Model_93 d_Model_player_16 ?_
    refine lv_icmp_ge (tgt := 34) hx hb d_Model_player_19 (by decide) (fun c13 => ?_) (fun c13 => ?_)
    · have hf := it c13 hf
      refine lv_bipush (v := (-2)) hx hb d_Model_player_34 (by decide) ?_
      exact rt _ _ H locs 36 ls hf h d_Model_player_36
    · have hf := ie c13 hf
      refine lv_aload_n hx hb d_Model_player_22 rfl (lv_at hl 0 rfl) ?_
      refine G_model_bag X h m_f_Model_56 d_Model_player_23 ?_
      refine lv_iload_n hx hb d_Model_player_26 rfl (lv_at hl 1 rfl) ?_
      refine lv_bipush (v := 10) hx hb d_Model_player_27 (by decide) ?_
      refine lv_isub hx hb d_Model_player_29 ?_
      obtain ⟨g14, hf⟩ := gd_s hf
      refine R_mbag X h (inb_s g14) d_Model_player_30 ?_
      refine lv_goto (tgt := 36) hx hb d_Model_player_31 (by decide) ?_
      exact rt _ _ H locs 36 ls hf h d_Model_player_36
theorem d_Model_recorded_0 : decode b_Model_recorded 0 = .ok (.iload_n 1, 1) := by decide +kernel
theorem d_Model_recorded_1 : decode b_Model_recorded 1 = .ok (.iconst 0, 1) := by decide +kernel
theorem d_Model_recorded_2 : decode b_Model_recorded 2 = .ok (.aload_n 0, 1) := by decide +kernel
theorem d_Model_recorded_3 : decode b_Model_recorded 3 = .ok (.getfield 105, 3) := by decide +kernel
theorem d_Model_recorded_6 : decode b_Model_recorded 6 = .ok (.iconst 1, 1) := by decide +kernel
theorem d_Model_recorded_7 : decode b_Model_recorded 7 = .ok (.isub, 1) := by decide +kernel
theorem d_Model_recorded_8 : decode b_Model_recorded 8 = .ok (.invokestatic 148, 3) := by decide +kernel
theorem d_Model_recorded_11 : decode b_Model_recorded 11 = .ok (.ifCond .eq 12, 3) := by decide +kernel
theorem d_Model_recorded_14 : decode b_Model_recorded 14 = .ok (.aload_n 0, 1) := by decide +kernel
theorem d_Model_recorded_15 : decode b_Model_recorded 15 = .ok (.getfield 59, 3) := by decide +kernel
theorem d_Model_recorded_18 : decode b_Model_recorded 18 = .ok (.iload_n 1, 1) := by decide +kernel
theorem d_Model_recorded_19 : decode b_Model_recorded 19 = .ok (.iaload, 1) := by decide +kernel
theorem d_Model_recorded_20 : decode b_Model_recorded 20 = .ok (.goto 5, 3) := by decide +kernel
theorem d_Model_recorded_23 : decode b_Model_recorded 23 = .ok (.bipush (-2), 2) := by decide +kernel
theorem d_Model_recorded_25 : decode b_Model_recorded 25 = .ok (.ireturn, 1) := by decide +kernel
def f_Model_recorded (n : Nat) (x1 : Int32) (σ : St) : Option (Int32 × St) := bd (f_Model_in n x1 0 ((σ.1 13) - 1) σ) (fun r1 σ2 => if r1 = 0 then (some ((-2), σ2)) else (gd (inb x1 520) (some (σ2.2.2 16 x1.toNatClampNeg, σ2))))
set_option maxHeartbeats 4000000 in
set_option maxRecDepth 100000 in
theorem c_Model_recorded (l : Launch) (D : va_G) (ad : Nat → Nat) (cA : Nat → ClassId) (tz : Nat → Nat) (n : Nat) (x1 : Int32) (σ : St) (r : Int32) (σr : St) (hf : f_Model_recorded n x1 σ = some (r, σr)) : Ki l D cA tz (wm ad cA) y_Model_recorded (.code y_Model_recorded b_Model_recorded 2 (some .int) :: TB) ({ frames := 1, cells := 0, slots := 0, locals := 22 }) [.ref (ad 0), .int x1] σ r σr := by
  refine x_openi (own := R_Model) rfl (by decide) (fun p e s m args below meth c A Q X hml hZ hA H locs ls h hl rt => ?_)
  have hx := X.1
  have hb := X.2.1
  have hl : lv_has ls 2 [(0, .ref (ad 0)), (1, .int x1)] := hl
  unfold f_Model_recorded at hf
  refine lv_iload_n hx hb d_Model_recorded_0 rfl (lv_at hl 1 rfl) ?_
  refine lv_iconst (v := 0) hx hb d_Model_recorded_1 (by decide) ?_
  refine lv_aload_n hx hb d_Model_recorded_2 rfl (lv_at hl 0 rfl) ?_
  refine G_model_recorded X h m_f_Model_105 d_Model_recorded_3 ?_
  refine lv_iconst (v := 1) hx hb d_Model_recorded_6 (by decide) ?_
  refine lv_isub hx hb d_Model_recorded_7 ?_
  obtain ⟨r1, σ2, h3, hf⟩ := bd_s hf
  refine x_Si (As := [.int x1, .int 0, .int ((σ.1 13) - 1)]) (rest := []) X hml hl.1 hZ hA h (c_Model_in l D ad cA tz n x1 0 ((σ.1 13) - 1) σ r1 σ2 h3) k_Model_in m_m_Model_148 kd_Model_in ⟨rfl, rfl, Nat.le_of_ble_eq_true rfl, Nat.le_of_ble_eq_true rfl⟩ rfl rfl (Nat.le_of_ble_eq_true rfl) d_Model_recorded_8 (fun H locs h => ?_)
  refine lv_if_eq (tgt := 23) hx hb d_Model_recorded_11 (by decide) (fun c4 => ?_) (fun c4 => ?_)
  · have hf := it c4 hf
    refine lv_bipush (v := (-2)) hx hb d_Model_recorded_23 (by decide) ?_
    exact rt _ _ H locs 25 ls hf h d_Model_recorded_25
  · have hf := ie c4 hf
    refine lv_aload_n hx hb d_Model_recorded_14 rfl (lv_at hl 0 rfl) ?_
    refine G_model_keys X h m_f_Model_59 d_Model_recorded_15 ?_
    refine lv_iload_n hx hb d_Model_recorded_18 rfl (lv_at hl 1 rfl) ?_
    obtain ⟨g5, hf⟩ := gd_s hf
    refine R_mkeys X h (inb_s g5) d_Model_recorded_19 ?_
    refine lv_goto (tgt := 25) hx hb d_Model_recorded_20 (by decide) ?_
    exact rt _ _ H locs 25 ls hf h d_Model_recorded_25
theorem d_Model_hash_0 : decode b_Model_hash 0 = .ok (.ldc2_w 214, 3) := by decide +kernel
theorem d_Model_hash_3 : decode b_Model_hash 3 = .ok (.lstore_n 1, 1) := by decide +kernel
theorem d_Model_hash_4 : decode b_Model_hash 4 = .ok (.iconst 0, 1) := by decide +kernel
theorem d_Model_hash_5 : decode b_Model_hash 5 = .ok (.istore_n 3, 1) := by decide +kernel
theorem d_Model_hash_6 : decode b_Model_hash 6 = .ok (.iload_n 3, 1) := by decide +kernel
theorem d_Model_hash_7 : decode b_Model_hash 7 = .ok (.bipush 8, 2) := by decide +kernel
theorem d_Model_hash_9 : decode b_Model_hash 9 = .ok (.if_icmp .ge 44, 3) := by decide +kernel
theorem d_Model_hash_12 : decode b_Model_hash 12 = .ok (.lload_n 1, 1) := by decide +kernel
theorem d_Model_hash_13 : decode b_Model_hash 13 = .ok (.ldc2_w 123, 3) := by decide +kernel
theorem d_Model_hash_16 : decode b_Model_hash 16 = .ok (.lmul, 1) := by decide +kernel
theorem d_Model_hash_17 : decode b_Model_hash 17 = .ok (.aload_n 0, 1) := by decide +kernel
theorem d_Model_hash_18 : decode b_Model_hash 18 = .ok (.iload_n 3, 1) := by decide +kernel
theorem d_Model_hash_19 : decode b_Model_hash 19 = .ok (.ifCond .ne 8, 3) := by decide +kernel
theorem d_Model_hash_22 : decode b_Model_hash 22 = .ok (.bipush 6, 2) := by decide +kernel
theorem d_Model_hash_24 : decode b_Model_hash 24 = .ok (.goto 17, 3) := by decide +kernel
theorem d_Model_hash_27 : decode b_Model_hash 27 = .ok (.iload_n 3, 1) := by decide +kernel
theorem d_Model_hash_28 : decode b_Model_hash 28 = .ok (.bipush 7, 2) := by decide +kernel
theorem d_Model_hash_30 : decode b_Model_hash 30 = .ok (.if_icmp .ge 9, 3) := by decide +kernel
theorem d_Model_hash_33 : decode b_Model_hash 33 = .ok (.iload_n 3, 1) := by decide +kernel
theorem d_Model_hash_34 : decode b_Model_hash 34 = .ok (.iconst 1, 1) := by decide +kernel
theorem d_Model_hash_35 : decode b_Model_hash 35 = .ok (.isub, 1) := by decide +kernel
theorem d_Model_hash_36 : decode b_Model_hash 36 = .ok (.goto 5, 3) := by decide +kernel
theorem d_Model_hash_39 : decode b_Model_hash 39 = .ok (.bipush 7, 2) := by decide +kernel
theorem d_Model_hash_41 : decode b_Model_hash 41 = .ok (.invokevirtual 216, 3) := by decide +kernel
theorem d_Model_hash_44 : decode b_Model_hash 44 = .ok (.i2l, 1) := by decide +kernel
theorem d_Model_hash_45 : decode b_Model_hash 45 = .ok (.ladd, 1) := by decide +kernel
theorem d_Model_hash_46 : decode b_Model_hash 46 = .ok (.lstore_n 1, 1) := by decide +kernel
theorem d_Model_hash_47 : decode b_Model_hash 47 = .ok (.iinc 3 1, 3) := by decide +kernel
theorem d_Model_hash_50 : decode b_Model_hash 50 = .ok (.goto (-44), 3) := by decide +kernel
theorem d_Model_hash_53 : decode b_Model_hash 53 = .ok (.iconst 0, 1) := by decide +kernel
theorem d_Model_hash_54 : decode b_Model_hash 54 = .ok (.istore_n 3, 1) := by decide +kernel
theorem d_Model_hash_55 : decode b_Model_hash 55 = .ok (.iload_n 3, 1) := by decide +kernel
theorem d_Model_hash_56 : decode b_Model_hash 56 = .ok (.aload_n 0, 1) := by decide +kernel
theorem d_Model_hash_57 : decode b_Model_hash 57 = .ok (.getfield 93, 3) := by decide +kernel
theorem d_Model_hash_60 : decode b_Model_hash 60 = .ok (.if_icmp .ge 23, 3) := by decide +kernel
theorem d_Model_hash_63 : decode b_Model_hash 63 = .ok (.lload_n 1, 1) := by decide +kernel
theorem d_Model_hash_64 : decode b_Model_hash 64 = .ok (.ldc2_w 123, 3) := by decide +kernel
theorem d_Model_hash_67 : decode b_Model_hash 67 = .ok (.lmul, 1) := by decide +kernel
theorem d_Model_hash_68 : decode b_Model_hash 68 = .ok (.aload_n 0, 1) := by decide +kernel
theorem d_Model_hash_69 : decode b_Model_hash 69 = .ok (.getfield 56, 3) := by decide +kernel
theorem d_Model_hash_72 : decode b_Model_hash 72 = .ok (.iload_n 3, 1) := by decide +kernel
theorem d_Model_hash_73 : decode b_Model_hash 73 = .ok (.iaload, 1) := by decide +kernel
theorem d_Model_hash_74 : decode b_Model_hash 74 = .ok (.i2l, 1) := by decide +kernel
theorem d_Model_hash_75 : decode b_Model_hash 75 = .ok (.ladd, 1) := by decide +kernel
theorem d_Model_hash_76 : decode b_Model_hash 76 = .ok (.lstore_n 1, 1) := by decide +kernel
theorem d_Model_hash_77 : decode b_Model_hash 77 = .ok (.iinc 3 1, 3) := by decide +kernel
theorem d_Model_hash_80 : decode b_Model_hash 80 = .ok (.goto (-25), 3) := by decide +kernel
theorem d_Model_hash_83 : decode b_Model_hash 83 = .ok (.iconst 0, 1) := by decide +kernel
theorem d_Model_hash_84 : decode b_Model_hash 84 = .ok (.istore_n 3, 1) := by decide +kernel
theorem d_Model_hash_85 : decode b_Model_hash 85 = .ok (.iload_n 3, 1) := by decide +kernel
theorem d_Model_hash_86 : decode b_Model_hash 86 = .ok (.aload_n 0, 1) := by decide +kernel
theorem d_Model_hash_87 : decode b_Model_hash 87 = .ok (.getfield 138, 3) := by decide +kernel
theorem d_Model_hash_90 : decode b_Model_hash 90 = .ok (.if_icmp .ge 49, 3) := by decide +kernel
theorem d_Model_hash_93 : decode b_Model_hash 93 = .ok (.iconst 0, 1) := by decide +kernel
theorem d_Model_hash_94 : decode b_Model_hash 94 = .ok (.istore 4, 2) := by decide +kernel
theorem d_Model_hash_96 : decode b_Model_hash 96 = .ok (.iload 4, 2) := by decide +kernel
theorem d_Model_hash_98 : decode b_Model_hash 98 = .ok (.bipush 6, 2) := by decide +kernel
theorem d_Model_hash_100 : decode b_Model_hash 100 = .ok (.if_icmp .ge 33, 3) := by decide +kernel
theorem d_Model_hash_103 : decode b_Model_hash 103 = .ok (.aload_n 0, 1) := by decide +kernel
theorem d_Model_hash_104 : decode b_Model_hash 104 = .ok (.getfield 41, 3) := by decide +kernel
theorem d_Model_hash_107 : decode b_Model_hash 107 = .ok (.iload_n 3, 1) := by decide +kernel
theorem d_Model_hash_108 : decode b_Model_hash 108 = .ok (.baload, 1) := by decide +kernel
theorem d_Model_hash_109 : decode b_Model_hash 109 = .ok (.ifCond .ne 24, 3) := by decide +kernel
theorem d_Model_hash_112 : decode b_Model_hash 112 = .ok (.lload_n 1, 1) := by decide +kernel
theorem d_Model_hash_113 : decode b_Model_hash 113 = .ok (.ldc2_w 123, 3) := by decide +kernel
theorem d_Model_hash_116 : decode b_Model_hash 116 = .ok (.lmul, 1) := by decide +kernel
theorem d_Model_hash_117 : decode b_Model_hash 117 = .ok (.aload_n 0, 1) := by decide +kernel
theorem d_Model_hash_118 : decode b_Model_hash 118 = .ok (.iload_n 3, 1) := by decide +kernel
theorem d_Model_hash_119 : decode b_Model_hash 119 = .ok (.iload 4, 2) := by decide +kernel
theorem d_Model_hash_121 : decode b_Model_hash 121 = .ok (.invokevirtual 219, 3) := by decide +kernel
theorem d_Model_hash_124 : decode b_Model_hash 124 = .ok (.i2l, 1) := by decide +kernel
theorem d_Model_hash_125 : decode b_Model_hash 125 = .ok (.ladd, 1) := by decide +kernel
theorem d_Model_hash_126 : decode b_Model_hash 126 = .ok (.lstore_n 1, 1) := by decide +kernel
theorem d_Model_hash_127 : decode b_Model_hash 127 = .ok (.iinc 4 1, 3) := by decide +kernel
theorem d_Model_hash_130 : decode b_Model_hash 130 = .ok (.goto (-34), 3) := by decide +kernel
theorem d_Model_hash_133 : decode b_Model_hash 133 = .ok (.iinc 3 1, 3) := by decide +kernel
theorem d_Model_hash_136 : decode b_Model_hash 136 = .ok (.goto (-51), 3) := by decide +kernel
theorem d_Model_hash_139 : decode b_Model_hash 139 = .ok (.iconst 0, 1) := by decide +kernel
theorem d_Model_hash_140 : decode b_Model_hash 140 = .ok (.istore_n 3, 1) := by decide +kernel
theorem d_Model_hash_141 : decode b_Model_hash 141 = .ok (.iload_n 3, 1) := by decide +kernel
theorem d_Model_hash_142 : decode b_Model_hash 142 = .ok (.bipush 120, 2) := by decide +kernel
theorem d_Model_hash_144 : decode b_Model_hash 144 = .ok (.if_icmp .ge 51, 3) := by decide +kernel
theorem d_Model_hash_147 : decode b_Model_hash 147 = .ok (.aload_n 0, 1) := by decide +kernel
theorem d_Model_hash_148 : decode b_Model_hash 148 = .ok (.getfield 13, 3) := by decide +kernel
theorem d_Model_hash_151 : decode b_Model_hash 151 = .ok (.iload_n 3, 1) := by decide +kernel
theorem d_Model_hash_152 : decode b_Model_hash 152 = .ok (.iaload, 1) := by decide +kernel
theorem d_Model_hash_153 : decode b_Model_hash 153 = .ok (.ifCond .lt 36, 3) := by decide +kernel
theorem d_Model_hash_156 : decode b_Model_hash 156 = .ok (.lload_n 1, 1) := by decide +kernel
theorem d_Model_hash_157 : decode b_Model_hash 157 = .ok (.ldc2_w 123, 3) := by decide +kernel
theorem d_Model_hash_160 : decode b_Model_hash 160 = .ok (.lmul, 1) := by decide +kernel
theorem d_Model_hash_161 : decode b_Model_hash 161 = .ok (.bipush 16, 2) := by decide +kernel
theorem d_Model_hash_163 : decode b_Model_hash 163 = .ok (.iload_n 3, 1) := by decide +kernel
theorem d_Model_hash_164 : decode b_Model_hash 164 = .ok (.bipush 12, 2) := by decide +kernel
theorem d_Model_hash_166 : decode b_Model_hash 166 = .ok (.idiv, 1) := by decide +kernel
theorem d_Model_hash_167 : decode b_Model_hash 167 = .ok (.imul, 1) := by decide +kernel
theorem d_Model_hash_168 : decode b_Model_hash 168 = .ok (.i2l, 1) := by decide +kernel
theorem d_Model_hash_169 : decode b_Model_hash 169 = .ok (.ladd, 1) := by decide +kernel
theorem d_Model_hash_170 : decode b_Model_hash 170 = .ok (.iload_n 3, 1) := by decide +kernel
theorem d_Model_hash_171 : decode b_Model_hash 171 = .ok (.bipush 12, 2) := by decide +kernel
theorem d_Model_hash_173 : decode b_Model_hash 173 = .ok (.irem, 1) := by decide +kernel
theorem d_Model_hash_174 : decode b_Model_hash 174 = .ok (.i2l, 1) := by decide +kernel
theorem d_Model_hash_175 : decode b_Model_hash 175 = .ok (.ladd, 1) := by decide +kernel
theorem d_Model_hash_176 : decode b_Model_hash 176 = .ok (.ldc2_w 123, 3) := by decide +kernel
theorem d_Model_hash_179 : decode b_Model_hash 179 = .ok (.lmul, 1) := by decide +kernel
theorem d_Model_hash_180 : decode b_Model_hash 180 = .ok (.aload_n 0, 1) := by decide +kernel
theorem d_Model_hash_181 : decode b_Model_hash 181 = .ok (.getfield 13, 3) := by decide +kernel
theorem d_Model_hash_184 : decode b_Model_hash 184 = .ok (.iload_n 3, 1) := by decide +kernel
theorem d_Model_hash_185 : decode b_Model_hash 185 = .ok (.iaload, 1) := by decide +kernel
theorem d_Model_hash_186 : decode b_Model_hash 186 = .ok (.i2l, 1) := by decide +kernel
theorem d_Model_hash_187 : decode b_Model_hash 187 = .ok (.ladd, 1) := by decide +kernel
theorem d_Model_hash_188 : decode b_Model_hash 188 = .ok (.lstore_n 1, 1) := by decide +kernel
theorem d_Model_hash_189 : decode b_Model_hash 189 = .ok (.iinc 3 1, 3) := by decide +kernel
theorem d_Model_hash_192 : decode b_Model_hash 192 = .ok (.goto (-51), 3) := by decide +kernel
theorem d_Model_hash_195 : decode b_Model_hash 195 = .ok (.lload_n 1, 1) := by decide +kernel
theorem d_Model_hash_196 : decode b_Model_hash 196 = .ok (.ldc2_w 123, 3) := by decide +kernel
theorem d_Model_hash_199 : decode b_Model_hash 199 = .ok (.lmul, 1) := by decide +kernel
theorem d_Model_hash_200 : decode b_Model_hash 200 = .ok (.aload_n 0, 1) := by decide +kernel
theorem d_Model_hash_201 : decode b_Model_hash 201 = .ok (.getfield 81, 3) := by decide +kernel
theorem d_Model_hash_204 : decode b_Model_hash 204 = .ok (.ladd, 1) := by decide +kernel
theorem d_Model_hash_205 : decode b_Model_hash 205 = .ok (.lreturn, 1) := by decide +kernel
def f_Model_hash_41 (n : Nat) (k6 : Int64 → Int32 → St → Option (Int64 × St)) (y3 : Int32) (s0 : Int32) (s2 : Int64) (σ : St) : Option (Int64 × St) := bd (f_Model_player n s0 σ) (fun r4 σ5 => bnd (s2 + (Int32.toInt64 r4)) (fun v7 => bnd (y3 + 1) (fun v8 => k6 v7 v8 σ5)))
def f_Model_hash_96 (n : Nat) (k85 : Int64 → Int32 → St → Option (Int64 × St)) : Nat → Int64 → Int32 → Int32 → St → Option (Int64 × St)
  | 0, _, _, _, _ => none
  | j + 1, y1, y3, y4, σ => if 6 ≤ y4 then (bnd (y3 + 1) (fun v15 => k85 y1 v15 σ)) else (gd (inb y3 8) (if (σ.2.2 10 y3.toNatClampNeg) = 0 then (bd (f_Model_monster n y3 y4 σ) (fun r19 σ20 => bnd ((y1 * 1000003) + (Int32.toInt64 r19)) (fun v22 => bnd (y4 + 1) (fun v23 => f_Model_hash_96 n k85 j v22 y3 v23 σ20)))) else (bnd (y3 + 1) (fun v18 => k85 y1 v18 σ))))
theorem f_Model_hash_96_s (n : Nat) (k85 : Int64 → Int32 → St → Option (Int64 × St)) (j : Nat) (y1 : Int64) (y3 : Int32) (y4 : Int32) (σ : St) : f_Model_hash_96 n k85 (j + 1) y1 y3 y4 σ = (if 6 ≤ y4 then (bnd (y3 + 1) (fun v15 => k85 y1 v15 σ)) else (gd (inb y3 8) (if (σ.2.2 10 y3.toNatClampNeg) = 0 then (bd (f_Model_monster n y3 y4 σ) (fun r19 σ20 => bnd ((y1 * 1000003) + (Int32.toInt64 r19)) (fun v22 => bnd (y4 + 1) (fun v23 => f_Model_hash_96 n k85 j v22 y3 v23 σ20)))) else (bnd (y3 + 1) (fun v18 => k85 y1 v18 σ))))) := rfl
def f_Model_hash_141 (n : Nat) : Nat → Int64 → Int32 → St → Option (Int64 × St)
  | 0, _, _, _ => none
  | j + 1, y1, y3, σ => if 120 ≤ y3 then (some ((y1 * 1000003) + (σ.2.1 1), σ)) else (gd (inb y3 120) (if (σ.2.2 1 y3.toNatClampNeg) < 0 then (bnd (y3 + 1) (fun v27 => f_Model_hash_141 n j y1 v27 σ)) else (gd (inb y3 120) (bnd (((((y1 * 1000003) + (Int32.toInt64 (16 * (y3 / 12)))) + (Int32.toInt64 (y3 - y3 / 12 * 12))) * 1000003) + (Int32.toInt64 (σ.2.2 1 y3.toNatClampNeg))) (fun v29 => bnd (y3 + 1) (fun v30 => f_Model_hash_141 n j v29 v30 σ))))))
theorem f_Model_hash_141_s (n : Nat) (j : Nat) (y1 : Int64) (y3 : Int32) (σ : St) : f_Model_hash_141 n (j + 1) y1 y3 σ = (if 120 ≤ y3 then (some ((y1 * 1000003) + (σ.2.1 1), σ)) else (gd (inb y3 120) (if (σ.2.2 1 y3.toNatClampNeg) < 0 then (bnd (y3 + 1) (fun v27 => f_Model_hash_141 n j y1 v27 σ)) else (gd (inb y3 120) (bnd (((((y1 * 1000003) + (Int32.toInt64 (16 * (y3 / 12)))) + (Int32.toInt64 (y3 - y3 / 12 * 12))) * 1000003) + (Int32.toInt64 (σ.2.2 1 y3.toNatClampNeg))) (fun v29 => bnd (y3 + 1) (fun v30 => f_Model_hash_141 n j v29 v30 σ))))))) := rfl
def f_Model_hash_85 (n : Nat) : Nat → Int64 → Int32 → St → Option (Int64 × St)
  | 0, _, _, _ => none
  | j + 1, y1, y3, σ => if (σ.1 1) ≤ y3 then (f_Model_hash_141 n n y1 0 σ) else (f_Model_hash_96 n (fun y1 y3 σ => f_Model_hash_85 n j y1 y3 σ) n y1 y3 0 σ)
theorem f_Model_hash_85_s (n : Nat) (j : Nat) (y1 : Int64) (y3 : Int32) (σ : St) : f_Model_hash_85 n (j + 1) y1 y3 σ = (if (σ.1 1) ≤ y3 then (f_Model_hash_141 n n y1 0 σ) else (f_Model_hash_96 n (fun y1 y3 σ => f_Model_hash_85 n j y1 y3 σ) n y1 y3 0 σ)) := rfl
def f_Model_hash_55 (n : Nat) : Nat → Int64 → Int32 → St → Option (Int64 × St)
  | 0, _, _, _ => none
  | j + 1, y1, y3, σ => if (σ.1 12) ≤ y3 then (f_Model_hash_85 n n y1 0 σ) else (gd (inb y3 5) (bnd ((y1 * 1000003) + (Int32.toInt64 (σ.2.2 15 y3.toNatClampNeg))) (fun v11 => bnd (y3 + 1) (fun v12 => f_Model_hash_55 n j v11 v12 σ))))
theorem f_Model_hash_55_s (n : Nat) (j : Nat) (y1 : Int64) (y3 : Int32) (σ : St) : f_Model_hash_55 n (j + 1) y1 y3 σ = (if (σ.1 12) ≤ y3 then (f_Model_hash_85 n n y1 0 σ) else (gd (inb y3 5) (bnd ((y1 * 1000003) + (Int32.toInt64 (σ.2.2 15 y3.toNatClampNeg))) (fun v11 => bnd (y3 + 1) (fun v12 => f_Model_hash_55 n j v11 v12 σ))))) := rfl
def f_Model_hash_6 (n : Nat) : Nat → Int64 → Int32 → St → Option (Int64 × St)
  | 0, _, _, _ => none
  | j + 1, y1, y3, σ => if 8 ≤ y3 then (f_Model_hash_55 n n y1 0 σ) else (if y3 = 0 then (f_Model_hash_41 n (fun y1 y3 σ => f_Model_hash_6 n j y1 y3 σ) y3 6 (y1 * 1000003) σ) else (if 7 ≤ y3 then (f_Model_hash_41 n (fun y1 y3 σ => f_Model_hash_6 n j y1 y3 σ) y3 7 (y1 * 1000003) σ) else (f_Model_hash_41 n (fun y1 y3 σ => f_Model_hash_6 n j y1 y3 σ) y3 (y3 - 1) (y1 * 1000003) σ)))
theorem f_Model_hash_6_s (n : Nat) (j : Nat) (y1 : Int64) (y3 : Int32) (σ : St) : f_Model_hash_6 n (j + 1) y1 y3 σ = (if 8 ≤ y3 then (f_Model_hash_55 n n y1 0 σ) else (if y3 = 0 then (f_Model_hash_41 n (fun y1 y3 σ => f_Model_hash_6 n j y1 y3 σ) y3 6 (y1 * 1000003) σ) else (if 7 ≤ y3 then (f_Model_hash_41 n (fun y1 y3 σ => f_Model_hash_6 n j y1 y3 σ) y3 7 (y1 * 1000003) σ) else (f_Model_hash_41 n (fun y1 y3 σ => f_Model_hash_6 n j y1 y3 σ) y3 (y3 - 1) (y1 * 1000003) σ)))) := rfl
def f_Model_hash (n : Nat) (σ : St) : Option (Int64 × St) := f_Model_hash_6 n n 17 0 σ
set_option maxHeartbeats 4000000 in
set_option maxRecDepth 100000 in
theorem c_Model_hash (l : Launch) (D : va_G) (ad : Nat → Nat) (cA : Nat → ClassId) (tz : Nat → Nat) (n : Nat) (σ : St) (r : Int64) (σr : St) (hf : f_Model_hash n σ = some (r, σr)) : Kl l D cA tz (wm ad cA) y_Model_hash (.code y_Model_hash b_Model_hash 5 (some .long) :: TB) ({ frames := 2, cells := 0, slots := 0, locals := 44 }) [.ref (ad 0)] σ r σr := by
  refine x_openl (own := R_Model) rfl (by decide) (fun p e s m args below meth c A Q X hml hZ hA H locs ls h hl rt => ?_)
  have hx := X.1
  have hb := X.2.1
  have hl : lv_has ls 5 [(0, .ref (ad 0))] := hl
  have L41 : ∀ (k6 : Int64 → Int32 → St → Option (Int64 × St)), (∀ (y1 : Int64) (y3 : Int32) (σ : St), k6 y1 y3 σ = some (r, σr) → ∀ (H : Heap) (locs : List Loc) (ls : Array Slot), WD D A s (wm ad cA σ) H locs → lv_has ls 5 [(0, .ref (ad 0)), (1, .long y1), (3, .int y3)] → W p l e ({ frames := 2, cells := 0, slots := 0, locals := 44 }) s m args below meth c H locs 0 0 Q (F0 m 6 ls [])) → ∀ (y3 : Int32) (s0 : Int32) (s2 : Int64) (σ : St), f_Model_hash_41 n k6 y3 s0 s2 σ = some (r, σr) → ∀ (H : Heap) (locs : List Loc) (ls : Array Slot), WD D A s (wm ad cA σ) H locs → lv_has ls 5 [(0, .ref (ad 0)), (3, .int y3)] → W p l e ({ frames := 2, cells := 0, slots := 0, locals := 44 }) s m args below meth c H locs 0 0 Q (F0 m 41 ls [.int s0, .ref (ad 0), .long s2]) := by
    intro k6 K6
    intro y3 s0 s2 σ hf H locs ls h hl
    unfold f_Model_hash_41 at hf
    obtain ⟨r4, σ5, h6, hf⟩ := bd_s hf
    refine x_Vi (As := [.int s0]) (rest := [.long s2]) X hml hl.1 hZ hA h (c_Model_player l D ad cA tz n s0 σ r4 σ5 h6) k_Model_player m_m_Model_216 kd_Model_player ⟨rfl, rfl, Nat.le_of_ble_eq_true rfl, Nat.le_of_ble_eq_true rfl⟩ 0 rfl rfl rfl rfl rfl (Nat.le_of_ble_eq_true rfl) d_Model_hash_41 (fun H locs h => ?_)
    refine lv_i2l hx hb d_Model_hash_44 rfl ?_
    refine lv_ladd hx hb d_Model_hash_45 ?_
    refine lv_topl (fun v7 ev7 => ?_)
    have hf := nm_b hf ev7
    refine lv_lstore_n (lv' := [(1, .long v7), (0, .ref (ad 0)), (3, .int y3)]) hx hb d_Model_hash_46 rfl hl (by decide) rfl (fun ls hl => ?_)
    obtain ⟨v8, ev8⟩ : ∃ y : Int32, y = y3 + 1 := ⟨_, rfl⟩
    have hf := nm_b hf ev8
    refine lv_iinc (v := v8) (lv' := [(3, .int v8), (1, .long v7), (0, .ref (ad 0))]) hx hb d_Model_hash_47 hl (k := 2) rfl (by rw [ev8]; rfl) (by decide) rfl (fun ls hl => ?_)
    refine lv_goto (tgt := 6) hx hb d_Model_hash_50 (by decide) ?_
    exact K6 v7 v8 σ5 hf H locs ls h (lv_sub hl [2, 1, 0] rfl)
  have L96 : ∀ (k85 : Int64 → Int32 → St → Option (Int64 × St)), (∀ (y1 : Int64) (y3 : Int32) (σ : St), k85 y1 y3 σ = some (r, σr) → ∀ (H : Heap) (locs : List Loc) (ls : Array Slot), WD D A s (wm ad cA σ) H locs → lv_has ls 5 [(0, .ref (ad 0)), (1, .long y1), (3, .int y3)] → W p l e ({ frames := 2, cells := 0, slots := 0, locals := 44 }) s m args below meth c H locs 0 0 Q (F0 m 85 ls [])) → ∀ j : Nat, ∀ (y1 : Int64) (y3 : Int32) (y4 : Int32) (σ : St), f_Model_hash_96 n k85 j y1 y3 y4 σ = some (r, σr) → ∀ (H : Heap) (locs : List Loc) (ls : Array Slot), WD D A s (wm ad cA σ) H locs → lv_has ls 5 [(0, .ref (ad 0)), (1, .long y1), (3, .int y3), (4, .int y4)] → W p l e ({ frames := 2, cells := 0, slots := 0, locals := 44 }) s m args below meth c H locs 0 0 Q (F0 m 96 ls []) := by
    intro k85 K85
    intro j
    induction j with
    | zero => intro y1 y3 y4 σ hf; exact absurd hf (fun z => by cases z)
    | succ j ih =>
      intro y1 y3 y4 σ hf H locs ls h hl
      have hf := us (f_Model_hash_96_s n k85 j y1 y3 y4 σ) hf
      refine lv_iload hx hb d_Model_hash_96 (lv_at hl 3 rfl) ?_
      refine lv_bipush (v := 6) hx hb d_Model_hash_98 (by decide) ?_
      refine lv_icmp_ge (tgt := 133) hx hb d_Model_hash_100 (by decide) (fun c14 => ?_) (fun c14 => ?_)
      · have hf := it c14 hf
        obtain ⟨v15, ev15⟩ : ∃ y : Int32, y = y3 + 1 := ⟨_, rfl⟩
        have hf := nm_b hf ev15
        refine lv_iinc (v := v15) (lv' := [(3, .int v15), (0, .ref (ad 0)), (1, .long y1), (4, .int y4)]) hx hb d_Model_hash_133 hl (k := 2) rfl (by rw [ev15]; rfl) (by decide) rfl (fun ls hl => ?_)
        refine lv_goto (tgt := 85) hx hb d_Model_hash_136 (by decide) ?_
        exact K85 y1 v15 σ hf H locs ls h (lv_sub hl [1, 2, 0] rfl)
      · have hf := ie c14 hf
        refine lv_aload_n hx hb d_Model_hash_103 rfl (lv_at hl 0 rfl) ?_
        refine G_model_gone X h m_f_Model_41 d_Model_hash_104 ?_
        refine lv_iload_n hx hb d_Model_hash_107 rfl (lv_at hl 2 rfl) ?_
        obtain ⟨g16, hf⟩ := gd_s hf
        refine R_mgone X h (inb_s g16) d_Model_hash_108 ?_
        refine lv_if_ne (tgt := 133) hx hb d_Model_hash_109 (by decide) (fun c17 => ?_) (fun c17 => ?_)
        · have hf := ie c17 hf
          obtain ⟨v18, ev18⟩ : ∃ y : Int32, y = y3 + 1 := ⟨_, rfl⟩
          have hf := nm_b hf ev18
          refine lv_iinc (v := v18) (lv' := [(3, .int v18), (0, .ref (ad 0)), (1, .long y1), (4, .int y4)]) hx hb d_Model_hash_133 hl (k := 2) rfl (by rw [ev18]; rfl) (by decide) rfl (fun ls hl => ?_)
          refine lv_goto (tgt := 85) hx hb d_Model_hash_136 (by decide) ?_
          exact K85 y1 v18 σ hf H locs ls h (lv_sub hl [1, 2, 0] rfl)
        · have hf := it c17 hf
          refine lv_lload_n hx hb d_Model_hash_112 rfl (lv_at hl 1 rfl) ?_
          refine lv_ldc2 (v := 1000003) hx hb X.2.2.1 (X.2.2.2.1 _ m_kl_Model_123) d_Model_hash_113 ?_
          refine lv_lmul hx hb d_Model_hash_116 ?_
          refine lv_aload_n hx hb d_Model_hash_117 rfl (lv_at hl 0 rfl) ?_
          refine lv_iload_n hx hb d_Model_hash_118 rfl (lv_at hl 2 rfl) ?_
          refine lv_iload hx hb d_Model_hash_119 (lv_at hl 3 rfl) ?_
          obtain ⟨r19, σ20, h21, hf⟩ := bd_s hf
          refine x_Vi (As := [.int y3, .int y4]) (rest := [.long (y1 * 1000003)]) X hml hl.1 hZ hA h (c_Model_monster l D ad cA tz n y3 y4 σ r19 σ20 h21) k_Model_monster m_m_Model_219 kd_Model_monster ⟨rfl, rfl, Nat.le_of_ble_eq_true rfl, Nat.le_of_ble_eq_true rfl⟩ 0 rfl rfl rfl rfl rfl (Nat.le_of_ble_eq_true rfl) d_Model_hash_121 (fun H locs h => ?_)
          refine lv_i2l hx hb d_Model_hash_124 rfl ?_
          refine lv_ladd hx hb d_Model_hash_125 ?_
          refine lv_topl (fun v22 ev22 => ?_)
          have hf := nm_b hf ev22
          refine lv_lstore_n (lv' := [(1, .long v22), (0, .ref (ad 0)), (3, .int y3), (4, .int y4)]) hx hb d_Model_hash_126 rfl hl (by decide) rfl (fun ls hl => ?_)
          obtain ⟨v23, ev23⟩ : ∃ y : Int32, y = y4 + 1 := ⟨_, rfl⟩
          have hf := nm_b hf ev23
          refine lv_iinc (v := v23) (lv' := [(4, .int v23), (1, .long v22), (0, .ref (ad 0)), (3, .int y3)]) hx hb d_Model_hash_127 hl (k := 3) rfl (by rw [ev23]; rfl) (by decide) rfl (fun ls hl => ?_)
          refine lv_goto (tgt := 96) hx hb d_Model_hash_130 (by decide) ?_
          exact ih v22 y3 v23 σ20 hf H locs ls h (lv_sub hl [2, 1, 3, 0] rfl)
  have L141 : ∀ j : Nat, ∀ (y1 : Int64) (y3 : Int32) (σ : St), f_Model_hash_141 n j y1 y3 σ = some (r, σr) → ∀ (H : Heap) (locs : List Loc) (ls : Array Slot), WD D A s (wm ad cA σ) H locs → lv_has ls 5 [(0, .ref (ad 0)), (1, .long y1), (3, .int y3)] → W p l e ({ frames := 2, cells := 0, slots := 0, locals := 44 }) s m args below meth c H locs 0 0 Q (F0 m 141 ls []) := by
    intro j
    induction j with
    | zero => intro y1 y3 σ hf; exact absurd hf (fun z => by cases z)
    | succ j ih =>
      intro y1 y3 σ hf H locs ls h hl
      have hf := us (f_Model_hash_141_s n j y1 y3 σ) hf
      refine lv_iload_n hx hb d_Model_hash_141 rfl (lv_at hl 2 rfl) ?_
      refine lv_bipush (v := 120) hx hb d_Model_hash_142 (by decide) ?_
      refine lv_icmp_ge (tgt := 195) hx hb d_Model_hash_144 (by decide) (fun c24 => ?_) (fun c24 => ?_)
      · have hf := it c24 hf
        refine lv_lload_n hx hb d_Model_hash_195 rfl (lv_at hl 1 rfl) ?_
        refine lv_ldc2 (v := 1000003) hx hb X.2.2.1 (X.2.2.2.1 _ m_kl_Model_123) d_Model_hash_196 ?_
        refine lv_lmul hx hb d_Model_hash_199 ?_
        refine lv_aload_n hx hb d_Model_hash_200 rfl (lv_at hl 0 rfl) ?_
        refine G_model_play X h m_f_Model_81 d_Model_hash_201 ?_
        refine lv_ladd hx hb d_Model_hash_204 ?_
        exact rt _ _ H locs 205 ls hf h d_Model_hash_205
      · have hf := ie c24 hf
        refine lv_aload_n hx hb d_Model_hash_147 rfl (lv_at hl 0 rfl) ?_
        refine G_model_thing X h m_f_Model_13 d_Model_hash_148 ?_
        refine lv_iload_n hx hb d_Model_hash_151 rfl (lv_at hl 2 rfl) ?_
        obtain ⟨g25, hf⟩ := gd_s hf
        refine R_mthing X h (inb_s g25) d_Model_hash_152 ?_
        refine lv_if_lt (tgt := 189) hx hb d_Model_hash_153 (by decide) (fun c26 => ?_) (fun c26 => ?_)
        · have hf := it c26 hf
          obtain ⟨v27, ev27⟩ : ∃ y : Int32, y = y3 + 1 := ⟨_, rfl⟩
          have hf := nm_b hf ev27
          refine lv_iinc (v := v27) (lv' := [(3, .int v27), (0, .ref (ad 0)), (1, .long y1)]) hx hb d_Model_hash_189 hl (k := 2) rfl (by rw [ev27]; rfl) (by decide) rfl (fun ls hl => ?_)
          refine lv_goto (tgt := 141) hx hb d_Model_hash_192 (by decide) ?_
          exact ih y1 v27 σ hf H locs ls h (lv_sub hl [1, 2, 0] rfl)
        · have hf := ie c26 hf
          refine lv_lload_n hx hb d_Model_hash_156 rfl (lv_at hl 1 rfl) ?_
          refine lv_ldc2 (v := 1000003) hx hb X.2.2.1 (X.2.2.2.1 _ m_kl_Model_123) d_Model_hash_157 ?_
          refine lv_lmul hx hb d_Model_hash_160 ?_
          refine lv_bipush (v := 16) hx hb d_Model_hash_161 (by decide) ?_
          refine lv_iload_n hx hb d_Model_hash_163 rfl (lv_at hl 2 rfl) ?_
          refine lv_bipush (v := 12) hx hb d_Model_hash_164 (by decide) ?_
          refine lv_idiv hx hb d_Model_hash_166 (by decide) ?_
          refine lv_imul hx hb d_Model_hash_167 ?_
          refine lv_i2l hx hb d_Model_hash_168 rfl ?_
          refine lv_ladd hx hb d_Model_hash_169 ?_
          refine lv_iload_n hx hb d_Model_hash_170 rfl (lv_at hl 2 rfl) ?_
          refine lv_bipush (v := 12) hx hb d_Model_hash_171 (by decide) ?_
          refine lv_irem hx hb d_Model_hash_173 (by decide) ?_
          refine lv_i2l hx hb d_Model_hash_174 rfl ?_
          refine lv_ladd hx hb d_Model_hash_175 ?_
          refine lv_ldc2 (v := 1000003) hx hb X.2.2.1 (X.2.2.2.1 _ m_kl_Model_123) d_Model_hash_176 ?_
          refine lv_lmul hx hb d_Model_hash_179 ?_
          refine lv_aload_n hx hb d_Model_hash_180 rfl (lv_at hl 0 rfl) ?_
          refine G_model_thing X h m_f_Model_13 d_Model_hash_181 ?_
          refine lv_iload_n hx hb d_Model_hash_184 rfl (lv_at hl 2 rfl) ?_
          obtain ⟨g28, hf⟩ := gd_s hf
          refine R_mthing X h (inb_s g28) d_Model_hash_185 ?_
          refine lv_i2l hx hb d_Model_hash_186 rfl ?_
          refine lv_ladd hx hb d_Model_hash_187 ?_
          refine lv_topl (fun v29 ev29 => ?_)
          have hf := nm_b hf ev29
          refine lv_lstore_n (lv' := [(1, .long v29), (0, .ref (ad 0)), (3, .int y3)]) hx hb d_Model_hash_188 rfl hl (by decide) rfl (fun ls hl => ?_)
          obtain ⟨v30, ev30⟩ : ∃ y : Int32, y = y3 + 1 := ⟨_, rfl⟩
          have hf := nm_b hf ev30
          refine lv_iinc (v := v30) (lv' := [(3, .int v30), (1, .long v29), (0, .ref (ad 0))]) hx hb d_Model_hash_189 hl (k := 2) rfl (by rw [ev30]; rfl) (by decide) rfl (fun ls hl => ?_)
          refine lv_goto (tgt := 141) hx hb d_Model_hash_192 (by decide) ?_
          exact ih v29 v30 σ hf H locs ls h (lv_sub hl [2, 1, 0] rfl)
  have L85 : ∀ j : Nat, ∀ (y1 : Int64) (y3 : Int32) (σ : St), f_Model_hash_85 n j y1 y3 σ = some (r, σr) → ∀ (H : Heap) (locs : List Loc) (ls : Array Slot), WD D A s (wm ad cA σ) H locs → lv_has ls 5 [(0, .ref (ad 0)), (1, .long y1), (3, .int y3)] → W p l e ({ frames := 2, cells := 0, slots := 0, locals := 44 }) s m args below meth c H locs 0 0 Q (F0 m 85 ls []) := by
    intro j
    induction j with
    | zero => intro y1 y3 σ hf; exact absurd hf (fun z => by cases z)
    | succ j ih =>
      intro y1 y3 σ hf H locs ls h hl
      have hf := us (f_Model_hash_85_s n j y1 y3 σ) hf
      refine lv_iload_n hx hb d_Model_hash_85 rfl (lv_at hl 2 rfl) ?_
      refine lv_aload_n hx hb d_Model_hash_86 rfl (lv_at hl 0 rfl) ?_
      refine G_model_monsters X h m_f_Model_138 d_Model_hash_87 ?_
      refine lv_icmp_ge (tgt := 139) hx hb d_Model_hash_90 (by decide) (fun c13 => ?_) (fun c13 => ?_)
      · have hf := it c13 hf
        refine lv_iconst (v := 0) hx hb d_Model_hash_139 (by decide) ?_
        refine lv_istore_n (lv' := [(3, .int 0), (0, .ref (ad 0)), (1, .long y1)]) hx hb d_Model_hash_140 rfl hl (by decide) rfl (fun ls hl => ?_)
        exact L141 n y1 0 σ hf H locs ls h (lv_sub hl [1, 2, 0] rfl)
      · have hf := ie c13 hf
        refine lv_iconst (v := 0) hx hb d_Model_hash_93 (by decide) ?_
        refine lv_istore (lv' := [(4, .int 0), (0, .ref (ad 0)), (1, .long y1), (3, .int y3)]) hx hb d_Model_hash_94 hl (by decide) rfl (fun ls hl => ?_)
        exact L96 (fun y1 y3 σ => f_Model_hash_85 n j y1 y3 σ) ih n y1 y3 0 σ hf H locs ls h (lv_sub hl [1, 2, 3, 0] rfl)
  have L55 : ∀ j : Nat, ∀ (y1 : Int64) (y3 : Int32) (σ : St), f_Model_hash_55 n j y1 y3 σ = some (r, σr) → ∀ (H : Heap) (locs : List Loc) (ls : Array Slot), WD D A s (wm ad cA σ) H locs → lv_has ls 5 [(0, .ref (ad 0)), (1, .long y1), (3, .int y3)] → W p l e ({ frames := 2, cells := 0, slots := 0, locals := 44 }) s m args below meth c H locs 0 0 Q (F0 m 55 ls []) := by
    intro j
    induction j with
    | zero => intro y1 y3 σ hf; exact absurd hf (fun z => by cases z)
    | succ j ih =>
      intro y1 y3 σ hf H locs ls h hl
      have hf := us (f_Model_hash_55_s n j y1 y3 σ) hf
      refine lv_iload_n hx hb d_Model_hash_55 rfl (lv_at hl 2 rfl) ?_
      refine lv_aload_n hx hb d_Model_hash_56 rfl (lv_at hl 0 rfl) ?_
      refine G_model_things X h m_f_Model_93 d_Model_hash_57 ?_
      refine lv_icmp_ge (tgt := 83) hx hb d_Model_hash_60 (by decide) (fun c9 => ?_) (fun c9 => ?_)
      · have hf := it c9 hf
        refine lv_iconst (v := 0) hx hb d_Model_hash_83 (by decide) ?_
        refine lv_istore_n (lv' := [(3, .int 0), (0, .ref (ad 0)), (1, .long y1)]) hx hb d_Model_hash_84 rfl hl (by decide) rfl (fun ls hl => ?_)
        exact L85 n y1 0 σ hf H locs ls h (lv_sub hl [1, 2, 0] rfl)
      · have hf := ie c9 hf
        refine lv_lload_n hx hb d_Model_hash_63 rfl (lv_at hl 1 rfl) ?_
        refine lv_ldc2 (v := 1000003) hx hb X.2.2.1 (X.2.2.2.1 _ m_kl_Model_123) d_Model_hash_64 ?_
        refine lv_lmul hx hb d_Model_hash_67 ?_
        refine lv_aload_n hx hb d_Model_hash_68 rfl (lv_at hl 0 rfl) ?_
        refine G_model_bag X h m_f_Model_56 d_Model_hash_69 ?_
        refine lv_iload_n hx hb d_Model_hash_72 rfl (lv_at hl 2 rfl) ?_
        obtain ⟨g10, hf⟩ := gd_s hf
        refine R_mbag X h (inb_s g10) d_Model_hash_73 ?_
        refine lv_i2l hx hb d_Model_hash_74 rfl ?_
        refine lv_ladd hx hb d_Model_hash_75 ?_
        refine lv_topl (fun v11 ev11 => ?_)
        have hf := nm_b hf ev11
        refine lv_lstore_n (lv' := [(1, .long v11), (0, .ref (ad 0)), (3, .int y3)]) hx hb d_Model_hash_76 rfl hl (by decide) rfl (fun ls hl => ?_)
        obtain ⟨v12, ev12⟩ : ∃ y : Int32, y = y3 + 1 := ⟨_, rfl⟩
        have hf := nm_b hf ev12
        refine lv_iinc (v := v12) (lv' := [(3, .int v12), (1, .long v11), (0, .ref (ad 0))]) hx hb d_Model_hash_77 hl (k := 2) rfl (by rw [ev12]; rfl) (by decide) rfl (fun ls hl => ?_)
        refine lv_goto (tgt := 55) hx hb d_Model_hash_80 (by decide) ?_
        exact ih v11 v12 σ hf H locs ls h (lv_sub hl [2, 1, 0] rfl)
  have L6 : ∀ j : Nat, ∀ (y1 : Int64) (y3 : Int32) (σ : St), f_Model_hash_6 n j y1 y3 σ = some (r, σr) → ∀ (H : Heap) (locs : List Loc) (ls : Array Slot), WD D A s (wm ad cA σ) H locs → lv_has ls 5 [(0, .ref (ad 0)), (1, .long y1), (3, .int y3)] → W p l e ({ frames := 2, cells := 0, slots := 0, locals := 44 }) s m args below meth c H locs 0 0 Q (F0 m 6 ls []) := by
    intro j
    induction j with
    | zero => intro y1 y3 σ hf; exact absurd hf (fun z => by cases z)
    | succ j ih =>
      intro y1 y3 σ hf H locs ls h hl
      have hf := us (f_Model_hash_6_s n j y1 y3 σ) hf
      refine lv_iload_n hx hb d_Model_hash_6 rfl (lv_at hl 2 rfl) ?_
      refine lv_bipush (v := 8) hx hb d_Model_hash_7 (by decide) ?_
      refine lv_icmp_ge (tgt := 53) hx hb d_Model_hash_9 (by decide) (fun c1 => ?_) (fun c1 => ?_)
      · have hf := it c1 hf
        refine lv_iconst (v := 0) hx hb d_Model_hash_53 (by decide) ?_
        refine lv_istore_n (lv' := [(3, .int 0), (0, .ref (ad 0)), (1, .long y1)]) hx hb d_Model_hash_54 rfl hl (by decide) rfl (fun ls hl => ?_)
        exact L55 n y1 0 σ hf H locs ls h (lv_sub hl [1, 2, 0] rfl)
      · have hf := ie c1 hf
        refine lv_lload_n hx hb d_Model_hash_12 rfl (lv_at hl 1 rfl) ?_
        refine lv_ldc2 (v := 1000003) hx hb X.2.2.1 (X.2.2.2.1 _ m_kl_Model_123) d_Model_hash_13 ?_
        refine lv_lmul hx hb d_Model_hash_16 ?_
        refine lv_aload_n hx hb d_Model_hash_17 rfl (lv_at hl 0 rfl) ?_
        refine lv_iload_n hx hb d_Model_hash_18 rfl (lv_at hl 2 rfl) ?_
        refine lv_if_ne (tgt := 27) hx hb d_Model_hash_19 (by decide) (fun c2 => ?_) (fun c2 => ?_)
        · have hf := ie c2 hf
          refine lv_iload_n hx hb d_Model_hash_27 rfl (lv_at hl 2 rfl) ?_
          refine lv_bipush (v := 7) hx hb d_Model_hash_28 (by decide) ?_
          refine lv_icmp_ge (tgt := 39) hx hb d_Model_hash_30 (by decide) (fun c3 => ?_) (fun c3 => ?_)
          · have hf := it c3 hf
            refine lv_bipush (v := 7) hx hb d_Model_hash_39 (by decide) ?_
            exact L41 (fun y1 y3 σ => f_Model_hash_6 n j y1 y3 σ) ih y3 7 (y1 * 1000003) σ hf H locs ls h (lv_sub hl [0, 2] rfl)
          · have hf := ie c3 hf
            refine lv_iload_n hx hb d_Model_hash_33 rfl (lv_at hl 2 rfl) ?_
            refine lv_iconst (v := 1) hx hb d_Model_hash_34 (by decide) ?_
            refine lv_isub hx hb d_Model_hash_35 ?_
            refine lv_goto (tgt := 41) hx hb d_Model_hash_36 (by decide) ?_
            exact L41 (fun y1 y3 σ => f_Model_hash_6 n j y1 y3 σ) ih y3 (y3 - 1) (y1 * 1000003) σ hf H locs ls h (lv_sub hl [0, 2] rfl)
        · have hf := it c2 hf
          refine lv_bipush (v := 6) hx hb d_Model_hash_22 (by decide) ?_
          refine lv_goto (tgt := 41) hx hb d_Model_hash_24 (by decide) ?_
          exact L41 (fun y1 y3 σ => f_Model_hash_6 n j y1 y3 σ) ih y3 6 (y1 * 1000003) σ hf H locs ls h (lv_sub hl [0, 2] rfl)
  unfold f_Model_hash at hf
  refine lv_ldc2 (v := 17) hx hb X.2.2.1 (X.2.2.2.1 _ m_kl_Model_214) d_Model_hash_0 ?_
  refine lv_lstore_n (lv' := [(1, .long 17), (0, .ref (ad 0))]) hx hb d_Model_hash_3 rfl hl (by decide) rfl (fun ls hl => ?_)
  refine lv_iconst (v := 0) hx hb d_Model_hash_4 (by decide) ?_
  refine lv_istore_n (lv' := [(3, .int 0), (1, .long 17), (0, .ref (ad 0))]) hx hb d_Model_hash_5 rfl hl (by decide) rfl (fun ls hl => ?_)
  exact L6 n 17 0 σ hf H locs ls h (lv_sub hl [2, 1, 0] rfl)

