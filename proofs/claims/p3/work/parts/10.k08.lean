theorem d_Game_press_0 : decode b_Game_press 0 = .ok (.aload_n 0, 1) := by decide +kernel
theorem d_Game_press_1 : decode b_Game_press 1 = .ok (.getfield 53, 3) := by decide +kernel
theorem d_Game_press_4 : decode b_Game_press 4 = .ok (.invokevirtual 88, 3) := by decide +kernel
theorem d_Game_press_7 : decode b_Game_press 7 = .ok (.ifCond .ne 10, 3) := by decide +kernel
theorem d_Game_press_10 : decode b_Game_press 10 = .ok (.aload_n 0, 1) := by decide +kernel
theorem d_Game_press_11 : decode b_Game_press 11 = .ok (.getfield 66, 3) := by decide +kernel
theorem d_Game_press_14 : decode b_Game_press 14 = .ok (.ifCond .eq 5, 3) := by decide +kernel
theorem d_Game_press_17 : decode b_Game_press 17 = .ok (.iconst (-1), 1) := by decide +kernel
theorem d_Game_press_18 : decode b_Game_press 18 = .ok (.ireturn, 1) := by decide +kernel
theorem d_Game_press_19 : decode b_Game_press 19 = .ok (.iload_n 1, 1) := by decide +kernel
theorem d_Game_press_20 : decode b_Game_press 20 = .ok (.lookupswitch 161 #[(46, 132), (62, 154), (97, 143), (98, 143), (99, 143), (100, 143), (103, 136), (104, 124), (106, 116), (107, 100), (108, 108)], 100) := by decide +kernel
theorem d_Game_press_120 : decode b_Game_press 120 = .ok (.aload_n 0, 1) := by decide +kernel
theorem d_Game_press_121 : decode b_Game_press 121 = .ok (.iconst 0, 1) := by decide +kernel
theorem d_Game_press_122 : decode b_Game_press 122 = .ok (.invokevirtual 92, 3) := by decide +kernel
theorem d_Game_press_125 : decode b_Game_press 125 = .ok (.goto 57, 3) := by decide +kernel
theorem d_Game_press_128 : decode b_Game_press 128 = .ok (.aload_n 0, 1) := by decide +kernel
theorem d_Game_press_129 : decode b_Game_press 129 = .ok (.iconst 1, 1) := by decide +kernel
theorem d_Game_press_130 : decode b_Game_press 130 = .ok (.invokevirtual 92, 3) := by decide +kernel
theorem d_Game_press_133 : decode b_Game_press 133 = .ok (.goto 49, 3) := by decide +kernel
theorem d_Game_press_136 : decode b_Game_press 136 = .ok (.aload_n 0, 1) := by decide +kernel
theorem d_Game_press_137 : decode b_Game_press 137 = .ok (.iconst 2, 1) := by decide +kernel
theorem d_Game_press_138 : decode b_Game_press 138 = .ok (.invokevirtual 92, 3) := by decide +kernel
theorem d_Game_press_141 : decode b_Game_press 141 = .ok (.goto 41, 3) := by decide +kernel
theorem d_Game_press_144 : decode b_Game_press 144 = .ok (.aload_n 0, 1) := by decide +kernel
theorem d_Game_press_145 : decode b_Game_press 145 = .ok (.iconst 3, 1) := by decide +kernel
theorem d_Game_press_146 : decode b_Game_press 146 = .ok (.invokevirtual 92, 3) := by decide +kernel
theorem d_Game_press_149 : decode b_Game_press 149 = .ok (.goto 33, 3) := by decide +kernel
theorem d_Game_press_152 : decode b_Game_press 152 = .ok (.iconst 1, 1) := by decide +kernel
theorem d_Game_press_153 : decode b_Game_press 153 = .ok (.goto 29, 3) := by decide +kernel
theorem d_Game_press_156 : decode b_Game_press 156 = .ok (.aload_n 0, 1) := by decide +kernel
theorem d_Game_press_157 : decode b_Game_press 157 = .ok (.invokevirtual 96, 3) := by decide +kernel
theorem d_Game_press_160 : decode b_Game_press 160 = .ok (.goto 22, 3) := by decide +kernel
theorem d_Game_press_163 : decode b_Game_press 163 = .ok (.aload_n 0, 1) := by decide +kernel
theorem d_Game_press_164 : decode b_Game_press 164 = .ok (.iload_n 1, 1) := by decide +kernel
theorem d_Game_press_165 : decode b_Game_press 165 = .ok (.bipush 97, 2) := by decide +kernel
theorem d_Game_press_167 : decode b_Game_press 167 = .ok (.isub, 1) := by decide +kernel
theorem d_Game_press_168 : decode b_Game_press 168 = .ok (.invokevirtual 100, 3) := by decide +kernel
theorem d_Game_press_171 : decode b_Game_press 171 = .ok (.goto 11, 3) := by decide +kernel
theorem d_Game_press_174 : decode b_Game_press 174 = .ok (.aload_n 0, 1) := by decide +kernel
theorem d_Game_press_175 : decode b_Game_press 175 = .ok (.invokevirtual 103, 3) := by decide +kernel
theorem d_Game_press_178 : decode b_Game_press 178 = .ok (.goto 4, 3) := by decide +kernel
theorem d_Game_press_181 : decode b_Game_press 181 = .ok (.iconst (-1), 1) := by decide +kernel
theorem d_Game_press_182 : decode b_Game_press 182 = .ok (.istore_n 2, 1) := by decide +kernel
theorem d_Game_press_183 : decode b_Game_press 183 = .ok (.iload_n 1, 1) := by decide +kernel
theorem d_Game_press_184 : decode b_Game_press 184 = .ok (.bipush 62, 2) := by decide +kernel
theorem d_Game_press_186 : decode b_Game_press 186 = .ok (.if_icmp .eq 17, 3) := by decide +kernel
theorem d_Game_press_189 : decode b_Game_press 189 = .ok (.iload_n 2, 1) := by decide +kernel
theorem d_Game_press_190 : decode b_Game_press 190 = .ok (.iconst 1, 1) := by decide +kernel
theorem d_Game_press_191 : decode b_Game_press 191 = .ok (.if_icmp .eq 8, 3) := by decide +kernel
theorem d_Game_press_194 : decode b_Game_press 194 = .ok (.iload_n 2, 1) := by decide +kernel
theorem d_Game_press_195 : decode b_Game_press 195 = .ok (.iconst 2, 1) := by decide +kernel
theorem d_Game_press_196 : decode b_Game_press 196 = .ok (.if_icmp .ne 7, 3) := by decide +kernel
theorem d_Game_press_199 : decode b_Game_press 199 = .ok (.aload_n 0, 1) := by decide +kernel
theorem d_Game_press_200 : decode b_Game_press 200 = .ok (.invokevirtual 106, 3) := by decide +kernel
theorem d_Game_press_203 : decode b_Game_press 203 = .ok (.aload_n 0, 1) := by decide +kernel
theorem d_Game_press_204 : decode b_Game_press 204 = .ok (.getfield 53, 3) := by decide +kernel
theorem d_Game_press_207 : decode b_Game_press 207 = .ok (.invokevirtual 88, 3) := by decide +kernel
theorem d_Game_press_210 : decode b_Game_press 210 = .ok (.ifCond .eq 7, 3) := by decide +kernel
theorem d_Game_press_213 : decode b_Game_press 213 = .ok (.iconst 3, 1) := by decide +kernel
theorem d_Game_press_214 : decode b_Game_press 214 = .ok (.goto 4, 3) := by decide +kernel
theorem d_Game_press_217 : decode b_Game_press 217 = .ok (.iload_n 2, 1) := by decide +kernel
theorem d_Game_press_218 : decode b_Game_press 218 = .ok (.ireturn, 1) := by decide +kernel
def f_Game_press_203 (n : Nat) (y2 : Int32) (σ : St) : Option (Int32 × St) := bd (f_Hero_isDead n σ) (fun r53 σ54 => if r53 = 0 then (some (y2, σ54)) else (some (3, σ54)))
def f_Game_press_199 (n : Nat) (y2 : Int32) (σ : St) : Option (Int32 × St) := bd (f_Game_passTime n σ) (fun _ σ51 => f_Game_press_203 n y2 σ51)
def f_Game_press_182 (n : Nat) (y1 : Int32) (s0 : Int32) (σ : St) : Option (Int32 × St) := if y1 = 62 then (f_Game_press_203 n s0 σ) else (if s0 = 1 then (f_Game_press_199 n s0 σ) else (if s0 = 2 then (f_Game_press_199 n s0 σ) else (f_Game_press_203 n s0 σ)))
def f_Game_press (n : Nat) (x1 : Int32) (σ : St) : Option (Int32 × St) := bd (f_Hero_isDead n σ) (fun r1 σ2 => if r1 = 0 then (if (σ2.1 5) = 0 then (if x1 = 46 then (f_Game_press_182 n x1 1 σ2) else (if x1 = 62 then (bd (f_Game_descend n σ2) (fun r8 σ9 => f_Game_press_182 n x1 r8 σ9)) else (if x1 = 97 then (bd (f_Game_useThing n (x1 - 97) σ2) (fun r12 σ13 => f_Game_press_182 n x1 r12 σ13)) else (if x1 = 98 then (bd (f_Game_useThing n (x1 - 97) σ2) (fun r16 σ17 => f_Game_press_182 n x1 r16 σ17)) else (if x1 = 99 then (bd (f_Game_useThing n (x1 - 97) σ2) (fun r20 σ21 => f_Game_press_182 n x1 r20 σ21)) else (if x1 = 100 then (bd (f_Game_useThing n (x1 - 97) σ2) (fun r24 σ25 => f_Game_press_182 n x1 r24 σ25)) else (if x1 = 103 then (bd (f_Game_pickUp n σ2) (fun r28 σ29 => f_Game_press_182 n x1 r28 σ29)) else (if x1 = 104 then (bd (f_Game_walk n 3 σ2) (fun r32 σ33 => f_Game_press_182 n x1 r32 σ33)) else (if x1 = 106 then (bd (f_Game_walk n 2 σ2) (fun r36 σ37 => f_Game_press_182 n x1 r36 σ37)) else (if x1 = 107 then (bd (f_Game_walk n 0 σ2) (fun r40 σ41 => f_Game_press_182 n x1 r40 σ41)) else (if x1 = 108 then (bd (f_Game_walk n 1 σ2) (fun r44 σ45 => f_Game_press_182 n x1 r44 σ45)) else (f_Game_press_182 n x1 (-1) σ2)))))))))))) else (some ((-1), σ2))) else (some ((-1), σ2)))
set_option maxHeartbeats 4000000 in
set_option maxRecDepth 100000 in
theorem c_Game_press (l : Launch) (D : va_G) (ad : Nat → Nat) (cA : Nat → ClassId) (tz : Nat → Nat) (n : Nat) (x1 : Int32) (σ : St) (r : Int32) (σr : St) (hf : f_Game_press n x1 σ = some (r, σr)) : Ki l D cA tz (wl ad cA) y_Game_press (.code y_Game_press b_Game_press 3 (some .int) :: TB) ({ frames := 5, cells := 0, slots := 0, locals := 122 }) [.ref (ad 1), .int x1] σ r σr := by
  refine x_openi (own := R_Game) rfl (by decide) (fun p e s m args below meth c A Q X hml hZ hA H locs ls h hl rt => ?_)
  have hx := X.1
  have hb := X.2.1
  have hl : lv_has ls 3 [(0, .ref (ad 1)), (1, .int x1)] := hl
  have L203 : ∀ (y2 : Int32) (σ : St), f_Game_press_203 n y2 σ = some (r, σr) → ∀ (H : Heap) (locs : List Loc) (ls : Array Slot), WD D A s (wl ad cA σ) H locs → lv_has ls 3 [(0, .ref (ad 1)), (2, .int y2)] → W p l e ({ frames := 5, cells := 0, slots := 0, locals := 122 }) s m args below meth c H locs 0 0 Q (F0 m 203 ls []) := by
    intro y2 σ hf H locs ls h hl
    unfold f_Game_press_203 at hf
    refine lv_aload_n hx hb d_Game_press_203 rfl (lv_at hl 0 rfl) ?_
    refine G_game_hero X h m_f_Game_53 d_Game_press_204 ?_
    obtain ⟨r53, σ54, h55, hf⟩ := bd_s hf
    refine x_Vi (As := []) (rest := []) X hml hl.1 hZ hA h (c_Hero_isDead l D ad cA tz n σ r53 σ54 h55) k_Hero_isDead m_m_Game_88 kd_Hero_isDead ⟨rfl, rfl, Nat.le_of_ble_eq_true rfl, Nat.le_of_ble_eq_true rfl⟩ 8 rfl rfl rfl rfl rfl (Nat.le_of_ble_eq_true rfl) d_Game_press_207 (fun H locs h => ?_)
    refine lv_if_eq (tgt := 217) hx hb d_Game_press_210 (by decide) (fun c56 => ?_) (fun c56 => ?_)
    · have hf := it c56 hf
      refine lv_iload_n hx hb d_Game_press_217 rfl (lv_at hl 1 rfl) ?_
      exact rt _ _ H locs 218 ls hf h d_Game_press_218
    · have hf := ie c56 hf
      refine lv_iconst (v := 3) hx hb d_Game_press_213 (by decide) ?_
      refine lv_goto (tgt := 218) hx hb d_Game_press_214 (by decide) ?_
      exact rt _ _ H locs 218 ls hf h d_Game_press_218
  have L199 : ∀ (y2 : Int32) (σ : St), f_Game_press_199 n y2 σ = some (r, σr) → ∀ (H : Heap) (locs : List Loc) (ls : Array Slot), WD D A s (wl ad cA σ) H locs → lv_has ls 3 [(0, .ref (ad 1)), (2, .int y2)] → W p l e ({ frames := 5, cells := 0, slots := 0, locals := 122 }) s m args below meth c H locs 0 0 Q (F0 m 199 ls []) := by
    intro y2 σ hf H locs ls h hl
    unfold f_Game_press_199 at hf
    refine lv_aload_n hx hb d_Game_press_199 rfl (lv_at hl 0 rfl) ?_
    obtain ⟨r50, σ51, h52, hf⟩ := bd_s hf
    refine x_Vv (As := []) (rest := []) X hml hl.1 hZ hA h (c_Game_passTime l D ad cA tz n σ r50 σ51 h52) k_Game_passTime m_m_Game_106 kd_Game_passTime ⟨rfl, rfl, Nat.le_of_ble_eq_true rfl, Nat.le_of_ble_eq_true rfl⟩ 1 rfl rfl rfl rfl rfl (Nat.le_of_ble_eq_true rfl) d_Game_press_200 (fun H locs h => ?_)
    exact L203 y2 σ51 hf H locs ls h (lv_sub hl [0, 1] rfl)
  have L182 : ∀ (y1 : Int32) (s0 : Int32) (σ : St), f_Game_press_182 n y1 s0 σ = some (r, σr) → ∀ (H : Heap) (locs : List Loc) (ls : Array Slot), WD D A s (wl ad cA σ) H locs → lv_has ls 3 [(0, .ref (ad 1)), (1, .int y1)] → W p l e ({ frames := 5, cells := 0, slots := 0, locals := 122 }) s m args below meth c H locs 0 0 Q (F0 m 182 ls [.int s0]) := by
    intro y1 s0 σ hf H locs ls h hl
    unfold f_Game_press_182 at hf
    refine lv_istore_n (lv' := [(2, .int s0), (0, .ref (ad 1)), (1, .int y1)]) hx hb d_Game_press_182 rfl hl (by decide) rfl (fun ls hl => ?_)
    refine lv_iload_n hx hb d_Game_press_183 rfl (lv_at hl 2 rfl) ?_
    refine lv_bipush (v := 62) hx hb d_Game_press_184 (by decide) ?_
    refine lv_icmp_eq (tgt := 203) hx hb d_Game_press_186 (by decide) (fun c47 => ?_) (fun c47 => ?_)
    · have hf := it c47 hf
      exact L203 s0 σ hf H locs ls h (lv_sub hl [1, 0] rfl)
    · have hf := ie c47 hf
      refine lv_iload_n hx hb d_Game_press_189 rfl (lv_at hl 0 rfl) ?_
      refine lv_iconst (v := 1) hx hb d_Game_press_190 (by decide) ?_
      refine lv_icmp_eq (tgt := 199) hx hb d_Game_press_191 (by decide) (fun c48 => ?_) (fun c48 => ?_)
      · have hf := it c48 hf
        exact L199 s0 σ hf H locs ls h (lv_sub hl [1, 0] rfl)
      · have hf := ie c48 hf
        refine lv_iload_n hx hb d_Game_press_194 rfl (lv_at hl 0 rfl) ?_
        refine lv_iconst (v := 2) hx hb d_Game_press_195 (by decide) ?_
        refine lv_icmp_ne (tgt := 203) hx hb d_Game_press_196 (by decide) (fun c49 => ?_) (fun c49 => ?_)
        · have hf := ie c49 hf
          exact L203 s0 σ hf H locs ls h (lv_sub hl [1, 0] rfl)
        · have hf := it c49 hf
          exact L199 s0 σ hf H locs ls h (lv_sub hl [1, 0] rfl)
  unfold f_Game_press at hf
  refine lv_aload_n hx hb d_Game_press_0 rfl (lv_at hl 0 rfl) ?_
  refine G_game_hero X h m_f_Game_53 d_Game_press_1 ?_
  obtain ⟨r1, σ2, h3, hf⟩ := bd_s hf
  refine x_Vi (As := []) (rest := []) X hml hl.1 hZ hA h (c_Hero_isDead l D ad cA tz n σ r1 σ2 h3) k_Hero_isDead m_m_Game_88 kd_Hero_isDead ⟨rfl, rfl, Nat.le_of_ble_eq_true rfl, Nat.le_of_ble_eq_true rfl⟩ 8 rfl rfl rfl rfl rfl (Nat.le_of_ble_eq_true rfl) d_Game_press_4 (fun H locs h => ?_)
  refine lv_if_ne (tgt := 17) hx hb d_Game_press_7 (by decide) (fun c4 => ?_) (fun c4 => ?_)
  · have hf := ie c4 hf
    refine lv_iconst (v := (-1)) hx hb d_Game_press_17 (by decide) ?_
    exact rt _ _ H locs 18 ls hf h d_Game_press_18
  · have hf := it c4 hf
    refine lv_aload_n hx hb d_Game_press_10 rfl (lv_at hl 0 rfl) ?_
    refine G_game_won X h m_f_Game_66 d_Game_press_11 ?_
    refine lv_if_eq (tgt := 19) hx hb d_Game_press_14 (by decide) (fun c5 => ?_) (fun c5 => ?_)
    · have hf := it c5 hf
      refine lv_iload_n hx hb d_Game_press_19 rfl (lv_at hl 1 rfl) ?_
      by_cases c6 : x1 = 46
      · have hf := it c6 hf
        refine lv_lookup (off := 132) (tgt := 152) hx hb d_Game_press_20 (by decide) (by rw [c6]; decide) (by decide) ?_
        refine lv_iconst (v := 1) hx hb d_Game_press_152 (by decide) ?_
        refine lv_goto (tgt := 182) hx hb d_Game_press_153 (by decide) ?_
        exact L182 x1 1 σ2 hf H locs ls h (lv_sub hl [0, 1] rfl)
      · have hf := ie c6 hf
        by_cases c7 : x1 = 62
        · have hf := it c7 hf
          refine lv_lookup (off := 154) (tgt := 174) hx hb d_Game_press_20 (by decide) (by rw [c7]; decide) (by decide) ?_
          refine lv_aload_n hx hb d_Game_press_174 rfl (lv_at hl 0 rfl) ?_
          obtain ⟨r8, σ9, h10, hf⟩ := bd_s hf
          refine x_Vi (As := []) (rest := []) X hml hl.1 hZ hA h (c_Game_descend l D ad cA tz n σ2 r8 σ9 h10) k_Game_descend m_m_Game_103 kd_Game_descend ⟨rfl, rfl, Nat.le_of_ble_eq_true rfl, Nat.le_of_ble_eq_true rfl⟩ 1 rfl rfl rfl rfl rfl (Nat.le_of_ble_eq_true rfl) d_Game_press_175 (fun H locs h => ?_)
          refine lv_goto (tgt := 182) hx hb d_Game_press_178 (by decide) ?_
          exact L182 x1 r8 σ9 hf H locs ls h (lv_sub hl [0, 1] rfl)
        · have hf := ie c7 hf
          by_cases c11 : x1 = 97
          · have hf := it c11 hf
            refine lv_lookup (off := 143) (tgt := 163) hx hb d_Game_press_20 (by decide) (by rw [c11]; decide) (by decide) ?_
            refine lv_aload_n hx hb d_Game_press_163 rfl (lv_at hl 0 rfl) ?_
            refine lv_iload_n hx hb d_Game_press_164 rfl (lv_at hl 1 rfl) ?_
            refine lv_bipush (v := 97) hx hb d_Game_press_165 (by decide) ?_
            refine lv_isub hx hb d_Game_press_167 ?_
            obtain ⟨r12, σ13, h14, hf⟩ := bd_s hf
            refine x_Vi (As := [.int (x1 - 97)]) (rest := []) X hml hl.1 hZ hA h (c_Game_useThing l D ad cA tz n (x1 - 97) σ2 r12 σ13 h14) k_Game_useThing m_m_Game_100 kd_Game_useThing ⟨rfl, rfl, Nat.le_of_ble_eq_true rfl, Nat.le_of_ble_eq_true rfl⟩ 1 rfl rfl rfl rfl rfl (Nat.le_of_ble_eq_true rfl) d_Game_press_168 (fun H locs h => ?_)
            refine lv_goto (tgt := 182) hx hb d_Game_press_171 (by decide) ?_
            exact L182 x1 r12 σ13 hf H locs ls h (lv_sub hl [0, 1] rfl)
          · have hf := ie c11 hf
            by_cases c15 : x1 = 98
            · have hf := it c15 hf
              refine lv_lookup (off := 143) (tgt := 163) hx hb d_Game_press_20 (by decide) (by rw [c15]; decide) (by decide) ?_
              refine lv_aload_n hx hb d_Game_press_163 rfl (lv_at hl 0 rfl) ?_
              refine lv_iload_n hx hb d_Game_press_164 rfl (lv_at hl 1 rfl) ?_
              refine lv_bipush (v := 97) hx hb d_Game_press_165 (by decide) ?_
              refine lv_isub hx hb d_Game_press_167 ?_
              obtain ⟨r16, σ17, h18, hf⟩ := bd_s hf
              refine x_Vi (As := [.int (x1 - 97)]) (rest := []) X hml hl.1 hZ hA h (c_Game_useThing l D ad cA tz n (x1 - 97) σ2 r16 σ17 h18) k_Game_useThing m_m_Game_100 kd_Game_useThing ⟨rfl, rfl, Nat.le_of_ble_eq_true rfl, Nat.le_of_ble_eq_true rfl⟩ 1 rfl rfl rfl rfl rfl (Nat.le_of_ble_eq_true rfl) d_Game_press_168 (fun H locs h => ?_)
              refine lv_goto (tgt := 182) hx hb d_Game_press_171 (by decide) ?_
              exact L182 x1 r16 σ17 hf H locs ls h (lv_sub hl [0, 1] rfl)
            · have hf := ie c15 hf
              by_cases c19 : x1 = 99
              · have hf := it c19 hf
                refine lv_lookup (off := 143) (tgt := 163) hx hb d_Game_press_20 (by decide) (by rw [c19]; decide) (by decide) ?_
                refine lv_aload_n hx hb d_Game_press_163 rfl (lv_at hl 0 rfl) ?_
                refine lv_iload_n hx hb d_Game_press_164 rfl (lv_at hl 1 rfl) ?_
                refine lv_bipush (v := 97) hx hb d_Game_press_165 (by decide) ?_
                refine lv_isub hx hb d_Game_press_167 ?_
                obtain ⟨r20, σ21, h22, hf⟩ := bd_s hf
                refine x_Vi (As := [.int (x1 - 97)]) (rest := []) X hml hl.1 hZ hA h (c_Game_useThing l D ad cA tz n (x1 - 97) σ2 r20 σ21 h22) k_Game_useThing m_m_Game_100 kd_Game_useThing ⟨rfl, rfl, Nat.le_of_ble_eq_true rfl, Nat.le_of_ble_eq_true rfl⟩ 1 rfl rfl rfl rfl rfl (Nat.le_of_ble_eq_true rfl) d_Game_press_168 (fun H locs h => ?_)
                refine lv_goto (tgt := 182) hx hb d_Game_press_171 (by decide) ?_
                exact L182 x1 r20 σ21 hf H locs ls h (lv_sub hl [0, 1] rfl)
              · have hf := ie c19 hf
                by_cases c23 : x1 = 100
                · have hf := it c23 hf
                  refine lv_lookup (off := 143) (tgt := 163) hx hb d_Game_press_20 (by decide) (by rw [c23]; decide) (by decide) ?_
                  refine lv_aload_n hx hb d_Game_press_163 rfl (lv_at hl 0 rfl) ?_
                  refine lv_iload_n hx hb d_Game_press_164 rfl (lv_at hl 1 rfl) ?_
                  refine lv_bipush (v := 97) hx hb d_Game_press_165 (by decide) ?_
                  refine lv_isub hx hb d_Game_press_167 ?_
                  obtain ⟨r24, σ25, h26, hf⟩ := bd_s hf
                  refine x_Vi (As := [.int (x1 - 97)]) (rest := []) X hml hl.1 hZ hA h (c_Game_useThing l D ad cA tz n (x1 - 97) σ2 r24 σ25 h26) k_Game_useThing m_m_Game_100 kd_Game_useThing ⟨rfl, rfl, Nat.le_of_ble_eq_true rfl, Nat.le_of_ble_eq_true rfl⟩ 1 rfl rfl rfl rfl rfl (Nat.le_of_ble_eq_true rfl) d_Game_press_168 (fun H locs h => ?_)
                  refine lv_goto (tgt := 182) hx hb d_Game_press_171 (by decide) ?_
                  exact L182 x1 r24 σ25 hf H locs ls h (lv_sub hl [0, 1] rfl)
                · have hf := ie c23 hf
                  by_cases c27 : x1 = 103
                  · have hf := it c27 hf
                    refine lv_lookup (off := 136) (tgt := 156) hx hb d_Game_press_20 (by decide) (by rw [c27]; decide) (by decide) ?_
                    refine lv_aload_n hx hb d_Game_press_156 rfl (lv_at hl 0 rfl) ?_
                    obtain ⟨r28, σ29, h30, hf⟩ := bd_s hf
                    refine x_Vi (As := []) (rest := []) X hml hl.1 hZ hA h (c_Game_pickUp l D ad cA tz n σ2 r28 σ29 h30) k_Game_pickUp m_m_Game_96 kd_Game_pickUp ⟨rfl, rfl, Nat.le_of_ble_eq_true rfl, Nat.le_of_ble_eq_true rfl⟩ 1 rfl rfl rfl rfl rfl (Nat.le_of_ble_eq_true rfl) d_Game_press_157 (fun H locs h => ?_)
                    refine lv_goto (tgt := 182) hx hb d_Game_press_160 (by decide) ?_
                    exact L182 x1 r28 σ29 hf H locs ls h (lv_sub hl [0, 1] rfl)
                  · have hf := ie c27 hf
                    by_cases c31 : x1 = 104
                    · have hf := it c31 hf
                      refine lv_lookup (off := 124) (tgt := 144) hx hb d_Game_press_20 (by decide) (by rw [c31]; decide) (by decide) ?_
                      refine lv_aload_n hx hb d_Game_press_144 rfl (lv_at hl 0 rfl) ?_
                      refine lv_iconst (v := 3) hx hb d_Game_press_145 (by decide) ?_
                      obtain ⟨r32, σ33, h34, hf⟩ := bd_s hf
                      refine x_Vi (As := [.int 3]) (rest := []) X hml hl.1 hZ hA h (c_Game_walk l D ad cA tz n 3 σ2 r32 σ33 h34) k_Game_walk m_m_Game_92 kd_Game_walk ⟨rfl, rfl, Nat.le_of_ble_eq_true rfl, Nat.le_of_ble_eq_true rfl⟩ 1 rfl rfl rfl rfl rfl (Nat.le_of_ble_eq_true rfl) d_Game_press_146 (fun H locs h => ?_)
                      refine lv_goto (tgt := 182) hx hb d_Game_press_149 (by decide) ?_
                      exact L182 x1 r32 σ33 hf H locs ls h (lv_sub hl [0, 1] rfl)
                    · have hf := ie c31 hf
                      by_cases c35 : x1 = 106
                      · have hf := it c35 hf
                        refine lv_lookup (off := 116) (tgt := 136) hx hb d_Game_press_20 (by decide) (by rw [c35]; decide) (by decide) ?_
                        refine lv_aload_n hx hb d_Game_press_136 rfl (lv_at hl 0 rfl) ?_
                        refine lv_iconst (v := 2) hx hb d_Game_press_137 (by decide) ?_
                        obtain ⟨r36, σ37, h38, hf⟩ := bd_s hf
                        refine x_Vi (As := [.int 2]) (rest := []) X hml hl.1 hZ hA h (c_Game_walk l D ad cA tz n 2 σ2 r36 σ37 h38) k_Game_walk m_m_Game_92 kd_Game_walk ⟨rfl, rfl, Nat.le_of_ble_eq_true rfl, Nat.le_of_ble_eq_true rfl⟩ 1 rfl rfl rfl rfl rfl (Nat.le_of_ble_eq_true rfl) d_Game_press_138 (fun H locs h => ?_)
                        refine lv_goto (tgt := 182) hx hb d_Game_press_141 (by decide) ?_
                        exact L182 x1 r36 σ37 hf H locs ls h (lv_sub hl [0, 1] rfl)
                      · have hf := ie c35 hf
                        by_cases c39 : x1 = 107
                        · have hf := it c39 hf
                          refine lv_lookup (off := 100) (tgt := 120) hx hb d_Game_press_20 (by decide) (by rw [c39]; decide) (by decide) ?_
                          refine lv_aload_n hx hb d_Game_press_120 rfl (lv_at hl 0 rfl) ?_
                          refine lv_iconst (v := 0) hx hb d_Game_press_121 (by decide) ?_
                          obtain ⟨r40, σ41, h42, hf⟩ := bd_s hf
                          refine x_Vi (As := [.int 0]) (rest := []) X hml hl.1 hZ hA h (c_Game_walk l D ad cA tz n 0 σ2 r40 σ41 h42) k_Game_walk m_m_Game_92 kd_Game_walk ⟨rfl, rfl, Nat.le_of_ble_eq_true rfl, Nat.le_of_ble_eq_true rfl⟩ 1 rfl rfl rfl rfl rfl (Nat.le_of_ble_eq_true rfl) d_Game_press_122 (fun H locs h => ?_)
                          refine lv_goto (tgt := 182) hx hb d_Game_press_125 (by decide) ?_
                          exact L182 x1 r40 σ41 hf H locs ls h (lv_sub hl [0, 1] rfl)
                        · have hf := ie c39 hf
                          by_cases c43 : x1 = 108
                          · have hf := it c43 hf
                            refine lv_lookup (off := 108) (tgt := 128) hx hb d_Game_press_20 (by decide) (by rw [c43]; decide) (by decide) ?_
                            refine lv_aload_n hx hb d_Game_press_128 rfl (lv_at hl 0 rfl) ?_
                            refine lv_iconst (v := 1) hx hb d_Game_press_129 (by decide) ?_
                            obtain ⟨r44, σ45, h46, hf⟩ := bd_s hf
                            refine x_Vi (As := [.int 1]) (rest := []) X hml hl.1 hZ hA h (c_Game_walk l D ad cA tz n 1 σ2 r44 σ45 h46) k_Game_walk m_m_Game_92 kd_Game_walk ⟨rfl, rfl, Nat.le_of_ble_eq_true rfl, Nat.le_of_ble_eq_true rfl⟩ 1 rfl rfl rfl rfl rfl (Nat.le_of_ble_eq_true rfl) d_Game_press_130 (fun H locs h => ?_)
                            refine lv_goto (tgt := 182) hx hb d_Game_press_133 (by decide) ?_
                            exact L182 x1 r44 σ45 hf H locs ls h (lv_sub hl [0, 1] rfl)
                          · have hf := ie c43 hf
                            refine lv_lookup (off := 161) (tgt := 181) hx hb d_Game_press_20 (by decide) (show Op.lookupswitch.offset [(46, 132), (62, 154), (97, 143), (98, 143), (99, 143), (100, 143), (103, 136), (104, 124), (106, 116), (107, 100), (108, 108)] 161 x1.toInt = 161 from by rw [lv_osw c6 (by decide), lv_osw c7 (by decide), lv_osw c11 (by decide), lv_osw c15 (by decide), lv_osw c19 (by decide), lv_osw c23 (by decide), lv_osw c27 (by decide), lv_osw c31 (by decide), lv_osw c35 (by decide), lv_osw c39 (by decide), lv_osw c43 (by decide)]; rfl) (by decide) ?_
                            refine lv_iconst (v := (-1)) hx hb d_Game_press_181 (by decide) ?_
                            exact L182 x1 (-1) σ2 hf H locs ls h (lv_sub hl [0, 1] rfl)
    · have hf := ie c5 hf
      refine lv_iconst (v := (-1)) hx hb d_Game_press_17 (by decide) ?_
      exact rt _ _ H locs 18 ls hf h d_Game_press_18
theorem d_Desk_key_0 : decode b_Desk_key 0 = .ok (.aload_n 0, 1) := by decide +kernel
theorem d_Desk_key_1 : decode b_Desk_key 1 = .ok (.getfield 22, 3) := by decide +kernel
theorem d_Desk_key_4 : decode b_Desk_key 4 = .ok (.sipush 512, 3) := by decide +kernel
theorem d_Desk_key_7 : decode b_Desk_key 7 = .ok (.if_icmp .lt 5, 3) := by decide +kernel
theorem d_Desk_key_10 : decode b_Desk_key 10 = .ok (.iconst (-1), 1) := by decide +kernel
theorem d_Desk_key_11 : decode b_Desk_key 11 = .ok (.ireturn, 1) := by decide +kernel
theorem d_Desk_key_12 : decode b_Desk_key 12 = .ok (.aload_n 0, 1) := by decide +kernel
theorem d_Desk_key_13 : decode b_Desk_key 13 = .ok (.getfield 14, 3) := by decide +kernel
theorem d_Desk_key_16 : decode b_Desk_key 16 = .ok (.iload_n 1, 1) := by decide +kernel
theorem d_Desk_key_17 : decode b_Desk_key 17 = .ok (.invokevirtual 29, 3) := by decide +kernel
theorem d_Desk_key_20 : decode b_Desk_key 20 = .ok (.istore_n 2, 1) := by decide +kernel
theorem d_Desk_key_21 : decode b_Desk_key 21 = .ok (.iload_n 2, 1) := by decide +kernel
theorem d_Desk_key_22 : decode b_Desk_key 22 = .ok (.iconst (-1), 1) := by decide +kernel
theorem d_Desk_key_23 : decode b_Desk_key 23 = .ok (.if_icmp .eq 23, 3) := by decide +kernel
theorem d_Desk_key_26 : decode b_Desk_key 26 = .ok (.aload_n 0, 1) := by decide +kernel
theorem d_Desk_key_27 : decode b_Desk_key 27 = .ok (.getfield 18, 3) := by decide +kernel
theorem d_Desk_key_30 : decode b_Desk_key 30 = .ok (.aload_n 0, 1) := by decide +kernel
theorem d_Desk_key_31 : decode b_Desk_key 31 = .ok (.getfield 22, 3) := by decide +kernel
theorem d_Desk_key_34 : decode b_Desk_key 34 = .ok (.iload_n 1, 1) := by decide +kernel
theorem d_Desk_key_35 : decode b_Desk_key 35 = .ok (.iastore, 1) := by decide +kernel
theorem d_Desk_key_36 : decode b_Desk_key 36 = .ok (.aload_n 0, 1) := by decide +kernel
theorem d_Desk_key_37 : decode b_Desk_key 37 = .ok (.dup, 1) := by decide +kernel
theorem d_Desk_key_38 : decode b_Desk_key 38 = .ok (.getfield 22, 3) := by decide +kernel
theorem d_Desk_key_41 : decode b_Desk_key 41 = .ok (.iconst 1, 1) := by decide +kernel
theorem d_Desk_key_42 : decode b_Desk_key 42 = .ok (.iadd, 1) := by decide +kernel
theorem d_Desk_key_43 : decode b_Desk_key 43 = .ok (.putfield 22, 3) := by decide +kernel
theorem d_Desk_key_46 : decode b_Desk_key 46 = .ok (.iload_n 2, 1) := by decide +kernel
theorem d_Desk_key_47 : decode b_Desk_key 47 = .ok (.ireturn, 1) := by decide +kernel
def f_Desk_key (n : Nat) (x1 : Int32) (σ : St) : Option (Int32 × St) := if (σ.1 0) < 512 then (bd (f_Game_press n x1 σ) (fun r2 σ3 => if r2 = (-1) then (some (r2, σ3)) else (gd (inb (σ3.1 0) 512) (bnd (sA σ3 0 (σ3.1 0).toNatClampNeg x1) (fun σ7 => bnd (sI σ7 0 ((σ7.1 0) + 1)) (fun σ8 => some (r2, σ8))))))) else (some ((-1), σ))
set_option maxHeartbeats 4000000 in
set_option maxRecDepth 100000 in
theorem c_Desk_key (l : Launch) (D : va_G) (ad : Nat → Nat) (cA : Nat → ClassId) (tz : Nat → Nat) (n : Nat) (x1 : Int32) (σ : St) (r : Int32) (σr : St) (hf : f_Desk_key n x1 σ = some (r, σr)) : Ki l D cA tz (wl ad cA) y_Desk_key (.code y_Desk_key b_Desk_key 3 (some .int) :: TB) ({ frames := 6, cells := 0, slots := 0, locals := 144 }) [.ref (ad 0), .int x1] σ r σr := by
  refine x_openi (own := R_Desk) rfl (by decide) (fun p e s m args below meth c A Q X hml hZ hA H locs ls h hl rt => ?_)
  have hx := X.1
  have hb := X.2.1
  have hl : lv_has ls 3 [(0, .ref (ad 0)), (1, .int x1)] := hl
  unfold f_Desk_key at hf
  refine lv_aload_n hx hb d_Desk_key_0 rfl (lv_at hl 0 rfl) ?_
  refine G_desk_keyCount X h m_f_Desk_22 d_Desk_key_1 ?_
  refine lv_sipush (v := 512) hx hb d_Desk_key_4 (by decide) ?_
  refine lv_icmp_lt (tgt := 12) hx hb d_Desk_key_7 (by decide) (fun c1 => ?_) (fun c1 => ?_)
  · have hf := it c1 hf
    refine lv_aload_n hx hb d_Desk_key_12 rfl (lv_at hl 0 rfl) ?_
    refine G_desk_game X h m_f_Desk_14 d_Desk_key_13 ?_
    refine lv_iload_n hx hb d_Desk_key_16 rfl (lv_at hl 1 rfl) ?_
    obtain ⟨r2, σ3, h4, hf⟩ := bd_s hf
    refine x_Vi (As := [.int x1]) (rest := []) X hml hl.1 hZ hA h (c_Game_press l D ad cA tz n x1 σ r2 σ3 h4) k_Game_press m_m_Desk_29 kd_Game_press ⟨rfl, rfl, Nat.le_of_ble_eq_true rfl, Nat.le_of_ble_eq_true rfl⟩ 1 rfl rfl rfl rfl rfl (Nat.le_of_ble_eq_true rfl) d_Desk_key_17 (fun H locs h => ?_)
    refine lv_istore_n (lv' := [(2, .int r2), (0, .ref (ad 0)), (1, .int x1)]) hx hb d_Desk_key_20 rfl hl (by decide) rfl (fun ls hl => ?_)
    refine lv_iload_n hx hb d_Desk_key_21 rfl (lv_at hl 0 rfl) ?_
    refine lv_iconst (v := (-1)) hx hb d_Desk_key_22 (by decide) ?_
    refine lv_icmp_eq (tgt := 46) hx hb d_Desk_key_23 (by decide) (fun c5 => ?_) (fun c5 => ?_)
    · have hf := it c5 hf
      refine lv_iload_n hx hb d_Desk_key_46 rfl (lv_at hl 0 rfl) ?_
      exact rt _ _ H locs 47 ls hf h d_Desk_key_47
    · have hf := ie c5 hf
      refine lv_aload_n hx hb d_Desk_key_26 rfl (lv_at hl 1 rfl) ?_
      refine G_desk_keys X h m_f_Desk_18 d_Desk_key_27 ?_
      refine lv_aload_n hx hb d_Desk_key_30 rfl (lv_at hl 1 rfl) ?_
      refine G_desk_keyCount X h m_f_Desk_22 d_Desk_key_31 ?_
      refine lv_iload_n hx hb d_Desk_key_34 rfl (lv_at hl 2 rfl) ?_
      obtain ⟨g6, hf⟩ := gd_s hf
      refine S_keys X h (inb_s g6) d_Desk_key_35 (fun H locs σ7 eσ7 h => ?_)
      have hf := nm_b hf eσ7
      refine lv_aload_n hx hb d_Desk_key_36 rfl (lv_at hl 1 rfl) ?_
      refine lv_dup hx hb d_Desk_key_37 rfl ?_
      refine G_desk_keyCount X h m_f_Desk_22 d_Desk_key_38 ?_
      refine lv_iconst (v := 1) hx hb d_Desk_key_41 (by decide) ?_
      refine lv_iadd hx hb d_Desk_key_42 ?_
      refine P_desk_keyCount X h m_f_Desk_22 d_Desk_key_43 (fun H locs σ8 eσ8 h => ?_)
      have hf := nm_b hf eσ8
      refine lv_iload_n hx hb d_Desk_key_46 rfl (lv_at hl 0 rfl) ?_
      exact rt _ _ H locs 47 ls hf h d_Desk_key_47
  · have hf := ie c1 hf
    refine lv_iconst (v := (-1)) hx hb d_Desk_key_10 (by decide) ?_
    exact rt _ _ H locs 11 ls hf h d_Desk_key_11
theorem d_Hero_reset_0 : decode b_Hero_reset 0 = .ok (.aload_n 0, 1) := by decide +kernel
theorem d_Hero_reset_1 : decode b_Hero_reset 1 = .ok (.iconst 0, 1) := by decide +kernel
theorem d_Hero_reset_2 : decode b_Hero_reset 2 = .ok (.putfield 18, 3) := by decide +kernel
theorem d_Hero_reset_5 : decode b_Hero_reset 5 = .ok (.aload_n 0, 1) := by decide +kernel
theorem d_Hero_reset_6 : decode b_Hero_reset 6 = .ok (.bipush 10, 2) := by decide +kernel
theorem d_Hero_reset_8 : decode b_Hero_reset 8 = .ok (.putfield 22, 3) := by decide +kernel
theorem d_Hero_reset_11 : decode b_Hero_reset 11 = .ok (.aload_n 0, 1) := by decide +kernel
theorem d_Hero_reset_12 : decode b_Hero_reset 12 = .ok (.iconst 1, 1) := by decide +kernel
theorem d_Hero_reset_13 : decode b_Hero_reset 13 = .ok (.putfield 25, 3) := by decide +kernel
theorem d_Hero_reset_16 : decode b_Hero_reset 16 = .ok (.aload_n 0, 1) := by decide +kernel
theorem d_Hero_reset_17 : decode b_Hero_reset 17 = .ok (.bipush 10, 2) := by decide +kernel
theorem d_Hero_reset_19 : decode b_Hero_reset 19 = .ok (.putfield 30, 3) := by decide +kernel
theorem d_Hero_reset_22 : decode b_Hero_reset 22 = .ok (.aload_n 0, 1) := by decide +kernel
theorem d_Hero_reset_23 : decode b_Hero_reset 23 = .ok (.iconst 0, 1) := by decide +kernel
theorem d_Hero_reset_24 : decode b_Hero_reset 24 = .ok (.putfield 33, 3) := by decide +kernel
theorem d_Hero_reset_27 : decode b_Hero_reset 27 = .ok (.aload_n 0, 1) := by decide +kernel
theorem d_Hero_reset_28 : decode b_Hero_reset 28 = .ok (.iconst 0, 1) := by decide +kernel
theorem d_Hero_reset_29 : decode b_Hero_reset 29 = .ok (.putfield 36, 3) := by decide +kernel
theorem d_Hero_reset_32 : decode b_Hero_reset 32 = .ok (.return_, 1) := by decide +kernel
def f_Hero_reset (n : Nat) (σ : St) : Option (Unit × St) := bnd (sI σ 9 0) (fun σ1 => bnd (sI σ1 10 10) (fun σ2 => bnd (sI σ2 11 1) (fun σ3 => bnd (sI σ3 12 10) (fun σ4 => bnd (sI σ4 13 0) (fun σ5 => bnd (sI σ5 14 0) (fun σ6 => some ((), σ6)))))))
set_option maxHeartbeats 4000000 in
set_option maxRecDepth 100000 in
theorem c_Hero_reset (l : Launch) (D : va_G) (ad : Nat → Nat) (cA : Nat → ClassId) (tz : Nat → Nat) (n : Nat) (σ : St) (r : Unit) (σr : St) (hf : f_Hero_reset n σ = some (r, σr)) : Kv l D cA tz (wl ad cA) y_Hero_reset (.code y_Hero_reset b_Hero_reset 1 none :: TB) ({ frames := 0, cells := 0, slots := 0, locals := 0 }) [.ref (ad 8)] σ σr := by
  refine x_openv (r := r) (own := R_Hero) rfl (by decide) (fun p e s m args below meth c A Q X hml hZ hA H locs ls h hl rt => ?_)
  have hx := X.1
  have hb := X.2.1
  have hl : lv_has ls 1 [(0, .ref (ad 8))] := hl
  unfold f_Hero_reset at hf
  refine lv_aload_n hx hb d_Hero_reset_0 rfl (lv_at hl 0 rfl) ?_
  refine lv_iconst (v := 0) hx hb d_Hero_reset_1 (by decide) ?_
  refine P_hero_place X h m_f_Hero_18 d_Hero_reset_2 (fun H locs σ1 eσ1 h => ?_)
  have hf := nm_b hf eσ1
  refine lv_aload_n hx hb d_Hero_reset_5 rfl (lv_at hl 0 rfl) ?_
  refine lv_bipush (v := 10) hx hb d_Hero_reset_6 (by decide) ?_
  refine P_hero_health X h m_f_Hero_22 d_Hero_reset_8 (fun H locs σ2 eσ2 h => ?_)
  have hf := nm_b hf eσ2
  refine lv_aload_n hx hb d_Hero_reset_11 rfl (lv_at hl 0 rfl) ?_
  refine lv_iconst (v := 1) hx hb d_Hero_reset_12 (by decide) ?_
  refine P_hero_hit X h m_f_Hero_25 d_Hero_reset_13 (fun H locs σ3 eσ3 h => ?_)
  have hf := nm_b hf eσ3
  refine lv_aload_n hx hb d_Hero_reset_16 rfl (lv_at hl 0 rfl) ?_
  refine lv_bipush (v := 10) hx hb d_Hero_reset_17 (by decide) ?_
  refine P_hero_energy X h m_f_Hero_30 d_Hero_reset_19 (fun H locs σ4 eσ4 h => ?_)
  have hf := nm_b hf eσ4
  refine lv_aload_n hx hb d_Hero_reset_22 rfl (lv_at hl 0 rfl) ?_
  refine lv_iconst (v := 0) hx hb d_Hero_reset_23 (by decide) ?_
  refine P_hero_haste X h m_f_Hero_33 d_Hero_reset_24 (fun H locs σ5 eσ5 h => ?_)
  have hf := nm_b hf eσ5
  refine lv_aload_n hx hb d_Hero_reset_27 rfl (lv_at hl 0 rfl) ?_
  refine lv_iconst (v := 0) hx hb d_Hero_reset_28 (by decide) ?_
  refine P_hero_bagSize X h m_f_Hero_36 d_Hero_reset_29 (fun H locs σ6 eσ6 h => ?_)
  have hf := nm_b hf eσ6
  exact rt _ H locs 32 ls hf h d_Hero_reset_32
theorem d_Game_begin_0 : decode b_Game_begin 0 = .ok (.aload_n 0, 1) := by decide +kernel
theorem d_Game_begin_1 : decode b_Game_begin 1 = .ok (.getfield 18, 3) := by decide +kernel
theorem d_Game_begin_4 : decode b_Game_begin 4 = .ok (.aload_n 0, 1) := by decide +kernel
theorem d_Game_begin_5 : decode b_Game_begin 5 = .ok (.getfield 9, 3) := by decide +kernel
theorem d_Game_begin_8 : decode b_Game_begin 8 = .ok (.i2l, 1) := by decide +kernel
theorem d_Game_begin_9 : decode b_Game_begin 9 = .ok (.putfield 70, 3) := by decide +kernel
theorem d_Game_begin_12 : decode b_Game_begin 12 = .ok (.aload_n 0, 1) := by decide +kernel
theorem d_Game_begin_13 : decode b_Game_begin 13 = .ok (.getfield 53, 3) := by decide +kernel
theorem d_Game_begin_16 : decode b_Game_begin 16 = .ok (.invokevirtual 74, 3) := by decide +kernel
theorem d_Game_begin_19 : decode b_Game_begin 19 = .ok (.aload_n 0, 1) := by decide +kernel
theorem d_Game_begin_20 : decode b_Game_begin 20 = .ok (.iconst 1, 1) := by decide +kernel
theorem d_Game_begin_21 : decode b_Game_begin 21 = .ok (.putfield 57, 3) := by decide +kernel
theorem d_Game_begin_24 : decode b_Game_begin 24 = .ok (.aload_n 0, 1) := by decide +kernel
theorem d_Game_begin_25 : decode b_Game_begin 25 = .ok (.iconst 0, 1) := by decide +kernel
theorem d_Game_begin_26 : decode b_Game_begin 26 = .ok (.putfield 60, 3) := by decide +kernel
theorem d_Game_begin_29 : decode b_Game_begin 29 = .ok (.aload_n 0, 1) := by decide +kernel
theorem d_Game_begin_30 : decode b_Game_begin 30 = .ok (.iconst 0, 1) := by decide +kernel
theorem d_Game_begin_31 : decode b_Game_begin 31 = .ok (.putfield 63, 3) := by decide +kernel
theorem d_Game_begin_34 : decode b_Game_begin 34 = .ok (.aload_n 0, 1) := by decide +kernel
theorem d_Game_begin_35 : decode b_Game_begin 35 = .ok (.iconst 0, 1) := by decide +kernel
theorem d_Game_begin_36 : decode b_Game_begin 36 = .ok (.putfield 66, 3) := by decide +kernel
theorem d_Game_begin_39 : decode b_Game_begin 39 = .ok (.aload_n 0, 1) := by decide +kernel
theorem d_Game_begin_40 : decode b_Game_begin 40 = .ok (.getfield 25, 3) := by decide +kernel
theorem d_Game_begin_43 : decode b_Game_begin 43 = .ok (.aload_n 0, 1) := by decide +kernel
theorem d_Game_begin_44 : decode b_Game_begin 44 = .ok (.getfield 9, 3) := by decide +kernel
theorem d_Game_begin_47 : decode b_Game_begin 47 = .ok (.aload_n 0, 1) := by decide +kernel
theorem d_Game_begin_48 : decode b_Game_begin 48 = .ok (.getfield 57, 3) := by decide +kernel
theorem d_Game_begin_51 : decode b_Game_begin 51 = .ok (.aload_n 0, 1) := by decide +kernel
theorem d_Game_begin_52 : decode b_Game_begin 52 = .ok (.getfield 32, 3) := by decide +kernel
theorem d_Game_begin_55 : decode b_Game_begin 55 = .ok (.aload_n 0, 1) := by decide +kernel
theorem d_Game_begin_56 : decode b_Game_begin 56 = .ok (.getfield 39, 3) := by decide +kernel
theorem d_Game_begin_59 : decode b_Game_begin 59 = .ok (.invokevirtual 77, 3) := by decide +kernel
theorem d_Game_begin_62 : decode b_Game_begin 62 = .ok (.aload_n 0, 1) := by decide +kernel
theorem d_Game_begin_63 : decode b_Game_begin 63 = .ok (.aload_n 0, 1) := by decide +kernel
theorem d_Game_begin_64 : decode b_Game_begin 64 = .ok (.getfield 32, 3) := by decide +kernel
theorem d_Game_begin_67 : decode b_Game_begin 67 = .ok (.getfield 81, 3) := by decide +kernel
theorem d_Game_begin_70 : decode b_Game_begin 70 = .ok (.invokevirtual 84, 3) := by decide +kernel
theorem d_Game_begin_73 : decode b_Game_begin 73 = .ok (.return_, 1) := by decide +kernel
def f_Game_begin (n : Nat) (σ : St) : Option (Unit × St) := bnd (sL σ 0 (Int32.toInt64 (σ.1 1))) (fun σ1 => bd (f_Hero_reset n σ1) (fun _ σ3 => bnd (sI σ3 2 1) (fun σ5 => bnd (sI σ5 3 0) (fun σ6 => bnd (sI σ6 4 0) (fun σ7 => bnd (sI σ7 5 0) (fun σ8 => bd (f_Maker_make n (σ8.1 1) (σ8.1 2) σ8) (fun _ σ10 => bd (f_Game_arrive n (σ10.1 6) σ10) (fun _ σ13 => some ((), σ13)))))))))
set_option maxHeartbeats 4000000 in
set_option maxRecDepth 100000 in
theorem c_Game_begin (l : Launch) (D : va_G) (ad : Nat → Nat) (cA : Nat → ClassId) (tz : Nat → Nat) (n : Nat) (σ : St) (r : Unit) (σr : St) (hf : f_Game_begin n σ = some (r, σr)) : Kv l D cA tz (wl ad cA) y_Game_begin (.code y_Game_begin b_Game_begin 1 none :: TB) ({ frames := 4, cells := 0, slots := 0, locals := 102 }) [.ref (ad 1)] σ σr := by
  refine x_openv (r := r) (own := R_Game) rfl (by decide) (fun p e s m args below meth c A Q X hml hZ hA H locs ls h hl rt => ?_)
  have hx := X.1
  have hb := X.2.1
  have hl : lv_has ls 1 [(0, .ref (ad 1))] := hl
  unfold f_Game_begin at hf
  refine lv_aload_n hx hb d_Game_begin_0 rfl (lv_at hl 0 rfl) ?_
  refine G_game_play X h m_f_Game_18 d_Game_begin_1 ?_
  refine lv_aload_n hx hb d_Game_begin_4 rfl (lv_at hl 0 rfl) ?_
  refine G_game_seed X h m_f_Game_9 d_Game_begin_5 ?_
  refine lv_i2l hx hb d_Game_begin_8 rfl ?_
  refine P_play_state X h m_f_Game_70 d_Game_begin_9 (fun H locs σ1 eσ1 h => ?_)
  have hf := nm_b hf eσ1
  refine lv_aload_n hx hb d_Game_begin_12 rfl (lv_at hl 0 rfl) ?_
  refine G_game_hero X h m_f_Game_53 d_Game_begin_13 ?_
  obtain ⟨r2, σ3, h4, hf⟩ := bd_s hf
  refine x_Vv (As := []) (rest := []) X hml hl.1 hZ hA h (c_Hero_reset l D ad cA tz n σ1 r2 σ3 h4) k_Hero_reset m_m_Game_74 kd_Hero_reset ⟨rfl, rfl, Nat.le_of_ble_eq_true rfl, Nat.le_of_ble_eq_true rfl⟩ 8 rfl rfl rfl rfl rfl (Nat.le_of_ble_eq_true rfl) d_Game_begin_16 (fun H locs h => ?_)
  refine lv_aload_n hx hb d_Game_begin_19 rfl (lv_at hl 0 rfl) ?_
  refine lv_iconst (v := 1) hx hb d_Game_begin_20 (by decide) ?_
  refine P_game_depth X h m_f_Game_57 d_Game_begin_21 (fun H locs σ5 eσ5 h => ?_)
  have hf := nm_b hf eσ5
  refine lv_aload_n hx hb d_Game_begin_24 rfl (lv_at hl 0 rfl) ?_
  refine lv_iconst (v := 0) hx hb d_Game_begin_25 (by decide) ?_
  refine P_game_ticks X h m_f_Game_60 d_Game_begin_26 (fun H locs σ6 eσ6 h => ?_)
  have hf := nm_b hf eσ6
  refine lv_aload_n hx hb d_Game_begin_29 rfl (lv_at hl 0 rfl) ?_
  refine lv_iconst (v := 0) hx hb d_Game_begin_30 (by decide) ?_
  refine P_game_slain X h m_f_Game_63 d_Game_begin_31 (fun H locs σ7 eσ7 h => ?_)
  have hf := nm_b hf eσ7
  refine lv_aload_n hx hb d_Game_begin_34 rfl (lv_at hl 0 rfl) ?_
  refine lv_iconst (v := 0) hx hb d_Game_begin_35 (by decide) ?_
  refine P_game_won X h rfl rfl m_f_Game_66 d_Game_begin_36 (fun H locs σ8 eσ8 h => ?_)
  have hf := nm_b hf eσ8
  refine lv_aload_n hx hb d_Game_begin_39 rfl (lv_at hl 0 rfl) ?_
  refine G_game_maker X h m_f_Game_25 d_Game_begin_40 ?_
  refine lv_aload_n hx hb d_Game_begin_43 rfl (lv_at hl 0 rfl) ?_
  refine G_game_seed X h m_f_Game_9 d_Game_begin_44 ?_
  refine lv_aload_n hx hb d_Game_begin_47 rfl (lv_at hl 0 rfl) ?_
  refine G_game_depth X h m_f_Game_57 d_Game_begin_48 ?_
  refine lv_aload_n hx hb d_Game_begin_51 rfl (lv_at hl 0 rfl) ?_
  refine G_game_level X h m_f_Game_32 d_Game_begin_52 ?_
  refine lv_aload_n hx hb d_Game_begin_55 rfl (lv_at hl 0 rfl) ?_
  refine G_game_monsters X h m_f_Game_39 d_Game_begin_56 ?_
  obtain ⟨r9, σ10, h11, hf⟩ := bd_s hf
  refine x_Vv (As := [.int (σ8.1 1), .int (σ8.1 2), .ref (ad 5), .ref (ad 6)]) (rest := []) X hml hl.1 hZ hA h (c_Maker_make l D ad cA tz n (σ8.1 1) (σ8.1 2) σ8 r9 σ10 h11) k_Maker_make m_m_Game_77 kd_Maker_make ⟨rfl, rfl, Nat.le_of_ble_eq_true rfl, Nat.le_of_ble_eq_true rfl⟩ 3 rfl rfl rfl rfl rfl (Nat.le_of_ble_eq_true rfl) d_Game_begin_59 (fun H locs h => ?_)
  refine lv_aload_n hx hb d_Game_begin_62 rfl (lv_at hl 0 rfl) ?_
  refine lv_aload_n hx hb d_Game_begin_63 rfl (lv_at hl 0 rfl) ?_
  refine G_game_level X h m_f_Game_32 d_Game_begin_64 ?_
  refine G_level_start X h m_f_Game_81 d_Game_begin_67 ?_
  obtain ⟨r12, σ13, h14, hf⟩ := bd_s hf
  refine x_Vv (As := [.int (σ10.1 6)]) (rest := []) X hml hl.1 hZ hA h (c_Game_arrive l D ad cA tz n (σ10.1 6) σ10 r12 σ13 h14) k_Game_arrive m_m_Game_84 kd_Game_arrive ⟨rfl, rfl, Nat.le_of_ble_eq_true rfl, Nat.le_of_ble_eq_true rfl⟩ 1 rfl rfl rfl rfl rfl (Nat.le_of_ble_eq_true rfl) d_Game_begin_70 (fun H locs h => ?_)
  exact rt _ H locs 73 ls hf h d_Game_begin_73
theorem d_Desk_rewind_0 : decode b_Desk_rewind 0 = .ok (.iload_n 1, 1) := by decide +kernel
theorem d_Desk_rewind_1 : decode b_Desk_rewind 1 = .ok (.ifCond .lt 11, 3) := by decide +kernel
theorem d_Desk_rewind_4 : decode b_Desk_rewind 4 = .ok (.iload_n 1, 1) := by decide +kernel
theorem d_Desk_rewind_5 : decode b_Desk_rewind 5 = .ok (.aload_n 0, 1) := by decide +kernel
theorem d_Desk_rewind_6 : decode b_Desk_rewind 6 = .ok (.getfield 22, 3) := by decide +kernel
theorem d_Desk_rewind_9 : decode b_Desk_rewind 9 = .ok (.if_icmp .le 5, 3) := by decide +kernel
theorem d_Desk_rewind_12 : decode b_Desk_rewind 12 = .ok (.iconst (-1), 1) := by decide +kernel
theorem d_Desk_rewind_13 : decode b_Desk_rewind 13 = .ok (.ireturn, 1) := by decide +kernel
theorem d_Desk_rewind_14 : decode b_Desk_rewind 14 = .ok (.aload_n 0, 1) := by decide +kernel
theorem d_Desk_rewind_15 : decode b_Desk_rewind 15 = .ok (.getfield 14, 3) := by decide +kernel
theorem d_Desk_rewind_18 : decode b_Desk_rewind 18 = .ok (.invokevirtual 26, 3) := by decide +kernel
theorem d_Desk_rewind_21 : decode b_Desk_rewind 21 = .ok (.iconst 0, 1) := by decide +kernel
theorem d_Desk_rewind_22 : decode b_Desk_rewind 22 = .ok (.istore_n 2, 1) := by decide +kernel
theorem d_Desk_rewind_23 : decode b_Desk_rewind 23 = .ok (.iload_n 2, 1) := by decide +kernel
theorem d_Desk_rewind_24 : decode b_Desk_rewind 24 = .ok (.iload_n 1, 1) := by decide +kernel
theorem d_Desk_rewind_25 : decode b_Desk_rewind 25 = .ok (.if_icmp .ge 23, 3) := by decide +kernel
theorem d_Desk_rewind_28 : decode b_Desk_rewind 28 = .ok (.aload_n 0, 1) := by decide +kernel
theorem d_Desk_rewind_29 : decode b_Desk_rewind 29 = .ok (.getfield 14, 3) := by decide +kernel
theorem d_Desk_rewind_32 : decode b_Desk_rewind 32 = .ok (.aload_n 0, 1) := by decide +kernel
theorem d_Desk_rewind_33 : decode b_Desk_rewind 33 = .ok (.getfield 18, 3) := by decide +kernel
theorem d_Desk_rewind_36 : decode b_Desk_rewind 36 = .ok (.iload_n 2, 1) := by decide +kernel
theorem d_Desk_rewind_37 : decode b_Desk_rewind 37 = .ok (.iaload, 1) := by decide +kernel
theorem d_Desk_rewind_38 : decode b_Desk_rewind 38 = .ok (.invokevirtual 29, 3) := by decide +kernel
theorem d_Desk_rewind_41 : decode b_Desk_rewind 41 = .ok (.pop, 1) := by decide +kernel
theorem d_Desk_rewind_42 : decode b_Desk_rewind 42 = .ok (.iinc 2 1, 3) := by decide +kernel
theorem d_Desk_rewind_45 : decode b_Desk_rewind 45 = .ok (.goto (-22), 3) := by decide +kernel
theorem d_Desk_rewind_48 : decode b_Desk_rewind 48 = .ok (.aload_n 0, 1) := by decide +kernel
theorem d_Desk_rewind_49 : decode b_Desk_rewind 49 = .ok (.iload_n 1, 1) := by decide +kernel
theorem d_Desk_rewind_50 : decode b_Desk_rewind 50 = .ok (.putfield 22, 3) := by decide +kernel
theorem d_Desk_rewind_53 : decode b_Desk_rewind 53 = .ok (.aload_n 0, 1) := by decide +kernel
theorem d_Desk_rewind_54 : decode b_Desk_rewind 54 = .ok (.getfield 14, 3) := by decide +kernel
theorem d_Desk_rewind_57 : decode b_Desk_rewind 57 = .ok (.getfield 33, 3) := by decide +kernel
theorem d_Desk_rewind_60 : decode b_Desk_rewind 60 = .ok (.ireturn, 1) := by decide +kernel
def f_Desk_rewind_23 (n : Nat) : Nat → Int32 → Int32 → St → Option (Int32 × St)
  | 0, _, _, _ => none
  | j + 1, y1, y2, σ => if y1 ≤ y2 then (bnd (sI σ 0 y1) (fun σ7 => some (σ7.1 3, σ7))) else (gd (inb y2 512) (bd (f_Game_press n (σ.2.2 0 y2.toNatClampNeg) σ) (fun r9 σ10 => bnd (y2 + 1) (fun v12 => f_Desk_rewind_23 n j y1 v12 σ10))))
theorem f_Desk_rewind_23_s (n : Nat) (j : Nat) (y1 : Int32) (y2 : Int32) (σ : St) : f_Desk_rewind_23 n (j + 1) y1 y2 σ = (if y1 ≤ y2 then (bnd (sI σ 0 y1) (fun σ7 => some (σ7.1 3, σ7))) else (gd (inb y2 512) (bd (f_Game_press n (σ.2.2 0 y2.toNatClampNeg) σ) (fun r9 σ10 => bnd (y2 + 1) (fun v12 => f_Desk_rewind_23 n j y1 v12 σ10))))) := rfl
def f_Desk_rewind (n : Nat) (x1 : Int32) (σ : St) : Option (Int32 × St) := if x1 < 0 then (some ((-1), σ)) else (if x1 ≤ (σ.1 0) then (bd (f_Game_begin n σ) (fun _ σ4 => f_Desk_rewind_23 n n x1 0 σ4)) else (some ((-1), σ)))
set_option maxHeartbeats 4000000 in
set_option maxRecDepth 100000 in
theorem c_Desk_rewind (l : Launch) (D : va_G) (ad : Nat → Nat) (cA : Nat → ClassId) (tz : Nat → Nat) (n : Nat) (x1 : Int32) (σ : St) (r : Int32) (σr : St) (hf : f_Desk_rewind n x1 σ = some (r, σr)) : Ki l D cA tz (wl ad cA) y_Desk_rewind (.code y_Desk_rewind b_Desk_rewind 3 (some .int) :: TB) ({ frames := 6, cells := 0, slots := 0, locals := 144 }) [.ref (ad 0), .int x1] σ r σr := by
  refine x_openi (own := R_Desk) rfl (by decide) (fun p e s m args below meth c A Q X hml hZ hA H locs ls h hl rt => ?_)
  have hx := X.1
  have hb := X.2.1
  have hl : lv_has ls 3 [(0, .ref (ad 0)), (1, .int x1)] := hl
  have L23 : ∀ j : Nat, ∀ (y1 : Int32) (y2 : Int32) (σ : St), f_Desk_rewind_23 n j y1 y2 σ = some (r, σr) → ∀ (H : Heap) (locs : List Loc) (ls : Array Slot), WD D A s (wl ad cA σ) H locs → lv_has ls 3 [(0, .ref (ad 0)), (1, .int y1), (2, .int y2)] → W p l e ({ frames := 6, cells := 0, slots := 0, locals := 144 }) s m args below meth c H locs 0 0 Q (F0 m 23 ls []) := by
    intro j
    induction j with
    | zero => intro y1 y2 σ hf; exact absurd hf (fun z => by cases z)
    | succ j ih =>
      intro y1 y2 σ hf H locs ls h hl
      have hf := us (f_Desk_rewind_23_s n j y1 y2 σ) hf
      refine lv_iload_n hx hb d_Desk_rewind_23 rfl (lv_at hl 2 rfl) ?_
      refine lv_iload_n hx hb d_Desk_rewind_24 rfl (lv_at hl 1 rfl) ?_
      refine lv_icmp_ge (tgt := 48) hx hb d_Desk_rewind_25 (by decide) (fun c6 => ?_) (fun c6 => ?_)
      · have hf := it c6 hf
        refine lv_aload_n hx hb d_Desk_rewind_48 rfl (lv_at hl 0 rfl) ?_
        refine lv_iload_n hx hb d_Desk_rewind_49 rfl (lv_at hl 1 rfl) ?_
        refine P_desk_keyCount X h m_f_Desk_22 d_Desk_rewind_50 (fun H locs σ7 eσ7 h => ?_)
        have hf := nm_b hf eσ7
        refine lv_aload_n hx hb d_Desk_rewind_53 rfl (lv_at hl 0 rfl) ?_
        refine G_desk_game X h m_f_Desk_14 d_Desk_rewind_54 ?_
        refine G_game_ticks X h m_f_Desk_33 d_Desk_rewind_57 ?_
        exact rt _ _ H locs 60 ls hf h d_Desk_rewind_60
      · have hf := ie c6 hf
        refine lv_aload_n hx hb d_Desk_rewind_28 rfl (lv_at hl 0 rfl) ?_
        refine G_desk_game X h m_f_Desk_14 d_Desk_rewind_29 ?_
        refine lv_aload_n hx hb d_Desk_rewind_32 rfl (lv_at hl 0 rfl) ?_
        refine G_desk_keys X h m_f_Desk_18 d_Desk_rewind_33 ?_
        refine lv_iload_n hx hb d_Desk_rewind_36 rfl (lv_at hl 2 rfl) ?_
        obtain ⟨g8, hf⟩ := gd_s hf
        refine R_keys X h (inb_s g8) d_Desk_rewind_37 ?_
        obtain ⟨r9, σ10, h11, hf⟩ := bd_s hf
        refine x_Vi (As := [.int (σ.2.2 0 y2.toNatClampNeg)]) (rest := []) X hml hl.1 hZ hA h (c_Game_press l D ad cA tz n (σ.2.2 0 y2.toNatClampNeg) σ r9 σ10 h11) k_Game_press m_m_Desk_29 kd_Game_press ⟨rfl, rfl, Nat.le_of_ble_eq_true rfl, Nat.le_of_ble_eq_true rfl⟩ 1 rfl rfl rfl rfl rfl (Nat.le_of_ble_eq_true rfl) d_Desk_rewind_38 (fun H locs h => ?_)
        refine lv_pop hx hb d_Desk_rewind_41 rfl ?_
        obtain ⟨v12, ev12⟩ : ∃ y : Int32, y = y2 + 1 := ⟨_, rfl⟩
        have hf := nm_b hf ev12
        refine lv_iinc (v := v12) (lv' := [(2, .int v12), (0, .ref (ad 0)), (1, .int y1)]) hx hb d_Desk_rewind_42 hl (k := 2) rfl (by rw [ev12]; rfl) (by decide) rfl (fun ls hl => ?_)
        refine lv_goto (tgt := 23) hx hb d_Desk_rewind_45 (by decide) ?_
        exact ih y1 v12 σ10 hf H locs ls h (lv_sub hl [1, 2, 0] rfl)
  unfold f_Desk_rewind at hf
  refine lv_iload_n hx hb d_Desk_rewind_0 rfl (lv_at hl 1 rfl) ?_
  refine lv_if_lt (tgt := 12) hx hb d_Desk_rewind_1 (by decide) (fun c1 => ?_) (fun c1 => ?_)
  · have hf := it c1 hf
    refine lv_iconst (v := (-1)) hx hb d_Desk_rewind_12 (by decide) ?_
    exact rt _ _ H locs 13 ls hf h d_Desk_rewind_13
  · have hf := ie c1 hf
    refine lv_iload_n hx hb d_Desk_rewind_4 rfl (lv_at hl 1 rfl) ?_
    refine lv_aload_n hx hb d_Desk_rewind_5 rfl (lv_at hl 0 rfl) ?_
    refine G_desk_keyCount X h m_f_Desk_22 d_Desk_rewind_6 ?_
    refine lv_icmp_le (tgt := 14) hx hb d_Desk_rewind_9 (by decide) (fun c2 => ?_) (fun c2 => ?_)
    · have hf := it c2 hf
      refine lv_aload_n hx hb d_Desk_rewind_14 rfl (lv_at hl 0 rfl) ?_
      refine G_desk_game X h m_f_Desk_14 d_Desk_rewind_15 ?_
      obtain ⟨r3, σ4, h5, hf⟩ := bd_s hf
      refine x_Vv (As := []) (rest := []) X hml hl.1 hZ hA h (c_Game_begin l D ad cA tz n σ r3 σ4 h5) k_Game_begin m_m_Desk_26 kd_Game_begin ⟨rfl, rfl, Nat.le_of_ble_eq_true rfl, Nat.le_of_ble_eq_true rfl⟩ 1 rfl rfl rfl rfl rfl (Nat.le_of_ble_eq_true rfl) d_Desk_rewind_18 (fun H locs h => ?_)
      refine lv_iconst (v := 0) hx hb d_Desk_rewind_21 (by decide) ?_
      refine lv_istore_n (lv' := [(2, .int 0), (0, .ref (ad 0)), (1, .int x1)]) hx hb d_Desk_rewind_22 rfl hl (by decide) rfl (fun ls hl => ?_)
      exact L23 n x1 0 σ4 hf H locs ls h (lv_sub hl [1, 2, 0] rfl)
    · have hf := ie c2 hf
      refine lv_iconst (v := (-1)) hx hb d_Desk_rewind_12 (by decide) ?_
      exact rt _ _ H locs 13 ls hf h d_Desk_rewind_13
theorem d_Desk_whoIsAt_0 : decode b_Desk_whoIsAt 0 = .ok (.iload_n 1, 1) := by decide +kernel
theorem d_Desk_whoIsAt_1 : decode b_Desk_whoIsAt 1 = .ok (.aload_n 0, 1) := by decide +kernel
theorem d_Desk_whoIsAt_2 : decode b_Desk_whoIsAt 2 = .ok (.getfield 14, 3) := by decide +kernel
theorem d_Desk_whoIsAt_5 : decode b_Desk_whoIsAt 5 = .ok (.getfield 45, 3) := by decide +kernel
theorem d_Desk_whoIsAt_8 : decode b_Desk_whoIsAt 8 = .ok (.getfield 49, 3) := by decide +kernel
theorem d_Desk_whoIsAt_11 : decode b_Desk_whoIsAt 11 = .ok (.if_icmp .ne 5, 3) := by decide +kernel
theorem d_Desk_whoIsAt_14 : decode b_Desk_whoIsAt 14 = .ok (.iconst 1, 1) := by decide +kernel
theorem d_Desk_whoIsAt_15 : decode b_Desk_whoIsAt 15 = .ok (.ireturn, 1) := by decide +kernel
theorem d_Desk_whoIsAt_16 : decode b_Desk_whoIsAt 16 = .ok (.aload_n 0, 1) := by decide +kernel
theorem d_Desk_whoIsAt_17 : decode b_Desk_whoIsAt 17 = .ok (.getfield 14, 3) := by decide +kernel
theorem d_Desk_whoIsAt_20 : decode b_Desk_whoIsAt 20 = .ok (.getfield 76, 3) := by decide +kernel
theorem d_Desk_whoIsAt_23 : decode b_Desk_whoIsAt 23 = .ok (.iload_n 1, 1) := by decide +kernel
theorem d_Desk_whoIsAt_24 : decode b_Desk_whoIsAt 24 = .ok (.invokevirtual 80, 3) := by decide +kernel
theorem d_Desk_whoIsAt_27 : decode b_Desk_whoIsAt 27 = .ok (.istore_n 2, 1) := by decide +kernel
theorem d_Desk_whoIsAt_28 : decode b_Desk_whoIsAt 28 = .ok (.aload_n 0, 1) := by decide +kernel
theorem d_Desk_whoIsAt_29 : decode b_Desk_whoIsAt 29 = .ok (.getfield 14, 3) := by decide +kernel
theorem d_Desk_whoIsAt_32 : decode b_Desk_whoIsAt 32 = .ok (.getfield 76, 3) := by decide +kernel
theorem d_Desk_whoIsAt_35 : decode b_Desk_whoIsAt 35 = .ok (.iload_n 2, 1) := by decide +kernel
theorem d_Desk_whoIsAt_36 : decode b_Desk_whoIsAt 36 = .ok (.invokevirtual 85, 3) := by decide +kernel
theorem d_Desk_whoIsAt_39 : decode b_Desk_whoIsAt 39 = .ok (.ifCond .eq 20, 3) := by decide +kernel
theorem d_Desk_whoIsAt_42 : decode b_Desk_whoIsAt 42 = .ok (.iconst 2, 1) := by decide +kernel
theorem d_Desk_whoIsAt_43 : decode b_Desk_whoIsAt 43 = .ok (.aload_n 0, 1) := by decide +kernel
theorem d_Desk_whoIsAt_44 : decode b_Desk_whoIsAt 44 = .ok (.getfield 14, 3) := by decide +kernel
theorem d_Desk_whoIsAt_47 : decode b_Desk_whoIsAt 47 = .ok (.getfield 76, 3) := by decide +kernel
theorem d_Desk_whoIsAt_50 : decode b_Desk_whoIsAt 50 = .ok (.getfield 89, 3) := by decide +kernel
theorem d_Desk_whoIsAt_53 : decode b_Desk_whoIsAt 53 = .ok (.iload_n 2, 1) := by decide +kernel
theorem d_Desk_whoIsAt_54 : decode b_Desk_whoIsAt 54 = .ok (.iaload, 1) := by decide +kernel
theorem d_Desk_whoIsAt_55 : decode b_Desk_whoIsAt 55 = .ok (.iadd, 1) := by decide +kernel
theorem d_Desk_whoIsAt_56 : decode b_Desk_whoIsAt 56 = .ok (.goto 4, 3) := by decide +kernel
theorem d_Desk_whoIsAt_59 : decode b_Desk_whoIsAt 59 = .ok (.iconst 0, 1) := by decide +kernel
theorem d_Desk_whoIsAt_60 : decode b_Desk_whoIsAt 60 = .ok (.ireturn, 1) := by decide +kernel
def f_Desk_whoIsAt (n : Nat) (x1 : Int32) (σ : St) : Option (Int32 × St) := if x1 = (σ.1 9) then (some (1, σ)) else (bd (f_Monsters_at n x1 σ) (fun r2 σ3 => bd (f_Monsters_isThere n r2 σ3) (fun r5 σ6 => if r5 = 0 then (some (0, σ6)) else (gd (inb r2 5) (some (2 + (σ6.2.2 4 r2.toNatClampNeg), σ6))))))
set_option maxHeartbeats 4000000 in
set_option maxRecDepth 100000 in
theorem c_Desk_whoIsAt (l : Launch) (D : va_G) (ad : Nat → Nat) (cA : Nat → ClassId) (tz : Nat → Nat) (n : Nat) (x1 : Int32) (σ : St) (r : Int32) (σr : St) (hf : f_Desk_whoIsAt n x1 σ = some (r, σr)) : Ki l D cA tz (wl ad cA) y_Desk_whoIsAt (.code y_Desk_whoIsAt b_Desk_whoIsAt 3 (some .int) :: TB) ({ frames := 1, cells := 0, slots := 0, locals := 22 }) [.ref (ad 0), .int x1] σ r σr := by
  refine x_openi (own := R_Desk) rfl (by decide) (fun p e s m args below meth c A Q X hml hZ hA H locs ls h hl rt => ?_)
  have hx := X.1
  have hb := X.2.1
  have hl : lv_has ls 3 [(0, .ref (ad 0)), (1, .int x1)] := hl
  unfold f_Desk_whoIsAt at hf
  refine lv_iload_n hx hb d_Desk_whoIsAt_0 rfl (lv_at hl 1 rfl) ?_
  refine lv_aload_n hx hb d_Desk_whoIsAt_1 rfl (lv_at hl 0 rfl) ?_
  refine G_desk_game X h m_f_Desk_14 d_Desk_whoIsAt_2 ?_
  refine G_game_hero X h m_f_Desk_45 d_Desk_whoIsAt_5 ?_
  refine G_hero_place X h m_f_Desk_49 d_Desk_whoIsAt_8 ?_
  refine lv_icmp_ne (tgt := 16) hx hb d_Desk_whoIsAt_11 (by decide) (fun c1 => ?_) (fun c1 => ?_)
  · have hf := ie c1 hf
    refine lv_aload_n hx hb d_Desk_whoIsAt_16 rfl (lv_at hl 0 rfl) ?_
    refine G_desk_game X h m_f_Desk_14 d_Desk_whoIsAt_17 ?_
    refine G_game_monsters X h m_f_Desk_76 d_Desk_whoIsAt_20 ?_
    refine lv_iload_n hx hb d_Desk_whoIsAt_23 rfl (lv_at hl 1 rfl) ?_
    obtain ⟨r2, σ3, h4, hf⟩ := bd_s hf
    refine x_Vi (As := [.int x1]) (rest := []) X hml hl.1 hZ hA h (c_Monsters_at l D ad cA tz n x1 σ r2 σ3 h4) k_Monsters_at m_m_Desk_80 kd_Monsters_at ⟨rfl, rfl, Nat.le_of_ble_eq_true rfl, Nat.le_of_ble_eq_true rfl⟩ 6 rfl rfl rfl rfl rfl (Nat.le_of_ble_eq_true rfl) d_Desk_whoIsAt_24 (fun H locs h => ?_)
    refine lv_istore_n (lv' := [(2, .int r2), (0, .ref (ad 0)), (1, .int x1)]) hx hb d_Desk_whoIsAt_27 rfl hl (by decide) rfl (fun ls hl => ?_)
    refine lv_aload_n hx hb d_Desk_whoIsAt_28 rfl (lv_at hl 1 rfl) ?_
    refine G_desk_game X h m_f_Desk_14 d_Desk_whoIsAt_29 ?_
    refine G_game_monsters X h m_f_Desk_76 d_Desk_whoIsAt_32 ?_
    refine lv_iload_n hx hb d_Desk_whoIsAt_35 rfl (lv_at hl 0 rfl) ?_
    obtain ⟨r5, σ6, h7, hf⟩ := bd_s hf
    refine x_Vi (As := [.int r2]) (rest := []) X hml hl.1 hZ hA h (c_Monsters_isThere l D ad cA tz n r2 σ3 r5 σ6 h7) k_Monsters_isThere m_m_Desk_85 kd_Monsters_isThere ⟨rfl, rfl, Nat.le_of_ble_eq_true rfl, Nat.le_of_ble_eq_true rfl⟩ 6 rfl rfl rfl rfl rfl (Nat.le_of_ble_eq_true rfl) d_Desk_whoIsAt_36 (fun H locs h => ?_)
    refine lv_if_eq (tgt := 59) hx hb d_Desk_whoIsAt_39 (by decide) (fun c8 => ?_) (fun c8 => ?_)
    · have hf := it c8 hf
      refine lv_iconst (v := 0) hx hb d_Desk_whoIsAt_59 (by decide) ?_
      exact rt _ _ H locs 60 ls hf h d_Desk_whoIsAt_60
    · have hf := ie c8 hf
      refine lv_iconst (v := 2) hx hb d_Desk_whoIsAt_42 (by decide) ?_
      refine lv_aload_n hx hb d_Desk_whoIsAt_43 rfl (lv_at hl 1 rfl) ?_
      refine G_desk_game X h m_f_Desk_14 d_Desk_whoIsAt_44 ?_
      refine G_game_monsters X h m_f_Desk_76 d_Desk_whoIsAt_47 ?_
      refine G_monsters_kind X h m_f_Desk_89 d_Desk_whoIsAt_50 ?_
      refine lv_iload_n hx hb d_Desk_whoIsAt_53 rfl (lv_at hl 0 rfl) ?_
      obtain ⟨g9, hf⟩ := gd_s hf
      refine R_kind X h (inb_s g9) d_Desk_whoIsAt_54 ?_
      refine lv_iadd hx hb d_Desk_whoIsAt_55 ?_
      refine lv_goto (tgt := 60) hx hb d_Desk_whoIsAt_56 (by decide) ?_
      exact rt _ _ H locs 60 ls hf h d_Desk_whoIsAt_60
  · have hf := it c1 hf
    refine lv_iconst (v := 1) hx hb d_Desk_whoIsAt_14 (by decide) ?_
    exact rt _ _ H locs 15 ls hf h d_Desk_whoIsAt_15

