theorem d_Model_turn_0 : decode b_Model_turn 0 = .ok (.iload_n 0, 1) := by decide +kernel
theorem d_Model_turn_1 : decode b_Model_turn 1 = .ok (.bipush 107, 2) := by decide +kernel
theorem d_Model_turn_3 : decode b_Model_turn 3 = .ok (.if_icmp .ne 7, 3) := by decide +kernel
theorem d_Model_turn_6 : decode b_Model_turn 6 = .ok (.iconst 0, 1) := by decide +kernel
theorem d_Model_turn_7 : decode b_Model_turn 7 = .ok (.goto 34, 3) := by decide +kernel
theorem d_Model_turn_10 : decode b_Model_turn 10 = .ok (.iload_n 0, 1) := by decide +kernel
theorem d_Model_turn_11 : decode b_Model_turn 11 = .ok (.bipush 108, 2) := by decide +kernel
theorem d_Model_turn_13 : decode b_Model_turn 13 = .ok (.if_icmp .ne 7, 3) := by decide +kernel
theorem d_Model_turn_16 : decode b_Model_turn 16 = .ok (.iconst 1, 1) := by decide +kernel
theorem d_Model_turn_17 : decode b_Model_turn 17 = .ok (.goto 24, 3) := by decide +kernel
theorem d_Model_turn_20 : decode b_Model_turn 20 = .ok (.iload_n 0, 1) := by decide +kernel
theorem d_Model_turn_21 : decode b_Model_turn 21 = .ok (.bipush 106, 2) := by decide +kernel
theorem d_Model_turn_23 : decode b_Model_turn 23 = .ok (.if_icmp .ne 7, 3) := by decide +kernel
theorem d_Model_turn_26 : decode b_Model_turn 26 = .ok (.iconst 2, 1) := by decide +kernel
theorem d_Model_turn_27 : decode b_Model_turn 27 = .ok (.goto 14, 3) := by decide +kernel
theorem d_Model_turn_30 : decode b_Model_turn 30 = .ok (.iload_n 0, 1) := by decide +kernel
theorem d_Model_turn_31 : decode b_Model_turn 31 = .ok (.bipush 104, 2) := by decide +kernel
theorem d_Model_turn_33 : decode b_Model_turn 33 = .ok (.if_icmp .ne 7, 3) := by decide +kernel
theorem d_Model_turn_36 : decode b_Model_turn 36 = .ok (.iconst 3, 1) := by decide +kernel
theorem d_Model_turn_37 : decode b_Model_turn 37 = .ok (.goto 4, 3) := by decide +kernel
theorem d_Model_turn_40 : decode b_Model_turn 40 = .ok (.iconst (-1), 1) := by decide +kernel
theorem d_Model_turn_41 : decode b_Model_turn 41 = .ok (.ireturn, 1) := by decide +kernel
def f_Model_turn (n : Nat) (x0 : Int32) (σ : St) : Option (Int32 × St) := if x0 = 107 then (some (0, σ)) else (if x0 = 108 then (some (1, σ)) else (if x0 = 106 then (some (2, σ)) else (if x0 = 104 then (some (3, σ)) else (some ((-1), σ)))))
set_option maxHeartbeats 4000000 in
set_option maxRecDepth 100000 in
theorem c_Model_turn (l : Launch) (D : va_G) (ad : Nat → Nat) (cA : Nat → ClassId) (tz : Nat → Nat) (n : Nat) (x0 : Int32) (σ : St) (r : Int32) (σr : St) (hf : f_Model_turn n x0 σ = some (r, σr)) : Ki l D cA tz (wm ad cA) y_Model_turn (.code y_Model_turn b_Model_turn 1 (some .int) :: TB) ({ frames := 0, cells := 0, slots := 0, locals := 0 }) [.int x0] σ r σr := by
  refine x_openi (own := R_Model) rfl (by decide) (fun p e s m args below meth c A Q X hml hZ hA H locs ls h hl rt => ?_)
  have hx := X.1
  have hb := X.2.1
  have hl : lv_has ls 1 [(0, .int x0)] := hl
  unfold f_Model_turn at hf
  refine lv_iload_n hx hb d_Model_turn_0 rfl (lv_at hl 0 rfl) ?_
  refine lv_bipush (v := 107) hx hb d_Model_turn_1 (by decide) ?_
  refine lv_icmp_ne (tgt := 10) hx hb d_Model_turn_3 (by decide) (fun c1 => ?_) (fun c1 => ?_)
  · have hf := ie c1 hf
    refine lv_iload_n hx hb d_Model_turn_10 rfl (lv_at hl 0 rfl) ?_
    refine lv_bipush (v := 108) hx hb d_Model_turn_11 (by decide) ?_
    refine lv_icmp_ne (tgt := 20) hx hb d_Model_turn_13 (by decide) (fun c2 => ?_) (fun c2 => ?_)
    · have hf := ie c2 hf
      refine lv_iload_n hx hb d_Model_turn_20 rfl (lv_at hl 0 rfl) ?_
      refine lv_bipush (v := 106) hx hb d_Model_turn_21 (by decide) ?_
      refine lv_icmp_ne (tgt := 30) hx hb d_Model_turn_23 (by decide) (fun c3 => ?_) (fun c3 => ?_)
      · have hf := ie c3 hf
        refine lv_iload_n hx hb d_Model_turn_30 rfl (lv_at hl 0 rfl) ?_
        refine lv_bipush (v := 104) hx hb d_Model_turn_31 (by decide) ?_
        refine lv_icmp_ne (tgt := 40) hx hb d_Model_turn_33 (by decide) (fun c4 => ?_) (fun c4 => ?_)
        · have hf := ie c4 hf
          refine lv_iconst (v := (-1)) hx hb d_Model_turn_40 (by decide) ?_
          exact rt _ _ H locs 41 ls hf h d_Model_turn_41
        · have hf := it c4 hf
          refine lv_iconst (v := 3) hx hb d_Model_turn_36 (by decide) ?_
          refine lv_goto (tgt := 41) hx hb d_Model_turn_37 (by decide) ?_
          exact rt _ _ H locs 41 ls hf h d_Model_turn_41
      · have hf := it c3 hf
        refine lv_iconst (v := 2) hx hb d_Model_turn_26 (by decide) ?_
        refine lv_goto (tgt := 41) hx hb d_Model_turn_27 (by decide) ?_
        exact rt _ _ H locs 41 ls hf h d_Model_turn_41
    · have hf := it c2 hf
      refine lv_iconst (v := 1) hx hb d_Model_turn_16 (by decide) ?_
      refine lv_goto (tgt := 41) hx hb d_Model_turn_17 (by decide) ?_
      exact rt _ _ H locs 41 ls hf h d_Model_turn_41
  · have hf := it c1 hf
    refine lv_iconst (v := 0) hx hb d_Model_turn_6 (by decide) ?_
    refine lv_goto (tgt := 41) hx hb d_Model_turn_7 (by decide) ?_
    exact rt _ _ H locs 41 ls hf h d_Model_turn_41
theorem d_Model_in_0 : decode b_Model_in 0 = .ok (.iload_n 0, 1) := by decide +kernel
theorem d_Model_in_1 : decode b_Model_in 1 = .ok (.iload_n 1, 1) := by decide +kernel
theorem d_Model_in_2 : decode b_Model_in 2 = .ok (.if_icmp .lt 12, 3) := by decide +kernel
theorem d_Model_in_5 : decode b_Model_in 5 = .ok (.iload_n 0, 1) := by decide +kernel
theorem d_Model_in_6 : decode b_Model_in 6 = .ok (.iload_n 2, 1) := by decide +kernel
theorem d_Model_in_7 : decode b_Model_in 7 = .ok (.if_icmp .gt 7, 3) := by decide +kernel
theorem d_Model_in_10 : decode b_Model_in 10 = .ok (.iconst 1, 1) := by decide +kernel
theorem d_Model_in_11 : decode b_Model_in 11 = .ok (.goto 4, 3) := by decide +kernel
theorem d_Model_in_14 : decode b_Model_in 14 = .ok (.iconst 0, 1) := by decide +kernel
theorem d_Model_in_15 : decode b_Model_in 15 = .ok (.ireturn, 1) := by decide +kernel
def f_Model_in (n : Nat) (x0 : Int32) (x1 : Int32) (x2 : Int32) (σ : St) : Option (Int32 × St) := if x0 < x1 then (some (0, σ)) else (if x2 < x0 then (some (0, σ)) else (some (1, σ)))
set_option maxHeartbeats 4000000 in
set_option maxRecDepth 100000 in
theorem c_Model_in (l : Launch) (D : va_G) (ad : Nat → Nat) (cA : Nat → ClassId) (tz : Nat → Nat) (n : Nat) (x0 : Int32) (x1 : Int32) (x2 : Int32) (σ : St) (r : Int32) (σr : St) (hf : f_Model_in n x0 x1 x2 σ = some (r, σr)) : Ki l D cA tz (wm ad cA) y_Model_in (.code y_Model_in b_Model_in 3 (some .boolean) :: TB) ({ frames := 0, cells := 0, slots := 0, locals := 0 }) [.int x0, .int x1, .int x2] σ r σr := by
  refine x_openz (own := R_Model) rfl (by decide) (fun p e s m args below meth c A Q X hml hZ hA H locs ls h hl rt => ?_)
  have hx := X.1
  have hb := X.2.1
  have hl : lv_has ls 3 [(0, .int x0), (1, .int x1), (2, .int x2)] := hl
  unfold f_Model_in at hf
  refine lv_iload_n hx hb d_Model_in_0 rfl (lv_at hl 0 rfl) ?_
  refine lv_iload_n hx hb d_Model_in_1 rfl (lv_at hl 1 rfl) ?_
  refine lv_icmp_lt (tgt := 14) hx hb d_Model_in_2 (by decide) (fun c1 => ?_) (fun c1 => ?_)
  · have hf := it c1 hf
    refine lv_iconst (v := 0) hx hb d_Model_in_14 (by decide) ?_
    exact rt _ _ H locs 15 ls rfl hf h d_Model_in_15
  · have hf := ie c1 hf
    refine lv_iload_n hx hb d_Model_in_5 rfl (lv_at hl 0 rfl) ?_
    refine lv_iload_n hx hb d_Model_in_6 rfl (lv_at hl 2 rfl) ?_
    refine lv_icmp_gt (tgt := 14) hx hb d_Model_in_7 (by decide) (fun c2 => ?_) (fun c2 => ?_)
    · have hf := it c2 hf
      refine lv_iconst (v := 0) hx hb d_Model_in_14 (by decide) ?_
      exact rt _ _ H locs 15 ls rfl hf h d_Model_in_15
    · have hf := ie c2 hf
      refine lv_iconst (v := 1) hx hb d_Model_in_10 (by decide) ?_
      refine lv_goto (tgt := 15) hx hb d_Model_in_11 (by decide) ?_
      exact rt _ _ H locs 15 ls rfl hf h d_Model_in_15
theorem d_Model_isKey_0 : decode b_Model_isKey 0 = .ok (.iload_n 0, 1) := by decide +kernel
theorem d_Model_isKey_1 : decode b_Model_isKey 1 = .ok (.invokestatic 191, 3) := by decide +kernel
theorem d_Model_isKey_4 : decode b_Model_isKey 4 = .ok (.ifCond .ge 32, 3) := by decide +kernel
theorem d_Model_isKey_7 : decode b_Model_isKey 7 = .ok (.iload_n 0, 1) := by decide +kernel
theorem d_Model_isKey_8 : decode b_Model_isKey 8 = .ok (.bipush 46, 2) := by decide +kernel
theorem d_Model_isKey_10 : decode b_Model_isKey 10 = .ok (.if_icmp .eq 26, 3) := by decide +kernel
theorem d_Model_isKey_13 : decode b_Model_isKey 13 = .ok (.iload_n 0, 1) := by decide +kernel
theorem d_Model_isKey_14 : decode b_Model_isKey 14 = .ok (.bipush 103, 2) := by decide +kernel
theorem d_Model_isKey_16 : decode b_Model_isKey 16 = .ok (.if_icmp .eq 20, 3) := by decide +kernel
theorem d_Model_isKey_19 : decode b_Model_isKey 19 = .ok (.iload_n 0, 1) := by decide +kernel
theorem d_Model_isKey_20 : decode b_Model_isKey 20 = .ok (.bipush 97, 2) := by decide +kernel
theorem d_Model_isKey_22 : decode b_Model_isKey 22 = .ok (.bipush 100, 2) := by decide +kernel
theorem d_Model_isKey_24 : decode b_Model_isKey 24 = .ok (.invokestatic 148, 3) := by decide +kernel
theorem d_Model_isKey_27 : decode b_Model_isKey 27 = .ok (.ifCond .ne 9, 3) := by decide +kernel
theorem d_Model_isKey_30 : decode b_Model_isKey 30 = .ok (.iload_n 0, 1) := by decide +kernel
theorem d_Model_isKey_31 : decode b_Model_isKey 31 = .ok (.bipush 62, 2) := by decide +kernel
theorem d_Model_isKey_33 : decode b_Model_isKey 33 = .ok (.if_icmp .ne 7, 3) := by decide +kernel
theorem d_Model_isKey_36 : decode b_Model_isKey 36 = .ok (.iconst 1, 1) := by decide +kernel
theorem d_Model_isKey_37 : decode b_Model_isKey 37 = .ok (.goto 4, 3) := by decide +kernel
theorem d_Model_isKey_40 : decode b_Model_isKey 40 = .ok (.iconst 0, 1) := by decide +kernel
theorem d_Model_isKey_41 : decode b_Model_isKey 41 = .ok (.ireturn, 1) := by decide +kernel
def f_Model_isKey (n : Nat) (x0 : Int32) (σ : St) : Option (Int32 × St) := bd (f_Model_turn n x0 σ) (fun r1 σ2 => if 0 ≤ r1 then (some (1, σ2)) else (if x0 = 46 then (some (1, σ2)) else (if x0 = 103 then (some (1, σ2)) else (bd (f_Model_in n x0 97 100 σ2) (fun r7 σ8 => if r7 = 0 then (if x0 = 62 then (some (1, σ8)) else (some (0, σ8))) else (some (1, σ8)))))))
set_option maxHeartbeats 4000000 in
set_option maxRecDepth 100000 in
theorem c_Model_isKey (l : Launch) (D : va_G) (ad : Nat → Nat) (cA : Nat → ClassId) (tz : Nat → Nat) (n : Nat) (x0 : Int32) (σ : St) (r : Int32) (σr : St) (hf : f_Model_isKey n x0 σ = some (r, σr)) : Ki l D cA tz (wm ad cA) y_Model_isKey (.code y_Model_isKey b_Model_isKey 1 (some .boolean) :: TB) ({ frames := 1, cells := 0, slots := 0, locals := 22 }) [.int x0] σ r σr := by
  refine x_openz (own := R_Model) rfl (by decide) (fun p e s m args below meth c A Q X hml hZ hA H locs ls h hl rt => ?_)
  have hx := X.1
  have hb := X.2.1
  have hl : lv_has ls 1 [(0, .int x0)] := hl
  unfold f_Model_isKey at hf
  refine lv_iload_n hx hb d_Model_isKey_0 rfl (lv_at hl 0 rfl) ?_
  obtain ⟨r1, σ2, h3, hf⟩ := bd_s hf
  refine x_Si (As := [.int x0]) (rest := []) X hml hl.1 hZ hA h (c_Model_turn l D ad cA tz n x0 σ r1 σ2 h3) k_Model_turn m_m_Model_191 kd_Model_turn ⟨rfl, rfl, Nat.le_of_ble_eq_true rfl, Nat.le_of_ble_eq_true rfl⟩ rfl rfl (Nat.le_of_ble_eq_true rfl) d_Model_isKey_1 (fun H locs h => ?_)
  refine lv_if_ge (tgt := 36) hx hb d_Model_isKey_4 (by decide) (fun c4 => ?_) (fun c4 => ?_)
  · have hf := it c4 hf
    refine lv_iconst (v := 1) hx hb d_Model_isKey_36 (by decide) ?_
    refine lv_goto (tgt := 41) hx hb d_Model_isKey_37 (by decide) ?_
    exact rt _ _ H locs 41 ls rfl hf h d_Model_isKey_41
  · have hf := ie c4 hf
    refine lv_iload_n hx hb d_Model_isKey_7 rfl (lv_at hl 0 rfl) ?_
    refine lv_bipush (v := 46) hx hb d_Model_isKey_8 (by decide) ?_
    refine lv_icmp_eq (tgt := 36) hx hb d_Model_isKey_10 (by decide) (fun c5 => ?_) (fun c5 => ?_)
    · have hf := it c5 hf
      refine lv_iconst (v := 1) hx hb d_Model_isKey_36 (by decide) ?_
      refine lv_goto (tgt := 41) hx hb d_Model_isKey_37 (by decide) ?_
      exact rt _ _ H locs 41 ls rfl hf h d_Model_isKey_41
    · have hf := ie c5 hf
      refine lv_iload_n hx hb d_Model_isKey_13 rfl (lv_at hl 0 rfl) ?_
      refine lv_bipush (v := 103) hx hb d_Model_isKey_14 (by decide) ?_
      refine lv_icmp_eq (tgt := 36) hx hb d_Model_isKey_16 (by decide) (fun c6 => ?_) (fun c6 => ?_)
      · have hf := it c6 hf
        refine lv_iconst (v := 1) hx hb d_Model_isKey_36 (by decide) ?_
        refine lv_goto (tgt := 41) hx hb d_Model_isKey_37 (by decide) ?_
        exact rt _ _ H locs 41 ls rfl hf h d_Model_isKey_41
      · have hf := ie c6 hf
        refine lv_iload_n hx hb d_Model_isKey_19 rfl (lv_at hl 0 rfl) ?_
        refine lv_bipush (v := 97) hx hb d_Model_isKey_20 (by decide) ?_
        refine lv_bipush (v := 100) hx hb d_Model_isKey_22 (by decide) ?_
        obtain ⟨r7, σ8, h9, hf⟩ := bd_s hf
        refine x_Si (As := [.int x0, .int 97, .int 100]) (rest := []) X hml hl.1 hZ hA h (c_Model_in l D ad cA tz n x0 97 100 σ2 r7 σ8 h9) k_Model_in m_m_Model_148 kd_Model_in ⟨rfl, rfl, Nat.le_of_ble_eq_true rfl, Nat.le_of_ble_eq_true rfl⟩ rfl rfl (Nat.le_of_ble_eq_true rfl) d_Model_isKey_24 (fun H locs h => ?_)
        refine lv_if_ne (tgt := 36) hx hb d_Model_isKey_27 (by decide) (fun c10 => ?_) (fun c10 => ?_)
        · have hf := ie c10 hf
          refine lv_iconst (v := 1) hx hb d_Model_isKey_36 (by decide) ?_
          refine lv_goto (tgt := 41) hx hb d_Model_isKey_37 (by decide) ?_
          exact rt _ _ H locs 41 ls rfl hf h d_Model_isKey_41
        · have hf := it c10 hf
          refine lv_iload_n hx hb d_Model_isKey_30 rfl (lv_at hl 0 rfl) ?_
          refine lv_bipush (v := 62) hx hb d_Model_isKey_31 (by decide) ?_
          refine lv_icmp_ne (tgt := 40) hx hb d_Model_isKey_33 (by decide) (fun c11 => ?_) (fun c11 => ?_)
          · have hf := ie c11 hf
            refine lv_iconst (v := 0) hx hb d_Model_isKey_40 (by decide) ?_
            exact rt _ _ H locs 41 ls rfl hf h d_Model_isKey_41
          · have hf := it c11 hf
            refine lv_iconst (v := 1) hx hb d_Model_isKey_36 (by decide) ?_
            refine lv_goto (tgt := 41) hx hb d_Model_isKey_37 (by decide) ?_
            exact rt _ _ H locs 41 ls rfl hf h d_Model_isKey_41
theorem d_Model_next_0 : decode b_Model_next 0 = .ok (.lload_n 0, 1) := by decide +kernel
theorem d_Model_next_1 : decode b_Model_next 1 = .ok (.ldc2_w 69, 3) := by decide +kernel
theorem d_Model_next_4 : decode b_Model_next 4 = .ok (.lmul, 1) := by decide +kernel
theorem d_Model_next_5 : decode b_Model_next 5 = .ok (.ldc2_w 71, 3) := by decide +kernel
theorem d_Model_next_8 : decode b_Model_next 8 = .ok (.ladd, 1) := by decide +kernel
theorem d_Model_next_9 : decode b_Model_next 9 = .ok (.lreturn, 1) := by decide +kernel
def f_Model_next (n : Nat) (x0 : Int64) (σ : St) : Option (Int64 × St) := some ((x0 * 6364136223846793005) + 1442695040888963407, σ)
set_option maxHeartbeats 4000000 in
set_option maxRecDepth 100000 in
theorem c_Model_next (l : Launch) (D : va_G) (ad : Nat → Nat) (cA : Nat → ClassId) (tz : Nat → Nat) (n : Nat) (x0 : Int64) (σ : St) (r : Int64) (σr : St) (hf : f_Model_next n x0 σ = some (r, σr)) : Kl l D cA tz (wm ad cA) y_Model_next (.code y_Model_next b_Model_next 2 (some .long) :: TB) ({ frames := 0, cells := 0, slots := 0, locals := 0 }) [.long x0] σ r σr := by
  refine x_openl (own := R_Model) rfl (by decide) (fun p e s m args below meth c A Q X hml hZ hA H locs ls h hl rt => ?_)
  have hx := X.1
  have hb := X.2.1
  have hl : lv_has ls 2 [(0, .long x0)] := hl
  unfold f_Model_next at hf
  refine lv_lload_n hx hb d_Model_next_0 rfl (lv_at hl 0 rfl) ?_
  refine lv_ldc2 (v := 6364136223846793005) hx hb X.2.2.1 (X.2.2.2.1 _ m_kl_Model_69) d_Model_next_1 ?_
  refine lv_lmul hx hb d_Model_next_4 ?_
  refine lv_ldc2 (v := 1442695040888963407) hx hb X.2.2.1 (X.2.2.2.1 _ m_kl_Model_71) d_Model_next_5 ?_
  refine lv_ladd hx hb d_Model_next_8 ?_
  exact rt _ _ H locs 9 ls hf h d_Model_next_9
theorem d_Model_draw_0 : decode b_Model_draw 0 = .ok (.aload_n 0, 1) := by decide +kernel
theorem d_Model_draw_1 : decode b_Model_draw 1 = .ok (.aload_n 0, 1) := by decide +kernel
theorem d_Model_draw_2 : decode b_Model_draw 2 = .ok (.getfield 81, 3) := by decide +kernel
theorem d_Model_draw_5 : decode b_Model_draw 5 = .ok (.invokestatic 77, 3) := by decide +kernel
theorem d_Model_draw_8 : decode b_Model_draw 8 = .ok (.putfield 81, 3) := by decide +kernel
theorem d_Model_draw_11 : decode b_Model_draw 11 = .ok (.aload_n 0, 1) := by decide +kernel
theorem d_Model_draw_12 : decode b_Model_draw 12 = .ok (.getfield 81, 3) := by decide +kernel
theorem d_Model_draw_15 : decode b_Model_draw 15 = .ok (.bipush 33, 2) := by decide +kernel
theorem d_Model_draw_17 : decode b_Model_draw 17 = .ok (.lushr, 1) := by decide +kernel
theorem d_Model_draw_18 : decode b_Model_draw 18 = .ok (.iload_n 1, 1) := by decide +kernel
theorem d_Model_draw_19 : decode b_Model_draw 19 = .ok (.i2l, 1) := by decide +kernel
theorem d_Model_draw_20 : decode b_Model_draw 20 = .ok (.lrem, 1) := by decide +kernel
theorem d_Model_draw_21 : decode b_Model_draw 21 = .ok (.l2i, 1) := by decide +kernel
theorem d_Model_draw_22 : decode b_Model_draw 22 = .ok (.ireturn, 1) := by decide +kernel
def f_Model_draw (n : Nat) (x1 : Int32) (σ : St) : Option (Int32 × St) := bd (f_Model_next n (σ.2.1 1) σ) (fun r1 σ2 => bnd (sL σ2 1 r1) (fun σ4 => gd (nzl (Int32.toInt64 x1)) (some (Int64.toInt32 ((ush (σ4.2.1 1) 33) - (ush (σ4.2.1 1) 33) / (Int32.toInt64 x1) * (Int32.toInt64 x1)), σ4))))
set_option maxHeartbeats 4000000 in
set_option maxRecDepth 100000 in
theorem c_Model_draw (l : Launch) (D : va_G) (ad : Nat → Nat) (cA : Nat → ClassId) (tz : Nat → Nat) (n : Nat) (x1 : Int32) (σ : St) (r : Int32) (σr : St) (hf : f_Model_draw n x1 σ = some (r, σr)) : Ki l D cA tz (wm ad cA) y_Model_draw (.code y_Model_draw b_Model_draw 2 (some .int) :: TB) ({ frames := 1, cells := 0, slots := 0, locals := 21 }) [.ref (ad 0), .int x1] σ r σr := by
  refine x_openi (own := R_Model) rfl (by decide) (fun p e s m args below meth c A Q X hml hZ hA H locs ls h hl rt => ?_)
  have hx := X.1
  have hb := X.2.1
  have hl : lv_has ls 2 [(0, .ref (ad 0)), (1, .int x1)] := hl
  unfold f_Model_draw at hf
  refine lv_aload_n hx hb d_Model_draw_0 rfl (lv_at hl 0 rfl) ?_
  refine lv_aload_n hx hb d_Model_draw_1 rfl (lv_at hl 0 rfl) ?_
  refine G_model_play X h m_f_Model_81 d_Model_draw_2 ?_
  obtain ⟨r1, σ2, h3, hf⟩ := bd_s hf
  refine x_Sl (As := [.long (σ.2.1 1)]) (rest := [.ref (ad 0)]) X hml hl.1 hZ hA h (c_Model_next l D ad cA tz n (σ.2.1 1) σ r1 σ2 h3) k_Model_next m_m_Model_77 kd_Model_next ⟨rfl, rfl, Nat.le_of_ble_eq_true rfl, Nat.le_of_ble_eq_true rfl⟩ rfl rfl (Nat.le_of_ble_eq_true rfl) d_Model_draw_5 (fun H locs h => ?_)
  refine P_model_play X h m_f_Model_81 d_Model_draw_8 (fun H locs σ4 eσ4 h => ?_)
  have hf := nm_b hf eσ4
  refine lv_aload_n hx hb d_Model_draw_11 rfl (lv_at hl 0 rfl) ?_
  refine G_model_play X h m_f_Model_81 d_Model_draw_12 ?_
  refine lv_bipush (v := 33) hx hb d_Model_draw_15 (by decide) ?_
  refine lv_lushr (v := ush (σ4.2.1 1) 33) hx hb d_Model_draw_17 rfl ?_
  refine lv_iload_n hx hb d_Model_draw_18 rfl (lv_at hl 1 rfl) ?_
  refine lv_i2l hx hb d_Model_draw_19 rfl ?_
  obtain ⟨g5, hf⟩ := gd_s hf
  refine lv_lrem hx hb d_Model_draw_20 (nzl_s g5) ?_
  refine lv_l2i hx hb d_Model_draw_21 rfl ?_
  exact rt _ _ H locs 22 ls hf h d_Model_draw_22
theorem d_Model_monsterAt_0 : decode b_Model_monsterAt 0 = .ok (.iconst 0, 1) := by decide +kernel
theorem d_Model_monsterAt_1 : decode b_Model_monsterAt 1 = .ok (.istore_n 3, 1) := by decide +kernel
theorem d_Model_monsterAt_2 : decode b_Model_monsterAt 2 = .ok (.iload_n 3, 1) := by decide +kernel
theorem d_Model_monsterAt_3 : decode b_Model_monsterAt 3 = .ok (.aload_n 0, 1) := by decide +kernel
theorem d_Model_monsterAt_4 : decode b_Model_monsterAt 4 = .ok (.getfield 138, 3) := by decide +kernel
theorem d_Model_monsterAt_7 : decode b_Model_monsterAt 7 = .ok (.if_icmp .ge 40, 3) := by decide +kernel
theorem d_Model_monsterAt_10 : decode b_Model_monsterAt 10 = .ok (.aload_n 0, 1) := by decide +kernel
theorem d_Model_monsterAt_11 : decode b_Model_monsterAt 11 = .ok (.getfield 41, 3) := by decide +kernel
theorem d_Model_monsterAt_14 : decode b_Model_monsterAt 14 = .ok (.iload_n 3, 1) := by decide +kernel
theorem d_Model_monsterAt_15 : decode b_Model_monsterAt 15 = .ok (.baload, 1) := by decide +kernel
theorem d_Model_monsterAt_16 : decode b_Model_monsterAt 16 = .ok (.ifCond .ne 25, 3) := by decide +kernel
theorem d_Model_monsterAt_19 : decode b_Model_monsterAt 19 = .ok (.aload_n 0, 1) := by decide +kernel
theorem d_Model_monsterAt_20 : decode b_Model_monsterAt 20 = .ok (.getfield 26, 3) := by decide +kernel
theorem d_Model_monsterAt_23 : decode b_Model_monsterAt 23 = .ok (.iload_n 3, 1) := by decide +kernel
theorem d_Model_monsterAt_24 : decode b_Model_monsterAt 24 = .ok (.iaload, 1) := by decide +kernel
theorem d_Model_monsterAt_25 : decode b_Model_monsterAt 25 = .ok (.iload_n 1, 1) := by decide +kernel
theorem d_Model_monsterAt_26 : decode b_Model_monsterAt 26 = .ok (.if_icmp .ne 15, 3) := by decide +kernel
theorem d_Model_monsterAt_29 : decode b_Model_monsterAt 29 = .ok (.aload_n 0, 1) := by decide +kernel
theorem d_Model_monsterAt_30 : decode b_Model_monsterAt 30 = .ok (.getfield 29, 3) := by decide +kernel
theorem d_Model_monsterAt_33 : decode b_Model_monsterAt 33 = .ok (.iload_n 3, 1) := by decide +kernel
theorem d_Model_monsterAt_34 : decode b_Model_monsterAt 34 = .ok (.iaload, 1) := by decide +kernel
theorem d_Model_monsterAt_35 : decode b_Model_monsterAt 35 = .ok (.iload_n 2, 1) := by decide +kernel
theorem d_Model_monsterAt_36 : decode b_Model_monsterAt 36 = .ok (.if_icmp .ne 5, 3) := by decide +kernel
theorem d_Model_monsterAt_39 : decode b_Model_monsterAt 39 = .ok (.iload_n 3, 1) := by decide +kernel
theorem d_Model_monsterAt_40 : decode b_Model_monsterAt 40 = .ok (.ireturn, 1) := by decide +kernel
theorem d_Model_monsterAt_41 : decode b_Model_monsterAt 41 = .ok (.iinc 3 1, 3) := by decide +kernel
theorem d_Model_monsterAt_44 : decode b_Model_monsterAt 44 = .ok (.goto (-42), 3) := by decide +kernel
theorem d_Model_monsterAt_47 : decode b_Model_monsterAt 47 = .ok (.iconst (-1), 1) := by decide +kernel
theorem d_Model_monsterAt_48 : decode b_Model_monsterAt 48 = .ok (.ireturn, 1) := by decide +kernel
def f_Model_monsterAt_2 (n : Nat) : Nat → Int32 → Int32 → Int32 → St → Option (Int32 × St)
  | 0, _, _, _, _ => none
  | j + 1, y1, y2, y3, σ => if (σ.1 1) ≤ y3 then (some ((-1), σ)) else (gd (inb y3 8) (if (σ.2.2 10 y3.toNatClampNeg) = 0 then (gd (inb y3 8) (if (σ.2.2 5 y3.toNatClampNeg) = y1 then (gd (inb y3 8) (if (σ.2.2 6 y3.toNatClampNeg) = y2 then (some (y3, σ)) else (bnd (y3 + 1) (fun v10 => f_Model_monsterAt_2 n j y1 y2 v10 σ)))) else (bnd (y3 + 1) (fun v7 => f_Model_monsterAt_2 n j y1 y2 v7 σ)))) else (bnd (y3 + 1) (fun v4 => f_Model_monsterAt_2 n j y1 y2 v4 σ))))
theorem f_Model_monsterAt_2_s (n : Nat) (j : Nat) (y1 : Int32) (y2 : Int32) (y3 : Int32) (σ : St) : f_Model_monsterAt_2 n (j + 1) y1 y2 y3 σ = (if (σ.1 1) ≤ y3 then (some ((-1), σ)) else (gd (inb y3 8) (if (σ.2.2 10 y3.toNatClampNeg) = 0 then (gd (inb y3 8) (if (σ.2.2 5 y3.toNatClampNeg) = y1 then (gd (inb y3 8) (if (σ.2.2 6 y3.toNatClampNeg) = y2 then (some (y3, σ)) else (bnd (y3 + 1) (fun v10 => f_Model_monsterAt_2 n j y1 y2 v10 σ)))) else (bnd (y3 + 1) (fun v7 => f_Model_monsterAt_2 n j y1 y2 v7 σ)))) else (bnd (y3 + 1) (fun v4 => f_Model_monsterAt_2 n j y1 y2 v4 σ))))) := rfl
def f_Model_monsterAt (n : Nat) (x1 : Int32) (x2 : Int32) (σ : St) : Option (Int32 × St) := f_Model_monsterAt_2 n n x1 x2 0 σ
set_option maxHeartbeats 4000000 in
set_option maxRecDepth 100000 in
theorem c_Model_monsterAt (l : Launch) (D : va_G) (ad : Nat → Nat) (cA : Nat → ClassId) (tz : Nat → Nat) (n : Nat) (x1 : Int32) (x2 : Int32) (σ : St) (r : Int32) (σr : St) (hf : f_Model_monsterAt n x1 x2 σ = some (r, σr)) : Ki l D cA tz (wm ad cA) y_Model_monsterAt (.code y_Model_monsterAt b_Model_monsterAt 4 (some .int) :: TB) ({ frames := 0, cells := 0, slots := 0, locals := 0 }) [.ref (ad 0), .int x1, .int x2] σ r σr := by
  refine x_openi (own := R_Model) rfl (by decide) (fun p e s m args below meth c A Q X hml hZ hA H locs ls h hl rt => ?_)
  have hx := X.1
  have hb := X.2.1
  have hl : lv_has ls 4 [(0, .ref (ad 0)), (1, .int x1), (2, .int x2)] := hl
  have L2 : ∀ j : Nat, ∀ (y1 : Int32) (y2 : Int32) (y3 : Int32) (σ : St), f_Model_monsterAt_2 n j y1 y2 y3 σ = some (r, σr) → ∀ (H : Heap) (locs : List Loc) (ls : Array Slot), WD D A s (wm ad cA σ) H locs → lv_has ls 4 [(0, .ref (ad 0)), (1, .int y1), (2, .int y2), (3, .int y3)] → W p l e ({ frames := 0, cells := 0, slots := 0, locals := 0 }) s m args below meth c H locs 0 0 Q (F0 m 2 ls []) := by
    intro j
    induction j with
    | zero => intro y1 y2 y3 σ hf; exact absurd hf (fun z => by cases z)
    | succ j ih =>
      intro y1 y2 y3 σ hf H locs ls h hl
      have hf := us (f_Model_monsterAt_2_s n j y1 y2 y3 σ) hf
      refine lv_iload_n hx hb d_Model_monsterAt_2 rfl (lv_at hl 3 rfl) ?_
      refine lv_aload_n hx hb d_Model_monsterAt_3 rfl (lv_at hl 0 rfl) ?_
      refine G_model_monsters X h m_f_Model_138 d_Model_monsterAt_4 ?_
      refine lv_icmp_ge (tgt := 47) hx hb d_Model_monsterAt_7 (by decide) (fun c1 => ?_) (fun c1 => ?_)
      · have hf := it c1 hf
        refine lv_iconst (v := (-1)) hx hb d_Model_monsterAt_47 (by decide) ?_
        exact rt _ _ H locs 48 ls hf h d_Model_monsterAt_48
      · have hf := ie c1 hf
        refine lv_aload_n hx hb d_Model_monsterAt_10 rfl (lv_at hl 0 rfl) ?_
        refine G_model_gone X h m_f_Model_41 d_Model_monsterAt_11 ?_
        refine lv_iload_n hx hb d_Model_monsterAt_14 rfl (lv_at hl 3 rfl) ?_
        obtain ⟨g2, hf⟩ := gd_s hf
        refine R_mgone X h (inb_s g2) d_Model_monsterAt_15 ?_
        refine lv_if_ne (tgt := 41) hx hb d_Model_monsterAt_16 (by decide) (fun c3 => ?_) (fun c3 => ?_)
        · have hf := ie c3 hf
          obtain ⟨v4, ev4⟩ : ∃ y : Int32, y = y3 + 1 := ⟨_, rfl⟩
          have hf := nm_b hf ev4
          refine lv_iinc (v := v4) (lv' := [(3, .int v4), (0, .ref (ad 0)), (1, .int y1), (2, .int y2)]) hx hb d_Model_monsterAt_41 hl (k := 3) rfl (by rw [ev4]; rfl) (by decide) rfl (fun ls hl => ?_)
          refine lv_goto (tgt := 2) hx hb d_Model_monsterAt_44 (by decide) ?_
          exact ih y1 y2 v4 σ hf H locs ls h (lv_sub hl [1, 2, 3, 0] rfl)
        · have hf := it c3 hf
          refine lv_aload_n hx hb d_Model_monsterAt_19 rfl (lv_at hl 0 rfl) ?_
          refine G_model_mx X h m_f_Model_26 d_Model_monsterAt_20 ?_
          refine lv_iload_n hx hb d_Model_monsterAt_23 rfl (lv_at hl 3 rfl) ?_
          obtain ⟨g5, hf⟩ := gd_s hf
          refine R_mmx X h (inb_s g5) d_Model_monsterAt_24 ?_
          refine lv_iload_n hx hb d_Model_monsterAt_25 rfl (lv_at hl 1 rfl) ?_
          refine lv_icmp_ne (tgt := 41) hx hb d_Model_monsterAt_26 (by decide) (fun c6 => ?_) (fun c6 => ?_)
          · have hf := ie c6 hf
            obtain ⟨v7, ev7⟩ : ∃ y : Int32, y = y3 + 1 := ⟨_, rfl⟩
            have hf := nm_b hf ev7
            refine lv_iinc (v := v7) (lv' := [(3, .int v7), (0, .ref (ad 0)), (1, .int y1), (2, .int y2)]) hx hb d_Model_monsterAt_41 hl (k := 3) rfl (by rw [ev7]; rfl) (by decide) rfl (fun ls hl => ?_)
            refine lv_goto (tgt := 2) hx hb d_Model_monsterAt_44 (by decide) ?_
            exact ih y1 y2 v7 σ hf H locs ls h (lv_sub hl [1, 2, 3, 0] rfl)
          · have hf := it c6 hf
            refine lv_aload_n hx hb d_Model_monsterAt_29 rfl (lv_at hl 0 rfl) ?_
            refine G_model_my X h m_f_Model_29 d_Model_monsterAt_30 ?_
            refine lv_iload_n hx hb d_Model_monsterAt_33 rfl (lv_at hl 3 rfl) ?_
            obtain ⟨g8, hf⟩ := gd_s hf
            refine R_mmy X h (inb_s g8) d_Model_monsterAt_34 ?_
            refine lv_iload_n hx hb d_Model_monsterAt_35 rfl (lv_at hl 2 rfl) ?_
            refine lv_icmp_ne (tgt := 41) hx hb d_Model_monsterAt_36 (by decide) (fun c9 => ?_) (fun c9 => ?_)
            · have hf := ie c9 hf
              obtain ⟨v10, ev10⟩ : ∃ y : Int32, y = y3 + 1 := ⟨_, rfl⟩
              have hf := nm_b hf ev10
              refine lv_iinc (v := v10) (lv' := [(3, .int v10), (0, .ref (ad 0)), (1, .int y1), (2, .int y2)]) hx hb d_Model_monsterAt_41 hl (k := 3) rfl (by rw [ev10]; rfl) (by decide) rfl (fun ls hl => ?_)
              refine lv_goto (tgt := 2) hx hb d_Model_monsterAt_44 (by decide) ?_
              exact ih y1 y2 v10 σ hf H locs ls h (lv_sub hl [1, 2, 3, 0] rfl)
            · have hf := it c9 hf
              refine lv_iload_n hx hb d_Model_monsterAt_39 rfl (lv_at hl 3 rfl) ?_
              exact rt _ _ H locs 40 ls hf h d_Model_monsterAt_40
  unfold f_Model_monsterAt at hf
  refine lv_iconst (v := 0) hx hb d_Model_monsterAt_0 (by decide) ?_
  refine lv_istore_n (lv' := [(3, .int 0), (0, .ref (ad 0)), (1, .int x1), (2, .int x2)]) hx hb d_Model_monsterAt_1 rfl hl (by decide) rfl (fun ls hl => ?_)
  exact L2 n x1 x2 0 σ hf H locs ls h (lv_sub hl [1, 2, 3, 0] rfl)

