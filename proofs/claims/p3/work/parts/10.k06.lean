theorem d_Monsters_strike_0 : decode b_Monsters_strike 0 = .ok (.aload_n 0, 1) := by decide +kernel
theorem d_Monsters_strike_1 : decode b_Monsters_strike 1 = .ok (.iload_n 1, 1) := by decide +kernel
theorem d_Monsters_strike_2 : decode b_Monsters_strike 2 = .ok (.invokevirtual 38, 3) := by decide +kernel
theorem d_Monsters_strike_5 : decode b_Monsters_strike 5 = .ok (.ifCond .ne 5, 3) := by decide +kernel
theorem d_Monsters_strike_8 : decode b_Monsters_strike 8 = .ok (.iconst 0, 1) := by decide +kernel
theorem d_Monsters_strike_9 : decode b_Monsters_strike 9 = .ok (.ireturn, 1) := by decide +kernel
theorem d_Monsters_strike_10 : decode b_Monsters_strike 10 = .ok (.aload_n 0, 1) := by decide +kernel
theorem d_Monsters_strike_11 : decode b_Monsters_strike 11 = .ok (.getfield 24, 3) := by decide +kernel
theorem d_Monsters_strike_14 : decode b_Monsters_strike 14 = .ok (.iload_n 1, 1) := by decide +kernel
theorem d_Monsters_strike_15 : decode b_Monsters_strike 15 = .ok (.iconst 1, 1) := by decide +kernel
theorem d_Monsters_strike_16 : decode b_Monsters_strike 16 = .ok (.iastore, 1) := by decide +kernel
theorem d_Monsters_strike_17 : decode b_Monsters_strike 17 = .ok (.aload_n 0, 1) := by decide +kernel
theorem d_Monsters_strike_18 : decode b_Monsters_strike 18 = .ok (.getfield 18, 3) := by decide +kernel
theorem d_Monsters_strike_21 : decode b_Monsters_strike 21 = .ok (.iload_n 1, 1) := by decide +kernel
theorem d_Monsters_strike_22 : decode b_Monsters_strike 22 = .ok (.dup2, 1) := by decide +kernel
theorem d_Monsters_strike_23 : decode b_Monsters_strike 23 = .ok (.iaload, 1) := by decide +kernel
theorem d_Monsters_strike_24 : decode b_Monsters_strike 24 = .ok (.iload_n 2, 1) := by decide +kernel
theorem d_Monsters_strike_25 : decode b_Monsters_strike 25 = .ok (.isub, 1) := by decide +kernel
theorem d_Monsters_strike_26 : decode b_Monsters_strike 26 = .ok (.iastore, 1) := by decide +kernel
theorem d_Monsters_strike_27 : decode b_Monsters_strike 27 = .ok (.aload_n 0, 1) := by decide +kernel
theorem d_Monsters_strike_28 : decode b_Monsters_strike 28 = .ok (.getfield 18, 3) := by decide +kernel
theorem d_Monsters_strike_31 : decode b_Monsters_strike 31 = .ok (.iload_n 1, 1) := by decide +kernel
theorem d_Monsters_strike_32 : decode b_Monsters_strike 32 = .ok (.iaload, 1) := by decide +kernel
theorem d_Monsters_strike_33 : decode b_Monsters_strike 33 = .ok (.ifCond .gt 7, 3) := by decide +kernel
theorem d_Monsters_strike_36 : decode b_Monsters_strike 36 = .ok (.iconst 1, 1) := by decide +kernel
theorem d_Monsters_strike_37 : decode b_Monsters_strike 37 = .ok (.goto 4, 3) := by decide +kernel
theorem d_Monsters_strike_40 : decode b_Monsters_strike 40 = .ok (.iconst 0, 1) := by decide +kernel
theorem d_Monsters_strike_41 : decode b_Monsters_strike 41 = .ok (.ireturn, 1) := by decide +kernel
def f_Monsters_strike (n : Nat) (x1 : Int32) (x2 : Int32) (σ : St) : Option (Int32 × St) := bd (f_Monsters_isThere n x1 σ) (fun r1 σ2 => if r1 = 0 then (some (0, σ2)) else (gd (inb x1 5) (bnd (sA σ2 8 x1.toNatClampNeg 1) (fun σ6 => gd (inb x1 5) (gd (inb x1 5) (bnd (sA σ6 6 x1.toNatClampNeg ((σ6.2.2 6 x1.toNatClampNeg) - x2)) (fun σ9 => gd (inb x1 5) (if 0 < (σ9.2.2 6 x1.toNatClampNeg) then (some (0, σ9)) else (some (1, σ9))))))))))
set_option maxHeartbeats 4000000 in
set_option maxRecDepth 100000 in
theorem c_Monsters_strike (l : Launch) (D : va_G) (ad : Nat → Nat) (cA : Nat → ClassId) (tz : Nat → Nat) (n : Nat) (x1 : Int32) (x2 : Int32) (σ : St) (r : Int32) (σr : St) (hf : f_Monsters_strike n x1 x2 σ = some (r, σr)) : Ki l D cA tz (wl ad cA) y_Monsters_strike (.code y_Monsters_strike b_Monsters_strike 3 (some .boolean) :: TB) ({ frames := 1, cells := 0, slots := 0, locals := 21 }) [.ref (ad 6), .int x1, .int x2] σ r σr := by
  refine x_openz (own := R_Monsters) rfl (by decide) (fun p e s m args below meth c A Q X hml hZ hA H locs ls h hl rt => ?_)
  have hx := X.1
  have hb := X.2.1
  have hl : lv_has ls 3 [(0, .ref (ad 6)), (1, .int x1), (2, .int x2)] := hl
  unfold f_Monsters_strike at hf
  refine lv_aload_n hx hb d_Monsters_strike_0 rfl (lv_at hl 0 rfl) ?_
  refine lv_iload_n hx hb d_Monsters_strike_1 rfl (lv_at hl 1 rfl) ?_
  obtain ⟨r1, σ2, h3, hf⟩ := bd_s hf
  refine x_Vi (As := [.int x1]) (rest := []) X hml hl.1 hZ hA h (c_Monsters_isThere l D ad cA tz n x1 σ r1 σ2 h3) k_Monsters_isThere m_m_Monsters_38 kd_Monsters_isThere ⟨rfl, rfl, Nat.le_of_ble_eq_true rfl, Nat.le_of_ble_eq_true rfl⟩ 6 rfl rfl rfl rfl rfl (Nat.le_of_ble_eq_true rfl) d_Monsters_strike_2 (fun H locs h => ?_)
  refine lv_if_ne (tgt := 10) hx hb d_Monsters_strike_5 (by decide) (fun c4 => ?_) (fun c4 => ?_)
  · have hf := ie c4 hf
    refine lv_aload_n hx hb d_Monsters_strike_10 rfl (lv_at hl 0 rfl) ?_
    refine G_monsters_awake X h m_f_Monsters_24 d_Monsters_strike_11 ?_
    refine lv_iload_n hx hb d_Monsters_strike_14 rfl (lv_at hl 1 rfl) ?_
    refine lv_iconst (v := 1) hx hb d_Monsters_strike_15 (by decide) ?_
    obtain ⟨g5, hf⟩ := gd_s hf
    refine S_awake X h (inb_s g5) d_Monsters_strike_16 (fun H locs σ6 eσ6 h => ?_)
    have hf := nm_b hf eσ6
    refine lv_aload_n hx hb d_Monsters_strike_17 rfl (lv_at hl 0 rfl) ?_
    refine G_monsters_health X h m_f_Monsters_18 d_Monsters_strike_18 ?_
    refine lv_iload_n hx hb d_Monsters_strike_21 rfl (lv_at hl 1 rfl) ?_
    refine lv_dup2_11 hx hb d_Monsters_strike_22 rfl rfl ?_
    obtain ⟨g7, hf⟩ := gd_s hf
    refine R_health X h (inb_s g7) d_Monsters_strike_23 ?_
    refine lv_iload_n hx hb d_Monsters_strike_24 rfl (lv_at hl 2 rfl) ?_
    refine lv_isub hx hb d_Monsters_strike_25 ?_
    obtain ⟨g8, hf⟩ := gd_s hf
    refine S_health X h (inb_s g8) d_Monsters_strike_26 (fun H locs σ9 eσ9 h => ?_)
    have hf := nm_b hf eσ9
    refine lv_aload_n hx hb d_Monsters_strike_27 rfl (lv_at hl 0 rfl) ?_
    refine G_monsters_health X h m_f_Monsters_18 d_Monsters_strike_28 ?_
    refine lv_iload_n hx hb d_Monsters_strike_31 rfl (lv_at hl 1 rfl) ?_
    obtain ⟨g10, hf⟩ := gd_s hf
    refine R_health X h (inb_s g10) d_Monsters_strike_32 ?_
    refine lv_if_gt (tgt := 40) hx hb d_Monsters_strike_33 (by decide) (fun c11 => ?_) (fun c11 => ?_)
    · have hf := it c11 hf
      refine lv_iconst (v := 0) hx hb d_Monsters_strike_40 (by decide) ?_
      exact rt _ _ H locs 41 ls rfl hf h d_Monsters_strike_41
    · have hf := ie c11 hf
      refine lv_iconst (v := 1) hx hb d_Monsters_strike_36 (by decide) ?_
      refine lv_goto (tgt := 41) hx hb d_Monsters_strike_37 (by decide) ?_
      exact rt _ _ H locs 41 ls rfl hf h d_Monsters_strike_41
  · have hf := it c4 hf
    refine lv_iconst (v := 0) hx hb d_Monsters_strike_8 (by decide) ?_
    exact rt _ _ H locs 9 ls rfl hf h d_Monsters_strike_9
theorem d_Game_walk_0 : decode b_Game_walk 0 = .ok (.aload_n 0, 1) := by decide +kernel
theorem d_Game_walk_1 : decode b_Game_walk 1 = .ok (.getfield 53, 3) := by decide +kernel
theorem d_Game_walk_4 : decode b_Game_walk 4 = .ok (.getfield 109, 3) := by decide +kernel
theorem d_Game_walk_7 : decode b_Game_walk 7 = .ok (.iload_n 1, 1) := by decide +kernel
theorem d_Game_walk_8 : decode b_Game_walk 8 = .ok (.invokestatic 112, 3) := by decide +kernel
theorem d_Game_walk_11 : decode b_Game_walk 11 = .ok (.istore_n 2, 1) := by decide +kernel
theorem d_Game_walk_12 : decode b_Game_walk 12 = .ok (.aload_n 0, 1) := by decide +kernel
theorem d_Game_walk_13 : decode b_Game_walk 13 = .ok (.getfield 32, 3) := by decide +kernel
theorem d_Game_walk_16 : decode b_Game_walk 16 = .ok (.iload_n 2, 1) := by decide +kernel
theorem d_Game_walk_17 : decode b_Game_walk 17 = .ok (.invokevirtual 116, 3) := by decide +kernel
theorem d_Game_walk_20 : decode b_Game_walk 20 = .ok (.ifCond .ne 5, 3) := by decide +kernel
theorem d_Game_walk_23 : decode b_Game_walk 23 = .ok (.iconst 0, 1) := by decide +kernel
theorem d_Game_walk_24 : decode b_Game_walk 24 = .ok (.ireturn, 1) := by decide +kernel
theorem d_Game_walk_25 : decode b_Game_walk 25 = .ok (.aload_n 0, 1) := by decide +kernel
theorem d_Game_walk_26 : decode b_Game_walk 26 = .ok (.getfield 39, 3) := by decide +kernel
theorem d_Game_walk_29 : decode b_Game_walk 29 = .ok (.iload_n 2, 1) := by decide +kernel
theorem d_Game_walk_30 : decode b_Game_walk 30 = .ok (.invokevirtual 120, 3) := by decide +kernel
theorem d_Game_walk_33 : decode b_Game_walk 33 = .ok (.istore_n 3, 1) := by decide +kernel
theorem d_Game_walk_34 : decode b_Game_walk 34 = .ok (.iload_n 3, 1) := by decide +kernel
theorem d_Game_walk_35 : decode b_Game_walk 35 = .ok (.bipush (-2), 2) := by decide +kernel
theorem d_Game_walk_37 : decode b_Game_walk 37 = .ok (.if_icmp .ne 10, 3) := by decide +kernel
theorem d_Game_walk_40 : decode b_Game_walk 40 = .ok (.aload_n 0, 1) := by decide +kernel
theorem d_Game_walk_41 : decode b_Game_walk 41 = .ok (.iload_n 2, 1) := by decide +kernel
theorem d_Game_walk_42 : decode b_Game_walk 42 = .ok (.invokevirtual 84, 3) := by decide +kernel
theorem d_Game_walk_45 : decode b_Game_walk 45 = .ok (.iconst 1, 1) := by decide +kernel
theorem d_Game_walk_46 : decode b_Game_walk 46 = .ok (.ireturn, 1) := by decide +kernel
theorem d_Game_walk_47 : decode b_Game_walk 47 = .ok (.aload_n 0, 1) := by decide +kernel
theorem d_Game_walk_48 : decode b_Game_walk 48 = .ok (.getfield 39, 3) := by decide +kernel
theorem d_Game_walk_51 : decode b_Game_walk 51 = .ok (.iload_n 3, 1) := by decide +kernel
theorem d_Game_walk_52 : decode b_Game_walk 52 = .ok (.aload_n 0, 1) := by decide +kernel
theorem d_Game_walk_53 : decode b_Game_walk 53 = .ok (.getfield 53, 3) := by decide +kernel
theorem d_Game_walk_56 : decode b_Game_walk 56 = .ok (.getfield 123, 3) := by decide +kernel
theorem d_Game_walk_59 : decode b_Game_walk 59 = .ok (.invokevirtual 126, 3) := by decide +kernel
theorem d_Game_walk_62 : decode b_Game_walk 62 = .ok (.ifCond .eq 15, 3) := by decide +kernel
theorem d_Game_walk_65 : decode b_Game_walk 65 = .ok (.aload_n 0, 1) := by decide +kernel
theorem d_Game_walk_66 : decode b_Game_walk 66 = .ok (.dup, 1) := by decide +kernel
theorem d_Game_walk_67 : decode b_Game_walk 67 = .ok (.getfield 63, 3) := by decide +kernel
theorem d_Game_walk_70 : decode b_Game_walk 70 = .ok (.iconst 1, 1) := by decide +kernel
theorem d_Game_walk_71 : decode b_Game_walk 71 = .ok (.iadd, 1) := by decide +kernel
theorem d_Game_walk_72 : decode b_Game_walk 72 = .ok (.putfield 63, 3) := by decide +kernel
theorem d_Game_walk_75 : decode b_Game_walk 75 = .ok (.iconst 2, 1) := by decide +kernel
theorem d_Game_walk_76 : decode b_Game_walk 76 = .ok (.ireturn, 1) := by decide +kernel
theorem d_Game_walk_77 : decode b_Game_walk 77 = .ok (.iconst 1, 1) := by decide +kernel
theorem d_Game_walk_78 : decode b_Game_walk 78 = .ok (.ireturn, 1) := by decide +kernel
def f_Game_walk (n : Nat) (x1 : Int32) (σ : St) : Option (Int32 × St) := bd (f_Level_neighbour n (σ.1 9) x1 σ) (fun r1 σ2 => bd (f_Level_isFloor n r1 σ2) (fun r4 σ5 => if r4 = 0 then (some (0, σ5)) else (bd (f_Monsters_at n r1 σ5) (fun r8 σ9 => if r8 = (-2) then (bd (f_Game_arrive n r1 σ9) (fun _ σ18 => some (1, σ18))) else (bd (f_Monsters_strike n r8 (σ9.1 11) σ9) (fun r12 σ13 => if r12 = 0 then (some (1, σ13)) else (bnd (sI σ13 4 ((σ13.1 4) + 1)) (fun σ16 => some (2, σ16)))))))))
set_option maxHeartbeats 4000000 in
set_option maxRecDepth 100000 in
theorem c_Game_walk (l : Launch) (D : va_G) (ad : Nat → Nat) (cA : Nat → ClassId) (tz : Nat → Nat) (n : Nat) (x1 : Int32) (σ : St) (r : Int32) (σr : St) (hf : f_Game_walk n x1 σ = some (r, σr)) : Ki l D cA tz (wl ad cA) y_Game_walk (.code y_Game_walk b_Game_walk 4 (some .int) :: TB) ({ frames := 4, cells := 0, slots := 0, locals := 96 }) [.ref (ad 1), .int x1] σ r σr := by
  refine x_openi (own := R_Game) rfl (by decide) (fun p e s m args below meth c A Q X hml hZ hA H locs ls h hl rt => ?_)
  have hx := X.1
  have hb := X.2.1
  have hl : lv_has ls 4 [(0, .ref (ad 1)), (1, .int x1)] := hl
  unfold f_Game_walk at hf
  refine lv_aload_n hx hb d_Game_walk_0 rfl (lv_at hl 0 rfl) ?_
  refine G_game_hero X h m_f_Game_53 d_Game_walk_1 ?_
  refine G_hero_place X h m_f_Game_109 d_Game_walk_4 ?_
  refine lv_iload_n hx hb d_Game_walk_7 rfl (lv_at hl 1 rfl) ?_
  obtain ⟨r1, σ2, h3, hf⟩ := bd_s hf
  refine x_Si (As := [.int (σ.1 9), .int x1]) (rest := []) X hml hl.1 hZ hA h (c_Level_neighbour l D ad cA tz n (σ.1 9) x1 σ r1 σ2 h3) k_Level_neighbour m_m_Game_112 kd_Level_neighbour ⟨rfl, rfl, Nat.le_of_ble_eq_true rfl, Nat.le_of_ble_eq_true rfl⟩ rfl rfl (Nat.le_of_ble_eq_true rfl) d_Game_walk_8 (fun H locs h => ?_)
  refine lv_istore_n (lv' := [(2, .int r1), (0, .ref (ad 1)), (1, .int x1)]) hx hb d_Game_walk_11 rfl hl (by decide) rfl (fun ls hl => ?_)
  refine lv_aload_n hx hb d_Game_walk_12 rfl (lv_at hl 1 rfl) ?_
  refine G_game_level X h m_f_Game_32 d_Game_walk_13 ?_
  refine lv_iload_n hx hb d_Game_walk_16 rfl (lv_at hl 0 rfl) ?_
  obtain ⟨r4, σ5, h6, hf⟩ := bd_s hf
  refine x_Vi (As := [.int r1]) (rest := []) X hml hl.1 hZ hA h (c_Level_isFloor l D ad cA tz n r1 σ2 r4 σ5 h6) k_Level_isFloor m_m_Game_116 kd_Level_isFloor ⟨rfl, rfl, Nat.le_of_ble_eq_true rfl, Nat.le_of_ble_eq_true rfl⟩ 5 rfl rfl rfl rfl rfl (Nat.le_of_ble_eq_true rfl) d_Game_walk_17 (fun H locs h => ?_)
  refine lv_if_ne (tgt := 25) hx hb d_Game_walk_20 (by decide) (fun c7 => ?_) (fun c7 => ?_)
  · have hf := ie c7 hf
    refine lv_aload_n hx hb d_Game_walk_25 rfl (lv_at hl 1 rfl) ?_
    refine G_game_monsters X h m_f_Game_39 d_Game_walk_26 ?_
    refine lv_iload_n hx hb d_Game_walk_29 rfl (lv_at hl 0 rfl) ?_
    obtain ⟨r8, σ9, h10, hf⟩ := bd_s hf
    refine x_Vi (As := [.int r1]) (rest := []) X hml hl.1 hZ hA h (c_Monsters_at l D ad cA tz n r1 σ5 r8 σ9 h10) k_Monsters_at m_m_Game_120 kd_Monsters_at ⟨rfl, rfl, Nat.le_of_ble_eq_true rfl, Nat.le_of_ble_eq_true rfl⟩ 6 rfl rfl rfl rfl rfl (Nat.le_of_ble_eq_true rfl) d_Game_walk_30 (fun H locs h => ?_)
    refine lv_istore_n (lv' := [(3, .int r8), (2, .int r1), (0, .ref (ad 1)), (1, .int x1)]) hx hb d_Game_walk_33 rfl hl (by decide) rfl (fun ls hl => ?_)
    refine lv_iload_n hx hb d_Game_walk_34 rfl (lv_at hl 0 rfl) ?_
    refine lv_bipush (v := (-2)) hx hb d_Game_walk_35 (by decide) ?_
    refine lv_icmp_ne (tgt := 47) hx hb d_Game_walk_37 (by decide) (fun c11 => ?_) (fun c11 => ?_)
    · have hf := ie c11 hf
      refine lv_aload_n hx hb d_Game_walk_47 rfl (lv_at hl 2 rfl) ?_
      refine G_game_monsters X h m_f_Game_39 d_Game_walk_48 ?_
      refine lv_iload_n hx hb d_Game_walk_51 rfl (lv_at hl 0 rfl) ?_
      refine lv_aload_n hx hb d_Game_walk_52 rfl (lv_at hl 2 rfl) ?_
      refine G_game_hero X h m_f_Game_53 d_Game_walk_53 ?_
      refine G_hero_hit X h m_f_Game_123 d_Game_walk_56 ?_
      obtain ⟨r12, σ13, h14, hf⟩ := bd_s hf
      refine x_Vi (As := [.int r8, .int (σ9.1 11)]) (rest := []) X hml hl.1 hZ hA h (c_Monsters_strike l D ad cA tz n r8 (σ9.1 11) σ9 r12 σ13 h14) k_Monsters_strike m_m_Game_126 kd_Monsters_strike ⟨rfl, rfl, Nat.le_of_ble_eq_true rfl, Nat.le_of_ble_eq_true rfl⟩ 6 rfl rfl rfl rfl rfl (Nat.le_of_ble_eq_true rfl) d_Game_walk_59 (fun H locs h => ?_)
      refine lv_if_eq (tgt := 77) hx hb d_Game_walk_62 (by decide) (fun c15 => ?_) (fun c15 => ?_)
      · have hf := it c15 hf
        refine lv_iconst (v := 1) hx hb d_Game_walk_77 (by decide) ?_
        exact rt _ _ H locs 78 ls hf h d_Game_walk_78
      · have hf := ie c15 hf
        refine lv_aload_n hx hb d_Game_walk_65 rfl (lv_at hl 2 rfl) ?_
        refine lv_dup hx hb d_Game_walk_66 rfl ?_
        refine G_game_slain X h m_f_Game_63 d_Game_walk_67 ?_
        refine lv_iconst (v := 1) hx hb d_Game_walk_70 (by decide) ?_
        refine lv_iadd hx hb d_Game_walk_71 ?_
        refine P_game_slain X h m_f_Game_63 d_Game_walk_72 (fun H locs σ16 eσ16 h => ?_)
        have hf := nm_b hf eσ16
        refine lv_iconst (v := 2) hx hb d_Game_walk_75 (by decide) ?_
        exact rt _ _ H locs 76 ls hf h d_Game_walk_76
    · have hf := it c11 hf
      refine lv_aload_n hx hb d_Game_walk_40 rfl (lv_at hl 2 rfl) ?_
      refine lv_iload_n hx hb d_Game_walk_41 rfl (lv_at hl 1 rfl) ?_
      obtain ⟨r17, σ18, h19, hf⟩ := bd_s hf
      refine x_Vv (As := [.int r1]) (rest := []) X hml hl.1 hZ hA h (c_Game_arrive l D ad cA tz n r1 σ9 r17 σ18 h19) k_Game_arrive m_m_Game_84 kd_Game_arrive ⟨rfl, rfl, Nat.le_of_ble_eq_true rfl, Nat.le_of_ble_eq_true rfl⟩ 1 rfl rfl rfl rfl rfl (Nat.le_of_ble_eq_true rfl) d_Game_walk_42 (fun H locs h => ?_)
      refine lv_iconst (v := 1) hx hb d_Game_walk_45 (by decide) ?_
      exact rt _ _ H locs 46 ls hf h d_Game_walk_46
  · have hf := it c7 hf
    refine lv_iconst (v := 0) hx hb d_Game_walk_23 (by decide) ?_
    exact rt _ _ H locs 24 ls hf h d_Game_walk_24
theorem d_Distances_from_0 : decode b_Distances_from 0 = .ok (.iload_n 1, 1) := by decide +kernel
theorem d_Distances_from_1 : decode b_Distances_from 1 = .ok (.ifCond .lt 18, 3) := by decide +kernel
theorem d_Distances_from_4 : decode b_Distances_from 4 = .ok (.iload_n 1, 1) := by decide +kernel
theorem d_Distances_from_5 : decode b_Distances_from 5 = .ok (.bipush 120, 2) := by decide +kernel
theorem d_Distances_from_7 : decode b_Distances_from 7 = .ok (.if_icmp .ge 12, 3) := by decide +kernel
theorem d_Distances_from_10 : decode b_Distances_from 10 = .ok (.aload_n 0, 1) := by decide +kernel
theorem d_Distances_from_11 : decode b_Distances_from 11 = .ok (.getfield 9, 3) := by decide +kernel
theorem d_Distances_from_14 : decode b_Distances_from 14 = .ok (.iload_n 1, 1) := by decide +kernel
theorem d_Distances_from_15 : decode b_Distances_from 15 = .ok (.iaload, 1) := by decide +kernel
theorem d_Distances_from_16 : decode b_Distances_from 16 = .ok (.goto 5, 3) := by decide +kernel
theorem d_Distances_from_19 : decode b_Distances_from 19 = .ok (.bipush (-2), 2) := by decide +kernel
theorem d_Distances_from_21 : decode b_Distances_from 21 = .ok (.ireturn, 1) := by decide +kernel
def f_Distances_from (n : Nat) (x1 : Int32) (σ : St) : Option (Int32 × St) := if x1 < 0 then (some ((-2), σ)) else (if 120 ≤ x1 then (some ((-2), σ)) else (gd (inb x1 120) (some (σ.2.2 13 x1.toNatClampNeg, σ))))
set_option maxHeartbeats 4000000 in
set_option maxRecDepth 100000 in
theorem c_Distances_from (l : Launch) (D : va_G) (ad : Nat → Nat) (cA : Nat → ClassId) (tz : Nat → Nat) (n : Nat) (x1 : Int32) (σ : St) (r : Int32) (σr : St) (hf : f_Distances_from n x1 σ = some (r, σr)) : Ki l D cA tz (wl ad cA) y_Distances_from (.code y_Distances_from b_Distances_from 2 (some .int) :: TB) ({ frames := 0, cells := 0, slots := 0, locals := 0 }) [.ref (ad 7), .int x1] σ r σr := by
  refine x_openi (own := R_Distances) rfl (by decide) (fun p e s m args below meth c A Q X hml hZ hA H locs ls h hl rt => ?_)
  have hx := X.1
  have hb := X.2.1
  have hl : lv_has ls 2 [(0, .ref (ad 7)), (1, .int x1)] := hl
  unfold f_Distances_from at hf
  refine lv_iload_n hx hb d_Distances_from_0 rfl (lv_at hl 1 rfl) ?_
  refine lv_if_lt (tgt := 19) hx hb d_Distances_from_1 (by decide) (fun c1 => ?_) (fun c1 => ?_)
  · have hf := it c1 hf
    refine lv_bipush (v := (-2)) hx hb d_Distances_from_19 (by decide) ?_
    exact rt _ _ H locs 21 ls hf h d_Distances_from_21
  · have hf := ie c1 hf
    refine lv_iload_n hx hb d_Distances_from_4 rfl (lv_at hl 1 rfl) ?_
    refine lv_bipush (v := 120) hx hb d_Distances_from_5 (by decide) ?_
    refine lv_icmp_ge (tgt := 19) hx hb d_Distances_from_7 (by decide) (fun c2 => ?_) (fun c2 => ?_)
    · have hf := it c2 hf
      refine lv_bipush (v := (-2)) hx hb d_Distances_from_19 (by decide) ?_
      exact rt _ _ H locs 21 ls hf h d_Distances_from_21
    · have hf := ie c2 hf
      refine lv_aload_n hx hb d_Distances_from_10 rfl (lv_at hl 0 rfl) ?_
      refine G_dist_steps X h m_f_Distances_9 d_Distances_from_11 ?_
      refine lv_iload_n hx hb d_Distances_from_14 rfl (lv_at hl 1 rfl) ?_
      obtain ⟨g3, hf⟩ := gd_s hf
      refine R_steps X h (inb_s g3) d_Distances_from_15 ?_
      refine lv_goto (tgt := 21) hx hb d_Distances_from_16 (by decide) ?_
      exact rt _ _ H locs 21 ls hf h d_Distances_from_21
theorem d_Game_bestStep_0 : decode b_Game_bestStep 0 = .ok (.iload_n 1, 1) := by decide +kernel
theorem d_Game_bestStep_1 : decode b_Game_bestStep 1 = .ok (.istore_n 3, 1) := by decide +kernel
theorem d_Game_bestStep_2 : decode b_Game_bestStep 2 = .ok (.iconst 0, 1) := by decide +kernel
theorem d_Game_bestStep_3 : decode b_Game_bestStep 3 = .ok (.istore 4, 2) := by decide +kernel
theorem d_Game_bestStep_5 : decode b_Game_bestStep 5 = .ok (.iload 4, 2) := by decide +kernel
theorem d_Game_bestStep_7 : decode b_Game_bestStep 7 = .ok (.iconst 4, 1) := by decide +kernel
theorem d_Game_bestStep_8 : decode b_Game_bestStep 8 = .ok (.if_icmp .ge 70, 3) := by decide +kernel
theorem d_Game_bestStep_11 : decode b_Game_bestStep 11 = .ok (.iload_n 1, 1) := by decide +kernel
theorem d_Game_bestStep_12 : decode b_Game_bestStep 12 = .ok (.iload 4, 2) := by decide +kernel
theorem d_Game_bestStep_14 : decode b_Game_bestStep 14 = .ok (.invokestatic 112, 3) := by decide +kernel
theorem d_Game_bestStep_17 : decode b_Game_bestStep 17 = .ok (.istore 5, 2) := by decide +kernel
theorem d_Game_bestStep_19 : decode b_Game_bestStep 19 = .ok (.aload_n 0, 1) := by decide +kernel
theorem d_Game_bestStep_20 : decode b_Game_bestStep 20 = .ok (.getfield 32, 3) := by decide +kernel
theorem d_Game_bestStep_23 : decode b_Game_bestStep 23 = .ok (.iload 5, 2) := by decide +kernel
theorem d_Game_bestStep_25 : decode b_Game_bestStep 25 = .ok (.invokevirtual 116, 3) := by decide +kernel
theorem d_Game_bestStep_28 : decode b_Game_bestStep 28 = .ok (.ifCond .eq 44, 3) := by decide +kernel
theorem d_Game_bestStep_31 : decode b_Game_bestStep 31 = .ok (.aload_n 0, 1) := by decide +kernel
theorem d_Game_bestStep_32 : decode b_Game_bestStep 32 = .ok (.getfield 39, 3) := by decide +kernel
theorem d_Game_bestStep_35 : decode b_Game_bestStep 35 = .ok (.iload 5, 2) := by decide +kernel
theorem d_Game_bestStep_37 : decode b_Game_bestStep 37 = .ok (.invokevirtual 120, 3) := by decide +kernel
theorem d_Game_bestStep_40 : decode b_Game_bestStep 40 = .ok (.bipush (-2), 2) := by decide +kernel
theorem d_Game_bestStep_42 : decode b_Game_bestStep 42 = .ok (.if_icmp .ne 30, 3) := by decide +kernel
theorem d_Game_bestStep_45 : decode b_Game_bestStep 45 = .ok (.iload_n 2, 1) := by decide +kernel
theorem d_Game_bestStep_46 : decode b_Game_bestStep 46 = .ok (.aload_n 0, 1) := by decide +kernel
theorem d_Game_bestStep_47 : decode b_Game_bestStep 47 = .ok (.getfield 46, 3) := by decide +kernel
theorem d_Game_bestStep_50 : decode b_Game_bestStep 50 = .ok (.iload 5, 2) := by decide +kernel
theorem d_Game_bestStep_52 : decode b_Game_bestStep 52 = .ok (.invokevirtual 219, 3) := by decide +kernel
theorem d_Game_bestStep_55 : decode b_Game_bestStep 55 = .ok (.imul, 1) := by decide +kernel
theorem d_Game_bestStep_56 : decode b_Game_bestStep 56 = .ok (.iload_n 2, 1) := by decide +kernel
theorem d_Game_bestStep_57 : decode b_Game_bestStep 57 = .ok (.aload_n 0, 1) := by decide +kernel
theorem d_Game_bestStep_58 : decode b_Game_bestStep 58 = .ok (.getfield 46, 3) := by decide +kernel
theorem d_Game_bestStep_61 : decode b_Game_bestStep 61 = .ok (.iload_n 3, 1) := by decide +kernel
theorem d_Game_bestStep_62 : decode b_Game_bestStep 62 = .ok (.invokevirtual 219, 3) := by decide +kernel
theorem d_Game_bestStep_65 : decode b_Game_bestStep 65 = .ok (.imul, 1) := by decide +kernel
theorem d_Game_bestStep_66 : decode b_Game_bestStep 66 = .ok (.if_icmp .ge 6, 3) := by decide +kernel
theorem d_Game_bestStep_69 : decode b_Game_bestStep 69 = .ok (.iload 5, 2) := by decide +kernel
theorem d_Game_bestStep_71 : decode b_Game_bestStep 71 = .ok (.istore_n 3, 1) := by decide +kernel
theorem d_Game_bestStep_72 : decode b_Game_bestStep 72 = .ok (.iinc 4 1, 3) := by decide +kernel
theorem d_Game_bestStep_75 : decode b_Game_bestStep 75 = .ok (.goto (-70), 3) := by decide +kernel
theorem d_Game_bestStep_78 : decode b_Game_bestStep 78 = .ok (.iload_n 3, 1) := by decide +kernel
theorem d_Game_bestStep_79 : decode b_Game_bestStep 79 = .ok (.ireturn, 1) := by decide +kernel
def f_Game_bestStep_5 (n : Nat) : Nat → Int32 → Int32 → Int32 → Int32 → St → Option (Int32 × St)
  | 0, _, _, _, _, _ => none
  | j + 1, y1, y2, y3, y4, σ => if 4 ≤ y4 then (some (y3, σ)) else (bd (f_Level_neighbour n y1 y4 σ) (fun r2 σ3 => bd (f_Level_isFloor n r2 σ3) (fun r5 σ6 => if r5 = 0 then (bnd (y4 + 1) (fun v9 => f_Game_bestStep_5 n j y1 y2 y3 v9 σ6)) else (bd (f_Monsters_at n r2 σ6) (fun r10 σ11 => if r10 = (-2) then (bd (f_Distances_from n r2 σ11) (fun r15 σ16 => bd (f_Distances_from n y3 σ16) (fun r18 σ19 => if (y2 * r18) ≤ (y2 * r15) then (bnd (y4 + 1) (fun v22 => f_Game_bestStep_5 n j y1 y2 y3 v22 σ19)) else (bnd (y4 + 1) (fun v23 => f_Game_bestStep_5 n j y1 y2 r2 v23 σ19))))) else (bnd (y4 + 1) (fun v14 => f_Game_bestStep_5 n j y1 y2 y3 v14 σ11)))))))
theorem f_Game_bestStep_5_s (n : Nat) (j : Nat) (y1 : Int32) (y2 : Int32) (y3 : Int32) (y4 : Int32) (σ : St) : f_Game_bestStep_5 n (j + 1) y1 y2 y3 y4 σ = (if 4 ≤ y4 then (some (y3, σ)) else (bd (f_Level_neighbour n y1 y4 σ) (fun r2 σ3 => bd (f_Level_isFloor n r2 σ3) (fun r5 σ6 => if r5 = 0 then (bnd (y4 + 1) (fun v9 => f_Game_bestStep_5 n j y1 y2 y3 v9 σ6)) else (bd (f_Monsters_at n r2 σ6) (fun r10 σ11 => if r10 = (-2) then (bd (f_Distances_from n r2 σ11) (fun r15 σ16 => bd (f_Distances_from n y3 σ16) (fun r18 σ19 => if (y2 * r18) ≤ (y2 * r15) then (bnd (y4 + 1) (fun v22 => f_Game_bestStep_5 n j y1 y2 y3 v22 σ19)) else (bnd (y4 + 1) (fun v23 => f_Game_bestStep_5 n j y1 y2 r2 v23 σ19))))) else (bnd (y4 + 1) (fun v14 => f_Game_bestStep_5 n j y1 y2 y3 v14 σ11)))))))) := rfl
def f_Game_bestStep (n : Nat) (x1 : Int32) (x2 : Int32) (σ : St) : Option (Int32 × St) := f_Game_bestStep_5 n n x1 x2 x1 0 σ
set_option maxHeartbeats 4000000 in
set_option maxRecDepth 100000 in
theorem c_Game_bestStep (l : Launch) (D : va_G) (ad : Nat → Nat) (cA : Nat → ClassId) (tz : Nat → Nat) (n : Nat) (x1 : Int32) (x2 : Int32) (σ : St) (r : Int32) (σr : St) (hf : f_Game_bestStep n x1 x2 σ = some (r, σr)) : Ki l D cA tz (wl ad cA) y_Game_bestStep (.code y_Game_bestStep b_Game_bestStep 6 (some .int) :: TB) ({ frames := 1, cells := 0, slots := 0, locals := 22 }) [.ref (ad 1), .int x1, .int x2] σ r σr := by
  refine x_openi (own := R_Game) rfl (by decide) (fun p e s m args below meth c A Q X hml hZ hA H locs ls h hl rt => ?_)
  have hx := X.1
  have hb := X.2.1
  have hl : lv_has ls 6 [(0, .ref (ad 1)), (1, .int x1), (2, .int x2)] := hl
  have L5 : ∀ j : Nat, ∀ (y1 : Int32) (y2 : Int32) (y3 : Int32) (y4 : Int32) (σ : St), f_Game_bestStep_5 n j y1 y2 y3 y4 σ = some (r, σr) → ∀ (H : Heap) (locs : List Loc) (ls : Array Slot), WD D A s (wl ad cA σ) H locs → lv_has ls 6 [(0, .ref (ad 1)), (1, .int y1), (2, .int y2), (3, .int y3), (4, .int y4)] → W p l e ({ frames := 1, cells := 0, slots := 0, locals := 22 }) s m args below meth c H locs 0 0 Q (F0 m 5 ls []) := by
    intro j
    induction j with
    | zero => intro y1 y2 y3 y4 σ hf; exact absurd hf (fun z => by cases z)
    | succ j ih =>
      intro y1 y2 y3 y4 σ hf H locs ls h hl
      have hf := us (f_Game_bestStep_5_s n j y1 y2 y3 y4 σ) hf
      refine lv_iload hx hb d_Game_bestStep_5 (lv_at hl 4 rfl) ?_
      refine lv_iconst (v := 4) hx hb d_Game_bestStep_7 (by decide) ?_
      refine lv_icmp_ge (tgt := 78) hx hb d_Game_bestStep_8 (by decide) (fun c1 => ?_) (fun c1 => ?_)
      · have hf := it c1 hf
        refine lv_iload_n hx hb d_Game_bestStep_78 rfl (lv_at hl 3 rfl) ?_
        exact rt _ _ H locs 79 ls hf h d_Game_bestStep_79
      · have hf := ie c1 hf
        refine lv_iload_n hx hb d_Game_bestStep_11 rfl (lv_at hl 1 rfl) ?_
        refine lv_iload hx hb d_Game_bestStep_12 (lv_at hl 4 rfl) ?_
        obtain ⟨r2, σ3, h4, hf⟩ := bd_s hf
        refine x_Si (As := [.int y1, .int y4]) (rest := []) X hml hl.1 hZ hA h (c_Level_neighbour l D ad cA tz n y1 y4 σ r2 σ3 h4) k_Level_neighbour m_m_Game_112 kd_Level_neighbour ⟨rfl, rfl, Nat.le_of_ble_eq_true rfl, Nat.le_of_ble_eq_true rfl⟩ rfl rfl (Nat.le_of_ble_eq_true rfl) d_Game_bestStep_14 (fun H locs h => ?_)
        refine lv_istore (lv' := [(5, .int r2), (0, .ref (ad 1)), (1, .int y1), (2, .int y2), (3, .int y3), (4, .int y4)]) hx hb d_Game_bestStep_17 hl (by decide) rfl (fun ls hl => ?_)
        refine lv_aload_n hx hb d_Game_bestStep_19 rfl (lv_at hl 1 rfl) ?_
        refine G_game_level X h m_f_Game_32 d_Game_bestStep_20 ?_
        refine lv_iload hx hb d_Game_bestStep_23 (lv_at hl 0 rfl) ?_
        obtain ⟨r5, σ6, h7, hf⟩ := bd_s hf
        refine x_Vi (As := [.int r2]) (rest := []) X hml hl.1 hZ hA h (c_Level_isFloor l D ad cA tz n r2 σ3 r5 σ6 h7) k_Level_isFloor m_m_Game_116 kd_Level_isFloor ⟨rfl, rfl, Nat.le_of_ble_eq_true rfl, Nat.le_of_ble_eq_true rfl⟩ 5 rfl rfl rfl rfl rfl (Nat.le_of_ble_eq_true rfl) d_Game_bestStep_25 (fun H locs h => ?_)
        refine lv_if_eq (tgt := 72) hx hb d_Game_bestStep_28 (by decide) (fun c8 => ?_) (fun c8 => ?_)
        · have hf := it c8 hf
          obtain ⟨v9, ev9⟩ : ∃ y : Int32, y = y4 + 1 := ⟨_, rfl⟩
          have hf := nm_b hf ev9
          refine lv_iinc (v := v9) (lv' := [(4, .int v9), (5, .int r2), (0, .ref (ad 1)), (1, .int y1), (2, .int y2), (3, .int y3)]) hx hb d_Game_bestStep_72 hl (k := 5) rfl (by rw [ev9]; rfl) (by decide) rfl (fun ls hl => ?_)
          refine lv_goto (tgt := 5) hx hb d_Game_bestStep_75 (by decide) ?_
          exact ih y1 y2 y3 v9 σ6 hf H locs ls h (lv_sub hl [2, 3, 4, 5, 0] rfl)
        · have hf := ie c8 hf
          refine lv_aload_n hx hb d_Game_bestStep_31 rfl (lv_at hl 1 rfl) ?_
          refine G_game_monsters X h m_f_Game_39 d_Game_bestStep_32 ?_
          refine lv_iload hx hb d_Game_bestStep_35 (lv_at hl 0 rfl) ?_
          obtain ⟨r10, σ11, h12, hf⟩ := bd_s hf
          refine x_Vi (As := [.int r2]) (rest := []) X hml hl.1 hZ hA h (c_Monsters_at l D ad cA tz n r2 σ6 r10 σ11 h12) k_Monsters_at m_m_Game_120 kd_Monsters_at ⟨rfl, rfl, Nat.le_of_ble_eq_true rfl, Nat.le_of_ble_eq_true rfl⟩ 6 rfl rfl rfl rfl rfl (Nat.le_of_ble_eq_true rfl) d_Game_bestStep_37 (fun H locs h => ?_)
          refine lv_bipush (v := (-2)) hx hb d_Game_bestStep_40 (by decide) ?_
          refine lv_icmp_ne (tgt := 72) hx hb d_Game_bestStep_42 (by decide) (fun c13 => ?_) (fun c13 => ?_)
          · have hf := ie c13 hf
            obtain ⟨v14, ev14⟩ : ∃ y : Int32, y = y4 + 1 := ⟨_, rfl⟩
            have hf := nm_b hf ev14
            refine lv_iinc (v := v14) (lv' := [(4, .int v14), (5, .int r2), (0, .ref (ad 1)), (1, .int y1), (2, .int y2), (3, .int y3)]) hx hb d_Game_bestStep_72 hl (k := 5) rfl (by rw [ev14]; rfl) (by decide) rfl (fun ls hl => ?_)
            refine lv_goto (tgt := 5) hx hb d_Game_bestStep_75 (by decide) ?_
            exact ih y1 y2 y3 v14 σ11 hf H locs ls h (lv_sub hl [2, 3, 4, 5, 0] rfl)
          · have hf := it c13 hf
            refine lv_iload_n hx hb d_Game_bestStep_45 rfl (lv_at hl 3 rfl) ?_
            refine lv_aload_n hx hb d_Game_bestStep_46 rfl (lv_at hl 1 rfl) ?_
            refine G_game_distances X h m_f_Game_46 d_Game_bestStep_47 ?_
            refine lv_iload hx hb d_Game_bestStep_50 (lv_at hl 0 rfl) ?_
            obtain ⟨r15, σ16, h17, hf⟩ := bd_s hf
            refine x_Vi (As := [.int r2]) (rest := [.int y2]) X hml hl.1 hZ hA h (c_Distances_from l D ad cA tz n r2 σ11 r15 σ16 h17) k_Distances_from m_m_Game_219 kd_Distances_from ⟨rfl, rfl, Nat.le_of_ble_eq_true rfl, Nat.le_of_ble_eq_true rfl⟩ 7 rfl rfl rfl rfl rfl (Nat.le_of_ble_eq_true rfl) d_Game_bestStep_52 (fun H locs h => ?_)
            refine lv_imul hx hb d_Game_bestStep_55 ?_
            refine lv_iload_n hx hb d_Game_bestStep_56 rfl (lv_at hl 3 rfl) ?_
            refine lv_aload_n hx hb d_Game_bestStep_57 rfl (lv_at hl 1 rfl) ?_
            refine G_game_distances X h m_f_Game_46 d_Game_bestStep_58 ?_
            refine lv_iload_n hx hb d_Game_bestStep_61 rfl (lv_at hl 4 rfl) ?_
            obtain ⟨r18, σ19, h20, hf⟩ := bd_s hf
            refine x_Vi (As := [.int y3]) (rest := [.int y2, .int (y2 * r15)]) X hml hl.1 hZ hA h (c_Distances_from l D ad cA tz n y3 σ16 r18 σ19 h20) k_Distances_from m_m_Game_219 kd_Distances_from ⟨rfl, rfl, Nat.le_of_ble_eq_true rfl, Nat.le_of_ble_eq_true rfl⟩ 7 rfl rfl rfl rfl rfl (Nat.le_of_ble_eq_true rfl) d_Game_bestStep_62 (fun H locs h => ?_)
            refine lv_imul hx hb d_Game_bestStep_65 ?_
            refine lv_icmp_ge (tgt := 72) hx hb d_Game_bestStep_66 (by decide) (fun c21 => ?_) (fun c21 => ?_)
            · have hf := it c21 hf
              obtain ⟨v22, ev22⟩ : ∃ y : Int32, y = y4 + 1 := ⟨_, rfl⟩
              have hf := nm_b hf ev22
              refine lv_iinc (v := v22) (lv' := [(4, .int v22), (5, .int r2), (0, .ref (ad 1)), (1, .int y1), (2, .int y2), (3, .int y3)]) hx hb d_Game_bestStep_72 hl (k := 5) rfl (by rw [ev22]; rfl) (by decide) rfl (fun ls hl => ?_)
              refine lv_goto (tgt := 5) hx hb d_Game_bestStep_75 (by decide) ?_
              exact ih y1 y2 y3 v22 σ19 hf H locs ls h (lv_sub hl [2, 3, 4, 5, 0] rfl)
            · have hf := ie c21 hf
              refine lv_iload hx hb d_Game_bestStep_69 (lv_at hl 0 rfl) ?_
              refine lv_istore_n (lv' := [(3, .int r2), (5, .int r2), (0, .ref (ad 1)), (1, .int y1), (2, .int y2), (4, .int y4)]) hx hb d_Game_bestStep_71 rfl hl (by decide) rfl (fun ls hl => ?_)
              obtain ⟨v23, ev23⟩ : ∃ y : Int32, y = y4 + 1 := ⟨_, rfl⟩
              have hf := nm_b hf ev23
              refine lv_iinc (v := v23) (lv' := [(4, .int v23), (3, .int r2), (5, .int r2), (0, .ref (ad 1)), (1, .int y1), (2, .int y2)]) hx hb d_Game_bestStep_72 hl (k := 5) rfl (by rw [ev23]; rfl) (by decide) rfl (fun ls hl => ?_)
              refine lv_goto (tgt := 5) hx hb d_Game_bestStep_75 (by decide) ?_
              exact ih y1 y2 r2 v23 σ19 hf H locs ls h (lv_sub hl [3, 4, 5, 1, 0] rfl)
  unfold f_Game_bestStep at hf
  refine lv_iload_n hx hb d_Game_bestStep_0 rfl (lv_at hl 1 rfl) ?_
  refine lv_istore_n (lv' := [(3, .int x1), (0, .ref (ad 1)), (1, .int x1), (2, .int x2)]) hx hb d_Game_bestStep_1 rfl hl (by decide) rfl (fun ls hl => ?_)
  refine lv_iconst (v := 0) hx hb d_Game_bestStep_2 (by decide) ?_
  refine lv_istore (lv' := [(4, .int 0), (3, .int x1), (0, .ref (ad 1)), (1, .int x1), (2, .int x2)]) hx hb d_Game_bestStep_3 hl (by decide) rfl (fun ls hl => ?_)
  exact L5 n x1 x2 x1 0 σ hf H locs ls h (lv_sub hl [2, 3, 4, 1, 0] rfl)
theorem d_Game_goOrHit_0 : decode b_Game_goOrHit 0 = .ok (.iload_n 2, 1) := by decide +kernel
theorem d_Game_goOrHit_1 : decode b_Game_goOrHit 1 = .ok (.aload_n 0, 1) := by decide +kernel
theorem d_Game_goOrHit_2 : decode b_Game_goOrHit 2 = .ok (.getfield 53, 3) := by decide +kernel
theorem d_Game_goOrHit_5 : decode b_Game_goOrHit 5 = .ok (.getfield 109, 3) := by decide +kernel
theorem d_Game_goOrHit_8 : decode b_Game_goOrHit 8 = .ok (.if_icmp .ne 31, 3) := by decide +kernel
theorem d_Game_goOrHit_11 : decode b_Game_goOrHit 11 = .ok (.aload_n 0, 1) := by decide +kernel
theorem d_Game_goOrHit_12 : decode b_Game_goOrHit 12 = .ok (.getfield 53, 3) := by decide +kernel
theorem d_Game_goOrHit_15 : decode b_Game_goOrHit 15 = .ok (.dup, 1) := by decide +kernel
theorem d_Game_goOrHit_16 : decode b_Game_goOrHit 16 = .ok (.getfield 155, 3) := by decide +kernel
theorem d_Game_goOrHit_19 : decode b_Game_goOrHit 19 = .ok (.getstatic 222, 3) := by decide +kernel
theorem d_Game_goOrHit_22 : decode b_Game_goOrHit 22 = .ok (.aload_n 0, 1) := by decide +kernel
theorem d_Game_goOrHit_23 : decode b_Game_goOrHit 23 = .ok (.getfield 39, 3) := by decide +kernel
theorem d_Game_goOrHit_26 : decode b_Game_goOrHit 26 = .ok (.getfield 196, 3) := by decide +kernel
theorem d_Game_goOrHit_29 : decode b_Game_goOrHit 29 = .ok (.iload_n 1, 1) := by decide +kernel
theorem d_Game_goOrHit_30 : decode b_Game_goOrHit 30 = .ok (.iaload, 1) := by decide +kernel
theorem d_Game_goOrHit_31 : decode b_Game_goOrHit 31 = .ok (.iaload, 1) := by decide +kernel
theorem d_Game_goOrHit_32 : decode b_Game_goOrHit 32 = .ok (.isub, 1) := by decide +kernel
theorem d_Game_goOrHit_33 : decode b_Game_goOrHit 33 = .ok (.putfield 155, 3) := by decide +kernel
theorem d_Game_goOrHit_36 : decode b_Game_goOrHit 36 = .ok (.goto 37, 3) := by decide +kernel
theorem d_Game_goOrHit_39 : decode b_Game_goOrHit 39 = .ok (.aload_n 0, 1) := by decide +kernel
theorem d_Game_goOrHit_40 : decode b_Game_goOrHit 40 = .ok (.getfield 32, 3) := by decide +kernel
theorem d_Game_goOrHit_43 : decode b_Game_goOrHit 43 = .ok (.iload_n 2, 1) := by decide +kernel
theorem d_Game_goOrHit_44 : decode b_Game_goOrHit 44 = .ok (.invokevirtual 116, 3) := by decide +kernel
theorem d_Game_goOrHit_47 : decode b_Game_goOrHit 47 = .ok (.ifCond .eq 26, 3) := by decide +kernel
theorem d_Game_goOrHit_50 : decode b_Game_goOrHit 50 = .ok (.aload_n 0, 1) := by decide +kernel
theorem d_Game_goOrHit_51 : decode b_Game_goOrHit 51 = .ok (.getfield 39, 3) := by decide +kernel
theorem d_Game_goOrHit_54 : decode b_Game_goOrHit 54 = .ok (.iload_n 2, 1) := by decide +kernel
theorem d_Game_goOrHit_55 : decode b_Game_goOrHit 55 = .ok (.invokevirtual 120, 3) := by decide +kernel
theorem d_Game_goOrHit_58 : decode b_Game_goOrHit 58 = .ok (.bipush (-2), 2) := by decide +kernel
theorem d_Game_goOrHit_60 : decode b_Game_goOrHit 60 = .ok (.if_icmp .ne 13, 3) := by decide +kernel
theorem d_Game_goOrHit_63 : decode b_Game_goOrHit 63 = .ok (.aload_n 0, 1) := by decide +kernel
theorem d_Game_goOrHit_64 : decode b_Game_goOrHit 64 = .ok (.getfield 39, 3) := by decide +kernel
theorem d_Game_goOrHit_67 : decode b_Game_goOrHit 67 = .ok (.getfield 202, 3) := by decide +kernel
theorem d_Game_goOrHit_70 : decode b_Game_goOrHit 70 = .ok (.iload_n 1, 1) := by decide +kernel
theorem d_Game_goOrHit_71 : decode b_Game_goOrHit 71 = .ok (.iload_n 2, 1) := by decide +kernel
theorem d_Game_goOrHit_72 : decode b_Game_goOrHit 72 = .ok (.iastore, 1) := by decide +kernel
theorem d_Game_goOrHit_73 : decode b_Game_goOrHit 73 = .ok (.return_, 1) := by decide +kernel
def f_Game_goOrHit (n : Nat) (x1 : Int32) (x2 : Int32) (σ : St) : Option (Unit × St) := if x2 = (σ.1 9) then (gd (inb x1 5) (gd (inb (σ.2.2 4 x1.toNatClampNeg) 3) (bnd (sI σ 10 ((σ.1 10) - (tb_HIT_OF (σ.2.2 4 x1.toNatClampNeg).toNatClampNeg))) (fun σ14 => some ((), σ14))))) else (bd (f_Level_isFloor n x2 σ) (fun r2 σ3 => if r2 = 0 then (some ((), σ3)) else (bd (f_Monsters_at n x2 σ3) (fun r6 σ7 => if r6 = (-2) then (gd (inb x1 5) (bnd (sA σ7 5 x1.toNatClampNeg x2) (fun σ11 => some ((), σ11)))) else (some ((), σ7))))))
set_option maxHeartbeats 4000000 in
set_option maxRecDepth 100000 in
theorem c_Game_goOrHit (l : Launch) (D : va_G) (ad : Nat → Nat) (cA : Nat → ClassId) (tz : Nat → Nat) (n : Nat) (x1 : Int32) (x2 : Int32) (σ : St) (r : Unit) (σr : St) (hf : f_Game_goOrHit n x1 x2 σ = some (r, σr)) : Kv l D cA tz (wl ad cA) y_Game_goOrHit (.code y_Game_goOrHit b_Game_goOrHit 3 none :: TB) ({ frames := 1, cells := 0, slots := 0, locals := 22 }) [.ref (ad 1), .int x1, .int x2] σ σr := by
  refine x_openv (r := r) (own := R_Game) rfl (by decide) (fun p e s m args below meth c A Q X hml hZ hA H locs ls h hl rt => ?_)
  have hx := X.1
  have hb := X.2.1
  have hl : lv_has ls 3 [(0, .ref (ad 1)), (1, .int x1), (2, .int x2)] := hl
  unfold f_Game_goOrHit at hf
  refine lv_iload_n hx hb d_Game_goOrHit_0 rfl (lv_at hl 2 rfl) ?_
  refine lv_aload_n hx hb d_Game_goOrHit_1 rfl (lv_at hl 0 rfl) ?_
  refine G_game_hero X h m_f_Game_53 d_Game_goOrHit_2 ?_
  refine G_hero_place X h m_f_Game_109 d_Game_goOrHit_5 ?_
  refine lv_icmp_ne (tgt := 39) hx hb d_Game_goOrHit_8 (by decide) (fun c1 => ?_) (fun c1 => ?_)
  · have hf := ie c1 hf
    refine lv_aload_n hx hb d_Game_goOrHit_39 rfl (lv_at hl 0 rfl) ?_
    refine G_game_level X h m_f_Game_32 d_Game_goOrHit_40 ?_
    refine lv_iload_n hx hb d_Game_goOrHit_43 rfl (lv_at hl 2 rfl) ?_
    obtain ⟨r2, σ3, h4, hf⟩ := bd_s hf
    refine x_Vi (As := [.int x2]) (rest := []) X hml hl.1 hZ hA h (c_Level_isFloor l D ad cA tz n x2 σ r2 σ3 h4) k_Level_isFloor m_m_Game_116 kd_Level_isFloor ⟨rfl, rfl, Nat.le_of_ble_eq_true rfl, Nat.le_of_ble_eq_true rfl⟩ 5 rfl rfl rfl rfl rfl (Nat.le_of_ble_eq_true rfl) d_Game_goOrHit_44 (fun H locs h => ?_)
    refine lv_if_eq (tgt := 73) hx hb d_Game_goOrHit_47 (by decide) (fun c5 => ?_) (fun c5 => ?_)
    · have hf := it c5 hf
      exact rt _ H locs 73 ls hf h d_Game_goOrHit_73
    · have hf := ie c5 hf
      refine lv_aload_n hx hb d_Game_goOrHit_50 rfl (lv_at hl 0 rfl) ?_
      refine G_game_monsters X h m_f_Game_39 d_Game_goOrHit_51 ?_
      refine lv_iload_n hx hb d_Game_goOrHit_54 rfl (lv_at hl 2 rfl) ?_
      obtain ⟨r6, σ7, h8, hf⟩ := bd_s hf
      refine x_Vi (As := [.int x2]) (rest := []) X hml hl.1 hZ hA h (c_Monsters_at l D ad cA tz n x2 σ3 r6 σ7 h8) k_Monsters_at m_m_Game_120 kd_Monsters_at ⟨rfl, rfl, Nat.le_of_ble_eq_true rfl, Nat.le_of_ble_eq_true rfl⟩ 6 rfl rfl rfl rfl rfl (Nat.le_of_ble_eq_true rfl) d_Game_goOrHit_55 (fun H locs h => ?_)
      refine lv_bipush (v := (-2)) hx hb d_Game_goOrHit_58 (by decide) ?_
      refine lv_icmp_ne (tgt := 73) hx hb d_Game_goOrHit_60 (by decide) (fun c9 => ?_) (fun c9 => ?_)
      · have hf := ie c9 hf
        exact rt _ H locs 73 ls hf h d_Game_goOrHit_73
      · have hf := it c9 hf
        refine lv_aload_n hx hb d_Game_goOrHit_63 rfl (lv_at hl 0 rfl) ?_
        refine G_game_monsters X h m_f_Game_39 d_Game_goOrHit_64 ?_
        refine G_monsters_place X h m_f_Game_202 d_Game_goOrHit_67 ?_
        refine lv_iload_n hx hb d_Game_goOrHit_70 rfl (lv_at hl 1 rfl) ?_
        refine lv_iload_n hx hb d_Game_goOrHit_71 rfl (lv_at hl 2 rfl) ?_
        obtain ⟨g10, hf⟩ := gd_s hf
        refine S_place X h (inb_s g10) d_Game_goOrHit_72 (fun H locs σ11 eσ11 h => ?_)
        have hf := nm_b hf eσ11
        exact rt _ H locs 73 ls hf h d_Game_goOrHit_73
  · have hf := it c1 hf
    refine lv_aload_n hx hb d_Game_goOrHit_11 rfl (lv_at hl 0 rfl) ?_
    refine G_game_hero X h m_f_Game_53 d_Game_goOrHit_12 ?_
    refine lv_dup hx hb d_Game_goOrHit_15 rfl ?_
    refine G_hero_health X h m_f_Game_155 d_Game_goOrHit_16 ?_
    refine Z_HIT_OF X hZ h m_f_Game_222 d_Game_goOrHit_19 ?_
    refine lv_aload_n hx hb d_Game_goOrHit_22 rfl (lv_at hl 0 rfl) ?_
    refine G_game_monsters X h m_f_Game_39 d_Game_goOrHit_23 ?_
    refine G_monsters_kind X h m_f_Game_196 d_Game_goOrHit_26 ?_
    refine lv_iload_n hx hb d_Game_goOrHit_29 rfl (lv_at hl 1 rfl) ?_
    obtain ⟨g12, hf⟩ := gd_s hf
    refine R_kind X h (inb_s g12) d_Game_goOrHit_30 ?_
    obtain ⟨g13, hf⟩ := gd_s hf
    refine U_HIT_OF X hZ h (inb_s g13) d_Game_goOrHit_31 ?_
    refine lv_isub hx hb d_Game_goOrHit_32 ?_
    refine P_hero_health X h m_f_Game_155 d_Game_goOrHit_33 (fun H locs σ14 eσ14 h => ?_)
    have hf := nm_b hf eσ14
    refine lv_goto (tgt := 73) hx hb d_Game_goOrHit_36 (by decide) ?_
    exact rt _ H locs 73 ls hf h d_Game_goOrHit_73

