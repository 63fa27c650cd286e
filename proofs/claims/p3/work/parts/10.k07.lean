theorem d_Game_act_0 : decode b_Game_act 0 = .ok (.aload_n 0, 1) := by decide +kernel
theorem d_Game_act_1 : decode b_Game_act 1 = .ok (.getfield 39, 3) := by decide +kernel
theorem d_Game_act_4 : decode b_Game_act 4 = .ok (.getfield 196, 3) := by decide +kernel
theorem d_Game_act_7 : decode b_Game_act 7 = .ok (.iload_n 1, 1) := by decide +kernel
theorem d_Game_act_8 : decode b_Game_act 8 = .ok (.iaload, 1) := by decide +kernel
theorem d_Game_act_9 : decode b_Game_act 9 = .ok (.istore_n 2, 1) := by decide +kernel
theorem d_Game_act_10 : decode b_Game_act 10 = .ok (.aload_n 0, 1) := by decide +kernel
theorem d_Game_act_11 : decode b_Game_act 11 = .ok (.getfield 39, 3) := by decide +kernel
theorem d_Game_act_14 : decode b_Game_act 14 = .ok (.getfield 202, 3) := by decide +kernel
theorem d_Game_act_17 : decode b_Game_act 17 = .ok (.iload_n 1, 1) := by decide +kernel
theorem d_Game_act_18 : decode b_Game_act 18 = .ok (.iaload, 1) := by decide +kernel
theorem d_Game_act_19 : decode b_Game_act 19 = .ok (.istore_n 3, 1) := by decide +kernel
theorem d_Game_act_20 : decode b_Game_act 20 = .ok (.aload_n 0, 1) := by decide +kernel
theorem d_Game_act_21 : decode b_Game_act 21 = .ok (.getfield 39, 3) := by decide +kernel
theorem d_Game_act_24 : decode b_Game_act 24 = .ok (.getfield 204, 3) := by decide +kernel
theorem d_Game_act_27 : decode b_Game_act 27 = .ok (.iload_n 1, 1) := by decide +kernel
theorem d_Game_act_28 : decode b_Game_act 28 = .ok (.iaload, 1) := by decide +kernel
theorem d_Game_act_29 : decode b_Game_act 29 = .ok (.ifCond .ne 38, 3) := by decide +kernel
theorem d_Game_act_32 : decode b_Game_act 32 = .ok (.aload_n 0, 1) := by decide +kernel
theorem d_Game_act_33 : decode b_Game_act 33 = .ok (.getfield 39, 3) := by decide +kernel
theorem d_Game_act_36 : decode b_Game_act 36 = .ok (.getfield 204, 3) := by decide +kernel
theorem d_Game_act_39 : decode b_Game_act 39 = .ok (.iload_n 1, 1) := by decide +kernel
theorem d_Game_act_40 : decode b_Game_act 40 = .ok (.aload_n 0, 1) := by decide +kernel
theorem d_Game_act_41 : decode b_Game_act 41 = .ok (.getfield 32, 3) := by decide +kernel
theorem d_Game_act_44 : decode b_Game_act 44 = .ok (.iload_n 3, 1) := by decide +kernel
theorem d_Game_act_45 : decode b_Game_act 45 = .ok (.aload_n 0, 1) := by decide +kernel
theorem d_Game_act_46 : decode b_Game_act 46 = .ok (.getfield 53, 3) := by decide +kernel
theorem d_Game_act_49 : decode b_Game_act 49 = .ok (.getfield 109, 3) := by decide +kernel
theorem d_Game_act_52 : decode b_Game_act 52 = .ok (.invokevirtual 207, 3) := by decide +kernel
theorem d_Game_act_55 : decode b_Game_act 55 = .ok (.ifCond .eq 7, 3) := by decide +kernel
theorem d_Game_act_58 : decode b_Game_act 58 = .ok (.iconst 1, 1) := by decide +kernel
theorem d_Game_act_59 : decode b_Game_act 59 = .ok (.goto 4, 3) := by decide +kernel
theorem d_Game_act_62 : decode b_Game_act 62 = .ok (.iconst 0, 1) := by decide +kernel
theorem d_Game_act_63 : decode b_Game_act 63 = .ok (.iastore, 1) := by decide +kernel
theorem d_Game_act_64 : decode b_Game_act 64 = .ok (.goto 71, 3) := by decide +kernel
theorem d_Game_act_67 : decode b_Game_act 67 = .ok (.iload_n 2, 1) := by decide +kernel
theorem d_Game_act_68 : decode b_Game_act 68 = .ok (.iconst 2, 1) := by decide +kernel
theorem d_Game_act_69 : decode b_Game_act 69 = .ok (.if_icmp .ne 23, 3) := by decide +kernel
theorem d_Game_act_72 : decode b_Game_act 72 = .ok (.aload_n 0, 1) := by decide +kernel
theorem d_Game_act_73 : decode b_Game_act 73 = .ok (.iload_n 1, 1) := by decide +kernel
theorem d_Game_act_74 : decode b_Game_act 74 = .ok (.iload_n 3, 1) := by decide +kernel
theorem d_Game_act_75 : decode b_Game_act 75 = .ok (.aload_n 0, 1) := by decide +kernel
theorem d_Game_act_76 : decode b_Game_act 76 = .ok (.getfield 18, 3) := by decide +kernel
theorem d_Game_act_79 : decode b_Game_act 79 = .ok (.iconst 4, 1) := by decide +kernel
theorem d_Game_act_80 : decode b_Game_act 80 = .ok (.invokevirtual 172, 3) := by decide +kernel
theorem d_Game_act_83 : decode b_Game_act 83 = .ok (.invokestatic 112, 3) := by decide +kernel
theorem d_Game_act_86 : decode b_Game_act 86 = .ok (.invokevirtual 210, 3) := by decide +kernel
theorem d_Game_act_89 : decode b_Game_act 89 = .ok (.goto 46, 3) := by decide +kernel
theorem d_Game_act_92 : decode b_Game_act 92 = .ok (.iload_n 2, 1) := by decide +kernel
theorem d_Game_act_93 : decode b_Game_act 93 = .ok (.iconst 1, 1) := by decide +kernel
theorem d_Game_act_94 : decode b_Game_act 94 = .ok (.if_icmp .ne 30, 3) := by decide +kernel
theorem d_Game_act_97 : decode b_Game_act 97 = .ok (.aload_n 0, 1) := by decide +kernel
theorem d_Game_act_98 : decode b_Game_act 98 = .ok (.getfield 39, 3) := by decide +kernel
theorem d_Game_act_101 : decode b_Game_act 101 = .ok (.getfield 214, 3) := by decide +kernel
theorem d_Game_act_104 : decode b_Game_act 104 = .ok (.iload_n 1, 1) := by decide +kernel
theorem d_Game_act_105 : decode b_Game_act 105 = .ok (.iaload, 1) := by decide +kernel
theorem d_Game_act_106 : decode b_Game_act 106 = .ok (.iconst 2, 1) := by decide +kernel
theorem d_Game_act_107 : decode b_Game_act 107 = .ok (.if_icmp .gt 17, 3) := by decide +kernel
theorem d_Game_act_110 : decode b_Game_act 110 = .ok (.aload_n 0, 1) := by decide +kernel
theorem d_Game_act_111 : decode b_Game_act 111 = .ok (.iload_n 1, 1) := by decide +kernel
theorem d_Game_act_112 : decode b_Game_act 112 = .ok (.aload_n 0, 1) := by decide +kernel
theorem d_Game_act_113 : decode b_Game_act 113 = .ok (.iload_n 3, 1) := by decide +kernel
theorem d_Game_act_114 : decode b_Game_act 114 = .ok (.iconst (-1), 1) := by decide +kernel
theorem d_Game_act_115 : decode b_Game_act 115 = .ok (.invokevirtual 216, 3) := by decide +kernel
theorem d_Game_act_118 : decode b_Game_act 118 = .ok (.invokevirtual 210, 3) := by decide +kernel
theorem d_Game_act_121 : decode b_Game_act 121 = .ok (.goto 14, 3) := by decide +kernel
theorem d_Game_act_124 : decode b_Game_act 124 = .ok (.aload_n 0, 1) := by decide +kernel
theorem d_Game_act_125 : decode b_Game_act 125 = .ok (.iload_n 1, 1) := by decide +kernel
theorem d_Game_act_126 : decode b_Game_act 126 = .ok (.aload_n 0, 1) := by decide +kernel
theorem d_Game_act_127 : decode b_Game_act 127 = .ok (.iload_n 3, 1) := by decide +kernel
theorem d_Game_act_128 : decode b_Game_act 128 = .ok (.iconst 1, 1) := by decide +kernel
theorem d_Game_act_129 : decode b_Game_act 129 = .ok (.invokevirtual 216, 3) := by decide +kernel
theorem d_Game_act_132 : decode b_Game_act 132 = .ok (.invokevirtual 210, 3) := by decide +kernel
theorem d_Game_act_135 : decode b_Game_act 135 = .ok (.return_, 1) := by decide +kernel
def f_Game_act_63 (n : Nat) (s0 : Int32) (s1 : Int32) (σ : St) : Option (Unit × St) := gd (inb s1 5) (bnd (sA σ 8 s1.toNatClampNeg s0) (fun σ31 => some ((), σ31)))
def f_Game_act_124 (n : Nat) (y1 : Int32) (y3 : Int32) (σ : St) : Option (Unit × St) := bd (f_Game_bestStep n y3 1 σ) (fun r32 σ33 => bd (f_Game_goOrHit n y1 r32 σ33) (fun _ σ36 => some ((), σ36)))
def f_Game_act (n : Nat) (x1 : Int32) (σ : St) : Option (Unit × St) := gd (inb x1 5) (bnd (σ.2.2 4 x1.toNatClampNeg) (fun v2 => gd (inb x1 5) (bnd (σ.2.2 5 x1.toNatClampNeg) (fun v4 => gd (inb x1 5) (if (σ.2.2 8 x1.toNatClampNeg) = 0 then (bd (f_Level_inSight n v4 (σ.1 9) σ) (fun r26 σ27 => if r26 = 0 then (f_Game_act_63 n 0 x1 σ27) else (f_Game_act_63 n 1 x1 σ27))) else (if v2 = 2 then (bd (f_Draws_draw_play n 4 σ) (fun r17 σ18 => bd (f_Level_neighbour n v4 r17 σ18) (fun r20 σ21 => bd (f_Game_goOrHit n x1 r20 σ21) (fun _ σ24 => some ((), σ24))))) else (if v2 = 1 then (gd (inb x1 5) (if 2 < (σ.2.2 6 x1.toNatClampNeg) then (f_Game_act_124 n x1 v4 σ) else (bd (f_Game_bestStep n v4 (-1) σ) (fun r11 σ12 => bd (f_Game_goOrHit n x1 r11 σ12) (fun _ σ15 => some ((), σ15)))))) else (f_Game_act_124 n x1 v4 σ))))))))
set_option maxHeartbeats 4000000 in
set_option maxRecDepth 100000 in
theorem c_Game_act (l : Launch) (D : va_G) (ad : Nat → Nat) (cA : Nat → ClassId) (tz : Nat → Nat) (n : Nat) (x1 : Int32) (σ : St) (r : Unit) (σr : St) (hf : f_Game_act n x1 σ = some (r, σr)) : Kv l D cA tz (wl ad cA) y_Game_act (.code y_Game_act b_Game_act 4 none :: TB) ({ frames := 2, cells := 0, slots := 0, locals := 53 }) [.ref (ad 1), .int x1] σ σr := by
  refine x_openv (r := r) (own := R_Game) rfl (by decide) (fun p e s m args below meth c A Q X hml hZ hA H locs ls h hl rt => ?_)
  have hx := X.1
  have hb := X.2.1
  have hl : lv_has ls 4 [(0, .ref (ad 1)), (1, .int x1)] := hl
  have L63 : ∀ (s0 : Int32) (s1 : Int32) (σ : St), f_Game_act_63 n s0 s1 σ = some (r, σr) → ∀ (H : Heap) (locs : List Loc) (ls : Array Slot), WD D A s (wl ad cA σ) H locs → lv_has ls 4 [] → W p l e ({ frames := 2, cells := 0, slots := 0, locals := 53 }) s m args below meth c H locs 0 0 Q (F0 m 63 ls [.int s0, .int s1, .ref (ad 17)]) := by
    intro s0 s1 σ hf H locs ls h hl
    unfold f_Game_act_63 at hf
    obtain ⟨g30, hf⟩ := gd_s hf
    refine S_awake X h (inb_s g30) d_Game_act_63 (fun H locs σ31 eσ31 h => ?_)
    have hf := nm_b hf eσ31
    refine lv_goto (tgt := 135) hx hb d_Game_act_64 (by decide) ?_
    exact rt _ H locs 135 ls hf h d_Game_act_135
  have L124 : ∀ (y1 : Int32) (y3 : Int32) (σ : St), f_Game_act_124 n y1 y3 σ = some (r, σr) → ∀ (H : Heap) (locs : List Loc) (ls : Array Slot), WD D A s (wl ad cA σ) H locs → lv_has ls 4 [(0, .ref (ad 1)), (1, .int y1), (3, .int y3)] → W p l e ({ frames := 2, cells := 0, slots := 0, locals := 53 }) s m args below meth c H locs 0 0 Q (F0 m 124 ls []) := by
    intro y1 y3 σ hf H locs ls h hl
    unfold f_Game_act_124 at hf
    refine lv_aload_n hx hb d_Game_act_124 rfl (lv_at hl 0 rfl) ?_
    refine lv_iload_n hx hb d_Game_act_125 rfl (lv_at hl 1 rfl) ?_
    refine lv_aload_n hx hb d_Game_act_126 rfl (lv_at hl 0 rfl) ?_
    refine lv_iload_n hx hb d_Game_act_127 rfl (lv_at hl 2 rfl) ?_
    refine lv_iconst (v := 1) hx hb d_Game_act_128 (by decide) ?_
    obtain ⟨r32, σ33, h34, hf⟩ := bd_s hf
    refine x_Vi (As := [.int y3, .int 1]) (rest := [.int y1, .ref (ad 1)]) X hml hl.1 hZ hA h (c_Game_bestStep l D ad cA tz n y3 1 σ r32 σ33 h34) k_Game_bestStep m_m_Game_216 kd_Game_bestStep ⟨rfl, rfl, Nat.le_of_ble_eq_true rfl, Nat.le_of_ble_eq_true rfl⟩ 1 rfl rfl rfl rfl rfl (Nat.le_of_ble_eq_true rfl) d_Game_act_129 (fun H locs h => ?_)
    obtain ⟨r35, σ36, h37, hf⟩ := bd_s hf
    refine x_Vv (As := [.int y1, .int r32]) (rest := []) X hml hl.1 hZ hA h (c_Game_goOrHit l D ad cA tz n y1 r32 σ33 r35 σ36 h37) k_Game_goOrHit m_m_Game_210 kd_Game_goOrHit ⟨rfl, rfl, Nat.le_of_ble_eq_true rfl, Nat.le_of_ble_eq_true rfl⟩ 1 rfl rfl rfl rfl rfl (Nat.le_of_ble_eq_true rfl) d_Game_act_132 (fun H locs h => ?_)
    exact rt _ H locs 135 ls hf h d_Game_act_135
  unfold f_Game_act at hf
  refine lv_aload_n hx hb d_Game_act_0 rfl (lv_at hl 0 rfl) ?_
  refine G_game_monsters X h m_f_Game_39 d_Game_act_1 ?_
  refine G_monsters_kind X h m_f_Game_196 d_Game_act_4 ?_
  refine lv_iload_n hx hb d_Game_act_7 rfl (lv_at hl 1 rfl) ?_
  obtain ⟨g1, hf⟩ := gd_s hf
  refine R_kind X h (inb_s g1) d_Game_act_8 ?_
  refine lv_topi (fun v2 ev2 => ?_)
  have hf := nm_b hf ev2
  refine lv_istore_n (lv' := [(2, .int v2), (0, .ref (ad 1)), (1, .int x1)]) hx hb d_Game_act_9 rfl hl (by decide) rfl (fun ls hl => ?_)
  refine lv_aload_n hx hb d_Game_act_10 rfl (lv_at hl 1 rfl) ?_
  refine G_game_monsters X h m_f_Game_39 d_Game_act_11 ?_
  refine G_monsters_place X h m_f_Game_202 d_Game_act_14 ?_
  refine lv_iload_n hx hb d_Game_act_17 rfl (lv_at hl 2 rfl) ?_
  obtain ⟨g3, hf⟩ := gd_s hf
  refine R_place X h (inb_s g3) d_Game_act_18 ?_
  refine lv_topi (fun v4 ev4 => ?_)
  have hf := nm_b hf ev4
  refine lv_istore_n (lv' := [(3, .int v4), (2, .int v2), (0, .ref (ad 1)), (1, .int x1)]) hx hb d_Game_act_19 rfl hl (by decide) rfl (fun ls hl => ?_)
  refine lv_aload_n hx hb d_Game_act_20 rfl (lv_at hl 2 rfl) ?_
  refine G_game_monsters X h m_f_Game_39 d_Game_act_21 ?_
  refine G_monsters_awake X h m_f_Game_204 d_Game_act_24 ?_
  refine lv_iload_n hx hb d_Game_act_27 rfl (lv_at hl 3 rfl) ?_
  obtain ⟨g5, hf⟩ := gd_s hf
  refine R_awake X h (inb_s g5) d_Game_act_28 ?_
  refine lv_if_ne (tgt := 67) hx hb d_Game_act_29 (by decide) (fun c6 => ?_) (fun c6 => ?_)
  · have hf := ie c6 hf
    refine lv_iload_n hx hb d_Game_act_67 rfl (lv_at hl 1 rfl) ?_
    refine lv_iconst (v := 2) hx hb d_Game_act_68 (by decide) ?_
    refine lv_icmp_ne (tgt := 92) hx hb d_Game_act_69 (by decide) (fun c7 => ?_) (fun c7 => ?_)
    · have hf := ie c7 hf
      refine lv_iload_n hx hb d_Game_act_92 rfl (lv_at hl 1 rfl) ?_
      refine lv_iconst (v := 1) hx hb d_Game_act_93 (by decide) ?_
      refine lv_icmp_ne (tgt := 124) hx hb d_Game_act_94 (by decide) (fun c8 => ?_) (fun c8 => ?_)
      · have hf := ie c8 hf
        exact L124 x1 v4 σ hf H locs ls h (lv_sub hl [2, 3, 0] rfl)
      · have hf := it c8 hf
        refine lv_aload_n hx hb d_Game_act_97 rfl (lv_at hl 2 rfl) ?_
        refine G_game_monsters X h m_f_Game_39 d_Game_act_98 ?_
        refine G_monsters_health X h m_f_Game_214 d_Game_act_101 ?_
        refine lv_iload_n hx hb d_Game_act_104 rfl (lv_at hl 3 rfl) ?_
        obtain ⟨g9, hf⟩ := gd_s hf
        refine R_health X h (inb_s g9) d_Game_act_105 ?_
        refine lv_iconst (v := 2) hx hb d_Game_act_106 (by decide) ?_
        refine lv_icmp_gt (tgt := 124) hx hb d_Game_act_107 (by decide) (fun c10 => ?_) (fun c10 => ?_)
        · have hf := it c10 hf
          exact L124 x1 v4 σ hf H locs ls h (lv_sub hl [2, 3, 0] rfl)
        · have hf := ie c10 hf
          refine lv_aload_n hx hb d_Game_act_110 rfl (lv_at hl 2 rfl) ?_
          refine lv_iload_n hx hb d_Game_act_111 rfl (lv_at hl 3 rfl) ?_
          refine lv_aload_n hx hb d_Game_act_112 rfl (lv_at hl 2 rfl) ?_
          refine lv_iload_n hx hb d_Game_act_113 rfl (lv_at hl 0 rfl) ?_
          refine lv_iconst (v := (-1)) hx hb d_Game_act_114 (by decide) ?_
          obtain ⟨r11, σ12, h13, hf⟩ := bd_s hf
          refine x_Vi (As := [.int v4, .int (-1)]) (rest := [.int x1, .ref (ad 1)]) X hml hl.1 hZ hA h (c_Game_bestStep l D ad cA tz n v4 (-1) σ r11 σ12 h13) k_Game_bestStep m_m_Game_216 kd_Game_bestStep ⟨rfl, rfl, Nat.le_of_ble_eq_true rfl, Nat.le_of_ble_eq_true rfl⟩ 1 rfl rfl rfl rfl rfl (Nat.le_of_ble_eq_true rfl) d_Game_act_115 (fun H locs h => ?_)
          obtain ⟨r14, σ15, h16, hf⟩ := bd_s hf
          refine x_Vv (As := [.int x1, .int r11]) (rest := []) X hml hl.1 hZ hA h (c_Game_goOrHit l D ad cA tz n x1 r11 σ12 r14 σ15 h16) k_Game_goOrHit m_m_Game_210 kd_Game_goOrHit ⟨rfl, rfl, Nat.le_of_ble_eq_true rfl, Nat.le_of_ble_eq_true rfl⟩ 1 rfl rfl rfl rfl rfl (Nat.le_of_ble_eq_true rfl) d_Game_act_118 (fun H locs h => ?_)
          refine lv_goto (tgt := 135) hx hb d_Game_act_121 (by decide) ?_
          exact rt _ H locs 135 ls hf h d_Game_act_135
    · have hf := it c7 hf
      refine lv_aload_n hx hb d_Game_act_72 rfl (lv_at hl 2 rfl) ?_
      refine lv_iload_n hx hb d_Game_act_73 rfl (lv_at hl 3 rfl) ?_
      refine lv_iload_n hx hb d_Game_act_74 rfl (lv_at hl 0 rfl) ?_
      refine lv_aload_n hx hb d_Game_act_75 rfl (lv_at hl 2 rfl) ?_
      refine G_game_play X h m_f_Game_18 d_Game_act_76 ?_
      refine lv_iconst (v := 4) hx hb d_Game_act_79 (by decide) ?_
      obtain ⟨r17, σ18, h19, hf⟩ := bd_s hf
      refine x_Vi (As := [.int 4]) (rest := [.int v4, .int x1, .ref (ad 1)]) X hml hl.1 hZ hA h (c_Draws_draw_play l D ad cA tz n 4 σ r17 σ18 h19) k_Draws_draw m_m_Game_172 kd_Draws_draw ⟨rfl, rfl, Nat.le_of_ble_eq_true rfl, Nat.le_of_ble_eq_true rfl⟩ 2 rfl rfl rfl rfl rfl (Nat.le_of_ble_eq_true rfl) d_Game_act_80 (fun H locs h => ?_)
      obtain ⟨r20, σ21, h22, hf⟩ := bd_s hf
      refine x_Si (As := [.int v4, .int r17]) (rest := [.int x1, .ref (ad 1)]) X hml hl.1 hZ hA h (c_Level_neighbour l D ad cA tz n v4 r17 σ18 r20 σ21 h22) k_Level_neighbour m_m_Game_112 kd_Level_neighbour ⟨rfl, rfl, Nat.le_of_ble_eq_true rfl, Nat.le_of_ble_eq_true rfl⟩ rfl rfl (Nat.le_of_ble_eq_true rfl) d_Game_act_83 (fun H locs h => ?_)
      obtain ⟨r23, σ24, h25, hf⟩ := bd_s hf
      refine x_Vv (As := [.int x1, .int r20]) (rest := []) X hml hl.1 hZ hA h (c_Game_goOrHit l D ad cA tz n x1 r20 σ21 r23 σ24 h25) k_Game_goOrHit m_m_Game_210 kd_Game_goOrHit ⟨rfl, rfl, Nat.le_of_ble_eq_true rfl, Nat.le_of_ble_eq_true rfl⟩ 1 rfl rfl rfl rfl rfl (Nat.le_of_ble_eq_true rfl) d_Game_act_86 (fun H locs h => ?_)
      refine lv_goto (tgt := 135) hx hb d_Game_act_89 (by decide) ?_
      exact rt _ H locs 135 ls hf h d_Game_act_135
  · have hf := it c6 hf
    refine lv_aload_n hx hb d_Game_act_32 rfl (lv_at hl 2 rfl) ?_
    refine G_game_monsters X h m_f_Game_39 d_Game_act_33 ?_
    refine G_monsters_awake X h m_f_Game_204 d_Game_act_36 ?_
    refine lv_iload_n hx hb d_Game_act_39 rfl (lv_at hl 3 rfl) ?_
    refine lv_aload_n hx hb d_Game_act_40 rfl (lv_at hl 2 rfl) ?_
    refine G_game_level X h m_f_Game_32 d_Game_act_41 ?_
    refine lv_iload_n hx hb d_Game_act_44 rfl (lv_at hl 0 rfl) ?_
    refine lv_aload_n hx hb d_Game_act_45 rfl (lv_at hl 2 rfl) ?_
    refine G_game_hero X h m_f_Game_53 d_Game_act_46 ?_
    refine G_hero_place X h m_f_Game_109 d_Game_act_49 ?_
    obtain ⟨r26, σ27, h28, hf⟩ := bd_s hf
    refine x_Vi (As := [.int v4, .int (σ.1 9)]) (rest := [.int x1, .ref (ad 17)]) X hml hl.1 hZ hA h (c_Level_inSight l D ad cA tz n v4 (σ.1 9) σ r26 σ27 h28) k_Level_inSight m_m_Game_207 kd_Level_inSight ⟨rfl, rfl, Nat.le_of_ble_eq_true rfl, Nat.le_of_ble_eq_true rfl⟩ 5 rfl rfl rfl rfl rfl (Nat.le_of_ble_eq_true rfl) d_Game_act_52 (fun H locs h => ?_)
    refine lv_if_eq (tgt := 62) hx hb d_Game_act_55 (by decide) (fun c29 => ?_) (fun c29 => ?_)
    · have hf := it c29 hf
      refine lv_iconst (v := 0) hx hb d_Game_act_62 (by decide) ?_
      exact L63 0 x1 σ27 hf H locs ls h (lv_sub hl [] rfl)
    · have hf := ie c29 hf
      refine lv_iconst (v := 1) hx hb d_Game_act_58 (by decide) ?_
      refine lv_goto (tgt := 63) hx hb d_Game_act_59 (by decide) ?_
      exact L63 1 x1 σ27 hf H locs ls h (lv_sub hl [] rfl)
theorem d_Game_takeTurns_0 : decode b_Game_takeTurns 0 = .ok (.aload_n 0, 1) := by decide +kernel
theorem d_Game_takeTurns_1 : decode b_Game_takeTurns 1 = .ok (.getfield 39, 3) := by decide +kernel
theorem d_Game_takeTurns_4 : decode b_Game_takeTurns 4 = .ok (.iload_n 1, 1) := by decide +kernel
theorem d_Game_takeTurns_5 : decode b_Game_takeTurns 5 = .ok (.invokevirtual 187, 3) := by decide +kernel
theorem d_Game_takeTurns_8 : decode b_Game_takeTurns 8 = .ok (.ifCond .ne 4, 3) := by decide +kernel
theorem d_Game_takeTurns_11 : decode b_Game_takeTurns 11 = .ok (.return_, 1) := by decide +kernel
theorem d_Game_takeTurns_12 : decode b_Game_takeTurns 12 = .ok (.aload_n 0, 1) := by decide +kernel
theorem d_Game_takeTurns_13 : decode b_Game_takeTurns 13 = .ok (.getfield 39, 3) := by decide +kernel
theorem d_Game_takeTurns_16 : decode b_Game_takeTurns 16 = .ok (.getfield 190, 3) := by decide +kernel
theorem d_Game_takeTurns_19 : decode b_Game_takeTurns 19 = .ok (.iload_n 1, 1) := by decide +kernel
theorem d_Game_takeTurns_20 : decode b_Game_takeTurns 20 = .ok (.dup2, 1) := by decide +kernel
theorem d_Game_takeTurns_21 : decode b_Game_takeTurns 21 = .ok (.iaload, 1) := by decide +kernel
theorem d_Game_takeTurns_22 : decode b_Game_takeTurns 22 = .ok (.getstatic 193, 3) := by decide +kernel
theorem d_Game_takeTurns_25 : decode b_Game_takeTurns 25 = .ok (.aload_n 0, 1) := by decide +kernel
theorem d_Game_takeTurns_26 : decode b_Game_takeTurns 26 = .ok (.getfield 39, 3) := by decide +kernel
theorem d_Game_takeTurns_29 : decode b_Game_takeTurns 29 = .ok (.getfield 196, 3) := by decide +kernel
theorem d_Game_takeTurns_32 : decode b_Game_takeTurns 32 = .ok (.iload_n 1, 1) := by decide +kernel
theorem d_Game_takeTurns_33 : decode b_Game_takeTurns 33 = .ok (.iaload, 1) := by decide +kernel
theorem d_Game_takeTurns_34 : decode b_Game_takeTurns 34 = .ok (.iaload, 1) := by decide +kernel
theorem d_Game_takeTurns_35 : decode b_Game_takeTurns 35 = .ok (.iadd, 1) := by decide +kernel
theorem d_Game_takeTurns_36 : decode b_Game_takeTurns 36 = .ok (.iastore, 1) := by decide +kernel
theorem d_Game_takeTurns_37 : decode b_Game_takeTurns 37 = .ok (.iconst 0, 1) := by decide +kernel
theorem d_Game_takeTurns_38 : decode b_Game_takeTurns 38 = .ok (.istore_n 2, 1) := by decide +kernel
theorem d_Game_takeTurns_39 : decode b_Game_takeTurns 39 = .ok (.iload_n 2, 1) := by decide +kernel
theorem d_Game_takeTurns_40 : decode b_Game_takeTurns 40 = .ok (.sipush 1000, 3) := by decide +kernel
theorem d_Game_takeTurns_43 : decode b_Game_takeTurns 43 = .ok (.if_icmp .ge 52, 3) := by decide +kernel
theorem d_Game_takeTurns_46 : decode b_Game_takeTurns 46 = .ok (.aload_n 0, 1) := by decide +kernel
theorem d_Game_takeTurns_47 : decode b_Game_takeTurns 47 = .ok (.getfield 39, 3) := by decide +kernel
theorem d_Game_takeTurns_50 : decode b_Game_takeTurns 50 = .ok (.getfield 190, 3) := by decide +kernel
theorem d_Game_takeTurns_53 : decode b_Game_takeTurns 53 = .ok (.iload_n 1, 1) := by decide +kernel
theorem d_Game_takeTurns_54 : decode b_Game_takeTurns 54 = .ok (.iaload, 1) := by decide +kernel
theorem d_Game_takeTurns_55 : decode b_Game_takeTurns 55 = .ok (.bipush 10, 2) := by decide +kernel
theorem d_Game_takeTurns_57 : decode b_Game_takeTurns 57 = .ok (.if_icmp .lt 38, 3) := by decide +kernel
theorem d_Game_takeTurns_60 : decode b_Game_takeTurns 60 = .ok (.aload_n 0, 1) := by decide +kernel
theorem d_Game_takeTurns_61 : decode b_Game_takeTurns 61 = .ok (.getfield 53, 3) := by decide +kernel
theorem d_Game_takeTurns_64 : decode b_Game_takeTurns 64 = .ok (.invokevirtual 88, 3) := by decide +kernel
theorem d_Game_takeTurns_67 : decode b_Game_takeTurns 67 = .ok (.ifCond .ne 28, 3) := by decide +kernel
theorem d_Game_takeTurns_70 : decode b_Game_takeTurns 70 = .ok (.aload_n 0, 1) := by decide +kernel
theorem d_Game_takeTurns_71 : decode b_Game_takeTurns 71 = .ok (.getfield 39, 3) := by decide +kernel
theorem d_Game_takeTurns_74 : decode b_Game_takeTurns 74 = .ok (.getfield 190, 3) := by decide +kernel
theorem d_Game_takeTurns_77 : decode b_Game_takeTurns 77 = .ok (.iload_n 1, 1) := by decide +kernel
theorem d_Game_takeTurns_78 : decode b_Game_takeTurns 78 = .ok (.dup2, 1) := by decide +kernel
theorem d_Game_takeTurns_79 : decode b_Game_takeTurns 79 = .ok (.iaload, 1) := by decide +kernel
theorem d_Game_takeTurns_80 : decode b_Game_takeTurns 80 = .ok (.bipush 10, 2) := by decide +kernel
theorem d_Game_takeTurns_82 : decode b_Game_takeTurns 82 = .ok (.isub, 1) := by decide +kernel
theorem d_Game_takeTurns_83 : decode b_Game_takeTurns 83 = .ok (.iastore, 1) := by decide +kernel
theorem d_Game_takeTurns_84 : decode b_Game_takeTurns 84 = .ok (.aload_n 0, 1) := by decide +kernel
theorem d_Game_takeTurns_85 : decode b_Game_takeTurns 85 = .ok (.iload_n 1, 1) := by decide +kernel
theorem d_Game_takeTurns_86 : decode b_Game_takeTurns 86 = .ok (.invokevirtual 199, 3) := by decide +kernel
theorem d_Game_takeTurns_89 : decode b_Game_takeTurns 89 = .ok (.iinc 2 1, 3) := by decide +kernel
theorem d_Game_takeTurns_92 : decode b_Game_takeTurns 92 = .ok (.goto (-53), 3) := by decide +kernel
theorem d_Game_takeTurns_95 : decode b_Game_takeTurns 95 = .ok (.return_, 1) := by decide +kernel
def f_Game_takeTurns_39 (n : Nat) : Nat → Int32 → Int32 → St → Option (Unit × St)
  | 0, _, _, _ => none
  | j + 1, y1, y2, σ => if 1000 ≤ y2 then (some ((), σ)) else (gd (inb y1 5) (if (σ.2.2 7 y1.toNatClampNeg) < 10 then (some ((), σ)) else (bd (f_Hero_isDead n σ) (fun r13 σ14 => if r13 = 0 then (gd (inb y1 5) (gd (inb y1 5) (bnd (sA σ14 7 y1.toNatClampNeg ((σ14.2.2 7 y1.toNatClampNeg) - 10)) (fun σ19 => bd (f_Game_act n y1 σ19) (fun _ σ21 => bnd (y2 + 1) (fun v23 => f_Game_takeTurns_39 n j y1 v23 σ21)))))) else (some ((), σ14))))))
theorem f_Game_takeTurns_39_s (n : Nat) (j : Nat) (y1 : Int32) (y2 : Int32) (σ : St) : f_Game_takeTurns_39 n (j + 1) y1 y2 σ = (if 1000 ≤ y2 then (some ((), σ)) else (gd (inb y1 5) (if (σ.2.2 7 y1.toNatClampNeg) < 10 then (some ((), σ)) else (bd (f_Hero_isDead n σ) (fun r13 σ14 => if r13 = 0 then (gd (inb y1 5) (gd (inb y1 5) (bnd (sA σ14 7 y1.toNatClampNeg ((σ14.2.2 7 y1.toNatClampNeg) - 10)) (fun σ19 => bd (f_Game_act n y1 σ19) (fun _ σ21 => bnd (y2 + 1) (fun v23 => f_Game_takeTurns_39 n j y1 v23 σ21)))))) else (some ((), σ14))))))) := rfl
def f_Game_takeTurns (n : Nat) (x1 : Int32) (σ : St) : Option (Unit × St) := bd (f_Monsters_isThere n x1 σ) (fun r1 σ2 => if r1 = 0 then (some ((), σ2)) else (gd (inb x1 5) (gd (inb x1 5) (gd (inb (σ2.2.2 4 x1.toNatClampNeg) 3) (gd (inb x1 5) (bnd (sA σ2 7 x1.toNatClampNeg ((σ2.2.2 7 x1.toNatClampNeg) + (tb_SPEED_OF (σ2.2.2 4 x1.toNatClampNeg).toNatClampNeg))) (fun σ9 => f_Game_takeTurns_39 n n x1 0 σ9)))))))
set_option maxHeartbeats 4000000 in
set_option maxRecDepth 100000 in
theorem c_Game_takeTurns (l : Launch) (D : va_G) (ad : Nat → Nat) (cA : Nat → ClassId) (tz : Nat → Nat) (n : Nat) (x1 : Int32) (σ : St) (r : Unit) (σr : St) (hf : f_Game_takeTurns n x1 σ = some (r, σr)) : Kv l D cA tz (wl ad cA) y_Game_takeTurns (.code y_Game_takeTurns b_Game_takeTurns 3 none :: TB) ({ frames := 3, cells := 0, slots := 0, locals := 76 }) [.ref (ad 1), .int x1] σ σr := by
  refine x_openv (r := r) (own := R_Game) rfl (by decide) (fun p e s m args below meth c A Q X hml hZ hA H locs ls h hl rt => ?_)
  have hx := X.1
  have hb := X.2.1
  have hl : lv_has ls 3 [(0, .ref (ad 1)), (1, .int x1)] := hl
  have L39 : ∀ j : Nat, ∀ (y1 : Int32) (y2 : Int32) (σ : St), f_Game_takeTurns_39 n j y1 y2 σ = some (r, σr) → ∀ (H : Heap) (locs : List Loc) (ls : Array Slot), WD D A s (wl ad cA σ) H locs → lv_has ls 3 [(0, .ref (ad 1)), (1, .int y1), (2, .int y2)] → W p l e ({ frames := 3, cells := 0, slots := 0, locals := 76 }) s m args below meth c H locs 0 0 Q (F0 m 39 ls []) := by
    intro j
    induction j with
    | zero => intro y1 y2 σ hf; exact absurd hf (fun z => by cases z)
    | succ j ih =>
      intro y1 y2 σ hf H locs ls h hl
      have hf := us (f_Game_takeTurns_39_s n j y1 y2 σ) hf
      refine lv_iload_n hx hb d_Game_takeTurns_39 rfl (lv_at hl 2 rfl) ?_
      refine lv_sipush (v := 1000) hx hb d_Game_takeTurns_40 (by decide) ?_
      refine lv_icmp_ge (tgt := 95) hx hb d_Game_takeTurns_43 (by decide) (fun c10 => ?_) (fun c10 => ?_)
      · have hf := it c10 hf
        exact rt _ H locs 95 ls hf h d_Game_takeTurns_95
      · have hf := ie c10 hf
        refine lv_aload_n hx hb d_Game_takeTurns_46 rfl (lv_at hl 0 rfl) ?_
        refine G_game_monsters X h m_f_Game_39 d_Game_takeTurns_47 ?_
        refine G_monsters_energy X h m_f_Game_190 d_Game_takeTurns_50 ?_
        refine lv_iload_n hx hb d_Game_takeTurns_53 rfl (lv_at hl 1 rfl) ?_
        obtain ⟨g11, hf⟩ := gd_s hf
        refine R_energy X h (inb_s g11) d_Game_takeTurns_54 ?_
        refine lv_bipush (v := 10) hx hb d_Game_takeTurns_55 (by decide) ?_
        refine lv_icmp_lt (tgt := 95) hx hb d_Game_takeTurns_57 (by decide) (fun c12 => ?_) (fun c12 => ?_)
        · have hf := it c12 hf
          exact rt _ H locs 95 ls hf h d_Game_takeTurns_95
        · have hf := ie c12 hf
          refine lv_aload_n hx hb d_Game_takeTurns_60 rfl (lv_at hl 0 rfl) ?_
          refine G_game_hero X h m_f_Game_53 d_Game_takeTurns_61 ?_
          obtain ⟨r13, σ14, h15, hf⟩ := bd_s hf
          refine x_Vi (As := []) (rest := []) X hml hl.1 hZ hA h (c_Hero_isDead l D ad cA tz n σ r13 σ14 h15) k_Hero_isDead m_m_Game_88 kd_Hero_isDead ⟨rfl, rfl, Nat.le_of_ble_eq_true rfl, Nat.le_of_ble_eq_true rfl⟩ 8 rfl rfl rfl rfl rfl (Nat.le_of_ble_eq_true rfl) d_Game_takeTurns_64 (fun H locs h => ?_)
          refine lv_if_ne (tgt := 95) hx hb d_Game_takeTurns_67 (by decide) (fun c16 => ?_) (fun c16 => ?_)
          · have hf := ie c16 hf
            exact rt _ H locs 95 ls hf h d_Game_takeTurns_95
          · have hf := it c16 hf
            refine lv_aload_n hx hb d_Game_takeTurns_70 rfl (lv_at hl 0 rfl) ?_
            refine G_game_monsters X h m_f_Game_39 d_Game_takeTurns_71 ?_
            refine G_monsters_energy X h m_f_Game_190 d_Game_takeTurns_74 ?_
            refine lv_iload_n hx hb d_Game_takeTurns_77 rfl (lv_at hl 1 rfl) ?_
            refine lv_dup2_11 hx hb d_Game_takeTurns_78 rfl rfl ?_
            obtain ⟨g17, hf⟩ := gd_s hf
            refine R_energy X h (inb_s g17) d_Game_takeTurns_79 ?_
            refine lv_bipush (v := 10) hx hb d_Game_takeTurns_80 (by decide) ?_
            refine lv_isub hx hb d_Game_takeTurns_82 ?_
            obtain ⟨g18, hf⟩ := gd_s hf
            refine S_energy X h (inb_s g18) d_Game_takeTurns_83 (fun H locs σ19 eσ19 h => ?_)
            have hf := nm_b hf eσ19
            refine lv_aload_n hx hb d_Game_takeTurns_84 rfl (lv_at hl 0 rfl) ?_
            refine lv_iload_n hx hb d_Game_takeTurns_85 rfl (lv_at hl 1 rfl) ?_
            obtain ⟨r20, σ21, h22, hf⟩ := bd_s hf
            refine x_Vv (As := [.int y1]) (rest := []) X hml hl.1 hZ hA h (c_Game_act l D ad cA tz n y1 σ19 r20 σ21 h22) k_Game_act m_m_Game_199 kd_Game_act ⟨rfl, rfl, Nat.le_of_ble_eq_true rfl, Nat.le_of_ble_eq_true rfl⟩ 1 rfl rfl rfl rfl rfl (Nat.le_of_ble_eq_true rfl) d_Game_takeTurns_86 (fun H locs h => ?_)
            obtain ⟨v23, ev23⟩ : ∃ y : Int32, y = y2 + 1 := ⟨_, rfl⟩
            have hf := nm_b hf ev23
            refine lv_iinc (v := v23) (lv' := [(2, .int v23), (0, .ref (ad 1)), (1, .int y1)]) hx hb d_Game_takeTurns_89 hl (k := 2) rfl (by rw [ev23]; rfl) (by decide) rfl (fun ls hl => ?_)
            refine lv_goto (tgt := 39) hx hb d_Game_takeTurns_92 (by decide) ?_
            exact ih y1 v23 σ21 hf H locs ls h (lv_sub hl [1, 2, 0] rfl)
  unfold f_Game_takeTurns at hf
  refine lv_aload_n hx hb d_Game_takeTurns_0 rfl (lv_at hl 0 rfl) ?_
  refine G_game_monsters X h m_f_Game_39 d_Game_takeTurns_1 ?_
  refine lv_iload_n hx hb d_Game_takeTurns_4 rfl (lv_at hl 1 rfl) ?_
  obtain ⟨r1, σ2, h3, hf⟩ := bd_s hf
  refine x_Vi (As := [.int x1]) (rest := []) X hml hl.1 hZ hA h (c_Monsters_isThere l D ad cA tz n x1 σ r1 σ2 h3) k_Monsters_isThere m_m_Game_187 kd_Monsters_isThere ⟨rfl, rfl, Nat.le_of_ble_eq_true rfl, Nat.le_of_ble_eq_true rfl⟩ 6 rfl rfl rfl rfl rfl (Nat.le_of_ble_eq_true rfl) d_Game_takeTurns_5 (fun H locs h => ?_)
  refine lv_if_ne (tgt := 12) hx hb d_Game_takeTurns_8 (by decide) (fun c4 => ?_) (fun c4 => ?_)
  · have hf := ie c4 hf
    refine lv_aload_n hx hb d_Game_takeTurns_12 rfl (lv_at hl 0 rfl) ?_
    refine G_game_monsters X h m_f_Game_39 d_Game_takeTurns_13 ?_
    refine G_monsters_energy X h m_f_Game_190 d_Game_takeTurns_16 ?_
    refine lv_iload_n hx hb d_Game_takeTurns_19 rfl (lv_at hl 1 rfl) ?_
    refine lv_dup2_11 hx hb d_Game_takeTurns_20 rfl rfl ?_
    obtain ⟨g5, hf⟩ := gd_s hf
    refine R_energy X h (inb_s g5) d_Game_takeTurns_21 ?_
    refine Z_SPEED_OF X hZ h m_f_Game_193 d_Game_takeTurns_22 ?_
    refine lv_aload_n hx hb d_Game_takeTurns_25 rfl (lv_at hl 0 rfl) ?_
    refine G_game_monsters X h m_f_Game_39 d_Game_takeTurns_26 ?_
    refine G_monsters_kind X h m_f_Game_196 d_Game_takeTurns_29 ?_
    refine lv_iload_n hx hb d_Game_takeTurns_32 rfl (lv_at hl 1 rfl) ?_
    obtain ⟨g6, hf⟩ := gd_s hf
    refine R_kind X h (inb_s g6) d_Game_takeTurns_33 ?_
    obtain ⟨g7, hf⟩ := gd_s hf
    refine U_SPEED_OF X hZ h (inb_s g7) d_Game_takeTurns_34 ?_
    refine lv_iadd hx hb d_Game_takeTurns_35 ?_
    obtain ⟨g8, hf⟩ := gd_s hf
    refine S_energy X h (inb_s g8) d_Game_takeTurns_36 (fun H locs σ9 eσ9 h => ?_)
    have hf := nm_b hf eσ9
    refine lv_iconst (v := 0) hx hb d_Game_takeTurns_37 (by decide) ?_
    refine lv_istore_n (lv' := [(2, .int 0), (0, .ref (ad 1)), (1, .int x1)]) hx hb d_Game_takeTurns_38 rfl hl (by decide) rfl (fun ls hl => ?_)
    exact L39 n x1 0 σ9 hf H locs ls h (lv_sub hl [1, 2, 0] rfl)
  · have hf := it c4 hf
    exact rt _ H locs 11 ls hf h d_Game_takeTurns_11
theorem d_Game_passTime_0 : decode b_Game_passTime 0 = .ok (.aload_n 0, 1) := by decide +kernel
theorem d_Game_passTime_1 : decode b_Game_passTime 1 = .ok (.getfield 53, 3) := by decide +kernel
theorem d_Game_passTime_4 : decode b_Game_passTime 4 = .ok (.dup, 1) := by decide +kernel
theorem d_Game_passTime_5 : decode b_Game_passTime 5 = .ok (.getfield 178, 3) := by decide +kernel
theorem d_Game_passTime_8 : decode b_Game_passTime 8 = .ok (.bipush 10, 2) := by decide +kernel
theorem d_Game_passTime_10 : decode b_Game_passTime 10 = .ok (.isub, 1) := by decide +kernel
theorem d_Game_passTime_11 : decode b_Game_passTime 11 = .ok (.putfield 178, 3) := by decide +kernel
theorem d_Game_passTime_14 : decode b_Game_passTime 14 = .ok (.iconst 0, 1) := by decide +kernel
theorem d_Game_passTime_15 : decode b_Game_passTime 15 = .ok (.istore_n 1, 1) := by decide +kernel
theorem d_Game_passTime_16 : decode b_Game_passTime 16 = .ok (.iload_n 1, 1) := by decide +kernel
theorem d_Game_passTime_17 : decode b_Game_passTime 17 = .ok (.sipush 1000, 3) := by decide +kernel
theorem d_Game_passTime_20 : decode b_Game_passTime 20 = .ok (.if_icmp .ge 119, 3) := by decide +kernel
theorem d_Game_passTime_23 : decode b_Game_passTime 23 = .ok (.aload_n 0, 1) := by decide +kernel
theorem d_Game_passTime_24 : decode b_Game_passTime 24 = .ok (.getfield 53, 3) := by decide +kernel
theorem d_Game_passTime_27 : decode b_Game_passTime 27 = .ok (.getfield 178, 3) := by decide +kernel
theorem d_Game_passTime_30 : decode b_Game_passTime 30 = .ok (.bipush 10, 2) := by decide +kernel
theorem d_Game_passTime_32 : decode b_Game_passTime 32 = .ok (.if_icmp .ge 107, 3) := by decide +kernel
theorem d_Game_passTime_35 : decode b_Game_passTime 35 = .ok (.aload_n 0, 1) := by decide +kernel
theorem d_Game_passTime_36 : decode b_Game_passTime 36 = .ok (.getfield 53, 3) := by decide +kernel
theorem d_Game_passTime_39 : decode b_Game_passTime 39 = .ok (.invokevirtual 88, 3) := by decide +kernel
theorem d_Game_passTime_42 : decode b_Game_passTime 42 = .ok (.ifCond .ne 97, 3) := by decide +kernel
theorem d_Game_passTime_45 : decode b_Game_passTime 45 = .ok (.aload_n 0, 1) := by decide +kernel
theorem d_Game_passTime_46 : decode b_Game_passTime 46 = .ok (.dup, 1) := by decide +kernel
theorem d_Game_passTime_47 : decode b_Game_passTime 47 = .ok (.getfield 60, 3) := by decide +kernel
theorem d_Game_passTime_50 : decode b_Game_passTime 50 = .ok (.iconst 1, 1) := by decide +kernel
theorem d_Game_passTime_51 : decode b_Game_passTime 51 = .ok (.iadd, 1) := by decide +kernel
theorem d_Game_passTime_52 : decode b_Game_passTime 52 = .ok (.putfield 60, 3) := by decide +kernel
theorem d_Game_passTime_55 : decode b_Game_passTime 55 = .ok (.aload_n 0, 1) := by decide +kernel
theorem d_Game_passTime_56 : decode b_Game_passTime 56 = .ok (.getfield 53, 3) := by decide +kernel
theorem d_Game_passTime_59 : decode b_Game_passTime 59 = .ok (.getfield 166, 3) := by decide +kernel
theorem d_Game_passTime_62 : decode b_Game_passTime 62 = .ok (.ifCond .le 33, 3) := by decide +kernel
theorem d_Game_passTime_65 : decode b_Game_passTime 65 = .ok (.aload_n 0, 1) := by decide +kernel
theorem d_Game_passTime_66 : decode b_Game_passTime 66 = .ok (.getfield 53, 3) := by decide +kernel
theorem d_Game_passTime_69 : decode b_Game_passTime 69 = .ok (.dup, 1) := by decide +kernel
theorem d_Game_passTime_70 : decode b_Game_passTime 70 = .ok (.getfield 178, 3) := by decide +kernel
theorem d_Game_passTime_73 : decode b_Game_passTime 73 = .ok (.bipush 20, 2) := by decide +kernel
theorem d_Game_passTime_75 : decode b_Game_passTime 75 = .ok (.iadd, 1) := by decide +kernel
theorem d_Game_passTime_76 : decode b_Game_passTime 76 = .ok (.putfield 178, 3) := by decide +kernel
theorem d_Game_passTime_79 : decode b_Game_passTime 79 = .ok (.aload_n 0, 1) := by decide +kernel
theorem d_Game_passTime_80 : decode b_Game_passTime 80 = .ok (.getfield 53, 3) := by decide +kernel
theorem d_Game_passTime_83 : decode b_Game_passTime 83 = .ok (.dup, 1) := by decide +kernel
theorem d_Game_passTime_84 : decode b_Game_passTime 84 = .ok (.getfield 166, 3) := by decide +kernel
theorem d_Game_passTime_87 : decode b_Game_passTime 87 = .ok (.iconst 1, 1) := by decide +kernel
theorem d_Game_passTime_88 : decode b_Game_passTime 88 = .ok (.isub, 1) := by decide +kernel
theorem d_Game_passTime_89 : decode b_Game_passTime 89 = .ok (.putfield 166, 3) := by decide +kernel
theorem d_Game_passTime_92 : decode b_Game_passTime 92 = .ok (.goto 17, 3) := by decide +kernel
theorem d_Game_passTime_95 : decode b_Game_passTime 95 = .ok (.aload_n 0, 1) := by decide +kernel
theorem d_Game_passTime_96 : decode b_Game_passTime 96 = .ok (.getfield 53, 3) := by decide +kernel
theorem d_Game_passTime_99 : decode b_Game_passTime 99 = .ok (.dup, 1) := by decide +kernel
theorem d_Game_passTime_100 : decode b_Game_passTime 100 = .ok (.getfield 178, 3) := by decide +kernel
theorem d_Game_passTime_103 : decode b_Game_passTime 103 = .ok (.bipush 10, 2) := by decide +kernel
theorem d_Game_passTime_105 : decode b_Game_passTime 105 = .ok (.iadd, 1) := by decide +kernel
theorem d_Game_passTime_106 : decode b_Game_passTime 106 = .ok (.putfield 178, 3) := by decide +kernel
theorem d_Game_passTime_109 : decode b_Game_passTime 109 = .ok (.iconst 0, 1) := by decide +kernel
theorem d_Game_passTime_110 : decode b_Game_passTime 110 = .ok (.istore_n 2, 1) := by decide +kernel
theorem d_Game_passTime_111 : decode b_Game_passTime 111 = .ok (.iload_n 2, 1) := by decide +kernel
theorem d_Game_passTime_112 : decode b_Game_passTime 112 = .ok (.aload_n 0, 1) := by decide +kernel
theorem d_Game_passTime_113 : decode b_Game_passTime 113 = .ok (.getfield 39, 3) := by decide +kernel
theorem d_Game_passTime_116 : decode b_Game_passTime 116 = .ok (.getfield 181, 3) := by decide +kernel
theorem d_Game_passTime_119 : decode b_Game_passTime 119 = .ok (.if_icmp .ge 14, 3) := by decide +kernel
theorem d_Game_passTime_122 : decode b_Game_passTime 122 = .ok (.aload_n 0, 1) := by decide +kernel
theorem d_Game_passTime_123 : decode b_Game_passTime 123 = .ok (.iload_n 2, 1) := by decide +kernel
theorem d_Game_passTime_124 : decode b_Game_passTime 124 = .ok (.invokevirtual 184, 3) := by decide +kernel
theorem d_Game_passTime_127 : decode b_Game_passTime 127 = .ok (.iinc 2 1, 3) := by decide +kernel
theorem d_Game_passTime_130 : decode b_Game_passTime 130 = .ok (.goto (-19), 3) := by decide +kernel
theorem d_Game_passTime_133 : decode b_Game_passTime 133 = .ok (.iinc 1 1, 3) := by decide +kernel
theorem d_Game_passTime_136 : decode b_Game_passTime 136 = .ok (.goto (-120), 3) := by decide +kernel
theorem d_Game_passTime_139 : decode b_Game_passTime 139 = .ok (.return_, 1) := by decide +kernel
def f_Game_passTime_111 (n : Nat) (k16 : Int32 → St → Option (Unit × St)) : Nat → Int32 → Int32 → St → Option (Unit × St)
  | 0, _, _, _ => none
  | j + 1, y1, y2, σ => if (σ.1 7) ≤ y2 then (bnd (y1 + 1) (fun v14 => k16 v14 σ)) else (bd (f_Game_takeTurns n y2 σ) (fun _ σ16 => bnd (y2 + 1) (fun v18 => f_Game_passTime_111 n k16 j y1 v18 σ16)))
theorem f_Game_passTime_111_s (n : Nat) (k16 : Int32 → St → Option (Unit × St)) (j : Nat) (y1 : Int32) (y2 : Int32) (σ : St) : f_Game_passTime_111 n k16 (j + 1) y1 y2 σ = (if (σ.1 7) ≤ y2 then (bnd (y1 + 1) (fun v14 => k16 v14 σ)) else (bd (f_Game_takeTurns n y2 σ) (fun _ σ16 => bnd (y2 + 1) (fun v18 => f_Game_passTime_111 n k16 j y1 v18 σ16)))) := rfl
def f_Game_passTime_16 (n : Nat) : Nat → Int32 → St → Option (Unit × St)
  | 0, _, _ => none
  | j + 1, y1, σ => if 1000 ≤ y1 then (some ((), σ)) else (if 10 ≤ (σ.1 12) then (some ((), σ)) else (bd (f_Hero_isDead n σ) (fun r4 σ5 => if r4 = 0 then (bnd (sI σ5 3 ((σ5.1 3) + 1)) (fun σ8 => if (σ8.1 13) ≤ 0 then (bnd (sI σ8 12 ((σ8.1 12) + 10)) (fun σ10 => f_Game_passTime_111 n (fun y1 σ => f_Game_passTime_16 n j y1 σ) n y1 0 σ10)) else (bnd (sI σ8 12 ((σ8.1 12) + 20)) (fun σ11 => bnd (sI σ11 13 ((σ11.1 13) - 1)) (fun σ12 => f_Game_passTime_111 n (fun y1 σ => f_Game_passTime_16 n j y1 σ) n y1 0 σ12))))) else (some ((), σ5)))))
theorem f_Game_passTime_16_s (n : Nat) (j : Nat) (y1 : Int32) (σ : St) : f_Game_passTime_16 n (j + 1) y1 σ = (if 1000 ≤ y1 then (some ((), σ)) else (if 10 ≤ (σ.1 12) then (some ((), σ)) else (bd (f_Hero_isDead n σ) (fun r4 σ5 => if r4 = 0 then (bnd (sI σ5 3 ((σ5.1 3) + 1)) (fun σ8 => if (σ8.1 13) ≤ 0 then (bnd (sI σ8 12 ((σ8.1 12) + 10)) (fun σ10 => f_Game_passTime_111 n (fun y1 σ => f_Game_passTime_16 n j y1 σ) n y1 0 σ10)) else (bnd (sI σ8 12 ((σ8.1 12) + 20)) (fun σ11 => bnd (sI σ11 13 ((σ11.1 13) - 1)) (fun σ12 => f_Game_passTime_111 n (fun y1 σ => f_Game_passTime_16 n j y1 σ) n y1 0 σ12))))) else (some ((), σ5)))))) := rfl
def f_Game_passTime (n : Nat) (σ : St) : Option (Unit × St) := bnd (sI σ 12 ((σ.1 12) - 10)) (fun σ1 => f_Game_passTime_16 n n 0 σ1)
set_option maxHeartbeats 4000000 in
set_option maxRecDepth 100000 in
theorem c_Game_passTime (l : Launch) (D : va_G) (ad : Nat → Nat) (cA : Nat → ClassId) (tz : Nat → Nat) (n : Nat) (σ : St) (r : Unit) (σr : St) (hf : f_Game_passTime n σ = some (r, σr)) : Kv l D cA tz (wl ad cA) y_Game_passTime (.code y_Game_passTime b_Game_passTime 3 none :: TB) ({ frames := 4, cells := 0, slots := 0, locals := 98 }) [.ref (ad 1)] σ σr := by
  refine x_openv (r := r) (own := R_Game) rfl (by decide) (fun p e s m args below meth c A Q X hml hZ hA H locs ls h hl rt => ?_)
  have hx := X.1
  have hb := X.2.1
  have hl : lv_has ls 3 [(0, .ref (ad 1))] := hl
  have L111 : ∀ (k16 : Int32 → St → Option (Unit × St)), (∀ (y1 : Int32) (σ : St), k16 y1 σ = some (r, σr) → ∀ (H : Heap) (locs : List Loc) (ls : Array Slot), WD D A s (wl ad cA σ) H locs → lv_has ls 3 [(0, .ref (ad 1)), (1, .int y1)] → W p l e ({ frames := 4, cells := 0, slots := 0, locals := 98 }) s m args below meth c H locs 0 0 Q (F0 m 16 ls [])) → ∀ j : Nat, ∀ (y1 : Int32) (y2 : Int32) (σ : St), f_Game_passTime_111 n k16 j y1 y2 σ = some (r, σr) → ∀ (H : Heap) (locs : List Loc) (ls : Array Slot), WD D A s (wl ad cA σ) H locs → lv_has ls 3 [(0, .ref (ad 1)), (1, .int y1), (2, .int y2)] → W p l e ({ frames := 4, cells := 0, slots := 0, locals := 98 }) s m args below meth c H locs 0 0 Q (F0 m 111 ls []) := by
    intro k16 K16
    intro j
    induction j with
    | zero => intro y1 y2 σ hf; exact absurd hf (fun z => by cases z)
    | succ j ih =>
      intro y1 y2 σ hf H locs ls h hl
      have hf := us (f_Game_passTime_111_s n k16 j y1 y2 σ) hf
      refine lv_iload_n hx hb d_Game_passTime_111 rfl (lv_at hl 2 rfl) ?_
      refine lv_aload_n hx hb d_Game_passTime_112 rfl (lv_at hl 0 rfl) ?_
      refine G_game_monsters X h m_f_Game_39 d_Game_passTime_113 ?_
      refine G_monsters_made X h m_f_Game_181 d_Game_passTime_116 ?_
      refine lv_icmp_ge (tgt := 133) hx hb d_Game_passTime_119 (by decide) (fun c13 => ?_) (fun c13 => ?_)
      · have hf := it c13 hf
        obtain ⟨v14, ev14⟩ : ∃ y : Int32, y = y1 + 1 := ⟨_, rfl⟩
        have hf := nm_b hf ev14
        refine lv_iinc (v := v14) (lv' := [(1, .int v14), (0, .ref (ad 1)), (2, .int y2)]) hx hb d_Game_passTime_133 hl (k := 1) rfl (by rw [ev14]; rfl) (by decide) rfl (fun ls hl => ?_)
        refine lv_goto (tgt := 16) hx hb d_Game_passTime_136 (by decide) ?_
        exact K16 v14 σ hf H locs ls h (lv_sub hl [1, 0] rfl)
      · have hf := ie c13 hf
        refine lv_aload_n hx hb d_Game_passTime_122 rfl (lv_at hl 0 rfl) ?_
        refine lv_iload_n hx hb d_Game_passTime_123 rfl (lv_at hl 2 rfl) ?_
        obtain ⟨r15, σ16, h17, hf⟩ := bd_s hf
        refine x_Vv (As := [.int y2]) (rest := []) X hml hl.1 hZ hA h (c_Game_takeTurns l D ad cA tz n y2 σ r15 σ16 h17) k_Game_takeTurns m_m_Game_184 kd_Game_takeTurns ⟨rfl, rfl, Nat.le_of_ble_eq_true rfl, Nat.le_of_ble_eq_true rfl⟩ 1 rfl rfl rfl rfl rfl (Nat.le_of_ble_eq_true rfl) d_Game_passTime_124 (fun H locs h => ?_)
        obtain ⟨v18, ev18⟩ : ∃ y : Int32, y = y2 + 1 := ⟨_, rfl⟩
        have hf := nm_b hf ev18
        refine lv_iinc (v := v18) (lv' := [(2, .int v18), (0, .ref (ad 1)), (1, .int y1)]) hx hb d_Game_passTime_127 hl (k := 2) rfl (by rw [ev18]; rfl) (by decide) rfl (fun ls hl => ?_)
        refine lv_goto (tgt := 111) hx hb d_Game_passTime_130 (by decide) ?_
        exact ih y1 v18 σ16 hf H locs ls h (lv_sub hl [1, 2, 0] rfl)
  have L16 : ∀ j : Nat, ∀ (y1 : Int32) (σ : St), f_Game_passTime_16 n j y1 σ = some (r, σr) → ∀ (H : Heap) (locs : List Loc) (ls : Array Slot), WD D A s (wl ad cA σ) H locs → lv_has ls 3 [(0, .ref (ad 1)), (1, .int y1)] → W p l e ({ frames := 4, cells := 0, slots := 0, locals := 98 }) s m args below meth c H locs 0 0 Q (F0 m 16 ls []) := by
    intro j
    induction j with
    | zero => intro y1 σ hf; exact absurd hf (fun z => by cases z)
    | succ j ih =>
      intro y1 σ hf H locs ls h hl
      have hf := us (f_Game_passTime_16_s n j y1 σ) hf
      refine lv_iload_n hx hb d_Game_passTime_16 rfl (lv_at hl 1 rfl) ?_
      refine lv_sipush (v := 1000) hx hb d_Game_passTime_17 (by decide) ?_
      refine lv_icmp_ge (tgt := 139) hx hb d_Game_passTime_20 (by decide) (fun c2 => ?_) (fun c2 => ?_)
      · have hf := it c2 hf
        exact rt _ H locs 139 ls hf h d_Game_passTime_139
      · have hf := ie c2 hf
        refine lv_aload_n hx hb d_Game_passTime_23 rfl (lv_at hl 0 rfl) ?_
        refine G_game_hero X h m_f_Game_53 d_Game_passTime_24 ?_
        refine G_hero_energy X h m_f_Game_178 d_Game_passTime_27 ?_
        refine lv_bipush (v := 10) hx hb d_Game_passTime_30 (by decide) ?_
        refine lv_icmp_ge (tgt := 139) hx hb d_Game_passTime_32 (by decide) (fun c3 => ?_) (fun c3 => ?_)
        · have hf := it c3 hf
          exact rt _ H locs 139 ls hf h d_Game_passTime_139
        · have hf := ie c3 hf
          refine lv_aload_n hx hb d_Game_passTime_35 rfl (lv_at hl 0 rfl) ?_
          refine G_game_hero X h m_f_Game_53 d_Game_passTime_36 ?_
          obtain ⟨r4, σ5, h6, hf⟩ := bd_s hf
          refine x_Vi (As := []) (rest := []) X hml hl.1 hZ hA h (c_Hero_isDead l D ad cA tz n σ r4 σ5 h6) k_Hero_isDead m_m_Game_88 kd_Hero_isDead ⟨rfl, rfl, Nat.le_of_ble_eq_true rfl, Nat.le_of_ble_eq_true rfl⟩ 8 rfl rfl rfl rfl rfl (Nat.le_of_ble_eq_true rfl) d_Game_passTime_39 (fun H locs h => ?_)
          refine lv_if_ne (tgt := 139) hx hb d_Game_passTime_42 (by decide) (fun c7 => ?_) (fun c7 => ?_)
          · have hf := ie c7 hf
            exact rt _ H locs 139 ls hf h d_Game_passTime_139
          · have hf := it c7 hf
            refine lv_aload_n hx hb d_Game_passTime_45 rfl (lv_at hl 0 rfl) ?_
            refine lv_dup hx hb d_Game_passTime_46 rfl ?_
            refine G_game_ticks X h m_f_Game_60 d_Game_passTime_47 ?_
            refine lv_iconst (v := 1) hx hb d_Game_passTime_50 (by decide) ?_
            refine lv_iadd hx hb d_Game_passTime_51 ?_
            refine P_game_ticks X h m_f_Game_60 d_Game_passTime_52 (fun H locs σ8 eσ8 h => ?_)
            have hf := nm_b hf eσ8
            refine lv_aload_n hx hb d_Game_passTime_55 rfl (lv_at hl 0 rfl) ?_
            refine G_game_hero X h m_f_Game_53 d_Game_passTime_56 ?_
            refine G_hero_haste X h m_f_Game_166 d_Game_passTime_59 ?_
            refine lv_if_le (tgt := 95) hx hb d_Game_passTime_62 (by decide) (fun c9 => ?_) (fun c9 => ?_)
            · have hf := it c9 hf
              refine lv_aload_n hx hb d_Game_passTime_95 rfl (lv_at hl 0 rfl) ?_
              refine G_game_hero X h m_f_Game_53 d_Game_passTime_96 ?_
              refine lv_dup hx hb d_Game_passTime_99 rfl ?_
              refine G_hero_energy X h m_f_Game_178 d_Game_passTime_100 ?_
              refine lv_bipush (v := 10) hx hb d_Game_passTime_103 (by decide) ?_
              refine lv_iadd hx hb d_Game_passTime_105 ?_
              refine P_hero_energy X h m_f_Game_178 d_Game_passTime_106 (fun H locs σ10 eσ10 h => ?_)
              have hf := nm_b hf eσ10
              refine lv_iconst (v := 0) hx hb d_Game_passTime_109 (by decide) ?_
              refine lv_istore_n (lv' := [(2, .int 0), (0, .ref (ad 1)), (1, .int y1)]) hx hb d_Game_passTime_110 rfl hl (by decide) rfl (fun ls hl => ?_)
              exact L111 (fun y1 σ => f_Game_passTime_16 n j y1 σ) ih n y1 0 σ10 hf H locs ls h (lv_sub hl [1, 2, 0] rfl)
            · have hf := ie c9 hf
              refine lv_aload_n hx hb d_Game_passTime_65 rfl (lv_at hl 0 rfl) ?_
              refine G_game_hero X h m_f_Game_53 d_Game_passTime_66 ?_
              refine lv_dup hx hb d_Game_passTime_69 rfl ?_
              refine G_hero_energy X h m_f_Game_178 d_Game_passTime_70 ?_
              refine lv_bipush (v := 20) hx hb d_Game_passTime_73 (by decide) ?_
              refine lv_iadd hx hb d_Game_passTime_75 ?_
              refine P_hero_energy X h m_f_Game_178 d_Game_passTime_76 (fun H locs σ11 eσ11 h => ?_)
              have hf := nm_b hf eσ11
              refine lv_aload_n hx hb d_Game_passTime_79 rfl (lv_at hl 0 rfl) ?_
              refine G_game_hero X h m_f_Game_53 d_Game_passTime_80 ?_
              refine lv_dup hx hb d_Game_passTime_83 rfl ?_
              refine G_hero_haste X h m_f_Game_166 d_Game_passTime_84 ?_
              refine lv_iconst (v := 1) hx hb d_Game_passTime_87 (by decide) ?_
              refine lv_isub hx hb d_Game_passTime_88 ?_
              refine P_hero_haste X h m_f_Game_166 d_Game_passTime_89 (fun H locs σ12 eσ12 h => ?_)
              have hf := nm_b hf eσ12
              refine lv_goto (tgt := 109) hx hb d_Game_passTime_92 (by decide) ?_
              refine lv_iconst (v := 0) hx hb d_Game_passTime_109 (by decide) ?_
              refine lv_istore_n (lv' := [(2, .int 0), (0, .ref (ad 1)), (1, .int y1)]) hx hb d_Game_passTime_110 rfl hl (by decide) rfl (fun ls hl => ?_)
              exact L111 (fun y1 σ => f_Game_passTime_16 n j y1 σ) ih n y1 0 σ12 hf H locs ls h (lv_sub hl [1, 2, 0] rfl)
  unfold f_Game_passTime at hf
  refine lv_aload_n hx hb d_Game_passTime_0 rfl (lv_at hl 0 rfl) ?_
  refine G_game_hero X h m_f_Game_53 d_Game_passTime_1 ?_
  refine lv_dup hx hb d_Game_passTime_4 rfl ?_
  refine G_hero_energy X h m_f_Game_178 d_Game_passTime_5 ?_
  refine lv_bipush (v := 10) hx hb d_Game_passTime_8 (by decide) ?_
  refine lv_isub hx hb d_Game_passTime_10 ?_
  refine P_hero_energy X h m_f_Game_178 d_Game_passTime_11 (fun H locs σ1 eσ1 h => ?_)
  have hf := nm_b hf eσ1
  refine lv_iconst (v := 0) hx hb d_Game_passTime_14 (by decide) ?_
  refine lv_istore_n (lv' := [(1, .int 0), (0, .ref (ad 1))]) hx hb d_Game_passTime_15 rfl hl (by decide) rfl (fun ls hl => ?_)
  exact L16 n 0 σ1 hf H locs ls h (lv_sub hl [1, 0] rfl)

