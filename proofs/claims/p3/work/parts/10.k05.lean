theorem d_Game_isFree_0 : decode b_Game_isFree 0 = .ok (.aload_n 0, 1) := by decide +kernel
theorem d_Game_isFree_1 : decode b_Game_isFree 1 = .ok (.getfield 32, 3) := by decide +kernel
theorem d_Game_isFree_4 : decode b_Game_isFree 4 = .ok (.iload_n 1, 1) := by decide +kernel
theorem d_Game_isFree_5 : decode b_Game_isFree 5 = .ok (.invokevirtual 116, 3) := by decide +kernel
theorem d_Game_isFree_8 : decode b_Game_isFree 8 = .ok (.ifCond .eq 20, 3) := by decide +kernel
theorem d_Game_isFree_11 : decode b_Game_isFree 11 = .ok (.aload_n 0, 1) := by decide +kernel
theorem d_Game_isFree_12 : decode b_Game_isFree 12 = .ok (.getfield 39, 3) := by decide +kernel
theorem d_Game_isFree_15 : decode b_Game_isFree 15 = .ok (.iload_n 1, 1) := by decide +kernel
theorem d_Game_isFree_16 : decode b_Game_isFree 16 = .ok (.invokevirtual 120, 3) := by decide +kernel
theorem d_Game_isFree_19 : decode b_Game_isFree 19 = .ok (.bipush (-2), 2) := by decide +kernel
theorem d_Game_isFree_21 : decode b_Game_isFree 21 = .ok (.if_icmp .ne 7, 3) := by decide +kernel
theorem d_Game_isFree_24 : decode b_Game_isFree 24 = .ok (.iconst 1, 1) := by decide +kernel
theorem d_Game_isFree_25 : decode b_Game_isFree 25 = .ok (.goto 4, 3) := by decide +kernel
theorem d_Game_isFree_28 : decode b_Game_isFree 28 = .ok (.iconst 0, 1) := by decide +kernel
theorem d_Game_isFree_29 : decode b_Game_isFree 29 = .ok (.ireturn, 1) := by decide +kernel
def f_Game_isFree (n : Nat) (x1 : Int32) (σ : St) : Option (Int32 × St) := bd (f_Level_isFloor n x1 σ) (fun r1 σ2 => if r1 = 0 then (some (0, σ2)) else (bd (f_Monsters_at n x1 σ2) (fun r5 σ6 => if r5 = (-2) then (some (1, σ6)) else (some (0, σ6)))))
set_option maxHeartbeats 4000000 in
set_option maxRecDepth 100000 in
theorem c_Game_isFree (l : Launch) (D : va_G) (ad : Nat → Nat) (cA : Nat → ClassId) (tz : Nat → Nat) (n : Nat) (x1 : Int32) (σ : St) (r : Int32) (σr : St) (hf : f_Game_isFree n x1 σ = some (r, σr)) : Ki l D cA tz (wl ad cA) y_Game_isFree (.code y_Game_isFree b_Game_isFree 2 (some .boolean) :: TB) ({ frames := 1, cells := 0, slots := 0, locals := 22 }) [.ref (ad 1), .int x1] σ r σr := by
  refine x_openz (own := R_Game) rfl (by decide) (fun p e s m args below meth c A Q X hml hZ hA H locs ls h hl rt => ?_)
  have hx := X.1
  have hb := X.2.1
  have hl : lv_has ls 2 [(0, .ref (ad 1)), (1, .int x1)] := hl
  unfold f_Game_isFree at hf
  refine lv_aload_n hx hb d_Game_isFree_0 rfl (lv_at hl 0 rfl) ?_
  refine G_game_level X h m_f_Game_32 d_Game_isFree_1 ?_
  refine lv_iload_n hx hb d_Game_isFree_4 rfl (lv_at hl 1 rfl) ?_
  obtain ⟨r1, σ2, h3, hf⟩ := bd_s hf
  refine x_Vi (As := [.int x1]) (rest := []) X hml hl.1 hZ hA h (c_Level_isFloor l D ad cA tz n x1 σ r1 σ2 h3) k_Level_isFloor m_m_Game_116 kd_Level_isFloor ⟨rfl, rfl, Nat.le_of_ble_eq_true rfl, Nat.le_of_ble_eq_true rfl⟩ 5 rfl rfl rfl rfl rfl (Nat.le_of_ble_eq_true rfl) d_Game_isFree_5 (fun H locs h => ?_)
  refine lv_if_eq (tgt := 28) hx hb d_Game_isFree_8 (by decide) (fun c4 => ?_) (fun c4 => ?_)
  · have hf := it c4 hf
    refine lv_iconst (v := 0) hx hb d_Game_isFree_28 (by decide) ?_
    exact rt _ _ H locs 29 ls rfl hf h d_Game_isFree_29
  · have hf := ie c4 hf
    refine lv_aload_n hx hb d_Game_isFree_11 rfl (lv_at hl 0 rfl) ?_
    refine G_game_monsters X h m_f_Game_39 d_Game_isFree_12 ?_
    refine lv_iload_n hx hb d_Game_isFree_15 rfl (lv_at hl 1 rfl) ?_
    obtain ⟨r5, σ6, h7, hf⟩ := bd_s hf
    refine x_Vi (As := [.int x1]) (rest := []) X hml hl.1 hZ hA h (c_Monsters_at l D ad cA tz n x1 σ2 r5 σ6 h7) k_Monsters_at m_m_Game_120 kd_Monsters_at ⟨rfl, rfl, Nat.le_of_ble_eq_true rfl, Nat.le_of_ble_eq_true rfl⟩ 6 rfl rfl rfl rfl rfl (Nat.le_of_ble_eq_true rfl) d_Game_isFree_16 (fun H locs h => ?_)
    refine lv_bipush (v := (-2)) hx hb d_Game_isFree_19 (by decide) ?_
    refine lv_icmp_ne (tgt := 28) hx hb d_Game_isFree_21 (by decide) (fun c8 => ?_) (fun c8 => ?_)
    · have hf := ie c8 hf
      refine lv_iconst (v := 0) hx hb d_Game_isFree_28 (by decide) ?_
      exact rt _ _ H locs 29 ls rfl hf h d_Game_isFree_29
    · have hf := it c8 hf
      refine lv_iconst (v := 1) hx hb d_Game_isFree_24 (by decide) ?_
      refine lv_goto (tgt := 29) hx hb d_Game_isFree_25 (by decide) ?_
      exact rt _ _ H locs 29 ls rfl hf h d_Game_isFree_29
theorem d_Game_drawFreePlace_0 : decode b_Game_drawFreePlace 0 = .ok (.iconst 0, 1) := by decide +kernel
theorem d_Game_drawFreePlace_1 : decode b_Game_drawFreePlace 1 = .ok (.istore_n 1, 1) := by decide +kernel
theorem d_Game_drawFreePlace_2 : decode b_Game_drawFreePlace 2 = .ok (.iconst 0, 1) := by decide +kernel
theorem d_Game_drawFreePlace_3 : decode b_Game_drawFreePlace 3 = .ok (.istore_n 2, 1) := by decide +kernel
theorem d_Game_drawFreePlace_4 : decode b_Game_drawFreePlace 4 = .ok (.iload_n 2, 1) := by decide +kernel
theorem d_Game_drawFreePlace_5 : decode b_Game_drawFreePlace 5 = .ok (.bipush 120, 2) := by decide +kernel
theorem d_Game_drawFreePlace_7 : decode b_Game_drawFreePlace 7 = .ok (.if_icmp .ge 20, 3) := by decide +kernel
theorem d_Game_drawFreePlace_10 : decode b_Game_drawFreePlace 10 = .ok (.aload_n 0, 1) := by decide +kernel
theorem d_Game_drawFreePlace_11 : decode b_Game_drawFreePlace 11 = .ok (.iload_n 2, 1) := by decide +kernel
theorem d_Game_drawFreePlace_12 : decode b_Game_drawFreePlace 12 = .ok (.invokevirtual 169, 3) := by decide +kernel
theorem d_Game_drawFreePlace_15 : decode b_Game_drawFreePlace 15 = .ok (.ifCond .eq 6, 3) := by decide +kernel
theorem d_Game_drawFreePlace_18 : decode b_Game_drawFreePlace 18 = .ok (.iinc 1 1, 3) := by decide +kernel
theorem d_Game_drawFreePlace_21 : decode b_Game_drawFreePlace 21 = .ok (.iinc 2 1, 3) := by decide +kernel
theorem d_Game_drawFreePlace_24 : decode b_Game_drawFreePlace 24 = .ok (.goto (-20), 3) := by decide +kernel
theorem d_Game_drawFreePlace_27 : decode b_Game_drawFreePlace 27 = .ok (.aload_n 0, 1) := by decide +kernel
theorem d_Game_drawFreePlace_28 : decode b_Game_drawFreePlace 28 = .ok (.getfield 18, 3) := by decide +kernel
theorem d_Game_drawFreePlace_31 : decode b_Game_drawFreePlace 31 = .ok (.iload_n 1, 1) := by decide +kernel
theorem d_Game_drawFreePlace_32 : decode b_Game_drawFreePlace 32 = .ok (.invokevirtual 172, 3) := by decide +kernel
theorem d_Game_drawFreePlace_35 : decode b_Game_drawFreePlace 35 = .ok (.istore_n 2, 1) := by decide +kernel
theorem d_Game_drawFreePlace_36 : decode b_Game_drawFreePlace 36 = .ok (.iconst 0, 1) := by decide +kernel
theorem d_Game_drawFreePlace_37 : decode b_Game_drawFreePlace 37 = .ok (.istore_n 3, 1) := by decide +kernel
theorem d_Game_drawFreePlace_38 : decode b_Game_drawFreePlace 38 = .ok (.iload_n 3, 1) := by decide +kernel
theorem d_Game_drawFreePlace_39 : decode b_Game_drawFreePlace 39 = .ok (.bipush 120, 2) := by decide +kernel
theorem d_Game_drawFreePlace_41 : decode b_Game_drawFreePlace 41 = .ok (.if_icmp .ge 26, 3) := by decide +kernel
theorem d_Game_drawFreePlace_44 : decode b_Game_drawFreePlace 44 = .ok (.aload_n 0, 1) := by decide +kernel
theorem d_Game_drawFreePlace_45 : decode b_Game_drawFreePlace 45 = .ok (.iload_n 3, 1) := by decide +kernel
theorem d_Game_drawFreePlace_46 : decode b_Game_drawFreePlace 46 = .ok (.invokevirtual 169, 3) := by decide +kernel
theorem d_Game_drawFreePlace_49 : decode b_Game_drawFreePlace 49 = .ok (.ifCond .eq 12, 3) := by decide +kernel
theorem d_Game_drawFreePlace_52 : decode b_Game_drawFreePlace 52 = .ok (.iload_n 2, 1) := by decide +kernel
theorem d_Game_drawFreePlace_53 : decode b_Game_drawFreePlace 53 = .ok (.ifCond .ne 5, 3) := by decide +kernel
theorem d_Game_drawFreePlace_56 : decode b_Game_drawFreePlace 56 = .ok (.iload_n 3, 1) := by decide +kernel
theorem d_Game_drawFreePlace_57 : decode b_Game_drawFreePlace 57 = .ok (.ireturn, 1) := by decide +kernel
theorem d_Game_drawFreePlace_58 : decode b_Game_drawFreePlace 58 = .ok (.iinc 2 (-1), 3) := by decide +kernel
theorem d_Game_drawFreePlace_61 : decode b_Game_drawFreePlace 61 = .ok (.iinc 3 1, 3) := by decide +kernel
theorem d_Game_drawFreePlace_64 : decode b_Game_drawFreePlace 64 = .ok (.goto (-26), 3) := by decide +kernel
theorem d_Game_drawFreePlace_67 : decode b_Game_drawFreePlace 67 = .ok (.aload_n 0, 1) := by decide +kernel
theorem d_Game_drawFreePlace_68 : decode b_Game_drawFreePlace 68 = .ok (.getfield 53, 3) := by decide +kernel
theorem d_Game_drawFreePlace_71 : decode b_Game_drawFreePlace 71 = .ok (.getfield 109, 3) := by decide +kernel
theorem d_Game_drawFreePlace_74 : decode b_Game_drawFreePlace 74 = .ok (.ireturn, 1) := by decide +kernel
def f_Game_drawFreePlace_38 (n : Nat) : Nat → Int32 → Int32 → St → Option (Int32 × St)
  | 0, _, _, _ => none
  | j + 1, y2, y3, σ => if 120 ≤ y3 then (some (σ.1 9, σ)) else (bd (f_Game_isFree n y3 σ) (fun r13 σ14 => if r13 = 0 then (bnd (y3 + 1) (fun v17 => f_Game_drawFreePlace_38 n j y2 v17 σ14)) else (if y2 = 0 then (some (y3, σ14)) else (bnd (y2 + (-1)) (fun v19 => bnd (y3 + 1) (fun v20 => f_Game_drawFreePlace_38 n j v19 v20 σ14))))))
theorem f_Game_drawFreePlace_38_s (n : Nat) (j : Nat) (y2 : Int32) (y3 : Int32) (σ : St) : f_Game_drawFreePlace_38 n (j + 1) y2 y3 σ = (if 120 ≤ y3 then (some (σ.1 9, σ)) else (bd (f_Game_isFree n y3 σ) (fun r13 σ14 => if r13 = 0 then (bnd (y3 + 1) (fun v17 => f_Game_drawFreePlace_38 n j y2 v17 σ14)) else (if y2 = 0 then (some (y3, σ14)) else (bnd (y2 + (-1)) (fun v19 => bnd (y3 + 1) (fun v20 => f_Game_drawFreePlace_38 n j v19 v20 σ14))))))) := rfl
def f_Game_drawFreePlace_4 (n : Nat) : Nat → Int32 → Int32 → St → Option (Int32 × St)
  | 0, _, _, _ => none
  | j + 1, y1, y2, σ => if 120 ≤ y2 then (bd (f_Draws_draw_play n y1 σ) (fun r2 σ3 => f_Game_drawFreePlace_38 n n r2 0 σ3)) else (bd (f_Game_isFree n y2 σ) (fun r5 σ6 => if r5 = 0 then (bnd (y2 + 1) (fun v9 => f_Game_drawFreePlace_4 n j y1 v9 σ6)) else (bnd (y1 + 1) (fun v10 => bnd (y2 + 1) (fun v11 => f_Game_drawFreePlace_4 n j v10 v11 σ6)))))
theorem f_Game_drawFreePlace_4_s (n : Nat) (j : Nat) (y1 : Int32) (y2 : Int32) (σ : St) : f_Game_drawFreePlace_4 n (j + 1) y1 y2 σ = (if 120 ≤ y2 then (bd (f_Draws_draw_play n y1 σ) (fun r2 σ3 => f_Game_drawFreePlace_38 n n r2 0 σ3)) else (bd (f_Game_isFree n y2 σ) (fun r5 σ6 => if r5 = 0 then (bnd (y2 + 1) (fun v9 => f_Game_drawFreePlace_4 n j y1 v9 σ6)) else (bnd (y1 + 1) (fun v10 => bnd (y2 + 1) (fun v11 => f_Game_drawFreePlace_4 n j v10 v11 σ6)))))) := rfl
def f_Game_drawFreePlace (n : Nat) (σ : St) : Option (Int32 × St) := f_Game_drawFreePlace_4 n n 0 0 σ
set_option maxHeartbeats 4000000 in
set_option maxRecDepth 100000 in
theorem c_Game_drawFreePlace (l : Launch) (D : va_G) (ad : Nat → Nat) (cA : Nat → ClassId) (tz : Nat → Nat) (n : Nat) (σ : St) (r : Int32) (σr : St) (hf : f_Game_drawFreePlace n σ = some (r, σr)) : Ki l D cA tz (wl ad cA) y_Game_drawFreePlace (.code y_Game_drawFreePlace b_Game_drawFreePlace 4 (some .int) :: TB) ({ frames := 2, cells := 0, slots := 0, locals := 43 }) [.ref (ad 1)] σ r σr := by
  refine x_openi (own := R_Game) rfl (by decide) (fun p e s m args below meth c A Q X hml hZ hA H locs ls h hl rt => ?_)
  have hx := X.1
  have hb := X.2.1
  have hl : lv_has ls 4 [(0, .ref (ad 1))] := hl
  have L38 : ∀ j : Nat, ∀ (y2 : Int32) (y3 : Int32) (σ : St), f_Game_drawFreePlace_38 n j y2 y3 σ = some (r, σr) → ∀ (H : Heap) (locs : List Loc) (ls : Array Slot), WD D A s (wl ad cA σ) H locs → lv_has ls 4 [(0, .ref (ad 1)), (2, .int y2), (3, .int y3)] → W p l e ({ frames := 2, cells := 0, slots := 0, locals := 43 }) s m args below meth c H locs 0 0 Q (F0 m 38 ls []) := by
    intro j
    induction j with
    | zero => intro y2 y3 σ hf; exact absurd hf (fun z => by cases z)
    | succ j ih =>
      intro y2 y3 σ hf H locs ls h hl
      have hf := us (f_Game_drawFreePlace_38_s n j y2 y3 σ) hf
      refine lv_iload_n hx hb d_Game_drawFreePlace_38 rfl (lv_at hl 2 rfl) ?_
      refine lv_bipush (v := 120) hx hb d_Game_drawFreePlace_39 (by decide) ?_
      refine lv_icmp_ge (tgt := 67) hx hb d_Game_drawFreePlace_41 (by decide) (fun c12 => ?_) (fun c12 => ?_)
      · have hf := it c12 hf
        refine lv_aload_n hx hb d_Game_drawFreePlace_67 rfl (lv_at hl 0 rfl) ?_
        refine G_game_hero X h m_f_Game_53 d_Game_drawFreePlace_68 ?_
        refine G_hero_place X h m_f_Game_109 d_Game_drawFreePlace_71 ?_
        exact rt _ _ H locs 74 ls hf h d_Game_drawFreePlace_74
      · have hf := ie c12 hf
        refine lv_aload_n hx hb d_Game_drawFreePlace_44 rfl (lv_at hl 0 rfl) ?_
        refine lv_iload_n hx hb d_Game_drawFreePlace_45 rfl (lv_at hl 2 rfl) ?_
        obtain ⟨r13, σ14, h15, hf⟩ := bd_s hf
        refine x_Vi (As := [.int y3]) (rest := []) X hml hl.1 hZ hA h (c_Game_isFree l D ad cA tz n y3 σ r13 σ14 h15) k_Game_isFree m_m_Game_169 kd_Game_isFree ⟨rfl, rfl, Nat.le_of_ble_eq_true rfl, Nat.le_of_ble_eq_true rfl⟩ 1 rfl rfl rfl rfl rfl (Nat.le_of_ble_eq_true rfl) d_Game_drawFreePlace_46 (fun H locs h => ?_)
        refine lv_if_eq (tgt := 61) hx hb d_Game_drawFreePlace_49 (by decide) (fun c16 => ?_) (fun c16 => ?_)
        · have hf := it c16 hf
          obtain ⟨v17, ev17⟩ : ∃ y : Int32, y = y3 + 1 := ⟨_, rfl⟩
          have hf := nm_b hf ev17
          refine lv_iinc (v := v17) (lv' := [(3, .int v17), (0, .ref (ad 1)), (2, .int y2)]) hx hb d_Game_drawFreePlace_61 hl (k := 2) rfl (by rw [ev17]; rfl) (by decide) rfl (fun ls hl => ?_)
          refine lv_goto (tgt := 38) hx hb d_Game_drawFreePlace_64 (by decide) ?_
          exact ih y2 v17 σ14 hf H locs ls h (lv_sub hl [1, 2, 0] rfl)
        · have hf := ie c16 hf
          refine lv_iload_n hx hb d_Game_drawFreePlace_52 rfl (lv_at hl 1 rfl) ?_
          refine lv_if_ne (tgt := 58) hx hb d_Game_drawFreePlace_53 (by decide) (fun c18 => ?_) (fun c18 => ?_)
          · have hf := ie c18 hf
            obtain ⟨v19, ev19⟩ : ∃ y : Int32, y = y2 + (-1) := ⟨_, rfl⟩
            have hf := nm_b hf ev19
            refine lv_iinc (v := v19) (lv' := [(2, .int v19), (0, .ref (ad 1)), (3, .int y3)]) hx hb d_Game_drawFreePlace_58 hl (k := 1) rfl (by rw [ev19]; rfl) (by decide) rfl (fun ls hl => ?_)
            obtain ⟨v20, ev20⟩ : ∃ y : Int32, y = y3 + 1 := ⟨_, rfl⟩
            have hf := nm_b hf ev20
            refine lv_iinc (v := v20) (lv' := [(3, .int v20), (2, .int v19), (0, .ref (ad 1))]) hx hb d_Game_drawFreePlace_61 hl (k := 2) rfl (by rw [ev20]; rfl) (by decide) rfl (fun ls hl => ?_)
            refine lv_goto (tgt := 38) hx hb d_Game_drawFreePlace_64 (by decide) ?_
            exact ih v19 v20 σ14 hf H locs ls h (lv_sub hl [2, 1, 0] rfl)
          · have hf := it c18 hf
            refine lv_iload_n hx hb d_Game_drawFreePlace_56 rfl (lv_at hl 2 rfl) ?_
            exact rt _ _ H locs 57 ls hf h d_Game_drawFreePlace_57
  have L4 : ∀ j : Nat, ∀ (y1 : Int32) (y2 : Int32) (σ : St), f_Game_drawFreePlace_4 n j y1 y2 σ = some (r, σr) → ∀ (H : Heap) (locs : List Loc) (ls : Array Slot), WD D A s (wl ad cA σ) H locs → lv_has ls 4 [(0, .ref (ad 1)), (1, .int y1), (2, .int y2)] → W p l e ({ frames := 2, cells := 0, slots := 0, locals := 43 }) s m args below meth c H locs 0 0 Q (F0 m 4 ls []) := by
    intro j
    induction j with
    | zero => intro y1 y2 σ hf; exact absurd hf (fun z => by cases z)
    | succ j ih =>
      intro y1 y2 σ hf H locs ls h hl
      have hf := us (f_Game_drawFreePlace_4_s n j y1 y2 σ) hf
      refine lv_iload_n hx hb d_Game_drawFreePlace_4 rfl (lv_at hl 2 rfl) ?_
      refine lv_bipush (v := 120) hx hb d_Game_drawFreePlace_5 (by decide) ?_
      refine lv_icmp_ge (tgt := 27) hx hb d_Game_drawFreePlace_7 (by decide) (fun c1 => ?_) (fun c1 => ?_)
      · have hf := it c1 hf
        refine lv_aload_n hx hb d_Game_drawFreePlace_27 rfl (lv_at hl 0 rfl) ?_
        refine G_game_play X h m_f_Game_18 d_Game_drawFreePlace_28 ?_
        refine lv_iload_n hx hb d_Game_drawFreePlace_31 rfl (lv_at hl 1 rfl) ?_
        obtain ⟨r2, σ3, h4, hf⟩ := bd_s hf
        refine x_Vi (As := [.int y1]) (rest := []) X hml hl.1 hZ hA h (c_Draws_draw_play l D ad cA tz n y1 σ r2 σ3 h4) k_Draws_draw m_m_Game_172 kd_Draws_draw ⟨rfl, rfl, Nat.le_of_ble_eq_true rfl, Nat.le_of_ble_eq_true rfl⟩ 2 rfl rfl rfl rfl rfl (Nat.le_of_ble_eq_true rfl) d_Game_drawFreePlace_32 (fun H locs h => ?_)
        refine lv_istore_n (lv' := [(2, .int r2), (0, .ref (ad 1)), (1, .int y1)]) hx hb d_Game_drawFreePlace_35 rfl hl (by decide) rfl (fun ls hl => ?_)
        refine lv_iconst (v := 0) hx hb d_Game_drawFreePlace_36 (by decide) ?_
        refine lv_istore_n (lv' := [(3, .int 0), (2, .int r2), (0, .ref (ad 1)), (1, .int y1)]) hx hb d_Game_drawFreePlace_37 rfl hl (by decide) rfl (fun ls hl => ?_)
        exact L38 n r2 0 σ3 hf H locs ls h (lv_sub hl [2, 1, 0] rfl)
      · have hf := ie c1 hf
        refine lv_aload_n hx hb d_Game_drawFreePlace_10 rfl (lv_at hl 0 rfl) ?_
        refine lv_iload_n hx hb d_Game_drawFreePlace_11 rfl (lv_at hl 2 rfl) ?_
        obtain ⟨r5, σ6, h7, hf⟩ := bd_s hf
        refine x_Vi (As := [.int y2]) (rest := []) X hml hl.1 hZ hA h (c_Game_isFree l D ad cA tz n y2 σ r5 σ6 h7) k_Game_isFree m_m_Game_169 kd_Game_isFree ⟨rfl, rfl, Nat.le_of_ble_eq_true rfl, Nat.le_of_ble_eq_true rfl⟩ 1 rfl rfl rfl rfl rfl (Nat.le_of_ble_eq_true rfl) d_Game_drawFreePlace_12 (fun H locs h => ?_)
        refine lv_if_eq (tgt := 21) hx hb d_Game_drawFreePlace_15 (by decide) (fun c8 => ?_) (fun c8 => ?_)
        · have hf := it c8 hf
          obtain ⟨v9, ev9⟩ : ∃ y : Int32, y = y2 + 1 := ⟨_, rfl⟩
          have hf := nm_b hf ev9
          refine lv_iinc (v := v9) (lv' := [(2, .int v9), (0, .ref (ad 1)), (1, .int y1)]) hx hb d_Game_drawFreePlace_21 hl (k := 2) rfl (by rw [ev9]; rfl) (by decide) rfl (fun ls hl => ?_)
          refine lv_goto (tgt := 4) hx hb d_Game_drawFreePlace_24 (by decide) ?_
          exact ih y1 v9 σ6 hf H locs ls h (lv_sub hl [1, 2, 0] rfl)
        · have hf := ie c8 hf
          obtain ⟨v10, ev10⟩ : ∃ y : Int32, y = y1 + 1 := ⟨_, rfl⟩
          have hf := nm_b hf ev10
          refine lv_iinc (v := v10) (lv' := [(1, .int v10), (0, .ref (ad 1)), (2, .int y2)]) hx hb d_Game_drawFreePlace_18 hl (k := 1) rfl (by rw [ev10]; rfl) (by decide) rfl (fun ls hl => ?_)
          obtain ⟨v11, ev11⟩ : ∃ y : Int32, y = y2 + 1 := ⟨_, rfl⟩
          have hf := nm_b hf ev11
          refine lv_iinc (v := v11) (lv' := [(2, .int v11), (1, .int v10), (0, .ref (ad 1))]) hx hb d_Game_drawFreePlace_21 hl (k := 2) rfl (by rw [ev11]; rfl) (by decide) rfl (fun ls hl => ?_)
          refine lv_goto (tgt := 4) hx hb d_Game_drawFreePlace_24 (by decide) ?_
          exact ih v10 v11 σ6 hf H locs ls h (lv_sub hl [2, 1, 0] rfl)
  unfold f_Game_drawFreePlace at hf
  refine lv_iconst (v := 0) hx hb d_Game_drawFreePlace_0 (by decide) ?_
  refine lv_istore_n (lv' := [(1, .int 0), (0, .ref (ad 1))]) hx hb d_Game_drawFreePlace_1 rfl hl (by decide) rfl (fun ls hl => ?_)
  refine lv_iconst (v := 0) hx hb d_Game_drawFreePlace_2 (by decide) ?_
  refine lv_istore_n (lv' := [(2, .int 0), (1, .int 0), (0, .ref (ad 1))]) hx hb d_Game_drawFreePlace_3 rfl hl (by decide) rfl (fun ls hl => ?_)
  exact L4 n 0 0 σ hf H locs ls h (lv_sub hl [2, 1, 0] rfl)
theorem d_Game_useThing_0 : decode b_Game_useThing 0 = .ok (.aload_n 0, 1) := by decide +kernel
theorem d_Game_useThing_1 : decode b_Game_useThing 1 = .ok (.getfield 53, 3) := by decide +kernel
theorem d_Game_useThing_4 : decode b_Game_useThing 4 = .ok (.iload_n 1, 1) := by decide +kernel
theorem d_Game_useThing_5 : decode b_Game_useThing 5 = .ok (.invokevirtual 149, 3) := by decide +kernel
theorem d_Game_useThing_8 : decode b_Game_useThing 8 = .ok (.istore_n 2, 1) := by decide +kernel
theorem d_Game_useThing_9 : decode b_Game_useThing 9 = .ok (.iload_n 2, 1) := by decide +kernel
theorem d_Game_useThing_10 : decode b_Game_useThing 10 = .ok (.bipush (-2), 2) := by decide +kernel
theorem d_Game_useThing_12 : decode b_Game_useThing 12 = .ok (.if_icmp .ne 5, 3) := by decide +kernel
theorem d_Game_useThing_15 : decode b_Game_useThing 15 = .ok (.iconst 0, 1) := by decide +kernel
theorem d_Game_useThing_16 : decode b_Game_useThing 16 = .ok (.ireturn, 1) := by decide +kernel
theorem d_Game_useThing_17 : decode b_Game_useThing 17 = .ok (.aload_n 0, 1) := by decide +kernel
theorem d_Game_useThing_18 : decode b_Game_useThing 18 = .ok (.getfield 53, 3) := by decide +kernel
theorem d_Game_useThing_21 : decode b_Game_useThing 21 = .ok (.iload_n 1, 1) := by decide +kernel
theorem d_Game_useThing_22 : decode b_Game_useThing 22 = .ok (.invokevirtual 152, 3) := by decide +kernel
theorem d_Game_useThing_25 : decode b_Game_useThing 25 = .ok (.iload_n 2, 1) := by decide +kernel
theorem d_Game_useThing_26 : decode b_Game_useThing 26 = .ok (.tableswitch 77 0 2 #[26, 50, 66], 26) := by decide +kernel
theorem d_Game_useThing_52 : decode b_Game_useThing 52 = .ok (.aload_n 0, 1) := by decide +kernel
theorem d_Game_useThing_53 : decode b_Game_useThing 53 = .ok (.getfield 53, 3) := by decide +kernel
theorem d_Game_useThing_56 : decode b_Game_useThing 56 = .ok (.aload_n 0, 1) := by decide +kernel
theorem d_Game_useThing_57 : decode b_Game_useThing 57 = .ok (.getfield 53, 3) := by decide +kernel
theorem d_Game_useThing_60 : decode b_Game_useThing 60 = .ok (.getfield 155, 3) := by decide +kernel
theorem d_Game_useThing_63 : decode b_Game_useThing 63 = .ok (.iconst 5, 1) := by decide +kernel
theorem d_Game_useThing_64 : decode b_Game_useThing 64 = .ok (.iadd, 1) := by decide +kernel
theorem d_Game_useThing_65 : decode b_Game_useThing 65 = .ok (.bipush 10, 2) := by decide +kernel
theorem d_Game_useThing_67 : decode b_Game_useThing 67 = .ok (.invokestatic 158, 3) := by decide +kernel
theorem d_Game_useThing_70 : decode b_Game_useThing 70 = .ok (.putfield 155, 3) := by decide +kernel
theorem d_Game_useThing_73 : decode b_Game_useThing 73 = .ok (.goto 39, 3) := by decide +kernel
theorem d_Game_useThing_76 : decode b_Game_useThing 76 = .ok (.aload_n 0, 1) := by decide +kernel
theorem d_Game_useThing_77 : decode b_Game_useThing 77 = .ok (.getfield 53, 3) := by decide +kernel
theorem d_Game_useThing_80 : decode b_Game_useThing 80 = .ok (.dup, 1) := by decide +kernel
theorem d_Game_useThing_81 : decode b_Game_useThing 81 = .ok (.getfield 123, 3) := by decide +kernel
theorem d_Game_useThing_84 : decode b_Game_useThing 84 = .ok (.iconst 1, 1) := by decide +kernel
theorem d_Game_useThing_85 : decode b_Game_useThing 85 = .ok (.iadd, 1) := by decide +kernel
theorem d_Game_useThing_86 : decode b_Game_useThing 86 = .ok (.putfield 123, 3) := by decide +kernel
theorem d_Game_useThing_89 : decode b_Game_useThing 89 = .ok (.goto 23, 3) := by decide +kernel
theorem d_Game_useThing_92 : decode b_Game_useThing 92 = .ok (.aload_n 0, 1) := by decide +kernel
theorem d_Game_useThing_93 : decode b_Game_useThing 93 = .ok (.aload_n 0, 1) := by decide +kernel
theorem d_Game_useThing_94 : decode b_Game_useThing 94 = .ok (.invokevirtual 163, 3) := by decide +kernel
theorem d_Game_useThing_97 : decode b_Game_useThing 97 = .ok (.invokevirtual 84, 3) := by decide +kernel
theorem d_Game_useThing_100 : decode b_Game_useThing 100 = .ok (.goto 12, 3) := by decide +kernel
theorem d_Game_useThing_103 : decode b_Game_useThing 103 = .ok (.aload_n 0, 1) := by decide +kernel
theorem d_Game_useThing_104 : decode b_Game_useThing 104 = .ok (.getfield 53, 3) := by decide +kernel
theorem d_Game_useThing_107 : decode b_Game_useThing 107 = .ok (.bipush 6, 2) := by decide +kernel
theorem d_Game_useThing_109 : decode b_Game_useThing 109 = .ok (.putfield 166, 3) := by decide +kernel
theorem d_Game_useThing_112 : decode b_Game_useThing 112 = .ok (.iconst 1, 1) := by decide +kernel
theorem d_Game_useThing_113 : decode b_Game_useThing 113 = .ok (.ireturn, 1) := by decide +kernel
def f_Game_useThing (n : Nat) (x1 : Int32) (σ : St) : Option (Int32 × St) := bd (f_Hero_thingInBag n x1 σ) (fun r1 σ2 => if r1 = (-2) then (some (0, σ2)) else (bd (f_Hero_dropFromBag n x1 σ2) (fun _ σ6 => if r1 = 0 then (bnd (if 10 < ((σ6.1 10) + 5) then 10 else ((σ6.1 10) + 5)) (fun v9 => bnd (sI σ6 10 v9) (fun σ10 => some (1, σ10)))) else (if r1 = 1 then (bnd (sI σ6 11 ((σ6.1 11) + 1)) (fun σ12 => some (1, σ12))) else (if r1 = 2 then (bd (f_Game_drawFreePlace n σ6) (fun r14 σ15 => bd (f_Game_arrive n r14 σ15) (fun _ σ18 => some (1, σ18)))) else (bnd (sI σ6 13 6) (fun σ20 => some (1, σ20))))))))
set_option maxHeartbeats 4000000 in
set_option maxRecDepth 100000 in
theorem c_Game_useThing (l : Launch) (D : va_G) (ad : Nat → Nat) (cA : Nat → ClassId) (tz : Nat → Nat) (n : Nat) (x1 : Int32) (σ : St) (r : Int32) (σr : St) (hf : f_Game_useThing n x1 σ = some (r, σr)) : Ki l D cA tz (wl ad cA) y_Game_useThing (.code y_Game_useThing b_Game_useThing 3 (some .int) :: TB) ({ frames := 4, cells := 0, slots := 0, locals := 96 }) [.ref (ad 1), .int x1] σ r σr := by
  refine x_openi (own := R_Game) rfl (by decide) (fun p e s m args below meth c A Q X hml hZ hA H locs ls h hl rt => ?_)
  have hx := X.1
  have hb := X.2.1
  have hl : lv_has ls 3 [(0, .ref (ad 1)), (1, .int x1)] := hl
  unfold f_Game_useThing at hf
  refine lv_aload_n hx hb d_Game_useThing_0 rfl (lv_at hl 0 rfl) ?_
  refine G_game_hero X h m_f_Game_53 d_Game_useThing_1 ?_
  refine lv_iload_n hx hb d_Game_useThing_4 rfl (lv_at hl 1 rfl) ?_
  obtain ⟨r1, σ2, h3, hf⟩ := bd_s hf
  refine x_Vi (As := [.int x1]) (rest := []) X hml hl.1 hZ hA h (c_Hero_thingInBag l D ad cA tz n x1 σ r1 σ2 h3) k_Hero_thingInBag m_m_Game_149 kd_Hero_thingInBag ⟨rfl, rfl, Nat.le_of_ble_eq_true rfl, Nat.le_of_ble_eq_true rfl⟩ 8 rfl rfl rfl rfl rfl (Nat.le_of_ble_eq_true rfl) d_Game_useThing_5 (fun H locs h => ?_)
  refine lv_istore_n (lv' := [(2, .int r1), (0, .ref (ad 1)), (1, .int x1)]) hx hb d_Game_useThing_8 rfl hl (by decide) rfl (fun ls hl => ?_)
  refine lv_iload_n hx hb d_Game_useThing_9 rfl (lv_at hl 0 rfl) ?_
  refine lv_bipush (v := (-2)) hx hb d_Game_useThing_10 (by decide) ?_
  refine lv_icmp_ne (tgt := 17) hx hb d_Game_useThing_12 (by decide) (fun c4 => ?_) (fun c4 => ?_)
  · have hf := ie c4 hf
    refine lv_aload_n hx hb d_Game_useThing_17 rfl (lv_at hl 1 rfl) ?_
    refine G_game_hero X h m_f_Game_53 d_Game_useThing_18 ?_
    refine lv_iload_n hx hb d_Game_useThing_21 rfl (lv_at hl 2 rfl) ?_
    obtain ⟨r5, σ6, h7, hf⟩ := bd_s hf
    refine x_Vv (As := [.int x1]) (rest := []) X hml hl.1 hZ hA h (c_Hero_dropFromBag l D ad cA tz n x1 σ2 r5 σ6 h7) k_Hero_dropFromBag m_m_Game_152 kd_Hero_dropFromBag ⟨rfl, rfl, Nat.le_of_ble_eq_true rfl, Nat.le_of_ble_eq_true rfl⟩ 8 rfl rfl rfl rfl rfl (Nat.le_of_ble_eq_true rfl) d_Game_useThing_22 (fun H locs h => ?_)
    refine lv_iload_n hx hb d_Game_useThing_25 rfl (lv_at hl 0 rfl) ?_
    by_cases c8 : r1 = 0
    · have hf := it c8 hf
      refine lv_tableIn (off := 26) (tgt := 52) hx hb d_Game_useThing_26 (by rw [c8]; decide) (by rw [c8]; decide) (by rw [c8]; decide) (by decide) ?_
      refine lv_aload_n hx hb d_Game_useThing_52 rfl (lv_at hl 1 rfl) ?_
      refine G_game_hero X h m_f_Game_53 d_Game_useThing_53 ?_
      refine lv_aload_n hx hb d_Game_useThing_56 rfl (lv_at hl 1 rfl) ?_
      refine G_game_hero X h m_f_Game_53 d_Game_useThing_57 ?_
      refine G_hero_health X h m_f_Game_155 d_Game_useThing_60 ?_
      refine lv_iconst (v := 5) hx hb d_Game_useThing_63 (by decide) ?_
      refine lv_iadd hx hb d_Game_useThing_64 ?_
      refine lv_bipush (v := 10) hx hb d_Game_useThing_65 (by decide) ?_
      refine va_mmin hx hb (by rw [hml]; exact hl.1.symm) X.2.2.1 (X.2.2.2.1 _ m_m_Game_158) (X.2.2.2.1 _ k_Math_min.1) (X.2.2.2.1 _ k_Math_min.2.1) (X.2.2.2.1 _ k_Math_min.2.2) (Nat.le_of_ble_eq_true rfl) (Nat.le_of_ble_eq_true rfl) (Nat.zero_le _) (Nat.zero_le _) d_Game_useThing_67 ?_
      refine lv_topi (fun v9 ev9 => ?_)
      have hf := nm_b hf ev9
      refine P_hero_health X h m_f_Game_155 d_Game_useThing_70 (fun H locs σ10 eσ10 h => ?_)
      have hf := nm_b hf eσ10
      refine lv_goto (tgt := 112) hx hb d_Game_useThing_73 (by decide) ?_
      refine lv_iconst (v := 1) hx hb d_Game_useThing_112 (by decide) ?_
      exact rt _ _ H locs 113 ls hf h d_Game_useThing_113
    · have hf := ie c8 hf
      by_cases c11 : r1 = 1
      · have hf := it c11 hf
        refine lv_tableIn (off := 50) (tgt := 76) hx hb d_Game_useThing_26 (by rw [c11]; decide) (by rw [c11]; decide) (by rw [c11]; decide) (by decide) ?_
        refine lv_aload_n hx hb d_Game_useThing_76 rfl (lv_at hl 1 rfl) ?_
        refine G_game_hero X h m_f_Game_53 d_Game_useThing_77 ?_
        refine lv_dup hx hb d_Game_useThing_80 rfl ?_
        refine G_hero_hit X h m_f_Game_123 d_Game_useThing_81 ?_
        refine lv_iconst (v := 1) hx hb d_Game_useThing_84 (by decide) ?_
        refine lv_iadd hx hb d_Game_useThing_85 ?_
        refine P_hero_hit X h m_f_Game_123 d_Game_useThing_86 (fun H locs σ12 eσ12 h => ?_)
        have hf := nm_b hf eσ12
        refine lv_goto (tgt := 112) hx hb d_Game_useThing_89 (by decide) ?_
        refine lv_iconst (v := 1) hx hb d_Game_useThing_112 (by decide) ?_
        exact rt _ _ H locs 113 ls hf h d_Game_useThing_113
      · have hf := ie c11 hf
        by_cases c13 : r1 = 2
        · have hf := it c13 hf
          refine lv_tableIn (off := 66) (tgt := 92) hx hb d_Game_useThing_26 (by rw [c13]; decide) (by rw [c13]; decide) (by rw [c13]; decide) (by decide) ?_
          refine lv_aload_n hx hb d_Game_useThing_92 rfl (lv_at hl 1 rfl) ?_
          refine lv_aload_n hx hb d_Game_useThing_93 rfl (lv_at hl 1 rfl) ?_
          obtain ⟨r14, σ15, h16, hf⟩ := bd_s hf
          refine x_Vi (As := []) (rest := [.ref (ad 1)]) X hml hl.1 hZ hA h (c_Game_drawFreePlace l D ad cA tz n σ6 r14 σ15 h16) k_Game_drawFreePlace m_m_Game_163 kd_Game_drawFreePlace ⟨rfl, rfl, Nat.le_of_ble_eq_true rfl, Nat.le_of_ble_eq_true rfl⟩ 1 rfl rfl rfl rfl rfl (Nat.le_of_ble_eq_true rfl) d_Game_useThing_94 (fun H locs h => ?_)
          obtain ⟨r17, σ18, h19, hf⟩ := bd_s hf
          refine x_Vv (As := [.int r14]) (rest := []) X hml hl.1 hZ hA h (c_Game_arrive l D ad cA tz n r14 σ15 r17 σ18 h19) k_Game_arrive m_m_Game_84 kd_Game_arrive ⟨rfl, rfl, Nat.le_of_ble_eq_true rfl, Nat.le_of_ble_eq_true rfl⟩ 1 rfl rfl rfl rfl rfl (Nat.le_of_ble_eq_true rfl) d_Game_useThing_97 (fun H locs h => ?_)
          refine lv_goto (tgt := 112) hx hb d_Game_useThing_100 (by decide) ?_
          refine lv_iconst (v := 1) hx hb d_Game_useThing_112 (by decide) ?_
          exact rt _ _ H locs 113 ls hf h d_Game_useThing_113
        · have hf := ie c13 hf
          refine lv_tableOut (tgt := 103) hx hb d_Game_useThing_26 (by have zc8 := lv_neT c8 (show (0 : Int32).toInt = 0 by decide); have zc11 := lv_neT c11 (show (1 : Int32).toInt = 1 by decide); have zc13 := lv_neT c13 (show (2 : Int32).toInt = 2 by decide); omega) (by decide) ?_
          refine lv_aload_n hx hb d_Game_useThing_103 rfl (lv_at hl 1 rfl) ?_
          refine G_game_hero X h m_f_Game_53 d_Game_useThing_104 ?_
          refine lv_bipush (v := 6) hx hb d_Game_useThing_107 (by decide) ?_
          refine P_hero_haste X h m_f_Game_166 d_Game_useThing_109 (fun H locs σ20 eσ20 h => ?_)
          have hf := nm_b hf eσ20
          refine lv_iconst (v := 1) hx hb d_Game_useThing_112 (by decide) ?_
          exact rt _ _ H locs 113 ls hf h d_Game_useThing_113
  · have hf := it c4 hf
    refine lv_iconst (v := 0) hx hb d_Game_useThing_15 (by decide) ?_
    exact rt _ _ H locs 16 ls hf h d_Game_useThing_16
theorem d_Level_thingAt_0 : decode b_Level_thingAt 0 = .ok (.iload_n 1, 1) := by decide +kernel
theorem d_Level_thingAt_1 : decode b_Level_thingAt 1 = .ok (.invokestatic 34, 3) := by decide +kernel
theorem d_Level_thingAt_4 : decode b_Level_thingAt 4 = .ok (.ifCond .eq 23, 3) := by decide +kernel
theorem d_Level_thingAt_7 : decode b_Level_thingAt 7 = .ok (.aload_n 0, 1) := by decide +kernel
theorem d_Level_thingAt_8 : decode b_Level_thingAt 8 = .ok (.getfield 15, 3) := by decide +kernel
theorem d_Level_thingAt_11 : decode b_Level_thingAt 11 = .ok (.iload_n 1, 1) := by decide +kernel
theorem d_Level_thingAt_12 : decode b_Level_thingAt 12 = .ok (.iaload, 1) := by decide +kernel
theorem d_Level_thingAt_13 : decode b_Level_thingAt 13 = .ok (.ifCond .eq 14, 3) := by decide +kernel
theorem d_Level_thingAt_16 : decode b_Level_thingAt 16 = .ok (.aload_n 0, 1) := by decide +kernel
theorem d_Level_thingAt_17 : decode b_Level_thingAt 17 = .ok (.getfield 15, 3) := by decide +kernel
theorem d_Level_thingAt_20 : decode b_Level_thingAt 20 = .ok (.iload_n 1, 1) := by decide +kernel
theorem d_Level_thingAt_21 : decode b_Level_thingAt 21 = .ok (.iaload, 1) := by decide +kernel
theorem d_Level_thingAt_22 : decode b_Level_thingAt 22 = .ok (.iconst 1, 1) := by decide +kernel
theorem d_Level_thingAt_23 : decode b_Level_thingAt 23 = .ok (.isub, 1) := by decide +kernel
theorem d_Level_thingAt_24 : decode b_Level_thingAt 24 = .ok (.goto 5, 3) := by decide +kernel
theorem d_Level_thingAt_27 : decode b_Level_thingAt 27 = .ok (.bipush (-2), 2) := by decide +kernel
theorem d_Level_thingAt_29 : decode b_Level_thingAt 29 = .ok (.ireturn, 1) := by decide +kernel
def f_Level_thingAt (n : Nat) (x1 : Int32) (σ : St) : Option (Int32 × St) := bd (f_Level_isCell n x1 σ) (fun r1 σ2 => if r1 = 0 then (some ((-2), σ2)) else (gd (inb x1 120) (if (σ2.2.2 2 x1.toNatClampNeg) = 0 then (some ((-2), σ2)) else (gd (inb x1 120) (some ((σ2.2.2 2 x1.toNatClampNeg) - 1, σ2))))))
set_option maxHeartbeats 4000000 in
set_option maxRecDepth 100000 in
theorem c_Level_thingAt (l : Launch) (D : va_G) (ad : Nat → Nat) (cA : Nat → ClassId) (tz : Nat → Nat) (n : Nat) (x1 : Int32) (σ : St) (r : Int32) (σr : St) (hf : f_Level_thingAt n x1 σ = some (r, σr)) : Ki l D cA tz (wl ad cA) y_Level_thingAt (.code y_Level_thingAt b_Level_thingAt 2 (some .int) :: TB) ({ frames := 1, cells := 0, slots := 0, locals := 20 }) [.ref (ad 5), .int x1] σ r σr := by
  refine x_openi (own := R_Level) rfl (by decide) (fun p e s m args below meth c A Q X hml hZ hA H locs ls h hl rt => ?_)
  have hx := X.1
  have hb := X.2.1
  have hl : lv_has ls 2 [(0, .ref (ad 5)), (1, .int x1)] := hl
  unfold f_Level_thingAt at hf
  refine lv_iload_n hx hb d_Level_thingAt_0 rfl (lv_at hl 1 rfl) ?_
  obtain ⟨r1, σ2, h3, hf⟩ := bd_s hf
  refine x_Si (As := [.int x1]) (rest := []) X hml hl.1 hZ hA h (c_Level_isCell l D ad cA tz n x1 σ r1 σ2 h3) k_Level_isCell m_m_Level_34 kd_Level_isCell ⟨rfl, rfl, Nat.le_of_ble_eq_true rfl, Nat.le_of_ble_eq_true rfl⟩ rfl rfl (Nat.le_of_ble_eq_true rfl) d_Level_thingAt_1 (fun H locs h => ?_)
  refine lv_if_eq (tgt := 27) hx hb d_Level_thingAt_4 (by decide) (fun c4 => ?_) (fun c4 => ?_)
  · have hf := it c4 hf
    refine lv_bipush (v := (-2)) hx hb d_Level_thingAt_27 (by decide) ?_
    exact rt _ _ H locs 29 ls hf h d_Level_thingAt_29
  · have hf := ie c4 hf
    refine lv_aload_n hx hb d_Level_thingAt_7 rfl (lv_at hl 0 rfl) ?_
    refine G_level_things X h m_f_Level_15 d_Level_thingAt_8 ?_
    refine lv_iload_n hx hb d_Level_thingAt_11 rfl (lv_at hl 1 rfl) ?_
    obtain ⟨g5, hf⟩ := gd_s hf
    refine R_things X h (inb_s g5) d_Level_thingAt_12 ?_
    refine lv_if_eq (tgt := 27) hx hb d_Level_thingAt_13 (by decide) (fun c6 => ?_) (fun c6 => ?_)
    · have hf := it c6 hf
      refine lv_bipush (v := (-2)) hx hb d_Level_thingAt_27 (by decide) ?_
      exact rt _ _ H locs 29 ls hf h d_Level_thingAt_29
    · have hf := ie c6 hf
      refine lv_aload_n hx hb d_Level_thingAt_16 rfl (lv_at hl 0 rfl) ?_
      refine G_level_things X h m_f_Level_15 d_Level_thingAt_17 ?_
      refine lv_iload_n hx hb d_Level_thingAt_20 rfl (lv_at hl 1 rfl) ?_
      obtain ⟨g7, hf⟩ := gd_s hf
      refine R_things X h (inb_s g7) d_Level_thingAt_21 ?_
      refine lv_iconst (v := 1) hx hb d_Level_thingAt_22 (by decide) ?_
      refine lv_isub hx hb d_Level_thingAt_23 ?_
      refine lv_goto (tgt := 29) hx hb d_Level_thingAt_24 (by decide) ?_
      exact rt _ _ H locs 29 ls hf h d_Level_thingAt_29
theorem d_Hero_bagIsFull_0 : decode b_Hero_bagIsFull 0 = .ok (.aload_n 0, 1) := by decide +kernel
theorem d_Hero_bagIsFull_1 : decode b_Hero_bagIsFull 1 = .ok (.getfield 36, 3) := by decide +kernel
theorem d_Hero_bagIsFull_4 : decode b_Hero_bagIsFull 4 = .ok (.iconst 4, 1) := by decide +kernel
theorem d_Hero_bagIsFull_5 : decode b_Hero_bagIsFull 5 = .ok (.if_icmp .lt 7, 3) := by decide +kernel
theorem d_Hero_bagIsFull_8 : decode b_Hero_bagIsFull 8 = .ok (.iconst 1, 1) := by decide +kernel
theorem d_Hero_bagIsFull_9 : decode b_Hero_bagIsFull 9 = .ok (.goto 4, 3) := by decide +kernel
theorem d_Hero_bagIsFull_12 : decode b_Hero_bagIsFull 12 = .ok (.iconst 0, 1) := by decide +kernel
theorem d_Hero_bagIsFull_13 : decode b_Hero_bagIsFull 13 = .ok (.ireturn, 1) := by decide +kernel
def f_Hero_bagIsFull (n : Nat) (σ : St) : Option (Int32 × St) := if (σ.1 14) < 4 then (some (0, σ)) else (some (1, σ))
set_option maxHeartbeats 4000000 in
set_option maxRecDepth 100000 in
theorem c_Hero_bagIsFull (l : Launch) (D : va_G) (ad : Nat → Nat) (cA : Nat → ClassId) (tz : Nat → Nat) (n : Nat) (σ : St) (r : Int32) (σr : St) (hf : f_Hero_bagIsFull n σ = some (r, σr)) : Ki l D cA tz (wl ad cA) y_Hero_bagIsFull (.code y_Hero_bagIsFull b_Hero_bagIsFull 1 (some .boolean) :: TB) ({ frames := 0, cells := 0, slots := 0, locals := 0 }) [.ref (ad 8)] σ r σr := by
  refine x_openz (own := R_Hero) rfl (by decide) (fun p e s m args below meth c A Q X hml hZ hA H locs ls h hl rt => ?_)
  have hx := X.1
  have hb := X.2.1
  have hl : lv_has ls 1 [(0, .ref (ad 8))] := hl
  unfold f_Hero_bagIsFull at hf
  refine lv_aload_n hx hb d_Hero_bagIsFull_0 rfl (lv_at hl 0 rfl) ?_
  refine G_hero_bagSize X h m_f_Hero_36 d_Hero_bagIsFull_1 ?_
  refine lv_iconst (v := 4) hx hb d_Hero_bagIsFull_4 (by decide) ?_
  refine lv_icmp_lt (tgt := 12) hx hb d_Hero_bagIsFull_5 (by decide) (fun c1 => ?_) (fun c1 => ?_)
  · have hf := it c1 hf
    refine lv_iconst (v := 0) hx hb d_Hero_bagIsFull_12 (by decide) ?_
    exact rt _ _ H locs 13 ls rfl hf h d_Hero_bagIsFull_13
  · have hf := ie c1 hf
    refine lv_iconst (v := 1) hx hb d_Hero_bagIsFull_8 (by decide) ?_
    refine lv_goto (tgt := 13) hx hb d_Hero_bagIsFull_9 (by decide) ?_
    exact rt _ _ H locs 13 ls rfl hf h d_Hero_bagIsFull_13
theorem d_Hero_putInBag_0 : decode b_Hero_putInBag 0 = .ok (.aload_n 0, 1) := by decide +kernel
theorem d_Hero_putInBag_1 : decode b_Hero_putInBag 1 = .ok (.invokevirtual 39, 3) := by decide +kernel
theorem d_Hero_putInBag_4 : decode b_Hero_putInBag 4 = .ok (.ifCond .ne 23, 3) := by decide +kernel
theorem d_Hero_putInBag_7 : decode b_Hero_putInBag 7 = .ok (.aload_n 0, 1) := by decide +kernel
theorem d_Hero_putInBag_8 : decode b_Hero_putInBag 8 = .ok (.getfield 11, 3) := by decide +kernel
theorem d_Hero_putInBag_11 : decode b_Hero_putInBag 11 = .ok (.aload_n 0, 1) := by decide +kernel
theorem d_Hero_putInBag_12 : decode b_Hero_putInBag 12 = .ok (.getfield 36, 3) := by decide +kernel
theorem d_Hero_putInBag_15 : decode b_Hero_putInBag 15 = .ok (.iload_n 1, 1) := by decide +kernel
theorem d_Hero_putInBag_16 : decode b_Hero_putInBag 16 = .ok (.iastore, 1) := by decide +kernel
theorem d_Hero_putInBag_17 : decode b_Hero_putInBag 17 = .ok (.aload_n 0, 1) := by decide +kernel
theorem d_Hero_putInBag_18 : decode b_Hero_putInBag 18 = .ok (.dup, 1) := by decide +kernel
theorem d_Hero_putInBag_19 : decode b_Hero_putInBag 19 = .ok (.getfield 36, 3) := by decide +kernel
theorem d_Hero_putInBag_22 : decode b_Hero_putInBag 22 = .ok (.iconst 1, 1) := by decide +kernel
theorem d_Hero_putInBag_23 : decode b_Hero_putInBag 23 = .ok (.iadd, 1) := by decide +kernel
theorem d_Hero_putInBag_24 : decode b_Hero_putInBag 24 = .ok (.putfield 36, 3) := by decide +kernel
theorem d_Hero_putInBag_27 : decode b_Hero_putInBag 27 = .ok (.return_, 1) := by decide +kernel
def f_Hero_putInBag (n : Nat) (x1 : Int32) (σ : St) : Option (Unit × St) := bd (f_Hero_bagIsFull n σ) (fun r1 σ2 => if r1 = 0 then (gd (inb (σ2.1 14) 4) (bnd (sA σ2 15 (σ2.1 14).toNatClampNeg x1) (fun σ6 => bnd (sI σ6 14 ((σ6.1 14) + 1)) (fun σ7 => some ((), σ7))))) else (some ((), σ2)))
set_option maxHeartbeats 4000000 in
set_option maxRecDepth 100000 in
theorem c_Hero_putInBag (l : Launch) (D : va_G) (ad : Nat → Nat) (cA : Nat → ClassId) (tz : Nat → Nat) (n : Nat) (x1 : Int32) (σ : St) (r : Unit) (σr : St) (hf : f_Hero_putInBag n x1 σ = some (r, σr)) : Kv l D cA tz (wl ad cA) y_Hero_putInBag (.code y_Hero_putInBag b_Hero_putInBag 2 none :: TB) ({ frames := 1, cells := 0, slots := 0, locals := 20 }) [.ref (ad 8), .int x1] σ σr := by
  refine x_openv (r := r) (own := R_Hero) rfl (by decide) (fun p e s m args below meth c A Q X hml hZ hA H locs ls h hl rt => ?_)
  have hx := X.1
  have hb := X.2.1
  have hl : lv_has ls 2 [(0, .ref (ad 8)), (1, .int x1)] := hl
  unfold f_Hero_putInBag at hf
  refine lv_aload_n hx hb d_Hero_putInBag_0 rfl (lv_at hl 0 rfl) ?_
  obtain ⟨r1, σ2, h3, hf⟩ := bd_s hf
  refine x_Vi (As := []) (rest := []) X hml hl.1 hZ hA h (c_Hero_bagIsFull l D ad cA tz n σ r1 σ2 h3) k_Hero_bagIsFull m_m_Hero_39 kd_Hero_bagIsFull ⟨rfl, rfl, Nat.le_of_ble_eq_true rfl, Nat.le_of_ble_eq_true rfl⟩ 8 rfl rfl rfl rfl rfl (Nat.le_of_ble_eq_true rfl) d_Hero_putInBag_1 (fun H locs h => ?_)
  refine lv_if_ne (tgt := 27) hx hb d_Hero_putInBag_4 (by decide) (fun c4 => ?_) (fun c4 => ?_)
  · have hf := ie c4 hf
    exact rt _ H locs 27 ls hf h d_Hero_putInBag_27
  · have hf := it c4 hf
    refine lv_aload_n hx hb d_Hero_putInBag_7 rfl (lv_at hl 0 rfl) ?_
    refine G_hero_bag X h m_f_Hero_11 d_Hero_putInBag_8 ?_
    refine lv_aload_n hx hb d_Hero_putInBag_11 rfl (lv_at hl 0 rfl) ?_
    refine G_hero_bagSize X h m_f_Hero_36 d_Hero_putInBag_12 ?_
    refine lv_iload_n hx hb d_Hero_putInBag_15 rfl (lv_at hl 1 rfl) ?_
    obtain ⟨g5, hf⟩ := gd_s hf
    refine S_bag X h (inb_s g5) d_Hero_putInBag_16 (fun H locs σ6 eσ6 h => ?_)
    have hf := nm_b hf eσ6
    refine lv_aload_n hx hb d_Hero_putInBag_17 rfl (lv_at hl 0 rfl) ?_
    refine lv_dup hx hb d_Hero_putInBag_18 rfl ?_
    refine G_hero_bagSize X h m_f_Hero_36 d_Hero_putInBag_19 ?_
    refine lv_iconst (v := 1) hx hb d_Hero_putInBag_22 (by decide) ?_
    refine lv_iadd hx hb d_Hero_putInBag_23 ?_
    refine P_hero_bagSize X h m_f_Hero_36 d_Hero_putInBag_24 (fun H locs σ7 eσ7 h => ?_)
    have hf := nm_b hf eσ7
    exact rt _ H locs 27 ls hf h d_Hero_putInBag_27
theorem d_Level_takeThing_0 : decode b_Level_takeThing 0 = .ok (.iload_n 1, 1) := by decide +kernel
theorem d_Level_takeThing_1 : decode b_Level_takeThing 1 = .ok (.invokestatic 34, 3) := by decide +kernel
theorem d_Level_takeThing_4 : decode b_Level_takeThing 4 = .ok (.ifCond .eq 10, 3) := by decide +kernel
theorem d_Level_takeThing_7 : decode b_Level_takeThing 7 = .ok (.aload_n 0, 1) := by decide +kernel
theorem d_Level_takeThing_8 : decode b_Level_takeThing 8 = .ok (.getfield 15, 3) := by decide +kernel
theorem d_Level_takeThing_11 : decode b_Level_takeThing 11 = .ok (.iload_n 1, 1) := by decide +kernel
theorem d_Level_takeThing_12 : decode b_Level_takeThing 12 = .ok (.iconst 0, 1) := by decide +kernel
theorem d_Level_takeThing_13 : decode b_Level_takeThing 13 = .ok (.iastore, 1) := by decide +kernel
theorem d_Level_takeThing_14 : decode b_Level_takeThing 14 = .ok (.return_, 1) := by decide +kernel
def f_Level_takeThing (n : Nat) (x1 : Int32) (σ : St) : Option (Unit × St) := bd (f_Level_isCell n x1 σ) (fun r1 σ2 => if r1 = 0 then (some ((), σ2)) else (gd (inb x1 120) (bnd (sA σ2 2 x1.toNatClampNeg 0) (fun σ6 => some ((), σ6)))))
set_option maxHeartbeats 4000000 in
set_option maxRecDepth 100000 in
theorem c_Level_takeThing (l : Launch) (D : va_G) (ad : Nat → Nat) (cA : Nat → ClassId) (tz : Nat → Nat) (n : Nat) (x1 : Int32) (σ : St) (r : Unit) (σr : St) (hf : f_Level_takeThing n x1 σ = some (r, σr)) : Kv l D cA tz (wl ad cA) y_Level_takeThing (.code y_Level_takeThing b_Level_takeThing 2 none :: TB) ({ frames := 1, cells := 0, slots := 0, locals := 20 }) [.ref (ad 5), .int x1] σ σr := by
  refine x_openv (r := r) (own := R_Level) rfl (by decide) (fun p e s m args below meth c A Q X hml hZ hA H locs ls h hl rt => ?_)
  have hx := X.1
  have hb := X.2.1
  have hl : lv_has ls 2 [(0, .ref (ad 5)), (1, .int x1)] := hl
  unfold f_Level_takeThing at hf
  refine lv_iload_n hx hb d_Level_takeThing_0 rfl (lv_at hl 1 rfl) ?_
  obtain ⟨r1, σ2, h3, hf⟩ := bd_s hf
  refine x_Si (As := [.int x1]) (rest := []) X hml hl.1 hZ hA h (c_Level_isCell l D ad cA tz n x1 σ r1 σ2 h3) k_Level_isCell m_m_Level_34 kd_Level_isCell ⟨rfl, rfl, Nat.le_of_ble_eq_true rfl, Nat.le_of_ble_eq_true rfl⟩ rfl rfl (Nat.le_of_ble_eq_true rfl) d_Level_takeThing_1 (fun H locs h => ?_)
  refine lv_if_eq (tgt := 14) hx hb d_Level_takeThing_4 (by decide) (fun c4 => ?_) (fun c4 => ?_)
  · have hf := it c4 hf
    exact rt _ H locs 14 ls hf h d_Level_takeThing_14
  · have hf := ie c4 hf
    refine lv_aload_n hx hb d_Level_takeThing_7 rfl (lv_at hl 0 rfl) ?_
    refine G_level_things X h m_f_Level_15 d_Level_takeThing_8 ?_
    refine lv_iload_n hx hb d_Level_takeThing_11 rfl (lv_at hl 1 rfl) ?_
    refine lv_iconst (v := 0) hx hb d_Level_takeThing_12 (by decide) ?_
    obtain ⟨g5, hf⟩ := gd_s hf
    refine S_things X h (inb_s g5) d_Level_takeThing_13 (fun H locs σ6 eσ6 h => ?_)
    have hf := nm_b hf eσ6
    exact rt _ H locs 14 ls hf h d_Level_takeThing_14
theorem d_Game_pickUp_0 : decode b_Game_pickUp 0 = .ok (.aload_n 0, 1) := by decide +kernel
theorem d_Game_pickUp_1 : decode b_Game_pickUp 1 = .ok (.getfield 32, 3) := by decide +kernel
theorem d_Game_pickUp_4 : decode b_Game_pickUp 4 = .ok (.aload_n 0, 1) := by decide +kernel
theorem d_Game_pickUp_5 : decode b_Game_pickUp 5 = .ok (.getfield 53, 3) := by decide +kernel
theorem d_Game_pickUp_8 : decode b_Game_pickUp 8 = .ok (.getfield 109, 3) := by decide +kernel
theorem d_Game_pickUp_11 : decode b_Game_pickUp 11 = .ok (.invokevirtual 137, 3) := by decide +kernel
theorem d_Game_pickUp_14 : decode b_Game_pickUp 14 = .ok (.istore_n 1, 1) := by decide +kernel
theorem d_Game_pickUp_15 : decode b_Game_pickUp 15 = .ok (.iload_n 1, 1) := by decide +kernel
theorem d_Game_pickUp_16 : decode b_Game_pickUp 16 = .ok (.bipush (-2), 2) := by decide +kernel
theorem d_Game_pickUp_18 : decode b_Game_pickUp 18 = .ok (.if_icmp .eq 13, 3) := by decide +kernel
theorem d_Game_pickUp_21 : decode b_Game_pickUp 21 = .ok (.aload_n 0, 1) := by decide +kernel
theorem d_Game_pickUp_22 : decode b_Game_pickUp 22 = .ok (.getfield 53, 3) := by decide +kernel
theorem d_Game_pickUp_25 : decode b_Game_pickUp 25 = .ok (.invokevirtual 140, 3) := by decide +kernel
theorem d_Game_pickUp_28 : decode b_Game_pickUp 28 = .ok (.ifCond .eq 5, 3) := by decide +kernel
theorem d_Game_pickUp_31 : decode b_Game_pickUp 31 = .ok (.iconst 0, 1) := by decide +kernel
theorem d_Game_pickUp_32 : decode b_Game_pickUp 32 = .ok (.ireturn, 1) := by decide +kernel
theorem d_Game_pickUp_33 : decode b_Game_pickUp 33 = .ok (.aload_n 0, 1) := by decide +kernel
theorem d_Game_pickUp_34 : decode b_Game_pickUp 34 = .ok (.getfield 53, 3) := by decide +kernel
theorem d_Game_pickUp_37 : decode b_Game_pickUp 37 = .ok (.iload_n 1, 1) := by decide +kernel
theorem d_Game_pickUp_38 : decode b_Game_pickUp 38 = .ok (.invokevirtual 143, 3) := by decide +kernel
theorem d_Game_pickUp_41 : decode b_Game_pickUp 41 = .ok (.aload_n 0, 1) := by decide +kernel
theorem d_Game_pickUp_42 : decode b_Game_pickUp 42 = .ok (.getfield 32, 3) := by decide +kernel
theorem d_Game_pickUp_45 : decode b_Game_pickUp 45 = .ok (.aload_n 0, 1) := by decide +kernel
theorem d_Game_pickUp_46 : decode b_Game_pickUp 46 = .ok (.getfield 53, 3) := by decide +kernel
theorem d_Game_pickUp_49 : decode b_Game_pickUp 49 = .ok (.getfield 109, 3) := by decide +kernel
theorem d_Game_pickUp_52 : decode b_Game_pickUp 52 = .ok (.invokevirtual 146, 3) := by decide +kernel
theorem d_Game_pickUp_55 : decode b_Game_pickUp 55 = .ok (.iconst 1, 1) := by decide +kernel
theorem d_Game_pickUp_56 : decode b_Game_pickUp 56 = .ok (.ireturn, 1) := by decide +kernel
def f_Game_pickUp (n : Nat) (σ : St) : Option (Int32 × St) := bd (f_Level_thingAt n (σ.1 9) σ) (fun r1 σ2 => if r1 = (-2) then (some (0, σ2)) else (bd (f_Hero_bagIsFull n σ2) (fun r5 σ6 => if r5 = 0 then (bd (f_Hero_putInBag n r1 σ6) (fun _ σ10 => bd (f_Level_takeThing n (σ10.1 9) σ10) (fun _ σ13 => some (1, σ13)))) else (some (0, σ6)))))
set_option maxHeartbeats 4000000 in
set_option maxRecDepth 100000 in
theorem c_Game_pickUp (l : Launch) (D : va_G) (ad : Nat → Nat) (cA : Nat → ClassId) (tz : Nat → Nat) (n : Nat) (σ : St) (r : Int32) (σr : St) (hf : f_Game_pickUp n σ = some (r, σr)) : Ki l D cA tz (wl ad cA) y_Game_pickUp (.code y_Game_pickUp b_Game_pickUp 2 (some .int) :: TB) ({ frames := 2, cells := 0, slots := 0, locals := 41 }) [.ref (ad 1)] σ r σr := by
  refine x_openi (own := R_Game) rfl (by decide) (fun p e s m args below meth c A Q X hml hZ hA H locs ls h hl rt => ?_)
  have hx := X.1
  have hb := X.2.1
  have hl : lv_has ls 2 [(0, .ref (ad 1))] := hl
  unfold f_Game_pickUp at hf
  refine lv_aload_n hx hb d_Game_pickUp_0 rfl (lv_at hl 0 rfl) ?_
  refine G_game_level X h m_f_Game_32 d_Game_pickUp_1 ?_
  refine lv_aload_n hx hb d_Game_pickUp_4 rfl (lv_at hl 0 rfl) ?_
  refine G_game_hero X h m_f_Game_53 d_Game_pickUp_5 ?_
  refine G_hero_place X h m_f_Game_109 d_Game_pickUp_8 ?_
  obtain ⟨r1, σ2, h3, hf⟩ := bd_s hf
  refine x_Vi (As := [.int (σ.1 9)]) (rest := []) X hml hl.1 hZ hA h (c_Level_thingAt l D ad cA tz n (σ.1 9) σ r1 σ2 h3) k_Level_thingAt m_m_Game_137 kd_Level_thingAt ⟨rfl, rfl, Nat.le_of_ble_eq_true rfl, Nat.le_of_ble_eq_true rfl⟩ 5 rfl rfl rfl rfl rfl (Nat.le_of_ble_eq_true rfl) d_Game_pickUp_11 (fun H locs h => ?_)
  refine lv_istore_n (lv' := [(1, .int r1), (0, .ref (ad 1))]) hx hb d_Game_pickUp_14 rfl hl (by decide) rfl (fun ls hl => ?_)
  refine lv_iload_n hx hb d_Game_pickUp_15 rfl (lv_at hl 0 rfl) ?_
  refine lv_bipush (v := (-2)) hx hb d_Game_pickUp_16 (by decide) ?_
  refine lv_icmp_eq (tgt := 31) hx hb d_Game_pickUp_18 (by decide) (fun c4 => ?_) (fun c4 => ?_)
  · have hf := it c4 hf
    refine lv_iconst (v := 0) hx hb d_Game_pickUp_31 (by decide) ?_
    exact rt _ _ H locs 32 ls hf h d_Game_pickUp_32
  · have hf := ie c4 hf
    refine lv_aload_n hx hb d_Game_pickUp_21 rfl (lv_at hl 1 rfl) ?_
    refine G_game_hero X h m_f_Game_53 d_Game_pickUp_22 ?_
    obtain ⟨r5, σ6, h7, hf⟩ := bd_s hf
    refine x_Vi (As := []) (rest := []) X hml hl.1 hZ hA h (c_Hero_bagIsFull l D ad cA tz n σ2 r5 σ6 h7) k_Hero_bagIsFull m_m_Game_140 kd_Hero_bagIsFull ⟨rfl, rfl, Nat.le_of_ble_eq_true rfl, Nat.le_of_ble_eq_true rfl⟩ 8 rfl rfl rfl rfl rfl (Nat.le_of_ble_eq_true rfl) d_Game_pickUp_25 (fun H locs h => ?_)
    refine lv_if_eq (tgt := 33) hx hb d_Game_pickUp_28 (by decide) (fun c8 => ?_) (fun c8 => ?_)
    · have hf := it c8 hf
      refine lv_aload_n hx hb d_Game_pickUp_33 rfl (lv_at hl 1 rfl) ?_
      refine G_game_hero X h m_f_Game_53 d_Game_pickUp_34 ?_
      refine lv_iload_n hx hb d_Game_pickUp_37 rfl (lv_at hl 0 rfl) ?_
      obtain ⟨r9, σ10, h11, hf⟩ := bd_s hf
      refine x_Vv (As := [.int r1]) (rest := []) X hml hl.1 hZ hA h (c_Hero_putInBag l D ad cA tz n r1 σ6 r9 σ10 h11) k_Hero_putInBag m_m_Game_143 kd_Hero_putInBag ⟨rfl, rfl, Nat.le_of_ble_eq_true rfl, Nat.le_of_ble_eq_true rfl⟩ 8 rfl rfl rfl rfl rfl (Nat.le_of_ble_eq_true rfl) d_Game_pickUp_38 (fun H locs h => ?_)
      refine lv_aload_n hx hb d_Game_pickUp_41 rfl (lv_at hl 1 rfl) ?_
      refine G_game_level X h m_f_Game_32 d_Game_pickUp_42 ?_
      refine lv_aload_n hx hb d_Game_pickUp_45 rfl (lv_at hl 1 rfl) ?_
      refine G_game_hero X h m_f_Game_53 d_Game_pickUp_46 ?_
      refine G_hero_place X h m_f_Game_109 d_Game_pickUp_49 ?_
      obtain ⟨r12, σ13, h14, hf⟩ := bd_s hf
      refine x_Vv (As := [.int (σ10.1 9)]) (rest := []) X hml hl.1 hZ hA h (c_Level_takeThing l D ad cA tz n (σ10.1 9) σ10 r12 σ13 h14) k_Level_takeThing m_m_Game_146 kd_Level_takeThing ⟨rfl, rfl, Nat.le_of_ble_eq_true rfl, Nat.le_of_ble_eq_true rfl⟩ 5 rfl rfl rfl rfl rfl (Nat.le_of_ble_eq_true rfl) d_Game_pickUp_52 (fun H locs h => ?_)
      refine lv_iconst (v := 1) hx hb d_Game_pickUp_55 (by decide) ?_
      exact rt _ _ H locs 56 ls hf h d_Game_pickUp_56
    · have hf := ie c8 hf
      refine lv_iconst (v := 0) hx hb d_Game_pickUp_31 (by decide) ?_
      exact rt _ _ H locs 32 ls hf h d_Game_pickUp_32
theorem d_Monsters_isThere_0 : decode b_Monsters_isThere 0 = .ok (.iload_n 1, 1) := by decide +kernel
theorem d_Monsters_isThere_1 : decode b_Monsters_isThere 1 = .ok (.ifCond .lt 24, 3) := by decide +kernel
theorem d_Monsters_isThere_4 : decode b_Monsters_isThere 4 = .ok (.iload_n 1, 1) := by decide +kernel
theorem d_Monsters_isThere_5 : decode b_Monsters_isThere 5 = .ok (.aload_n 0, 1) := by decide +kernel
theorem d_Monsters_isThere_6 : decode b_Monsters_isThere 6 = .ok (.getfield 27, 3) := by decide +kernel
theorem d_Monsters_isThere_9 : decode b_Monsters_isThere 9 = .ok (.if_icmp .ge 16, 3) := by decide +kernel
theorem d_Monsters_isThere_12 : decode b_Monsters_isThere 12 = .ok (.aload_n 0, 1) := by decide +kernel
theorem d_Monsters_isThere_13 : decode b_Monsters_isThere 13 = .ok (.getfield 18, 3) := by decide +kernel
theorem d_Monsters_isThere_16 : decode b_Monsters_isThere 16 = .ok (.iload_n 1, 1) := by decide +kernel
theorem d_Monsters_isThere_17 : decode b_Monsters_isThere 17 = .ok (.iaload, 1) := by decide +kernel
theorem d_Monsters_isThere_18 : decode b_Monsters_isThere 18 = .ok (.ifCond .le 7, 3) := by decide +kernel
theorem d_Monsters_isThere_21 : decode b_Monsters_isThere 21 = .ok (.iconst 1, 1) := by decide +kernel
theorem d_Monsters_isThere_22 : decode b_Monsters_isThere 22 = .ok (.goto 4, 3) := by decide +kernel
theorem d_Monsters_isThere_25 : decode b_Monsters_isThere 25 = .ok (.iconst 0, 1) := by decide +kernel
theorem d_Monsters_isThere_26 : decode b_Monsters_isThere 26 = .ok (.ireturn, 1) := by decide +kernel
def f_Monsters_isThere (n : Nat) (x1 : Int32) (σ : St) : Option (Int32 × St) := if x1 < 0 then (some (0, σ)) else (if (σ.1 7) ≤ x1 then (some (0, σ)) else (gd (inb x1 5) (if (σ.2.2 6 x1.toNatClampNeg) ≤ 0 then (some (0, σ)) else (some (1, σ)))))
set_option maxHeartbeats 4000000 in
set_option maxRecDepth 100000 in
theorem c_Monsters_isThere (l : Launch) (D : va_G) (ad : Nat → Nat) (cA : Nat → ClassId) (tz : Nat → Nat) (n : Nat) (x1 : Int32) (σ : St) (r : Int32) (σr : St) (hf : f_Monsters_isThere n x1 σ = some (r, σr)) : Ki l D cA tz (wl ad cA) y_Monsters_isThere (.code y_Monsters_isThere b_Monsters_isThere 2 (some .boolean) :: TB) ({ frames := 0, cells := 0, slots := 0, locals := 0 }) [.ref (ad 6), .int x1] σ r σr := by
  refine x_openz (own := R_Monsters) rfl (by decide) (fun p e s m args below meth c A Q X hml hZ hA H locs ls h hl rt => ?_)
  have hx := X.1
  have hb := X.2.1
  have hl : lv_has ls 2 [(0, .ref (ad 6)), (1, .int x1)] := hl
  unfold f_Monsters_isThere at hf
  refine lv_iload_n hx hb d_Monsters_isThere_0 rfl (lv_at hl 1 rfl) ?_
  refine lv_if_lt (tgt := 25) hx hb d_Monsters_isThere_1 (by decide) (fun c1 => ?_) (fun c1 => ?_)
  · have hf := it c1 hf
    refine lv_iconst (v := 0) hx hb d_Monsters_isThere_25 (by decide) ?_
    exact rt _ _ H locs 26 ls rfl hf h d_Monsters_isThere_26
  · have hf := ie c1 hf
    refine lv_iload_n hx hb d_Monsters_isThere_4 rfl (lv_at hl 1 rfl) ?_
    refine lv_aload_n hx hb d_Monsters_isThere_5 rfl (lv_at hl 0 rfl) ?_
    refine G_monsters_made X h m_f_Monsters_27 d_Monsters_isThere_6 ?_
    refine lv_icmp_ge (tgt := 25) hx hb d_Monsters_isThere_9 (by decide) (fun c2 => ?_) (fun c2 => ?_)
    · have hf := it c2 hf
      refine lv_iconst (v := 0) hx hb d_Monsters_isThere_25 (by decide) ?_
      exact rt _ _ H locs 26 ls rfl hf h d_Monsters_isThere_26
    · have hf := ie c2 hf
      refine lv_aload_n hx hb d_Monsters_isThere_12 rfl (lv_at hl 0 rfl) ?_
      refine G_monsters_health X h m_f_Monsters_18 d_Monsters_isThere_13 ?_
      refine lv_iload_n hx hb d_Monsters_isThere_16 rfl (lv_at hl 1 rfl) ?_
      obtain ⟨g3, hf⟩ := gd_s hf
      refine R_health X h (inb_s g3) d_Monsters_isThere_17 ?_
      refine lv_if_le (tgt := 25) hx hb d_Monsters_isThere_18 (by decide) (fun c4 => ?_) (fun c4 => ?_)
      · have hf := it c4 hf
        refine lv_iconst (v := 0) hx hb d_Monsters_isThere_25 (by decide) ?_
        exact rt _ _ H locs 26 ls rfl hf h d_Monsters_isThere_26
      · have hf := ie c4 hf
        refine lv_iconst (v := 1) hx hb d_Monsters_isThere_21 (by decide) ?_
        refine lv_goto (tgt := 26) hx hb d_Monsters_isThere_22 (by decide) ?_
        exact rt _ _ H locs 26 ls rfl hf h d_Monsters_isThere_26

