theorem d_Level_inSight_0 : decode b_Level_inSight 0 = .ok (.iload_n 1, 1) := by decide +kernel
theorem d_Level_inSight_1 : decode b_Level_inSight 1 = .ok (.bipush 12, 2) := by decide +kernel
theorem d_Level_inSight_3 : decode b_Level_inSight 3 = .ok (.irem, 1) := by decide +kernel
theorem d_Level_inSight_4 : decode b_Level_inSight 4 = .ok (.istore_n 3, 1) := by decide +kernel
theorem d_Level_inSight_5 : decode b_Level_inSight 5 = .ok (.iload_n 1, 1) := by decide +kernel
theorem d_Level_inSight_6 : decode b_Level_inSight 6 = .ok (.bipush 12, 2) := by decide +kernel
theorem d_Level_inSight_8 : decode b_Level_inSight 8 = .ok (.idiv, 1) := by decide +kernel
theorem d_Level_inSight_9 : decode b_Level_inSight 9 = .ok (.istore 4, 2) := by decide +kernel
theorem d_Level_inSight_11 : decode b_Level_inSight 11 = .ok (.iload_n 2, 1) := by decide +kernel
theorem d_Level_inSight_12 : decode b_Level_inSight 12 = .ok (.bipush 12, 2) := by decide +kernel
theorem d_Level_inSight_14 : decode b_Level_inSight 14 = .ok (.irem, 1) := by decide +kernel
theorem d_Level_inSight_15 : decode b_Level_inSight 15 = .ok (.iload_n 3, 1) := by decide +kernel
theorem d_Level_inSight_16 : decode b_Level_inSight 16 = .ok (.isub, 1) := by decide +kernel
theorem d_Level_inSight_17 : decode b_Level_inSight 17 = .ok (.istore 5, 2) := by decide +kernel
theorem d_Level_inSight_19 : decode b_Level_inSight 19 = .ok (.iload_n 2, 1) := by decide +kernel
theorem d_Level_inSight_20 : decode b_Level_inSight 20 = .ok (.bipush 12, 2) := by decide +kernel
theorem d_Level_inSight_22 : decode b_Level_inSight 22 = .ok (.idiv, 1) := by decide +kernel
theorem d_Level_inSight_23 : decode b_Level_inSight 23 = .ok (.iload 4, 2) := by decide +kernel
theorem d_Level_inSight_25 : decode b_Level_inSight 25 = .ok (.isub, 1) := by decide +kernel
theorem d_Level_inSight_26 : decode b_Level_inSight 26 = .ok (.istore 6, 2) := by decide +kernel
theorem d_Level_inSight_28 : decode b_Level_inSight 28 = .ok (.iload 5, 2) := by decide +kernel
theorem d_Level_inSight_30 : decode b_Level_inSight 30 = .ok (.invokestatic 38, 3) := by decide +kernel
theorem d_Level_inSight_33 : decode b_Level_inSight 33 = .ok (.iload 6, 2) := by decide +kernel
theorem d_Level_inSight_35 : decode b_Level_inSight 35 = .ok (.invokestatic 38, 3) := by decide +kernel
theorem d_Level_inSight_38 : decode b_Level_inSight 38 = .ok (.invokestatic 44, 3) := by decide +kernel
theorem d_Level_inSight_41 : decode b_Level_inSight 41 = .ok (.istore 7, 2) := by decide +kernel
theorem d_Level_inSight_43 : decode b_Level_inSight 43 = .ok (.iload 7, 2) := by decide +kernel
theorem d_Level_inSight_45 : decode b_Level_inSight 45 = .ok (.iconst 4, 1) := by decide +kernel
theorem d_Level_inSight_46 : decode b_Level_inSight 46 = .ok (.if_icmp .le 5, 3) := by decide +kernel
theorem d_Level_inSight_49 : decode b_Level_inSight 49 = .ok (.iconst 0, 1) := by decide +kernel
theorem d_Level_inSight_50 : decode b_Level_inSight 50 = .ok (.ireturn, 1) := by decide +kernel
theorem d_Level_inSight_51 : decode b_Level_inSight 51 = .ok (.iconst 1, 1) := by decide +kernel
theorem d_Level_inSight_52 : decode b_Level_inSight 52 = .ok (.istore 8, 2) := by decide +kernel
theorem d_Level_inSight_54 : decode b_Level_inSight 54 = .ok (.iload 8, 2) := by decide +kernel
theorem d_Level_inSight_56 : decode b_Level_inSight 56 = .ok (.iload 7, 2) := by decide +kernel
theorem d_Level_inSight_58 : decode b_Level_inSight 58 = .ok (.if_icmp .ge 69, 3) := by decide +kernel
theorem d_Level_inSight_61 : decode b_Level_inSight 61 = .ok (.iload_n 3, 1) := by decide +kernel
theorem d_Level_inSight_62 : decode b_Level_inSight 62 = .ok (.iconst 2, 1) := by decide +kernel
theorem d_Level_inSight_63 : decode b_Level_inSight 63 = .ok (.iload 8, 2) := by decide +kernel
theorem d_Level_inSight_65 : decode b_Level_inSight 65 = .ok (.imul, 1) := by decide +kernel
theorem d_Level_inSight_66 : decode b_Level_inSight 66 = .ok (.iload 5, 2) := by decide +kernel
theorem d_Level_inSight_68 : decode b_Level_inSight 68 = .ok (.imul, 1) := by decide +kernel
theorem d_Level_inSight_69 : decode b_Level_inSight 69 = .ok (.iload 7, 2) := by decide +kernel
theorem d_Level_inSight_71 : decode b_Level_inSight 71 = .ok (.iadd, 1) := by decide +kernel
theorem d_Level_inSight_72 : decode b_Level_inSight 72 = .ok (.iconst 2, 1) := by decide +kernel
theorem d_Level_inSight_73 : decode b_Level_inSight 73 = .ok (.iload 7, 2) := by decide +kernel
theorem d_Level_inSight_75 : decode b_Level_inSight 75 = .ok (.imul, 1) := by decide +kernel
theorem d_Level_inSight_76 : decode b_Level_inSight 76 = .ok (.invokestatic 48, 3) := by decide +kernel
theorem d_Level_inSight_79 : decode b_Level_inSight 79 = .ok (.iadd, 1) := by decide +kernel
theorem d_Level_inSight_80 : decode b_Level_inSight 80 = .ok (.istore 9, 2) := by decide +kernel
theorem d_Level_inSight_82 : decode b_Level_inSight 82 = .ok (.iload 4, 2) := by decide +kernel
theorem d_Level_inSight_84 : decode b_Level_inSight 84 = .ok (.iconst 2, 1) := by decide +kernel
theorem d_Level_inSight_85 : decode b_Level_inSight 85 = .ok (.iload 8, 2) := by decide +kernel
theorem d_Level_inSight_87 : decode b_Level_inSight 87 = .ok (.imul, 1) := by decide +kernel
theorem d_Level_inSight_88 : decode b_Level_inSight 88 = .ok (.iload 6, 2) := by decide +kernel
theorem d_Level_inSight_90 : decode b_Level_inSight 90 = .ok (.imul, 1) := by decide +kernel
theorem d_Level_inSight_91 : decode b_Level_inSight 91 = .ok (.iload 7, 2) := by decide +kernel
theorem d_Level_inSight_93 : decode b_Level_inSight 93 = .ok (.iadd, 1) := by decide +kernel
theorem d_Level_inSight_94 : decode b_Level_inSight 94 = .ok (.iconst 2, 1) := by decide +kernel
theorem d_Level_inSight_95 : decode b_Level_inSight 95 = .ok (.iload 7, 2) := by decide +kernel
theorem d_Level_inSight_97 : decode b_Level_inSight 97 = .ok (.imul, 1) := by decide +kernel
theorem d_Level_inSight_98 : decode b_Level_inSight 98 = .ok (.invokestatic 48, 3) := by decide +kernel
theorem d_Level_inSight_101 : decode b_Level_inSight 101 = .ok (.iadd, 1) := by decide +kernel
theorem d_Level_inSight_102 : decode b_Level_inSight 102 = .ok (.istore 10, 2) := by decide +kernel
theorem d_Level_inSight_104 : decode b_Level_inSight 104 = .ok (.aload_n 0, 1) := by decide +kernel
theorem d_Level_inSight_105 : decode b_Level_inSight 105 = .ok (.iload 10, 2) := by decide +kernel
theorem d_Level_inSight_107 : decode b_Level_inSight 107 = .ok (.bipush 12, 2) := by decide +kernel
theorem d_Level_inSight_109 : decode b_Level_inSight 109 = .ok (.imul, 1) := by decide +kernel
theorem d_Level_inSight_110 : decode b_Level_inSight 110 = .ok (.iload 9, 2) := by decide +kernel
theorem d_Level_inSight_112 : decode b_Level_inSight 112 = .ok (.iadd, 1) := by decide +kernel
theorem d_Level_inSight_113 : decode b_Level_inSight 113 = .ok (.invokevirtual 51, 3) := by decide +kernel
theorem d_Level_inSight_116 : decode b_Level_inSight 116 = .ok (.ifCond .ne 5, 3) := by decide +kernel
theorem d_Level_inSight_119 : decode b_Level_inSight 119 = .ok (.iconst 0, 1) := by decide +kernel
theorem d_Level_inSight_120 : decode b_Level_inSight 120 = .ok (.ireturn, 1) := by decide +kernel
theorem d_Level_inSight_121 : decode b_Level_inSight 121 = .ok (.iinc 8 1, 3) := by decide +kernel
theorem d_Level_inSight_124 : decode b_Level_inSight 124 = .ok (.goto (-70), 3) := by decide +kernel
theorem d_Level_inSight_127 : decode b_Level_inSight 127 = .ok (.iconst 1, 1) := by decide +kernel
theorem d_Level_inSight_128 : decode b_Level_inSight 128 = .ok (.ireturn, 1) := by decide +kernel
def f_Level_inSight_54 (n : Nat) : Nat → Int32 → Int32 → Int32 → Int32 → Int32 → Int32 → St → Option (Int32 × St)
  | 0, _, _, _, _, _, _, _ => none
  | j + 1, y3, y4, y5, y6, y7, y8, σ => if y7 ≤ y8 then (some (1, σ)) else (bd (f_Math_floorDiv n (((2 * y8) * y5) + y7) (2 * y7) σ) (fun r10 σ11 => bnd (y3 + r10) (fun v13 => bd (f_Math_floorDiv n (((2 * y8) * y6) + y7) (2 * y7) σ11) (fun r14 σ15 => bnd (y4 + r14) (fun v17 => bd (f_Level_isFloor n ((v17 * 12) + v13) σ15) (fun r18 σ19 => if r18 = 0 then (some (0, σ19)) else (bnd (y8 + 1) (fun v22 => f_Level_inSight_54 n j y3 y4 y5 y6 y7 v22 σ19))))))))
theorem f_Level_inSight_54_s (n : Nat) (j : Nat) (y3 : Int32) (y4 : Int32) (y5 : Int32) (y6 : Int32) (y7 : Int32) (y8 : Int32) (σ : St) : f_Level_inSight_54 n (j + 1) y3 y4 y5 y6 y7 y8 σ = (if y7 ≤ y8 then (some (1, σ)) else (bd (f_Math_floorDiv n (((2 * y8) * y5) + y7) (2 * y7) σ) (fun r10 σ11 => bnd (y3 + r10) (fun v13 => bd (f_Math_floorDiv n (((2 * y8) * y6) + y7) (2 * y7) σ11) (fun r14 σ15 => bnd (y4 + r14) (fun v17 => bd (f_Level_isFloor n ((v17 * 12) + v13) σ15) (fun r18 σ19 => if r18 = 0 then (some (0, σ19)) else (bnd (y8 + 1) (fun v22 => f_Level_inSight_54 n j y3 y4 y5 y6 y7 v22 σ19))))))))) := rfl
def f_Level_inSight (n : Nat) (x1 : Int32) (x2 : Int32) (σ : St) : Option (Int32 × St) := bnd (x1 - x1 / 12 * 12) (fun v1 => bnd (x1 / 12) (fun v2 => bnd ((x2 - x2 / 12 * 12) - v1) (fun v3 => bnd ((x2 / 12) - v2) (fun v4 => bnd (if 0 ≤ v3 then v3 else 0 - v3) (fun v5 => bnd (if 0 ≤ v4 then v4 else 0 - v4) (fun v6 => bnd (if v5 < v6 then v6 else v5) (fun v7 => if v7 ≤ 4 then (f_Level_inSight_54 n n v1 v2 v3 v4 v7 1 σ) else (some (0, σ)))))))))
set_option maxHeartbeats 4000000 in
set_option maxRecDepth 100000 in
theorem c_Level_inSight (l : Launch) (D : va_G) (ad : Nat → Nat) (cA : Nat → ClassId) (tz : Nat → Nat) (n : Nat) (x1 : Int32) (x2 : Int32) (σ : St) (r : Int32) (σr : St) (hf : f_Level_inSight n x1 x2 σ = some (r, σr)) : Ki l D cA tz (wl ad cA) y_Level_inSight (.code y_Level_inSight b_Level_inSight 11 (some .boolean) :: TB) ({ frames := 1, cells := 0, slots := 0, locals := 23 }) [.ref (ad 5), .int x1, .int x2] σ r σr := by
  refine x_openz (own := R_Level) rfl (by decide) (fun p e s m args below meth c A Q X hml hZ hA H locs ls h hl rt => ?_)
  have hx := X.1
  have hb := X.2.1
  have hl : lv_has ls 11 [(0, .ref (ad 5)), (1, .int x1), (2, .int x2)] := hl
  have L54 : ∀ j : Nat, ∀ (y3 : Int32) (y4 : Int32) (y5 : Int32) (y6 : Int32) (y7 : Int32) (y8 : Int32) (σ : St), f_Level_inSight_54 n j y3 y4 y5 y6 y7 y8 σ = some (r, σr) → ∀ (H : Heap) (locs : List Loc) (ls : Array Slot), WD D A s (wl ad cA σ) H locs → lv_has ls 11 [(0, .ref (ad 5)), (3, .int y3), (4, .int y4), (5, .int y5), (6, .int y6), (7, .int y7), (8, .int y8)] → W p l e ({ frames := 1, cells := 0, slots := 0, locals := 23 }) s m args below meth c H locs 0 0 Q (F0 m 54 ls []) := by
    intro j
    induction j with
    | zero => intro y3 y4 y5 y6 y7 y8 σ hf; exact absurd hf (fun z => by cases z)
    | succ j ih =>
      intro y3 y4 y5 y6 y7 y8 σ hf H locs ls h hl
      have hf := us (f_Level_inSight_54_s n j y3 y4 y5 y6 y7 y8 σ) hf
      refine lv_iload hx hb d_Level_inSight_54 (lv_at hl 6 rfl) ?_
      refine lv_iload hx hb d_Level_inSight_56 (lv_at hl 5 rfl) ?_
      refine lv_icmp_ge (tgt := 127) hx hb d_Level_inSight_58 (by decide) (fun c9 => ?_) (fun c9 => ?_)
      · have hf := it c9 hf
        refine lv_iconst (v := 1) hx hb d_Level_inSight_127 (by decide) ?_
        exact rt _ _ H locs 128 ls rfl hf h d_Level_inSight_128
      · have hf := ie c9 hf
        refine lv_iload_n hx hb d_Level_inSight_61 rfl (lv_at hl 1 rfl) ?_
        refine lv_iconst (v := 2) hx hb d_Level_inSight_62 (by decide) ?_
        refine lv_iload hx hb d_Level_inSight_63 (lv_at hl 6 rfl) ?_
        refine lv_imul hx hb d_Level_inSight_65 ?_
        refine lv_iload hx hb d_Level_inSight_66 (lv_at hl 3 rfl) ?_
        refine lv_imul hx hb d_Level_inSight_68 ?_
        refine lv_iload hx hb d_Level_inSight_69 (lv_at hl 5 rfl) ?_
        refine lv_iadd hx hb d_Level_inSight_71 ?_
        refine lv_iconst (v := 2) hx hb d_Level_inSight_72 (by decide) ?_
        refine lv_iload hx hb d_Level_inSight_73 (lv_at hl 5 rfl) ?_
        refine lv_imul hx hb d_Level_inSight_75 ?_
        obtain ⟨r10, σ11, h12, hf⟩ := bd_s hf
        refine x_Si (As := [.int (((2 * y8) * y5) + y7), .int (2 * y7)]) (rest := [.int y3]) X hml hl.1 hZ hA h (c_Math_floorDiv l D ad cA tz n (((2 * y8) * y5) + y7) (2 * y7) σ r10 σ11 h12) k_Math_floorDiv m_m_Level_48 kd_Math_floorDiv ⟨rfl, rfl, Nat.le_of_ble_eq_true rfl, Nat.le_of_ble_eq_true rfl⟩ rfl rfl (Nat.le_of_ble_eq_true rfl) d_Level_inSight_76 (fun H locs h => ?_)
        refine lv_iadd hx hb d_Level_inSight_79 ?_
        refine lv_topi (fun v13 ev13 => ?_)
        have hf := nm_b hf ev13
        refine lv_istore (lv' := [(9, .int v13), (0, .ref (ad 5)), (3, .int y3), (4, .int y4), (5, .int y5), (6, .int y6), (7, .int y7), (8, .int y8)]) hx hb d_Level_inSight_80 hl (by decide) rfl (fun ls hl => ?_)
        refine lv_iload hx hb d_Level_inSight_82 (lv_at hl 3 rfl) ?_
        refine lv_iconst (v := 2) hx hb d_Level_inSight_84 (by decide) ?_
        refine lv_iload hx hb d_Level_inSight_85 (lv_at hl 7 rfl) ?_
        refine lv_imul hx hb d_Level_inSight_87 ?_
        refine lv_iload hx hb d_Level_inSight_88 (lv_at hl 5 rfl) ?_
        refine lv_imul hx hb d_Level_inSight_90 ?_
        refine lv_iload hx hb d_Level_inSight_91 (lv_at hl 6 rfl) ?_
        refine lv_iadd hx hb d_Level_inSight_93 ?_
        refine lv_iconst (v := 2) hx hb d_Level_inSight_94 (by decide) ?_
        refine lv_iload hx hb d_Level_inSight_95 (lv_at hl 6 rfl) ?_
        refine lv_imul hx hb d_Level_inSight_97 ?_
        obtain ⟨r14, σ15, h16, hf⟩ := bd_s hf
        refine x_Si (As := [.int (((2 * y8) * y6) + y7), .int (2 * y7)]) (rest := [.int y4]) X hml hl.1 hZ hA h (c_Math_floorDiv l D ad cA tz n (((2 * y8) * y6) + y7) (2 * y7) σ11 r14 σ15 h16) k_Math_floorDiv m_m_Level_48 kd_Math_floorDiv ⟨rfl, rfl, Nat.le_of_ble_eq_true rfl, Nat.le_of_ble_eq_true rfl⟩ rfl rfl (Nat.le_of_ble_eq_true rfl) d_Level_inSight_98 (fun H locs h => ?_)
        refine lv_iadd hx hb d_Level_inSight_101 ?_
        refine lv_topi (fun v17 ev17 => ?_)
        have hf := nm_b hf ev17
        refine lv_istore (lv' := [(10, .int v17), (9, .int v13), (0, .ref (ad 5)), (3, .int y3), (4, .int y4), (5, .int y5), (6, .int y6), (7, .int y7), (8, .int y8)]) hx hb d_Level_inSight_102 hl (by decide) rfl (fun ls hl => ?_)
        refine lv_aload_n hx hb d_Level_inSight_104 rfl (lv_at hl 2 rfl) ?_
        refine lv_iload hx hb d_Level_inSight_105 (lv_at hl 0 rfl) ?_
        refine lv_bipush (v := 12) hx hb d_Level_inSight_107 (by decide) ?_
        refine lv_imul hx hb d_Level_inSight_109 ?_
        refine lv_iload hx hb d_Level_inSight_110 (lv_at hl 1 rfl) ?_
        refine lv_iadd hx hb d_Level_inSight_112 ?_
        obtain ⟨r18, σ19, h20, hf⟩ := bd_s hf
        refine x_Vi (As := [.int ((v17 * 12) + v13)]) (rest := []) X hml hl.1 hZ hA h (c_Level_isFloor l D ad cA tz n ((v17 * 12) + v13) σ15 r18 σ19 h20) k_Level_isFloor m_m_Level_51 kd_Level_isFloor ⟨rfl, rfl, Nat.le_of_ble_eq_true rfl, Nat.le_of_ble_eq_true rfl⟩ 5 rfl rfl rfl rfl rfl (Nat.le_of_ble_eq_true rfl) d_Level_inSight_113 (fun H locs h => ?_)
        refine lv_if_ne (tgt := 121) hx hb d_Level_inSight_116 (by decide) (fun c21 => ?_) (fun c21 => ?_)
        · have hf := ie c21 hf
          obtain ⟨v22, ev22⟩ : ∃ y : Int32, y = y8 + 1 := ⟨_, rfl⟩
          have hf := nm_b hf ev22
          refine lv_iinc (v := v22) (lv' := [(8, .int v22), (10, .int v17), (9, .int v13), (0, .ref (ad 5)), (3, .int y3), (4, .int y4), (5, .int y5), (6, .int y6), (7, .int y7)]) hx hb d_Level_inSight_121 hl (k := 8) rfl (by rw [ev22]; rfl) (by decide) rfl (fun ls hl => ?_)
          refine lv_goto (tgt := 54) hx hb d_Level_inSight_124 (by decide) ?_
          exact ih y3 y4 y5 y6 y7 v22 σ19 hf H locs ls h (lv_sub hl [3, 4, 5, 6, 7, 8, 0] rfl)
        · have hf := it c21 hf
          refine lv_iconst (v := 0) hx hb d_Level_inSight_119 (by decide) ?_
          exact rt _ _ H locs 120 ls rfl hf h d_Level_inSight_120
  unfold f_Level_inSight at hf
  refine lv_iload_n hx hb d_Level_inSight_0 rfl (lv_at hl 1 rfl) ?_
  refine lv_bipush (v := 12) hx hb d_Level_inSight_1 (by decide) ?_
  refine lv_irem hx hb d_Level_inSight_3 (by decide) ?_
  refine lv_topi (fun v1 ev1 => ?_)
  have hf := nm_b hf ev1
  refine lv_istore_n (lv' := [(3, .int v1), (0, .ref (ad 5)), (1, .int x1), (2, .int x2)]) hx hb d_Level_inSight_4 rfl hl (by decide) rfl (fun ls hl => ?_)
  refine lv_iload_n hx hb d_Level_inSight_5 rfl (lv_at hl 2 rfl) ?_
  refine lv_bipush (v := 12) hx hb d_Level_inSight_6 (by decide) ?_
  refine lv_idiv hx hb d_Level_inSight_8 (by decide) ?_
  refine lv_topi (fun v2 ev2 => ?_)
  have hf := nm_b hf ev2
  refine lv_istore (lv' := [(4, .int v2), (3, .int v1), (0, .ref (ad 5)), (1, .int x1), (2, .int x2)]) hx hb d_Level_inSight_9 hl (by decide) rfl (fun ls hl => ?_)
  refine lv_iload_n hx hb d_Level_inSight_11 rfl (lv_at hl 4 rfl) ?_
  refine lv_bipush (v := 12) hx hb d_Level_inSight_12 (by decide) ?_
  refine lv_irem hx hb d_Level_inSight_14 (by decide) ?_
  refine lv_iload_n hx hb d_Level_inSight_15 rfl (lv_at hl 1 rfl) ?_
  refine lv_isub hx hb d_Level_inSight_16 ?_
  refine lv_topi (fun v3 ev3 => ?_)
  have hf := nm_b hf ev3
  refine lv_istore (lv' := [(5, .int v3), (4, .int v2), (3, .int v1), (0, .ref (ad 5)), (1, .int x1), (2, .int x2)]) hx hb d_Level_inSight_17 hl (by decide) rfl (fun ls hl => ?_)
  refine lv_iload_n hx hb d_Level_inSight_19 rfl (lv_at hl 5 rfl) ?_
  refine lv_bipush (v := 12) hx hb d_Level_inSight_20 (by decide) ?_
  refine lv_idiv hx hb d_Level_inSight_22 (by decide) ?_
  refine lv_iload hx hb d_Level_inSight_23 (lv_at hl 1 rfl) ?_
  refine lv_isub hx hb d_Level_inSight_25 ?_
  refine lv_topi (fun v4 ev4 => ?_)
  have hf := nm_b hf ev4
  refine lv_istore (lv' := [(6, .int v4), (5, .int v3), (4, .int v2), (3, .int v1), (0, .ref (ad 5)), (1, .int x1), (2, .int x2)]) hx hb d_Level_inSight_26 hl (by decide) rfl (fun ls hl => ?_)
  refine lv_iload hx hb d_Level_inSight_28 (lv_at hl 1 rfl) ?_
  refine va_mabs hx hb (by rw [hml]; exact hl.1.symm) X.2.2.1 (X.2.2.2.1 _ m_m_Level_38) (X.2.2.2.1 _ k_Math_abs.1) (X.2.2.2.1 _ k_Math_abs.2.1) (X.2.2.2.1 _ k_Math_abs.2.2) (Nat.le_of_ble_eq_true rfl) (Nat.le_of_ble_eq_true rfl) (Nat.zero_le _) (Nat.zero_le _) d_Level_inSight_30 ?_
  refine lv_topi (fun v5 ev5 => ?_)
  have hf := nm_b hf ev5
  refine lv_iload hx hb d_Level_inSight_33 (lv_at hl 0 rfl) ?_
  refine va_mabs hx hb (by rw [hml]; exact hl.1.symm) X.2.2.1 (X.2.2.2.1 _ m_m_Level_38) (X.2.2.2.1 _ k_Math_abs.1) (X.2.2.2.1 _ k_Math_abs.2.1) (X.2.2.2.1 _ k_Math_abs.2.2) (Nat.le_of_ble_eq_true rfl) (Nat.le_of_ble_eq_true rfl) (Nat.zero_le _) (Nat.zero_le _) d_Level_inSight_35 ?_
  refine lv_topi (fun v6 ev6 => ?_)
  have hf := nm_b hf ev6
  refine va_mmax hx hb (by rw [hml]; exact hl.1.symm) X.2.2.1 (X.2.2.2.1 _ m_m_Level_44) (X.2.2.2.1 _ k_Math_max.1) (X.2.2.2.1 _ k_Math_max.2.1) (X.2.2.2.1 _ k_Math_max.2.2) (Nat.le_of_ble_eq_true rfl) (Nat.le_of_ble_eq_true rfl) (Nat.zero_le _) (Nat.zero_le _) d_Level_inSight_38 ?_
  refine lv_topi (fun v7 ev7 => ?_)
  have hf := nm_b hf ev7
  refine lv_istore (lv' := [(7, .int v7), (6, .int v4), (5, .int v3), (4, .int v2), (3, .int v1), (0, .ref (ad 5)), (1, .int x1), (2, .int x2)]) hx hb d_Level_inSight_41 hl (by decide) rfl (fun ls hl => ?_)
  refine lv_iload hx hb d_Level_inSight_43 (lv_at hl 0 rfl) ?_
  refine lv_iconst (v := 4) hx hb d_Level_inSight_45 (by decide) ?_
  refine lv_icmp_le (tgt := 51) hx hb d_Level_inSight_46 (by decide) (fun c8 => ?_) (fun c8 => ?_)
  · have hf := it c8 hf
    refine lv_iconst (v := 1) hx hb d_Level_inSight_51 (by decide) ?_
    refine lv_istore (lv' := [(8, .int 1), (7, .int v7), (6, .int v4), (5, .int v3), (4, .int v2), (3, .int v1), (0, .ref (ad 5)), (1, .int x1), (2, .int x2)]) hx hb d_Level_inSight_52 hl (by decide) rfl (fun ls hl => ?_)
    exact L54 n v1 v2 v3 v4 v7 1 σ hf H locs ls h (lv_sub hl [6, 5, 4, 3, 2, 1, 0] rfl)
  · have hf := ie c8 hf
    refine lv_iconst (v := 0) hx hb d_Level_inSight_49 (by decide) ?_
    exact rt _ _ H locs 50 ls rfl hf h d_Level_inSight_50
theorem d_Level_learnFrom_0 : decode b_Level_learnFrom 0 = .ok (.iconst 0, 1) := by decide +kernel
theorem d_Level_learnFrom_1 : decode b_Level_learnFrom 1 = .ok (.istore_n 2, 1) := by decide +kernel
theorem d_Level_learnFrom_2 : decode b_Level_learnFrom 2 = .ok (.iload_n 2, 1) := by decide +kernel
theorem d_Level_learnFrom_3 : decode b_Level_learnFrom 3 = .ok (.bipush 120, 2) := by decide +kernel
theorem d_Level_learnFrom_5 : decode b_Level_learnFrom 5 = .ok (.if_icmp .ge 34, 3) := by decide +kernel
theorem d_Level_learnFrom_8 : decode b_Level_learnFrom 8 = .ok (.aload_n 0, 1) := by decide +kernel
theorem d_Level_learnFrom_9 : decode b_Level_learnFrom 9 = .ok (.getfield 18, 3) := by decide +kernel
theorem d_Level_learnFrom_12 : decode b_Level_learnFrom 12 = .ok (.iload_n 2, 1) := by decide +kernel
theorem d_Level_learnFrom_13 : decode b_Level_learnFrom 13 = .ok (.iaload, 1) := by decide +kernel
theorem d_Level_learnFrom_14 : decode b_Level_learnFrom 14 = .ok (.ifCond .ne 19, 3) := by decide +kernel
theorem d_Level_learnFrom_17 : decode b_Level_learnFrom 17 = .ok (.aload_n 0, 1) := by decide +kernel
theorem d_Level_learnFrom_18 : decode b_Level_learnFrom 18 = .ok (.iload_n 1, 1) := by decide +kernel
theorem d_Level_learnFrom_19 : decode b_Level_learnFrom 19 = .ok (.iload_n 2, 1) := by decide +kernel
theorem d_Level_learnFrom_20 : decode b_Level_learnFrom 20 = .ok (.invokevirtual 54, 3) := by decide +kernel
theorem d_Level_learnFrom_23 : decode b_Level_learnFrom 23 = .ok (.ifCond .eq 10, 3) := by decide +kernel
theorem d_Level_learnFrom_26 : decode b_Level_learnFrom 26 = .ok (.aload_n 0, 1) := by decide +kernel
theorem d_Level_learnFrom_27 : decode b_Level_learnFrom 27 = .ok (.getfield 18, 3) := by decide +kernel
theorem d_Level_learnFrom_30 : decode b_Level_learnFrom 30 = .ok (.iload_n 2, 1) := by decide +kernel
theorem d_Level_learnFrom_31 : decode b_Level_learnFrom 31 = .ok (.iconst 1, 1) := by decide +kernel
theorem d_Level_learnFrom_32 : decode b_Level_learnFrom 32 = .ok (.iastore, 1) := by decide +kernel
theorem d_Level_learnFrom_33 : decode b_Level_learnFrom 33 = .ok (.iinc 2 1, 3) := by decide +kernel
theorem d_Level_learnFrom_36 : decode b_Level_learnFrom 36 = .ok (.goto (-34), 3) := by decide +kernel
theorem d_Level_learnFrom_39 : decode b_Level_learnFrom 39 = .ok (.return_, 1) := by decide +kernel
def f_Level_learnFrom_2 (n : Nat) : Nat → Int32 → Int32 → St → Option (Unit × St)
  | 0, _, _, _ => none
  | j + 1, y1, y2, σ => if 120 ≤ y2 then (some ((), σ)) else (gd (inb y2 120) (if (σ.2.2 3 y2.toNatClampNeg) = 0 then (bd (f_Level_inSight n y1 y2 σ) (fun r5 σ6 => if r5 = 0 then (bnd (y2 + 1) (fun v9 => f_Level_learnFrom_2 n j y1 v9 σ6)) else (gd (inb y2 120) (bnd (sA σ6 3 y2.toNatClampNeg 1) (fun σ11 => bnd (y2 + 1) (fun v12 => f_Level_learnFrom_2 n j y1 v12 σ11)))))) else (bnd (y2 + 1) (fun v4 => f_Level_learnFrom_2 n j y1 v4 σ))))
theorem f_Level_learnFrom_2_s (n : Nat) (j : Nat) (y1 : Int32) (y2 : Int32) (σ : St) : f_Level_learnFrom_2 n (j + 1) y1 y2 σ = (if 120 ≤ y2 then (some ((), σ)) else (gd (inb y2 120) (if (σ.2.2 3 y2.toNatClampNeg) = 0 then (bd (f_Level_inSight n y1 y2 σ) (fun r5 σ6 => if r5 = 0 then (bnd (y2 + 1) (fun v9 => f_Level_learnFrom_2 n j y1 v9 σ6)) else (gd (inb y2 120) (bnd (sA σ6 3 y2.toNatClampNeg 1) (fun σ11 => bnd (y2 + 1) (fun v12 => f_Level_learnFrom_2 n j y1 v12 σ11)))))) else (bnd (y2 + 1) (fun v4 => f_Level_learnFrom_2 n j y1 v4 σ))))) := rfl
def f_Level_learnFrom (n : Nat) (x1 : Int32) (σ : St) : Option (Unit × St) := f_Level_learnFrom_2 n n x1 0 σ
set_option maxHeartbeats 4000000 in
set_option maxRecDepth 100000 in
theorem c_Level_learnFrom (l : Launch) (D : va_G) (ad : Nat → Nat) (cA : Nat → ClassId) (tz : Nat → Nat) (n : Nat) (x1 : Int32) (σ : St) (r : Unit) (σr : St) (hf : f_Level_learnFrom n x1 σ = some (r, σr)) : Kv l D cA tz (wl ad cA) y_Level_learnFrom (.code y_Level_learnFrom b_Level_learnFrom 3 none :: TB) ({ frames := 2, cells := 0, slots := 0, locals := 53 }) [.ref (ad 5), .int x1] σ σr := by
  refine x_openv (r := r) (own := R_Level) rfl (by decide) (fun p e s m args below meth c A Q X hml hZ hA H locs ls h hl rt => ?_)
  have hx := X.1
  have hb := X.2.1
  have hl : lv_has ls 3 [(0, .ref (ad 5)), (1, .int x1)] := hl
  have L2 : ∀ j : Nat, ∀ (y1 : Int32) (y2 : Int32) (σ : St), f_Level_learnFrom_2 n j y1 y2 σ = some (r, σr) → ∀ (H : Heap) (locs : List Loc) (ls : Array Slot), WD D A s (wl ad cA σ) H locs → lv_has ls 3 [(0, .ref (ad 5)), (1, .int y1), (2, .int y2)] → W p l e ({ frames := 2, cells := 0, slots := 0, locals := 53 }) s m args below meth c H locs 0 0 Q (F0 m 2 ls []) := by
    intro j
    induction j with
    | zero => intro y1 y2 σ hf; exact absurd hf (fun z => by cases z)
    | succ j ih =>
      intro y1 y2 σ hf H locs ls h hl
      have hf := us (f_Level_learnFrom_2_s n j y1 y2 σ) hf
      refine lv_iload_n hx hb d_Level_learnFrom_2 rfl (lv_at hl 2 rfl) ?_
      refine lv_bipush (v := 120) hx hb d_Level_learnFrom_3 (by decide) ?_
      refine lv_icmp_ge (tgt := 39) hx hb d_Level_learnFrom_5 (by decide) (fun c1 => ?_) (fun c1 => ?_)
      · have hf := it c1 hf
        exact rt _ H locs 39 ls hf h d_Level_learnFrom_39
      · have hf := ie c1 hf
        refine lv_aload_n hx hb d_Level_learnFrom_8 rfl (lv_at hl 0 rfl) ?_
        refine G_level_known X h m_f_Level_18 d_Level_learnFrom_9 ?_
        refine lv_iload_n hx hb d_Level_learnFrom_12 rfl (lv_at hl 2 rfl) ?_
        obtain ⟨g2, hf⟩ := gd_s hf
        refine R_known X h (inb_s g2) d_Level_learnFrom_13 ?_
        refine lv_if_ne (tgt := 33) hx hb d_Level_learnFrom_14 (by decide) (fun c3 => ?_) (fun c3 => ?_)
        · have hf := ie c3 hf
          obtain ⟨v4, ev4⟩ : ∃ y : Int32, y = y2 + 1 := ⟨_, rfl⟩
          have hf := nm_b hf ev4
          refine lv_iinc (v := v4) (lv' := [(2, .int v4), (0, .ref (ad 5)), (1, .int y1)]) hx hb d_Level_learnFrom_33 hl (k := 2) rfl (by rw [ev4]; rfl) (by decide) rfl (fun ls hl => ?_)
          refine lv_goto (tgt := 2) hx hb d_Level_learnFrom_36 (by decide) ?_
          exact ih y1 v4 σ hf H locs ls h (lv_sub hl [1, 2, 0] rfl)
        · have hf := it c3 hf
          refine lv_aload_n hx hb d_Level_learnFrom_17 rfl (lv_at hl 0 rfl) ?_
          refine lv_iload_n hx hb d_Level_learnFrom_18 rfl (lv_at hl 1 rfl) ?_
          refine lv_iload_n hx hb d_Level_learnFrom_19 rfl (lv_at hl 2 rfl) ?_
          obtain ⟨r5, σ6, h7, hf⟩ := bd_s hf
          refine x_Vi (As := [.int y1, .int y2]) (rest := []) X hml hl.1 hZ hA h (c_Level_inSight l D ad cA tz n y1 y2 σ r5 σ6 h7) k_Level_inSight m_m_Level_54 kd_Level_inSight ⟨rfl, rfl, Nat.le_of_ble_eq_true rfl, Nat.le_of_ble_eq_true rfl⟩ 5 rfl rfl rfl rfl rfl (Nat.le_of_ble_eq_true rfl) d_Level_learnFrom_20 (fun H locs h => ?_)
          refine lv_if_eq (tgt := 33) hx hb d_Level_learnFrom_23 (by decide) (fun c8 => ?_) (fun c8 => ?_)
          · have hf := it c8 hf
            obtain ⟨v9, ev9⟩ : ∃ y : Int32, y = y2 + 1 := ⟨_, rfl⟩
            have hf := nm_b hf ev9
            refine lv_iinc (v := v9) (lv' := [(2, .int v9), (0, .ref (ad 5)), (1, .int y1)]) hx hb d_Level_learnFrom_33 hl (k := 2) rfl (by rw [ev9]; rfl) (by decide) rfl (fun ls hl => ?_)
            refine lv_goto (tgt := 2) hx hb d_Level_learnFrom_36 (by decide) ?_
            exact ih y1 v9 σ6 hf H locs ls h (lv_sub hl [1, 2, 0] rfl)
          · have hf := ie c8 hf
            refine lv_aload_n hx hb d_Level_learnFrom_26 rfl (lv_at hl 0 rfl) ?_
            refine G_level_known X h m_f_Level_18 d_Level_learnFrom_27 ?_
            refine lv_iload_n hx hb d_Level_learnFrom_30 rfl (lv_at hl 2 rfl) ?_
            refine lv_iconst (v := 1) hx hb d_Level_learnFrom_31 (by decide) ?_
            obtain ⟨g10, hf⟩ := gd_s hf
            refine S_known X h (inb_s g10) d_Level_learnFrom_32 (fun H locs σ11 eσ11 h => ?_)
            have hf := nm_b hf eσ11
            obtain ⟨v12, ev12⟩ : ∃ y : Int32, y = y2 + 1 := ⟨_, rfl⟩
            have hf := nm_b hf ev12
            refine lv_iinc (v := v12) (lv' := [(2, .int v12), (0, .ref (ad 5)), (1, .int y1)]) hx hb d_Level_learnFrom_33 hl (k := 2) rfl (by rw [ev12]; rfl) (by decide) rfl (fun ls hl => ?_)
            refine lv_goto (tgt := 2) hx hb d_Level_learnFrom_36 (by decide) ?_
            exact ih y1 v12 σ11 hf H locs ls h (lv_sub hl [1, 2, 0] rfl)
  unfold f_Level_learnFrom at hf
  refine lv_iconst (v := 0) hx hb d_Level_learnFrom_0 (by decide) ?_
  refine lv_istore_n (lv' := [(2, .int 0), (0, .ref (ad 5)), (1, .int x1)]) hx hb d_Level_learnFrom_1 rfl hl (by decide) rfl (fun ls hl => ?_)
  exact L2 n x1 0 σ hf H locs ls h (lv_sub hl [1, 2, 0] rfl)
def f_Arrays_fill_steps_5 (n : Nat) : Nat → Int32 → Int32 → Int32 → St → Option (Unit × St)
  | 0, _, _, _, _ => none
  | j + 1, y1, y2, y3, σ => if y3 ≤ y2 then (some ((), σ)) else (gd (inb y2 120) (bnd (sA σ 13 y2.toNatClampNeg y1) (fun σ3 => bnd (y2 + 1) (fun v4 => f_Arrays_fill_steps_5 n j y1 v4 y3 σ3))))
theorem f_Arrays_fill_steps_5_s (n : Nat) (j : Nat) (y1 : Int32) (y2 : Int32) (y3 : Int32) (σ : St) : f_Arrays_fill_steps_5 n (j + 1) y1 y2 y3 σ = (if y3 ≤ y2 then (some ((), σ)) else (gd (inb y2 120) (bnd (sA σ 13 y2.toNatClampNeg y1) (fun σ3 => bnd (y2 + 1) (fun v4 => f_Arrays_fill_steps_5 n j y1 v4 y3 σ3))))) := rfl
def f_Arrays_fill_steps (n : Nat) (x1 : Int32) (σ : St) : Option (Unit × St) := f_Arrays_fill_steps_5 n n x1 0 120 σ
set_option maxHeartbeats 4000000 in
set_option maxRecDepth 100000 in
theorem c_Arrays_fill_steps (l : Launch) (D : va_G) (ad : Nat → Nat) (cA : Nat → ClassId) (tz : Nat → Nat) (n : Nat) (x1 : Int32) (σ : St) (r : Unit) (σr : St) (hf : f_Arrays_fill_steps n x1 σ = some (r, σr)) : Kv l D cA tz (wl ad cA) y_Arrays_fill (.code y_Arrays_fill b_Arrays_fill 4 none :: TB) ({ frames := 0, cells := 0, slots := 0, locals := 0 }) [.ref (ad 22), .int x1] σ σr := by
  refine x_openv (r := r) (own := R_Arrays) rfl (by decide) (fun p e s m args below meth c A Q X hml hZ hA H locs ls h hl rt => ?_)
  have hx := X.1
  have hb := X.2.1
  have hl : lv_has ls 4 [(0, .ref (ad 22)), (1, .int x1)] := hl
  have L5 : ∀ j : Nat, ∀ (y1 : Int32) (y2 : Int32) (y3 : Int32) (σ : St), f_Arrays_fill_steps_5 n j y1 y2 y3 σ = some (r, σr) → ∀ (H : Heap) (locs : List Loc) (ls : Array Slot), WD D A s (wl ad cA σ) H locs → lv_has ls 4 [(0, .ref (ad 22)), (1, .int y1), (2, .int y2), (3, .int y3)] → W p l e ({ frames := 0, cells := 0, slots := 0, locals := 0 }) s m args below meth c H locs 0 0 Q (F0 m 5 ls []) := by
    intro j
    induction j with
    | zero => intro y1 y2 y3 σ hf; exact absurd hf (fun z => by cases z)
    | succ j ih =>
      intro y1 y2 y3 σ hf H locs ls h hl
      have hf := us (f_Arrays_fill_steps_5_s n j y1 y2 y3 σ) hf
      refine lv_iload_n hx hb d_Arrays_fill_5 rfl (lv_at hl 2 rfl) ?_
      refine lv_iload_n hx hb d_Arrays_fill_6 rfl (lv_at hl 3 rfl) ?_
      refine lv_icmp_ge (tgt := 20) hx hb d_Arrays_fill_7 (by decide) (fun c1 => ?_) (fun c1 => ?_)
      · have hf := it c1 hf
        exact rt _ H locs 20 ls hf h d_Arrays_fill_20
      · have hf := ie c1 hf
        refine lv_aload_n hx hb d_Arrays_fill_10 rfl (lv_at hl 0 rfl) ?_
        refine lv_iload_n hx hb d_Arrays_fill_11 rfl (lv_at hl 2 rfl) ?_
        refine lv_iload_n hx hb d_Arrays_fill_12 rfl (lv_at hl 1 rfl) ?_
        obtain ⟨g2, hf⟩ := gd_s hf
        refine S_steps X h (inb_s g2) d_Arrays_fill_13 (fun H locs σ3 eσ3 h => ?_)
        have hf := nm_b hf eσ3
        obtain ⟨v4, ev4⟩ : ∃ y : Int32, y = y2 + 1 := ⟨_, rfl⟩
        have hf := nm_b hf ev4
        refine lv_iinc (v := v4) (lv' := [(2, .int v4), (0, .ref (ad 22)), (1, .int y1), (3, .int y3)]) hx hb d_Arrays_fill_14 hl (k := 2) rfl (by rw [ev4]; rfl) (by decide) rfl (fun ls hl => ?_)
        refine lv_goto (tgt := 5) hx hb d_Arrays_fill_17 (by decide) ?_
        exact ih y1 v4 y3 σ3 hf H locs ls h (lv_sub hl [1, 2, 0, 3] rfl)
  unfold f_Arrays_fill_steps at hf
  refine lv_iconst (v := 0) hx hb d_Arrays_fill_0 (by decide) ?_
  refine lv_istore_n (lv' := [(2, .int 0), (0, .ref (ad 22)), (1, .int x1)]) hx hb d_Arrays_fill_1 rfl hl (by decide) rfl (fun ls hl => ?_)
  refine lv_aload_n hx hb d_Arrays_fill_2 rfl (lv_at hl 1 rfl) ?_
  refine N_steps X h d_Arrays_fill_3 ?_
  refine lv_istore_n (lv' := [(3, .int 120), (2, .int 0), (0, .ref (ad 22)), (1, .int x1)]) hx hb d_Arrays_fill_4 rfl hl (by decide) rfl (fun ls hl => ?_)
  exact L5 n x1 0 120 σ hf H locs ls h (lv_sub hl [2, 3, 1, 0] rfl)
theorem d_Level_neighbour_0 : decode b_Level_neighbour 0 = .ok (.iload_n 1, 1) := by decide +kernel
theorem d_Level_neighbour_1 : decode b_Level_neighbour 1 = .ok (.ifCond .lt 21, 3) := by decide +kernel
theorem d_Level_neighbour_4 : decode b_Level_neighbour 4 = .ok (.iload_n 1, 1) := by decide +kernel
theorem d_Level_neighbour_5 : decode b_Level_neighbour 5 = .ok (.getstatic 31, 3) := by decide +kernel
theorem d_Level_neighbour_8 : decode b_Level_neighbour 8 = .ok (.arraylength, 1) := by decide +kernel
theorem d_Level_neighbour_9 : decode b_Level_neighbour 9 = .ok (.if_icmp .ge 13, 3) := by decide +kernel
theorem d_Level_neighbour_12 : decode b_Level_neighbour 12 = .ok (.iload_n 0, 1) := by decide +kernel
theorem d_Level_neighbour_13 : decode b_Level_neighbour 13 = .ok (.getstatic 31, 3) := by decide +kernel
theorem d_Level_neighbour_16 : decode b_Level_neighbour 16 = .ok (.iload_n 1, 1) := by decide +kernel
theorem d_Level_neighbour_17 : decode b_Level_neighbour 17 = .ok (.iaload, 1) := by decide +kernel
theorem d_Level_neighbour_18 : decode b_Level_neighbour 18 = .ok (.iadd, 1) := by decide +kernel
theorem d_Level_neighbour_19 : decode b_Level_neighbour 19 = .ok (.goto 4, 3) := by decide +kernel
theorem d_Level_neighbour_22 : decode b_Level_neighbour 22 = .ok (.iload_n 0, 1) := by decide +kernel
theorem d_Level_neighbour_23 : decode b_Level_neighbour 23 = .ok (.ireturn, 1) := by decide +kernel
def f_Level_neighbour (n : Nat) (x0 : Int32) (x1 : Int32) (σ : St) : Option (Int32 × St) := if x1 < 0 then (some (x0, σ)) else (if 4 ≤ x1 then (some (x0, σ)) else (gd (inb x1 4) (some (x0 + (tb_STEPS x1.toNatClampNeg), σ))))
set_option maxHeartbeats 4000000 in
set_option maxRecDepth 100000 in
theorem c_Level_neighbour (l : Launch) (D : va_G) (ad : Nat → Nat) (cA : Nat → ClassId) (tz : Nat → Nat) (n : Nat) (x0 : Int32) (x1 : Int32) (σ : St) (r : Int32) (σr : St) (hf : f_Level_neighbour n x0 x1 σ = some (r, σr)) : Ki l D cA tz (wl ad cA) y_Level_neighbour (.code y_Level_neighbour b_Level_neighbour 2 (some .int) :: TB) ({ frames := 0, cells := 0, slots := 0, locals := 0 }) [.int x0, .int x1] σ r σr := by
  refine x_openi (own := R_Level) rfl (by decide) (fun p e s m args below meth c A Q X hml hZ hA H locs ls h hl rt => ?_)
  have hx := X.1
  have hb := X.2.1
  have hl : lv_has ls 2 [(0, .int x0), (1, .int x1)] := hl
  unfold f_Level_neighbour at hf
  refine lv_iload_n hx hb d_Level_neighbour_0 rfl (lv_at hl 1 rfl) ?_
  refine lv_if_lt (tgt := 22) hx hb d_Level_neighbour_1 (by decide) (fun c1 => ?_) (fun c1 => ?_)
  · have hf := it c1 hf
    refine lv_iload_n hx hb d_Level_neighbour_22 rfl (lv_at hl 0 rfl) ?_
    exact rt _ _ H locs 23 ls hf h d_Level_neighbour_23
  · have hf := ie c1 hf
    refine lv_iload_n hx hb d_Level_neighbour_4 rfl (lv_at hl 1 rfl) ?_
    refine Z_STEPS X hZ h m_f_Level_31 d_Level_neighbour_5 ?_
    refine V_STEPS X hZ h d_Level_neighbour_8 ?_
    refine lv_icmp_ge (tgt := 22) hx hb d_Level_neighbour_9 (by decide) (fun c2 => ?_) (fun c2 => ?_)
    · have hf := it c2 hf
      refine lv_iload_n hx hb d_Level_neighbour_22 rfl (lv_at hl 0 rfl) ?_
      exact rt _ _ H locs 23 ls hf h d_Level_neighbour_23
    · have hf := ie c2 hf
      refine lv_iload_n hx hb d_Level_neighbour_12 rfl (lv_at hl 0 rfl) ?_
      refine Z_STEPS X hZ h m_f_Level_31 d_Level_neighbour_13 ?_
      refine lv_iload_n hx hb d_Level_neighbour_16 rfl (lv_at hl 1 rfl) ?_
      obtain ⟨g3, hf⟩ := gd_s hf
      refine U_STEPS X hZ h (inb_s g3) d_Level_neighbour_17 ?_
      refine lv_iadd hx hb d_Level_neighbour_18 ?_
      refine lv_goto (tgt := 23) hx hb d_Level_neighbour_19 (by decide) ?_
      exact rt _ _ H locs 23 ls hf h d_Level_neighbour_23

