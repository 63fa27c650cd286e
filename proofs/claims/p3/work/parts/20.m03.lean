theorem d_Model_down_0 : decode b_Model_down 0 = .ok (.iload_n 0, 1) := by decide +kernel
theorem d_Model_down_1 : decode b_Model_down 1 = .ok (.ifCond .lt 9, 3) := by decide +kernel
theorem d_Model_down_4 : decode b_Model_down 4 = .ok (.iload_n 0, 1) := by decide +kernel
theorem d_Model_down_5 : decode b_Model_down 5 = .ok (.iload_n 1, 1) := by decide +kernel
theorem d_Model_down_6 : decode b_Model_down 6 = .ok (.idiv, 1) := by decide +kernel
theorem d_Model_down_7 : decode b_Model_down 7 = .ok (.goto 11, 3) := by decide +kernel
theorem d_Model_down_10 : decode b_Model_down 10 = .ok (.iload_n 1, 1) := by decide +kernel
theorem d_Model_down_11 : decode b_Model_down 11 = .ok (.iconst 1, 1) := by decide +kernel
theorem d_Model_down_12 : decode b_Model_down 12 = .ok (.isub, 1) := by decide +kernel
theorem d_Model_down_13 : decode b_Model_down 13 = .ok (.iload_n 0, 1) := by decide +kernel
theorem d_Model_down_14 : decode b_Model_down 14 = .ok (.isub, 1) := by decide +kernel
theorem d_Model_down_15 : decode b_Model_down 15 = .ok (.iload_n 1, 1) := by decide +kernel
theorem d_Model_down_16 : decode b_Model_down 16 = .ok (.idiv, 1) := by decide +kernel
theorem d_Model_down_17 : decode b_Model_down 17 = .ok (.ineg, 1) := by decide +kernel
theorem d_Model_down_18 : decode b_Model_down 18 = .ok (.ireturn, 1) := by decide +kernel
def f_Model_down (n : Nat) (x0 : Int32) (x1 : Int32) (σ : St) : Option (Int32 × St) := if x0 < 0 then (gd (nzi x1) (some (-(((x1 - 1) - x0) / x1), σ))) else (gd (nzi x1) (some (x0 / x1, σ)))
set_option maxHeartbeats 4000000 in
set_option maxRecDepth 100000 in
theorem c_Model_down (l : Launch) (D : va_G) (ad : Nat → Nat) (cA : Nat → ClassId) (tz : Nat → Nat) (n : Nat) (x0 : Int32) (x1 : Int32) (σ : St) (r : Int32) (σr : St) (hf : f_Model_down n x0 x1 σ = some (r, σr)) : Ki l D cA tz (wm ad cA) y_Model_down (.code y_Model_down b_Model_down 2 (some .int) :: TB) ({ frames := 0, cells := 0, slots := 0, locals := 0 }) [.int x0, .int x1] σ r σr := by
  refine x_openi (own := R_Model) rfl (by decide) (fun p e s m args below meth c A Q X hml hZ hA H locs ls h hl rt => ?_)
  have hx := X.1
  have hb := X.2.1
  have hl : lv_has ls 2 [(0, .int x0), (1, .int x1)] := hl
  unfold f_Model_down at hf
  refine lv_iload_n hx hb d_Model_down_0 rfl (lv_at hl 0 rfl) ?_
  refine lv_if_lt (tgt := 10) hx hb d_Model_down_1 (by decide) (fun c1 => ?_) (fun c1 => ?_)
  · have hf := it c1 hf
    refine lv_iload_n hx hb d_Model_down_10 rfl (lv_at hl 1 rfl) ?_
    refine lv_iconst (v := 1) hx hb d_Model_down_11 (by decide) ?_
    refine lv_isub hx hb d_Model_down_12 ?_
    refine lv_iload_n hx hb d_Model_down_13 rfl (lv_at hl 0 rfl) ?_
    refine lv_isub hx hb d_Model_down_14 ?_
    refine lv_iload_n hx hb d_Model_down_15 rfl (lv_at hl 1 rfl) ?_
    obtain ⟨g2, hf⟩ := gd_s hf
    refine lv_idiv hx hb d_Model_down_16 (nzi_s g2) ?_
    refine lv_ineg hx hb d_Model_down_17 ?_
    exact rt _ _ H locs 18 ls hf h d_Model_down_18
  · have hf := ie c1 hf
    refine lv_iload_n hx hb d_Model_down_4 rfl (lv_at hl 0 rfl) ?_
    refine lv_iload_n hx hb d_Model_down_5 rfl (lv_at hl 1 rfl) ?_
    obtain ⟨g3, hf⟩ := gd_s hf
    refine lv_idiv hx hb d_Model_down_6 (nzi_s g3) ?_
    refine lv_goto (tgt := 18) hx hb d_Model_down_7 (by decide) ?_
    exact rt _ _ H locs 18 ls hf h d_Model_down_18
theorem d_Model_isClear_0 : decode b_Model_isClear 0 = .ok (.iload_n 3, 1) := by decide +kernel
theorem d_Model_isClear_1 : decode b_Model_isClear 1 = .ok (.iload_n 1, 1) := by decide +kernel
theorem d_Model_isClear_2 : decode b_Model_isClear 2 = .ok (.isub, 1) := by decide +kernel
theorem d_Model_isClear_3 : decode b_Model_isClear 3 = .ok (.istore 5, 2) := by decide +kernel
theorem d_Model_isClear_5 : decode b_Model_isClear 5 = .ok (.iload 4, 2) := by decide +kernel
theorem d_Model_isClear_7 : decode b_Model_isClear 7 = .ok (.iload_n 2, 1) := by decide +kernel
theorem d_Model_isClear_8 : decode b_Model_isClear 8 = .ok (.isub, 1) := by decide +kernel
theorem d_Model_isClear_9 : decode b_Model_isClear 9 = .ok (.istore 6, 2) := by decide +kernel
theorem d_Model_isClear_11 : decode b_Model_isClear 11 = .ok (.iload 5, 2) := by decide +kernel
theorem d_Model_isClear_13 : decode b_Model_isClear 13 = .ok (.ifCond .ge 9, 3) := by decide +kernel
theorem d_Model_isClear_16 : decode b_Model_isClear 16 = .ok (.iload 5, 2) := by decide +kernel
theorem d_Model_isClear_18 : decode b_Model_isClear 18 = .ok (.ineg, 1) := by decide +kernel
theorem d_Model_isClear_19 : decode b_Model_isClear 19 = .ok (.goto 5, 3) := by decide +kernel
theorem d_Model_isClear_22 : decode b_Model_isClear 22 = .ok (.iload 5, 2) := by decide +kernel
theorem d_Model_isClear_24 : decode b_Model_isClear 24 = .ok (.istore 7, 2) := by decide +kernel
theorem d_Model_isClear_26 : decode b_Model_isClear 26 = .ok (.iload 6, 2) := by decide +kernel
theorem d_Model_isClear_28 : decode b_Model_isClear 28 = .ok (.ifCond .ge 9, 3) := by decide +kernel
theorem d_Model_isClear_31 : decode b_Model_isClear 31 = .ok (.iload 6, 2) := by decide +kernel
theorem d_Model_isClear_33 : decode b_Model_isClear 33 = .ok (.ineg, 1) := by decide +kernel
theorem d_Model_isClear_34 : decode b_Model_isClear 34 = .ok (.goto 5, 3) := by decide +kernel
theorem d_Model_isClear_37 : decode b_Model_isClear 37 = .ok (.iload 6, 2) := by decide +kernel
theorem d_Model_isClear_39 : decode b_Model_isClear 39 = .ok (.istore 8, 2) := by decide +kernel
theorem d_Model_isClear_41 : decode b_Model_isClear 41 = .ok (.iload 7, 2) := by decide +kernel
theorem d_Model_isClear_43 : decode b_Model_isClear 43 = .ok (.iload 8, 2) := by decide +kernel
theorem d_Model_isClear_45 : decode b_Model_isClear 45 = .ok (.if_icmp .le 8, 3) := by decide +kernel
theorem d_Model_isClear_48 : decode b_Model_isClear 48 = .ok (.iload 7, 2) := by decide +kernel
theorem d_Model_isClear_50 : decode b_Model_isClear 50 = .ok (.goto 5, 3) := by decide +kernel
theorem d_Model_isClear_53 : decode b_Model_isClear 53 = .ok (.iload 8, 2) := by decide +kernel
theorem d_Model_isClear_55 : decode b_Model_isClear 55 = .ok (.istore 9, 2) := by decide +kernel
theorem d_Model_isClear_57 : decode b_Model_isClear 57 = .ok (.iconst 1, 1) := by decide +kernel
theorem d_Model_isClear_58 : decode b_Model_isClear 58 = .ok (.istore 10, 2) := by decide +kernel
theorem d_Model_isClear_60 : decode b_Model_isClear 60 = .ok (.iload 10, 2) := by decide +kernel
theorem d_Model_isClear_62 : decode b_Model_isClear 62 = .ok (.iload 9, 2) := by decide +kernel
theorem d_Model_isClear_64 : decode b_Model_isClear 64 = .ok (.if_icmp .ge 56, 3) := by decide +kernel
theorem d_Model_isClear_67 : decode b_Model_isClear 67 = .ok (.aload_n 0, 1) := by decide +kernel
theorem d_Model_isClear_68 : decode b_Model_isClear 68 = .ok (.iload_n 1, 1) := by decide +kernel
theorem d_Model_isClear_69 : decode b_Model_isClear 69 = .ok (.iconst 2, 1) := by decide +kernel
theorem d_Model_isClear_70 : decode b_Model_isClear 70 = .ok (.iload 10, 2) := by decide +kernel
theorem d_Model_isClear_72 : decode b_Model_isClear 72 = .ok (.imul, 1) := by decide +kernel
theorem d_Model_isClear_73 : decode b_Model_isClear 73 = .ok (.iload 5, 2) := by decide +kernel
theorem d_Model_isClear_75 : decode b_Model_isClear 75 = .ok (.imul, 1) := by decide +kernel
theorem d_Model_isClear_76 : decode b_Model_isClear 76 = .ok (.iload 9, 2) := by decide +kernel
theorem d_Model_isClear_78 : decode b_Model_isClear 78 = .ok (.iadd, 1) := by decide +kernel
theorem d_Model_isClear_79 : decode b_Model_isClear 79 = .ok (.iconst 2, 1) := by decide +kernel
theorem d_Model_isClear_80 : decode b_Model_isClear 80 = .ok (.iload 9, 2) := by decide +kernel
theorem d_Model_isClear_82 : decode b_Model_isClear 82 = .ok (.imul, 1) := by decide +kernel
theorem d_Model_isClear_83 : decode b_Model_isClear 83 = .ok (.invokestatic 152, 3) := by decide +kernel
theorem d_Model_isClear_86 : decode b_Model_isClear 86 = .ok (.iadd, 1) := by decide +kernel
theorem d_Model_isClear_87 : decode b_Model_isClear 87 = .ok (.iload_n 2, 1) := by decide +kernel
theorem d_Model_isClear_88 : decode b_Model_isClear 88 = .ok (.iconst 2, 1) := by decide +kernel
theorem d_Model_isClear_89 : decode b_Model_isClear 89 = .ok (.iload 10, 2) := by decide +kernel
theorem d_Model_isClear_91 : decode b_Model_isClear 91 = .ok (.imul, 1) := by decide +kernel
theorem d_Model_isClear_92 : decode b_Model_isClear 92 = .ok (.iload 6, 2) := by decide +kernel
theorem d_Model_isClear_94 : decode b_Model_isClear 94 = .ok (.imul, 1) := by decide +kernel
theorem d_Model_isClear_95 : decode b_Model_isClear 95 = .ok (.iload 9, 2) := by decide +kernel
theorem d_Model_isClear_97 : decode b_Model_isClear 97 = .ok (.iadd, 1) := by decide +kernel
theorem d_Model_isClear_98 : decode b_Model_isClear 98 = .ok (.iconst 2, 1) := by decide +kernel
theorem d_Model_isClear_99 : decode b_Model_isClear 99 = .ok (.iload 9, 2) := by decide +kernel
theorem d_Model_isClear_101 : decode b_Model_isClear 101 = .ok (.imul, 1) := by decide +kernel
theorem d_Model_isClear_102 : decode b_Model_isClear 102 = .ok (.invokestatic 152, 3) := by decide +kernel
theorem d_Model_isClear_105 : decode b_Model_isClear 105 = .ok (.iadd, 1) := by decide +kernel
theorem d_Model_isClear_106 : decode b_Model_isClear 106 = .ok (.invokevirtual 155, 3) := by decide +kernel
theorem d_Model_isClear_109 : decode b_Model_isClear 109 = .ok (.ifCond .ne 5, 3) := by decide +kernel
theorem d_Model_isClear_112 : decode b_Model_isClear 112 = .ok (.iconst 0, 1) := by decide +kernel
theorem d_Model_isClear_113 : decode b_Model_isClear 113 = .ok (.ireturn, 1) := by decide +kernel
theorem d_Model_isClear_114 : decode b_Model_isClear 114 = .ok (.iinc 10 1, 3) := by decide +kernel
theorem d_Model_isClear_117 : decode b_Model_isClear 117 = .ok (.goto (-57), 3) := by decide +kernel
theorem d_Model_isClear_120 : decode b_Model_isClear 120 = .ok (.iconst 1, 1) := by decide +kernel
theorem d_Model_isClear_121 : decode b_Model_isClear 121 = .ok (.ireturn, 1) := by decide +kernel
def f_Model_isClear_60 (n : Nat) : Nat → Int32 → Int32 → Int32 → Int32 → Int32 → Int32 → St → Option (Int32 × St)
  | 0, _, _, _, _, _, _, _ => none
  | j + 1, y1, y2, y5, y6, y9, y10, σ => if y9 ≤ y10 then (some (1, σ)) else (bd (f_Model_down n (((2 * y10) * y5) + y9) (2 * y9) σ) (fun r7 σ8 => bd (f_Model_down n (((2 * y10) * y6) + y9) (2 * y9) σ8) (fun r10 σ11 => bd (f_Model_isFloor n (y1 + r7) (y2 + r10) σ11) (fun r13 σ14 => if r13 = 0 then (some (0, σ14)) else (bnd (y10 + 1) (fun v17 => f_Model_isClear_60 n j y1 y2 y5 y6 y9 v17 σ14))))))
theorem f_Model_isClear_60_s (n : Nat) (j : Nat) (y1 : Int32) (y2 : Int32) (y5 : Int32) (y6 : Int32) (y9 : Int32) (y10 : Int32) (σ : St) : f_Model_isClear_60 n (j + 1) y1 y2 y5 y6 y9 y10 σ = (if y9 ≤ y10 then (some (1, σ)) else (bd (f_Model_down n (((2 * y10) * y5) + y9) (2 * y9) σ) (fun r7 σ8 => bd (f_Model_down n (((2 * y10) * y6) + y9) (2 * y9) σ8) (fun r10 σ11 => bd (f_Model_isFloor n (y1 + r7) (y2 + r10) σ11) (fun r13 σ14 => if r13 = 0 then (some (0, σ14)) else (bnd (y10 + 1) (fun v17 => f_Model_isClear_60 n j y1 y2 y5 y6 y9 v17 σ14))))))) := rfl
def f_Model_isClear_39 (n : Nat) (y1 : Int32) (y2 : Int32) (y5 : Int32) (y6 : Int32) (y7 : Int32) (s0 : Int32) (σ : St) : Option (Int32 × St) := if y7 ≤ s0 then (f_Model_isClear_60 n n y1 y2 y5 y6 s0 1 σ) else (f_Model_isClear_60 n n y1 y2 y5 y6 y7 1 σ)
def f_Model_isClear_24 (n : Nat) (y1 : Int32) (y2 : Int32) (y5 : Int32) (y6 : Int32) (s0 : Int32) (σ : St) : Option (Int32 × St) := if 0 ≤ y6 then (f_Model_isClear_39 n y1 y2 y5 y6 s0 y6 σ) else (f_Model_isClear_39 n y1 y2 y5 y6 s0 (-y6) σ)
def f_Model_isClear (n : Nat) (x1 : Int32) (x2 : Int32) (x3 : Int32) (x4 : Int32) (σ : St) : Option (Int32 × St) := bnd (x3 - x1) (fun v1 => bnd (x4 - x2) (fun v2 => if 0 ≤ v1 then (f_Model_isClear_24 n x1 x2 v1 v2 v1 σ) else (f_Model_isClear_24 n x1 x2 v1 v2 (-v1) σ)))
set_option maxHeartbeats 4000000 in
set_option maxRecDepth 100000 in
theorem c_Model_isClear (l : Launch) (D : va_G) (ad : Nat → Nat) (cA : Nat → ClassId) (tz : Nat → Nat) (n : Nat) (x1 : Int32) (x2 : Int32) (x3 : Int32) (x4 : Int32) (σ : St) (r : Int32) (σr : St) (hf : f_Model_isClear n x1 x2 x3 x4 σ = some (r, σr)) : Ki l D cA tz (wm ad cA) y_Model_isClear (.code y_Model_isClear b_Model_isClear 11 (some .boolean) :: TB) ({ frames := 2, cells := 0, slots := 0, locals := 44 }) [.ref (ad 0), .int x1, .int x2, .int x3, .int x4] σ r σr := by
  refine x_openz (own := R_Model) rfl (by decide) (fun p e s m args below meth c A Q X hml hZ hA H locs ls h hl rt => ?_)
  have hx := X.1
  have hb := X.2.1
  have hl : lv_has ls 11 [(0, .ref (ad 0)), (1, .int x1), (2, .int x2), (3, .int x3), (4, .int x4)] := hl
  have L60 : ∀ j : Nat, ∀ (y1 : Int32) (y2 : Int32) (y5 : Int32) (y6 : Int32) (y9 : Int32) (y10 : Int32) (σ : St), f_Model_isClear_60 n j y1 y2 y5 y6 y9 y10 σ = some (r, σr) → ∀ (H : Heap) (locs : List Loc) (ls : Array Slot), WD D A s (wm ad cA σ) H locs → lv_has ls 11 [(0, .ref (ad 0)), (1, .int y1), (2, .int y2), (5, .int y5), (6, .int y6), (9, .int y9), (10, .int y10)] → W p l e ({ frames := 2, cells := 0, slots := 0, locals := 44 }) s m args below meth c H locs 0 0 Q (F0 m 60 ls []) := by
    intro j
    induction j with
    | zero => intro y1 y2 y5 y6 y9 y10 σ hf; exact absurd hf (fun z => by cases z)
    | succ j ih =>
      intro y1 y2 y5 y6 y9 y10 σ hf H locs ls h hl
      have hf := us (f_Model_isClear_60_s n j y1 y2 y5 y6 y9 y10 σ) hf
      refine lv_iload hx hb d_Model_isClear_60 (lv_at hl 6 rfl) ?_
      refine lv_iload hx hb d_Model_isClear_62 (lv_at hl 5 rfl) ?_
      refine lv_icmp_ge (tgt := 120) hx hb d_Model_isClear_64 (by decide) (fun c6 => ?_) (fun c6 => ?_)
      · have hf := it c6 hf
        refine lv_iconst (v := 1) hx hb d_Model_isClear_120 (by decide) ?_
        exact rt _ _ H locs 121 ls rfl hf h d_Model_isClear_121
      · have hf := ie c6 hf
        refine lv_aload_n hx hb d_Model_isClear_67 rfl (lv_at hl 0 rfl) ?_
        refine lv_iload_n hx hb d_Model_isClear_68 rfl (lv_at hl 1 rfl) ?_
        refine lv_iconst (v := 2) hx hb d_Model_isClear_69 (by decide) ?_
        refine lv_iload hx hb d_Model_isClear_70 (lv_at hl 6 rfl) ?_
        refine lv_imul hx hb d_Model_isClear_72 ?_
        refine lv_iload hx hb d_Model_isClear_73 (lv_at hl 3 rfl) ?_
        refine lv_imul hx hb d_Model_isClear_75 ?_
        refine lv_iload hx hb d_Model_isClear_76 (lv_at hl 5 rfl) ?_
        refine lv_iadd hx hb d_Model_isClear_78 ?_
        refine lv_iconst (v := 2) hx hb d_Model_isClear_79 (by decide) ?_
        refine lv_iload hx hb d_Model_isClear_80 (lv_at hl 5 rfl) ?_
        refine lv_imul hx hb d_Model_isClear_82 ?_
        obtain ⟨r7, σ8, h9, hf⟩ := bd_s hf
        refine x_Si (As := [.int (((2 * y10) * y5) + y9), .int (2 * y9)]) (rest := [.int y1, .ref (ad 0)]) X hml hl.1 hZ hA h (c_Model_down l D ad cA tz n (((2 * y10) * y5) + y9) (2 * y9) σ r7 σ8 h9) k_Model_down m_m_Model_152 kd_Model_down ⟨rfl, rfl, Nat.le_of_ble_eq_true rfl, Nat.le_of_ble_eq_true rfl⟩ rfl rfl (Nat.le_of_ble_eq_true rfl) d_Model_isClear_83 (fun H locs h => ?_)
        refine lv_iadd hx hb d_Model_isClear_86 ?_
        refine lv_iload_n hx hb d_Model_isClear_87 rfl (lv_at hl 2 rfl) ?_
        refine lv_iconst (v := 2) hx hb d_Model_isClear_88 (by decide) ?_
        refine lv_iload hx hb d_Model_isClear_89 (lv_at hl 6 rfl) ?_
        refine lv_imul hx hb d_Model_isClear_91 ?_
        refine lv_iload hx hb d_Model_isClear_92 (lv_at hl 4 rfl) ?_
        refine lv_imul hx hb d_Model_isClear_94 ?_
        refine lv_iload hx hb d_Model_isClear_95 (lv_at hl 5 rfl) ?_
        refine lv_iadd hx hb d_Model_isClear_97 ?_
        refine lv_iconst (v := 2) hx hb d_Model_isClear_98 (by decide) ?_
        refine lv_iload hx hb d_Model_isClear_99 (lv_at hl 5 rfl) ?_
        refine lv_imul hx hb d_Model_isClear_101 ?_
        obtain ⟨r10, σ11, h12, hf⟩ := bd_s hf
        refine x_Si (As := [.int (((2 * y10) * y6) + y9), .int (2 * y9)]) (rest := [.int y2, .int (y1 + r7), .ref (ad 0)]) X hml hl.1 hZ hA h (c_Model_down l D ad cA tz n (((2 * y10) * y6) + y9) (2 * y9) σ8 r10 σ11 h12) k_Model_down m_m_Model_152 kd_Model_down ⟨rfl, rfl, Nat.le_of_ble_eq_true rfl, Nat.le_of_ble_eq_true rfl⟩ rfl rfl (Nat.le_of_ble_eq_true rfl) d_Model_isClear_102 (fun H locs h => ?_)
        refine lv_iadd hx hb d_Model_isClear_105 ?_
        obtain ⟨r13, σ14, h15, hf⟩ := bd_s hf
        refine x_Vi (As := [.int (y1 + r7), .int (y2 + r10)]) (rest := []) X hml hl.1 hZ hA h (c_Model_isFloor l D ad cA tz n (y1 + r7) (y2 + r10) σ11 r13 σ14 h15) k_Model_isFloor m_m_Model_155 kd_Model_isFloor ⟨rfl, rfl, Nat.le_of_ble_eq_true rfl, Nat.le_of_ble_eq_true rfl⟩ 0 rfl rfl rfl rfl rfl (Nat.le_of_ble_eq_true rfl) d_Model_isClear_106 (fun H locs h => ?_)
        refine lv_if_ne (tgt := 114) hx hb d_Model_isClear_109 (by decide) (fun c16 => ?_) (fun c16 => ?_)
        · have hf := ie c16 hf
          obtain ⟨v17, ev17⟩ : ∃ y : Int32, y = y10 + 1 := ⟨_, rfl⟩
          have hf := nm_b hf ev17
          refine lv_iinc (v := v17) (lv' := [(10, .int v17), (0, .ref (ad 0)), (1, .int y1), (2, .int y2), (5, .int y5), (6, .int y6), (9, .int y9)]) hx hb d_Model_isClear_114 hl (k := 6) rfl (by rw [ev17]; rfl) (by decide) rfl (fun ls hl => ?_)
          refine lv_goto (tgt := 60) hx hb d_Model_isClear_117 (by decide) ?_
          exact ih y1 y2 y5 y6 y9 v17 σ14 hf H locs ls h (lv_sub hl [1, 2, 3, 4, 5, 6, 0] rfl)
        · have hf := it c16 hf
          refine lv_iconst (v := 0) hx hb d_Model_isClear_112 (by decide) ?_
          exact rt _ _ H locs 113 ls rfl hf h d_Model_isClear_113
  have L39 : ∀ (y1 : Int32) (y2 : Int32) (y5 : Int32) (y6 : Int32) (y7 : Int32) (s0 : Int32) (σ : St), f_Model_isClear_39 n y1 y2 y5 y6 y7 s0 σ = some (r, σr) → ∀ (H : Heap) (locs : List Loc) (ls : Array Slot), WD D A s (wm ad cA σ) H locs → lv_has ls 11 [(0, .ref (ad 0)), (1, .int y1), (2, .int y2), (5, .int y5), (6, .int y6), (7, .int y7)] → W p l e ({ frames := 2, cells := 0, slots := 0, locals := 44 }) s m args below meth c H locs 0 0 Q (F0 m 39 ls [.int s0]) := by
    intro y1 y2 y5 y6 y7 s0 σ hf H locs ls h hl
    unfold f_Model_isClear_39 at hf
    refine lv_istore (lv' := [(8, .int s0), (0, .ref (ad 0)), (1, .int y1), (2, .int y2), (5, .int y5), (6, .int y6), (7, .int y7)]) hx hb d_Model_isClear_39 hl (by decide) rfl (fun ls hl => ?_)
    refine lv_iload hx hb d_Model_isClear_41 (lv_at hl 6 rfl) ?_
    refine lv_iload hx hb d_Model_isClear_43 (lv_at hl 0 rfl) ?_
    refine lv_icmp_le (tgt := 53) hx hb d_Model_isClear_45 (by decide) (fun c5 => ?_) (fun c5 => ?_)
    · have hf := it c5 hf
      refine lv_iload hx hb d_Model_isClear_53 (lv_at hl 0 rfl) ?_
      refine lv_istore (lv' := [(9, .int s0), (8, .int s0), (0, .ref (ad 0)), (1, .int y1), (2, .int y2), (5, .int y5), (6, .int y6), (7, .int y7)]) hx hb d_Model_isClear_55 hl (by decide) rfl (fun ls hl => ?_)
      refine lv_iconst (v := 1) hx hb d_Model_isClear_57 (by decide) ?_
      refine lv_istore (lv' := [(10, .int 1), (9, .int s0), (8, .int s0), (0, .ref (ad 0)), (1, .int y1), (2, .int y2), (5, .int y5), (6, .int y6), (7, .int y7)]) hx hb d_Model_isClear_58 hl (by decide) rfl (fun ls hl => ?_)
      exact L60 n y1 y2 y5 y6 s0 1 σ hf H locs ls h (lv_sub hl [3, 4, 5, 6, 7, 1, 0] rfl)
    · have hf := ie c5 hf
      refine lv_iload hx hb d_Model_isClear_48 (lv_at hl 6 rfl) ?_
      refine lv_goto (tgt := 55) hx hb d_Model_isClear_50 (by decide) ?_
      refine lv_istore (lv' := [(9, .int y7), (8, .int s0), (0, .ref (ad 0)), (1, .int y1), (2, .int y2), (5, .int y5), (6, .int y6), (7, .int y7)]) hx hb d_Model_isClear_55 hl (by decide) rfl (fun ls hl => ?_)
      refine lv_iconst (v := 1) hx hb d_Model_isClear_57 (by decide) ?_
      refine lv_istore (lv' := [(10, .int 1), (9, .int y7), (8, .int s0), (0, .ref (ad 0)), (1, .int y1), (2, .int y2), (5, .int y5), (6, .int y6), (7, .int y7)]) hx hb d_Model_isClear_58 hl (by decide) rfl (fun ls hl => ?_)
      exact L60 n y1 y2 y5 y6 y7 1 σ hf H locs ls h (lv_sub hl [3, 4, 5, 6, 7, 1, 0] rfl)
  have L24 : ∀ (y1 : Int32) (y2 : Int32) (y5 : Int32) (y6 : Int32) (s0 : Int32) (σ : St), f_Model_isClear_24 n y1 y2 y5 y6 s0 σ = some (r, σr) → ∀ (H : Heap) (locs : List Loc) (ls : Array Slot), WD D A s (wm ad cA σ) H locs → lv_has ls 11 [(0, .ref (ad 0)), (1, .int y1), (2, .int y2), (5, .int y5), (6, .int y6)] → W p l e ({ frames := 2, cells := 0, slots := 0, locals := 44 }) s m args below meth c H locs 0 0 Q (F0 m 24 ls [.int s0]) := by
    intro y1 y2 y5 y6 s0 σ hf H locs ls h hl
    unfold f_Model_isClear_24 at hf
    refine lv_istore (lv' := [(7, .int s0), (0, .ref (ad 0)), (1, .int y1), (2, .int y2), (5, .int y5), (6, .int y6)]) hx hb d_Model_isClear_24 hl (by decide) rfl (fun ls hl => ?_)
    refine lv_iload hx hb d_Model_isClear_26 (lv_at hl 5 rfl) ?_
    refine lv_if_ge (tgt := 37) hx hb d_Model_isClear_28 (by decide) (fun c4 => ?_) (fun c4 => ?_)
    · have hf := it c4 hf
      refine lv_iload hx hb d_Model_isClear_37 (lv_at hl 5 rfl) ?_
      exact L39 y1 y2 y5 y6 s0 y6 σ hf H locs ls h (lv_sub hl [1, 2, 3, 4, 5, 0] rfl)
    · have hf := ie c4 hf
      refine lv_iload hx hb d_Model_isClear_31 (lv_at hl 5 rfl) ?_
      refine lv_ineg hx hb d_Model_isClear_33 ?_
      refine lv_goto (tgt := 39) hx hb d_Model_isClear_34 (by decide) ?_
      exact L39 y1 y2 y5 y6 s0 (-y6) σ hf H locs ls h (lv_sub hl [1, 2, 3, 4, 5, 0] rfl)
  unfold f_Model_isClear at hf
  refine lv_iload_n hx hb d_Model_isClear_0 rfl (lv_at hl 3 rfl) ?_
  refine lv_iload_n hx hb d_Model_isClear_1 rfl (lv_at hl 1 rfl) ?_
  refine lv_isub hx hb d_Model_isClear_2 ?_
  refine lv_topi (fun v1 ev1 => ?_)
  have hf := nm_b hf ev1
  refine lv_istore (lv' := [(5, .int v1), (0, .ref (ad 0)), (1, .int x1), (2, .int x2), (3, .int x3), (4, .int x4)]) hx hb d_Model_isClear_3 hl (by decide) rfl (fun ls hl => ?_)
  refine lv_iload hx hb d_Model_isClear_5 (lv_at hl 5 rfl) ?_
  refine lv_iload_n hx hb d_Model_isClear_7 rfl (lv_at hl 3 rfl) ?_
  refine lv_isub hx hb d_Model_isClear_8 ?_
  refine lv_topi (fun v2 ev2 => ?_)
  have hf := nm_b hf ev2
  refine lv_istore (lv' := [(6, .int v2), (5, .int v1), (0, .ref (ad 0)), (1, .int x1), (2, .int x2), (3, .int x3), (4, .int x4)]) hx hb d_Model_isClear_9 hl (by decide) rfl (fun ls hl => ?_)
  refine lv_iload hx hb d_Model_isClear_11 (lv_at hl 1 rfl) ?_
  refine lv_if_ge (tgt := 22) hx hb d_Model_isClear_13 (by decide) (fun c3 => ?_) (fun c3 => ?_)
  · have hf := it c3 hf
    refine lv_iload hx hb d_Model_isClear_22 (lv_at hl 1 rfl) ?_
    exact L24 x1 x2 v1 v2 v1 σ hf H locs ls h (lv_sub hl [2, 3, 4, 1, 0] rfl)
  · have hf := ie c3 hf
    refine lv_iload hx hb d_Model_isClear_16 (lv_at hl 1 rfl) ?_
    refine lv_ineg hx hb d_Model_isClear_18 ?_
    refine lv_goto (tgt := 24) hx hb d_Model_isClear_19 (by decide) ?_
    exact L24 x1 x2 v1 v2 (-v1) σ hf H locs ls h (lv_sub hl [2, 3, 4, 1, 0] rfl)
theorem d_Model_isSeen_0 : decode b_Model_isSeen 0 = .ok (.aload_n 0, 1) := by decide +kernel
theorem d_Model_isSeen_1 : decode b_Model_isSeen 1 = .ok (.iload_n 1, 1) := by decide +kernel
theorem d_Model_isSeen_2 : decode b_Model_isSeen 2 = .ok (.iload_n 2, 1) := by decide +kernel
theorem d_Model_isSeen_3 : decode b_Model_isSeen 3 = .ok (.invokevirtual 159, 3) := by decide +kernel
theorem d_Model_isSeen_6 : decode b_Model_isSeen 6 = .ok (.ifCond .eq 24, 3) := by decide +kernel
theorem d_Model_isSeen_9 : decode b_Model_isSeen 9 = .ok (.aload_n 0, 1) := by decide +kernel
theorem d_Model_isSeen_10 : decode b_Model_isSeen 10 = .ok (.aload_n 0, 1) := by decide +kernel
theorem d_Model_isSeen_11 : decode b_Model_isSeen 11 = .ok (.getfield 129, 3) := by decide +kernel
theorem d_Model_isSeen_14 : decode b_Model_isSeen 14 = .ok (.aload_n 0, 1) := by decide +kernel
theorem d_Model_isSeen_15 : decode b_Model_isSeen 15 = .ok (.getfield 132, 3) := by decide +kernel
theorem d_Model_isSeen_18 : decode b_Model_isSeen 18 = .ok (.iload_n 1, 1) := by decide +kernel
theorem d_Model_isSeen_19 : decode b_Model_isSeen 19 = .ok (.iload_n 2, 1) := by decide +kernel
theorem d_Model_isSeen_20 : decode b_Model_isSeen 20 = .ok (.invokevirtual 162, 3) := by decide +kernel
theorem d_Model_isSeen_23 : decode b_Model_isSeen 23 = .ok (.ifCond .eq 7, 3) := by decide +kernel
theorem d_Model_isSeen_26 : decode b_Model_isSeen 26 = .ok (.iconst 1, 1) := by decide +kernel
theorem d_Model_isSeen_27 : decode b_Model_isSeen 27 = .ok (.goto 4, 3) := by decide +kernel
theorem d_Model_isSeen_30 : decode b_Model_isSeen 30 = .ok (.iconst 0, 1) := by decide +kernel
theorem d_Model_isSeen_31 : decode b_Model_isSeen 31 = .ok (.ireturn, 1) := by decide +kernel
def f_Model_isSeen (n : Nat) (x1 : Int32) (x2 : Int32) (σ : St) : Option (Int32 × St) := bd (f_Model_isNear n x1 x2 σ) (fun r1 σ2 => if r1 = 0 then (some (0, σ2)) else (bd (f_Model_isClear n (σ2.1 2) (σ2.1 3) x1 x2 σ2) (fun r5 σ6 => if r5 = 0 then (some (0, σ6)) else (some (1, σ6)))))
set_option maxHeartbeats 4000000 in
set_option maxRecDepth 100000 in
theorem c_Model_isSeen (l : Launch) (D : va_G) (ad : Nat → Nat) (cA : Nat → ClassId) (tz : Nat → Nat) (n : Nat) (x1 : Int32) (x2 : Int32) (σ : St) (r : Int32) (σr : St) (hf : f_Model_isSeen n x1 x2 σ = some (r, σr)) : Ki l D cA tz (wm ad cA) y_Model_isSeen (.code y_Model_isSeen b_Model_isSeen 3 (some .boolean) :: TB) ({ frames := 3, cells := 0, slots := 0, locals := 74 }) [.ref (ad 0), .int x1, .int x2] σ r σr := by
  refine x_openz (own := R_Model) rfl (by decide) (fun p e s m args below meth c A Q X hml hZ hA H locs ls h hl rt => ?_)
  have hx := X.1
  have hb := X.2.1
  have hl : lv_has ls 3 [(0, .ref (ad 0)), (1, .int x1), (2, .int x2)] := hl
  unfold f_Model_isSeen at hf
  refine lv_aload_n hx hb d_Model_isSeen_0 rfl (lv_at hl 0 rfl) ?_
  refine lv_iload_n hx hb d_Model_isSeen_1 rfl (lv_at hl 1 rfl) ?_
  refine lv_iload_n hx hb d_Model_isSeen_2 rfl (lv_at hl 2 rfl) ?_
  obtain ⟨r1, σ2, h3, hf⟩ := bd_s hf
  refine x_Vi (As := [.int x1, .int x2]) (rest := []) X hml hl.1 hZ hA h (c_Model_isNear l D ad cA tz n x1 x2 σ r1 σ2 h3) k_Model_isNear m_m_Model_159 kd_Model_isNear ⟨rfl, rfl, Nat.le_of_ble_eq_true rfl, Nat.le_of_ble_eq_true rfl⟩ 0 rfl rfl rfl rfl rfl (Nat.le_of_ble_eq_true rfl) d_Model_isSeen_3 (fun H locs h => ?_)
  refine lv_if_eq (tgt := 30) hx hb d_Model_isSeen_6 (by decide) (fun c4 => ?_) (fun c4 => ?_)
  · have hf := it c4 hf
    refine lv_iconst (v := 0) hx hb d_Model_isSeen_30 (by decide) ?_
    exact rt _ _ H locs 31 ls rfl hf h d_Model_isSeen_31
  · have hf := ie c4 hf
    refine lv_aload_n hx hb d_Model_isSeen_9 rfl (lv_at hl 0 rfl) ?_
    refine lv_aload_n hx hb d_Model_isSeen_10 rfl (lv_at hl 0 rfl) ?_
    refine G_model_px X h m_f_Model_129 d_Model_isSeen_11 ?_
    refine lv_aload_n hx hb d_Model_isSeen_14 rfl (lv_at hl 0 rfl) ?_
    refine G_model_py X h m_f_Model_132 d_Model_isSeen_15 ?_
    refine lv_iload_n hx hb d_Model_isSeen_18 rfl (lv_at hl 1 rfl) ?_
    refine lv_iload_n hx hb d_Model_isSeen_19 rfl (lv_at hl 2 rfl) ?_
    obtain ⟨r5, σ6, h7, hf⟩ := bd_s hf
    refine x_Vi (As := [.int (σ2.1 2), .int (σ2.1 3), .int x1, .int x2]) (rest := []) X hml hl.1 hZ hA h (c_Model_isClear l D ad cA tz n (σ2.1 2) (σ2.1 3) x1 x2 σ2 r5 σ6 h7) k_Model_isClear m_m_Model_162 kd_Model_isClear ⟨rfl, rfl, Nat.le_of_ble_eq_true rfl, Nat.le_of_ble_eq_true rfl⟩ 0 rfl rfl rfl rfl rfl (Nat.le_of_ble_eq_true rfl) d_Model_isSeen_20 (fun H locs h => ?_)
    refine lv_if_eq (tgt := 30) hx hb d_Model_isSeen_23 (by decide) (fun c8 => ?_) (fun c8 => ?_)
    · have hf := it c8 hf
      refine lv_iconst (v := 0) hx hb d_Model_isSeen_30 (by decide) ?_
      exact rt _ _ H locs 31 ls rfl hf h d_Model_isSeen_31
    · have hf := ie c8 hf
      refine lv_iconst (v := 1) hx hb d_Model_isSeen_26 (by decide) ?_
      refine lv_goto (tgt := 31) hx hb d_Model_isSeen_27 (by decide) ?_
      exact rt _ _ H locs 31 ls rfl hf h d_Model_isSeen_31
theorem d_Model_know_0 : decode b_Model_know 0 = .ok (.iconst 0, 1) := by decide +kernel
theorem d_Model_know_1 : decode b_Model_know 1 = .ok (.istore_n 1, 1) := by decide +kernel
theorem d_Model_know_2 : decode b_Model_know 2 = .ok (.iload_n 1, 1) := by decide +kernel
theorem d_Model_know_3 : decode b_Model_know 3 = .ok (.bipush 120, 2) := by decide +kernel
theorem d_Model_know_5 : decode b_Model_know 5 = .ok (.if_icmp .ge 31, 3) := by decide +kernel
theorem d_Model_know_8 : decode b_Model_know 8 = .ok (.aload_n 0, 1) := by decide +kernel
theorem d_Model_know_9 : decode b_Model_know 9 = .ok (.iload_n 1, 1) := by decide +kernel
theorem d_Model_know_10 : decode b_Model_know 10 = .ok (.bipush 12, 2) := by decide +kernel
theorem d_Model_know_12 : decode b_Model_know 12 = .ok (.irem, 1) := by decide +kernel
theorem d_Model_know_13 : decode b_Model_know 13 = .ok (.iload_n 1, 1) := by decide +kernel
theorem d_Model_know_14 : decode b_Model_know 14 = .ok (.bipush 12, 2) := by decide +kernel
theorem d_Model_know_16 : decode b_Model_know 16 = .ok (.idiv, 1) := by decide +kernel
theorem d_Model_know_17 : decode b_Model_know 17 = .ok (.invokevirtual 166, 3) := by decide +kernel
theorem d_Model_know_20 : decode b_Model_know 20 = .ok (.ifCond .eq 10, 3) := by decide +kernel
theorem d_Model_know_23 : decode b_Model_know 23 = .ok (.aload_n 0, 1) := by decide +kernel
theorem d_Model_know_24 : decode b_Model_know 24 = .ok (.getfield 19, 3) := by decide +kernel
theorem d_Model_know_27 : decode b_Model_know 27 = .ok (.iload_n 1, 1) := by decide +kernel
theorem d_Model_know_28 : decode b_Model_know 28 = .ok (.iconst 1, 1) := by decide +kernel
theorem d_Model_know_29 : decode b_Model_know 29 = .ok (.bastore, 1) := by decide +kernel
theorem d_Model_know_30 : decode b_Model_know 30 = .ok (.iinc 1 1, 3) := by decide +kernel
theorem d_Model_know_33 : decode b_Model_know 33 = .ok (.goto (-31), 3) := by decide +kernel
theorem d_Model_know_36 : decode b_Model_know 36 = .ok (.return_, 1) := by decide +kernel
def f_Model_know_2 (n : Nat) : Nat → Int32 → St → Option (Unit × St)
  | 0, _, _ => none
  | j + 1, y1, σ => if 120 ≤ y1 then (some ((), σ)) else (bd (f_Model_isSeen n (y1 - y1 / 12 * 12) (y1 / 12) σ) (fun r2 σ3 => if r2 = 0 then (bnd (y1 + 1) (fun v6 => f_Model_know_2 n j v6 σ3)) else (gd (inb y1 120) (bnd (sA σ3 3 y1.toNatClampNeg 1) (fun σ8 => bnd (y1 + 1) (fun v9 => f_Model_know_2 n j v9 σ8))))))
theorem f_Model_know_2_s (n : Nat) (j : Nat) (y1 : Int32) (σ : St) : f_Model_know_2 n (j + 1) y1 σ = (if 120 ≤ y1 then (some ((), σ)) else (bd (f_Model_isSeen n (y1 - y1 / 12 * 12) (y1 / 12) σ) (fun r2 σ3 => if r2 = 0 then (bnd (y1 + 1) (fun v6 => f_Model_know_2 n j v6 σ3)) else (gd (inb y1 120) (bnd (sA σ3 3 y1.toNatClampNeg 1) (fun σ8 => bnd (y1 + 1) (fun v9 => f_Model_know_2 n j v9 σ8))))))) := rfl
def f_Model_know (n : Nat) (σ : St) : Option (Unit × St) := f_Model_know_2 n n 0 σ
set_option maxHeartbeats 4000000 in
set_option maxRecDepth 100000 in
theorem c_Model_know (l : Launch) (D : va_G) (ad : Nat → Nat) (cA : Nat → ClassId) (tz : Nat → Nat) (n : Nat) (σ : St) (r : Unit) (σr : St) (hf : f_Model_know n σ = some (r, σr)) : Kv l D cA tz (wm ad cA) y_Model_know (.code y_Model_know b_Model_know 2 none :: TB) ({ frames := 4, cells := 0, slots := 0, locals := 96 }) [.ref (ad 0)] σ σr := by
  refine x_openv (r := r) (own := R_Model) rfl (by decide) (fun p e s m args below meth c A Q X hml hZ hA H locs ls h hl rt => ?_)
  have hx := X.1
  have hb := X.2.1
  have hl : lv_has ls 2 [(0, .ref (ad 0))] := hl
  have L2 : ∀ j : Nat, ∀ (y1 : Int32) (σ : St), f_Model_know_2 n j y1 σ = some (r, σr) → ∀ (H : Heap) (locs : List Loc) (ls : Array Slot), WD D A s (wm ad cA σ) H locs → lv_has ls 2 [(0, .ref (ad 0)), (1, .int y1)] → W p l e ({ frames := 4, cells := 0, slots := 0, locals := 96 }) s m args below meth c H locs 0 0 Q (F0 m 2 ls []) := by
    intro j
    induction j with
    | zero => intro y1 σ hf; exact absurd hf (fun z => by cases z)
    | succ j ih =>
      intro y1 σ hf H locs ls h hl
      have hf := us (f_Model_know_2_s n j y1 σ) hf
      refine lv_iload_n hx hb d_Model_know_2 rfl (lv_at hl 1 rfl) ?_
      refine lv_bipush (v := 120) hx hb d_Model_know_3 (by decide) ?_
      refine lv_icmp_ge (tgt := 36) hx hb d_Model_know_5 (by decide) (fun c1 => ?_) (fun c1 => ?_)
      · have hf := it c1 hf
        exact rt _ H locs 36 ls hf h d_Model_know_36
      · have hf := ie c1 hf
        refine lv_aload_n hx hb d_Model_know_8 rfl (lv_at hl 0 rfl) ?_
        refine lv_iload_n hx hb d_Model_know_9 rfl (lv_at hl 1 rfl) ?_
        refine lv_bipush (v := 12) hx hb d_Model_know_10 (by decide) ?_
        refine lv_irem hx hb d_Model_know_12 (by decide) ?_
        refine lv_iload_n hx hb d_Model_know_13 rfl (lv_at hl 1 rfl) ?_
        refine lv_bipush (v := 12) hx hb d_Model_know_14 (by decide) ?_
        refine lv_idiv hx hb d_Model_know_16 (by decide) ?_
        obtain ⟨r2, σ3, h4, hf⟩ := bd_s hf
        refine x_Vi (As := [.int (y1 - y1 / 12 * 12), .int (y1 / 12)]) (rest := []) X hml hl.1 hZ hA h (c_Model_isSeen l D ad cA tz n (y1 - y1 / 12 * 12) (y1 / 12) σ r2 σ3 h4) k_Model_isSeen m_m_Model_166 kd_Model_isSeen ⟨rfl, rfl, Nat.le_of_ble_eq_true rfl, Nat.le_of_ble_eq_true rfl⟩ 0 rfl rfl rfl rfl rfl (Nat.le_of_ble_eq_true rfl) d_Model_know_17 (fun H locs h => ?_)
        refine lv_if_eq (tgt := 30) hx hb d_Model_know_20 (by decide) (fun c5 => ?_) (fun c5 => ?_)
        · have hf := it c5 hf
          obtain ⟨v6, ev6⟩ : ∃ y : Int32, y = y1 + 1 := ⟨_, rfl⟩
          have hf := nm_b hf ev6
          refine lv_iinc (v := v6) (lv' := [(1, .int v6), (0, .ref (ad 0))]) hx hb d_Model_know_30 hl (k := 1) rfl (by rw [ev6]; rfl) (by decide) rfl (fun ls hl => ?_)
          refine lv_goto (tgt := 2) hx hb d_Model_know_33 (by decide) ?_
          exact ih v6 σ3 hf H locs ls h (lv_sub hl [1, 0] rfl)
        · have hf := ie c5 hf
          refine lv_aload_n hx hb d_Model_know_23 rfl (lv_at hl 0 rfl) ?_
          refine G_model_known X h m_f_Model_19 d_Model_know_24 ?_
          refine lv_iload_n hx hb d_Model_know_27 rfl (lv_at hl 1 rfl) ?_
          refine lv_iconst (v := 1) hx hb d_Model_know_28 (by decide) ?_
          obtain ⟨g7, hf⟩ := gd_s hf
          refine S_mknown X h (inb_s g7) rfl d_Model_know_29 (fun H locs σ8 eσ8 h => ?_)
          have hf := nm_b hf eσ8
          obtain ⟨v9, ev9⟩ : ∃ y : Int32, y = y1 + 1 := ⟨_, rfl⟩
          have hf := nm_b hf ev9
          refine lv_iinc (v := v9) (lv' := [(1, .int v9), (0, .ref (ad 0))]) hx hb d_Model_know_30 hl (k := 1) rfl (by rw [ev9]; rfl) (by decide) rfl (fun ls hl => ?_)
          refine lv_goto (tgt := 2) hx hb d_Model_know_33 (by decide) ?_
          exact ih v9 σ8 hf H locs ls h (lv_sub hl [1, 0] rfl)
  unfold f_Model_know at hf
  refine lv_iconst (v := 0) hx hb d_Model_know_0 (by decide) ?_
  refine lv_istore_n (lv' := [(1, .int 0), (0, .ref (ad 0))]) hx hb d_Model_know_1 rfl hl (by decide) rfl (fun ls hl => ?_)
  exact L2 n 0 σ hf H locs ls h (lv_sub hl [1, 0] rfl)

