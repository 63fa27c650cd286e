theorem d_Maker_digWay_0 : decode b_Maker_digWay 0 = .ok (.aload_n 0, 1) := by decide +kernel
theorem d_Maker_digWay_1 : decode b_Maker_digWay 1 = .ok (.iload_n 1, 1) := by decide +kernel
theorem d_Maker_digWay_2 : decode b_Maker_digWay 2 = .ok (.invokevirtual 64, 3) := by decide +kernel
theorem d_Maker_digWay_5 : decode b_Maker_digWay 5 = .ok (.istore 4, 2) := by decide +kernel
theorem d_Maker_digWay_7 : decode b_Maker_digWay 7 = .ok (.aload_n 0, 1) := by decide +kernel
theorem d_Maker_digWay_8 : decode b_Maker_digWay 8 = .ok (.iload_n 1, 1) := by decide +kernel
theorem d_Maker_digWay_9 : decode b_Maker_digWay 9 = .ok (.invokevirtual 61, 3) := by decide +kernel
theorem d_Maker_digWay_12 : decode b_Maker_digWay 12 = .ok (.istore 5, 2) := by decide +kernel
theorem d_Maker_digWay_14 : decode b_Maker_digWay 14 = .ok (.aload_n 0, 1) := by decide +kernel
theorem d_Maker_digWay_15 : decode b_Maker_digWay 15 = .ok (.iload_n 2, 1) := by decide +kernel
theorem d_Maker_digWay_16 : decode b_Maker_digWay 16 = .ok (.invokevirtual 64, 3) := by decide +kernel
theorem d_Maker_digWay_19 : decode b_Maker_digWay 19 = .ok (.istore 6, 2) := by decide +kernel
theorem d_Maker_digWay_21 : decode b_Maker_digWay 21 = .ok (.aload_n 0, 1) := by decide +kernel
theorem d_Maker_digWay_22 : decode b_Maker_digWay 22 = .ok (.iload_n 2, 1) := by decide +kernel
theorem d_Maker_digWay_23 : decode b_Maker_digWay 23 = .ok (.invokevirtual 61, 3) := by decide +kernel
theorem d_Maker_digWay_26 : decode b_Maker_digWay 26 = .ok (.istore 7, 2) := by decide +kernel
theorem d_Maker_digWay_28 : decode b_Maker_digWay 28 = .ok (.aload_n 0, 1) := by decide +kernel
theorem d_Maker_digWay_29 : decode b_Maker_digWay 29 = .ok (.getfield 12, 3) := by decide +kernel
theorem d_Maker_digWay_32 : decode b_Maker_digWay 32 = .ok (.iconst 2, 1) := by decide +kernel
theorem d_Maker_digWay_33 : decode b_Maker_digWay 33 = .ok (.invokevirtual 71, 3) := by decide +kernel
theorem d_Maker_digWay_36 : decode b_Maker_digWay 36 = .ok (.ifCond .ne 7, 3) := by decide +kernel
theorem d_Maker_digWay_39 : decode b_Maker_digWay 39 = .ok (.iconst 1, 1) := by decide +kernel
theorem d_Maker_digWay_40 : decode b_Maker_digWay 40 = .ok (.goto 4, 3) := by decide +kernel
theorem d_Maker_digWay_43 : decode b_Maker_digWay 43 = .ok (.iconst 0, 1) := by decide +kernel
theorem d_Maker_digWay_44 : decode b_Maker_digWay 44 = .ok (.istore 8, 2) := by decide +kernel
theorem d_Maker_digWay_46 : decode b_Maker_digWay 46 = .ok (.aload_n 0, 1) := by decide +kernel
theorem d_Maker_digWay_47 : decode b_Maker_digWay 47 = .ok (.iload 8, 2) := by decide +kernel
theorem d_Maker_digWay_49 : decode b_Maker_digWay 49 = .ok (.ifCond .eq 8, 3) := by decide +kernel
theorem d_Maker_digWay_52 : decode b_Maker_digWay 52 = .ok (.iload 5, 2) := by decide +kernel
theorem d_Maker_digWay_54 : decode b_Maker_digWay 54 = .ok (.goto 5, 3) := by decide +kernel
theorem d_Maker_digWay_57 : decode b_Maker_digWay 57 = .ok (.iload 7, 2) := by decide +kernel
theorem d_Maker_digWay_59 : decode b_Maker_digWay 59 = .ok (.iload 4, 2) := by decide +kernel
theorem d_Maker_digWay_61 : decode b_Maker_digWay 61 = .ok (.iload 6, 2) := by decide +kernel
theorem d_Maker_digWay_63 : decode b_Maker_digWay 63 = .ok (.aload_n 3, 1) := by decide +kernel
theorem d_Maker_digWay_64 : decode b_Maker_digWay 64 = .ok (.invokevirtual 80, 3) := by decide +kernel
theorem d_Maker_digWay_67 : decode b_Maker_digWay 67 = .ok (.aload_n 0, 1) := by decide +kernel
theorem d_Maker_digWay_68 : decode b_Maker_digWay 68 = .ok (.iload 8, 2) := by decide +kernel
theorem d_Maker_digWay_70 : decode b_Maker_digWay 70 = .ok (.ifCond .eq 8, 3) := by decide +kernel
theorem d_Maker_digWay_73 : decode b_Maker_digWay 73 = .ok (.iload 6, 2) := by decide +kernel
theorem d_Maker_digWay_75 : decode b_Maker_digWay 75 = .ok (.goto 5, 3) := by decide +kernel
theorem d_Maker_digWay_78 : decode b_Maker_digWay 78 = .ok (.iload 4, 2) := by decide +kernel
theorem d_Maker_digWay_80 : decode b_Maker_digWay 80 = .ok (.iload 5, 2) := by decide +kernel
theorem d_Maker_digWay_82 : decode b_Maker_digWay 82 = .ok (.iload 7, 2) := by decide +kernel
theorem d_Maker_digWay_84 : decode b_Maker_digWay 84 = .ok (.aload_n 3, 1) := by decide +kernel
theorem d_Maker_digWay_85 : decode b_Maker_digWay 85 = .ok (.invokevirtual 84, 3) := by decide +kernel
theorem d_Maker_digWay_88 : decode b_Maker_digWay 88 = .ok (.return_, 1) := by decide +kernel
def f_Maker_digWay_80 (n : Nat) (y5 : Int32) (y7 : Int32) (s0 : Int32) (σ : St) : Option (Unit × St) := bd (f_Maker_digColumn n s0 y5 y7 σ) (fun _ σ23 => some ((), σ23))
def f_Maker_digWay_59 (n : Nat) (y4 : Int32) (y5 : Int32) (y6 : Int32) (y7 : Int32) (y8 : Int32) (s0 : Int32) (σ : St) : Option (Unit × St) := bd (f_Maker_digRow n s0 y4 y6 σ) (fun _ σ19 => if y8 = 0 then (f_Maker_digWay_80 n y5 y7 y4 σ19) else (f_Maker_digWay_80 n y5 y7 y6 σ19))
def f_Maker_digWay_44 (n : Nat) (y4 : Int32) (y5 : Int32) (y6 : Int32) (y7 : Int32) (s0 : Int32) (σ : St) : Option (Unit × St) := if s0 = 0 then (f_Maker_digWay_59 n y4 y5 y6 y7 s0 y7 σ) else (f_Maker_digWay_59 n y4 y5 y6 y7 s0 y5 σ)
def f_Maker_digWay (n : Nat) (x1 : Int32) (x2 : Int32) (σ : St) : Option (Unit × St) := bd (f_Maker_centreColumn n x1 σ) (fun r1 σ2 => bd (f_Maker_centreRow n x1 σ2) (fun r4 σ5 => bd (f_Maker_centreColumn n x2 σ5) (fun r7 σ8 => bd (f_Maker_centreRow n x2 σ8) (fun r10 σ11 => bd (f_Draws_draw_making n 2 σ11) (fun r13 σ14 => if r13 = 0 then (f_Maker_digWay_44 n r1 r4 r7 r10 1 σ14) else (f_Maker_digWay_44 n r1 r4 r7 r10 0 σ14))))))
set_option maxHeartbeats 4000000 in
set_option maxRecDepth 100000 in
theorem c_Maker_digWay (l : Launch) (D : va_G) (ad : Nat → Nat) (cA : Nat → ClassId) (tz : Nat → Nat) (n : Nat) (x1 : Int32) (x2 : Int32) (σ : St) (r : Unit) (σr : St) (hf : f_Maker_digWay n x1 x2 σ = some (r, σr)) : Kv l D cA tz (wl ad cA) y_Maker_digWay (.code y_Maker_digWay b_Maker_digWay 9 none :: TB) ({ frames := 2, cells := 0, slots := 0, locals := 48 }) [.ref (ad 3), .int x1, .int x2, .ref (ad 5)] σ σr := by
  refine x_openv (r := r) (own := R_Maker) rfl (by decide) (fun p e s m args below meth c A Q X hml hZ hA H locs ls h hl rt => ?_)
  have hx := X.1
  have hb := X.2.1
  have hl : lv_has ls 9 [(0, .ref (ad 3)), (1, .int x1), (2, .int x2), (3, .ref (ad 5))] := hl
  have L80 : ∀ (y5 : Int32) (y7 : Int32) (s0 : Int32) (σ : St), f_Maker_digWay_80 n y5 y7 s0 σ = some (r, σr) → ∀ (H : Heap) (locs : List Loc) (ls : Array Slot), WD D A s (wl ad cA σ) H locs → lv_has ls 9 [(3, .ref (ad 5)), (5, .int y5), (7, .int y7)] → W p l e ({ frames := 2, cells := 0, slots := 0, locals := 48 }) s m args below meth c H locs 0 0 Q (F0 m 80 ls [.int s0, .ref (ad 3)]) := by
    intro y5 y7 s0 σ hf H locs ls h hl
    unfold f_Maker_digWay_80 at hf
    refine lv_iload hx hb d_Maker_digWay_80 (lv_at hl 1 rfl) ?_
    refine lv_iload hx hb d_Maker_digWay_82 (lv_at hl 2 rfl) ?_
    refine lv_aload_n hx hb d_Maker_digWay_84 rfl (lv_at hl 0 rfl) ?_
    obtain ⟨r22, σ23, h24, hf⟩ := bd_s hf
    refine x_Vv (As := [.int s0, .int y5, .int y7, .ref (ad 5)]) (rest := []) X hml hl.1 hZ hA h (c_Maker_digColumn l D ad cA tz n s0 y5 y7 σ r22 σ23 h24) k_Maker_digColumn m_m_Maker_84 kd_Maker_digColumn ⟨rfl, rfl, Nat.le_of_ble_eq_true rfl, Nat.le_of_ble_eq_true rfl⟩ 3 rfl rfl rfl rfl rfl (Nat.le_of_ble_eq_true rfl) d_Maker_digWay_85 (fun H locs h => ?_)
    exact rt _ H locs 88 ls hf h d_Maker_digWay_88
  have L59 : ∀ (y4 : Int32) (y5 : Int32) (y6 : Int32) (y7 : Int32) (y8 : Int32) (s0 : Int32) (σ : St), f_Maker_digWay_59 n y4 y5 y6 y7 y8 s0 σ = some (r, σr) → ∀ (H : Heap) (locs : List Loc) (ls : Array Slot), WD D A s (wl ad cA σ) H locs → lv_has ls 9 [(0, .ref (ad 3)), (3, .ref (ad 5)), (4, .int y4), (5, .int y5), (6, .int y6), (7, .int y7), (8, .int y8)] → W p l e ({ frames := 2, cells := 0, slots := 0, locals := 48 }) s m args below meth c H locs 0 0 Q (F0 m 59 ls [.int s0, .ref (ad 3)]) := by
    intro y4 y5 y6 y7 y8 s0 σ hf H locs ls h hl
    unfold f_Maker_digWay_59 at hf
    refine lv_iload hx hb d_Maker_digWay_59 (lv_at hl 2 rfl) ?_
    refine lv_iload hx hb d_Maker_digWay_61 (lv_at hl 4 rfl) ?_
    refine lv_aload_n hx hb d_Maker_digWay_63 rfl (lv_at hl 1 rfl) ?_
    obtain ⟨r18, σ19, h20, hf⟩ := bd_s hf
    refine x_Vv (As := [.int s0, .int y4, .int y6, .ref (ad 5)]) (rest := []) X hml hl.1 hZ hA h (c_Maker_digRow l D ad cA tz n s0 y4 y6 σ r18 σ19 h20) k_Maker_digRow m_m_Maker_80 kd_Maker_digRow ⟨rfl, rfl, Nat.le_of_ble_eq_true rfl, Nat.le_of_ble_eq_true rfl⟩ 3 rfl rfl rfl rfl rfl (Nat.le_of_ble_eq_true rfl) d_Maker_digWay_64 (fun H locs h => ?_)
    refine lv_aload_n hx hb d_Maker_digWay_67 rfl (lv_at hl 0 rfl) ?_
    refine lv_iload hx hb d_Maker_digWay_68 (lv_at hl 6 rfl) ?_
    refine lv_if_eq (tgt := 78) hx hb d_Maker_digWay_70 (by decide) (fun c21 => ?_) (fun c21 => ?_)
    · have hf := it c21 hf
      refine lv_iload hx hb d_Maker_digWay_78 (lv_at hl 2 rfl) ?_
      exact L80 y5 y7 y4 σ19 hf H locs ls h (lv_sub hl [1, 3, 5] rfl)
    · have hf := ie c21 hf
      refine lv_iload hx hb d_Maker_digWay_73 (lv_at hl 4 rfl) ?_
      refine lv_goto (tgt := 80) hx hb d_Maker_digWay_75 (by decide) ?_
      exact L80 y5 y7 y6 σ19 hf H locs ls h (lv_sub hl [1, 3, 5] rfl)
  have L44 : ∀ (y4 : Int32) (y5 : Int32) (y6 : Int32) (y7 : Int32) (s0 : Int32) (σ : St), f_Maker_digWay_44 n y4 y5 y6 y7 s0 σ = some (r, σr) → ∀ (H : Heap) (locs : List Loc) (ls : Array Slot), WD D A s (wl ad cA σ) H locs → lv_has ls 9 [(0, .ref (ad 3)), (3, .ref (ad 5)), (4, .int y4), (5, .int y5), (6, .int y6), (7, .int y7)] → W p l e ({ frames := 2, cells := 0, slots := 0, locals := 48 }) s m args below meth c H locs 0 0 Q (F0 m 44 ls [.int s0]) := by
    intro y4 y5 y6 y7 s0 σ hf H locs ls h hl
    unfold f_Maker_digWay_44 at hf
    refine lv_istore (lv' := [(8, .int s0), (0, .ref (ad 3)), (3, .ref (ad 5)), (4, .int y4), (5, .int y5), (6, .int y6), (7, .int y7)]) hx hb d_Maker_digWay_44 hl (by decide) rfl (fun ls hl => ?_)
    refine lv_aload_n hx hb d_Maker_digWay_46 rfl (lv_at hl 1 rfl) ?_
    refine lv_iload hx hb d_Maker_digWay_47 (lv_at hl 0 rfl) ?_
    refine lv_if_eq (tgt := 57) hx hb d_Maker_digWay_49 (by decide) (fun c17 => ?_) (fun c17 => ?_)
    · have hf := it c17 hf
      refine lv_iload hx hb d_Maker_digWay_57 (lv_at hl 6 rfl) ?_
      exact L59 y4 y5 y6 y7 s0 y7 σ hf H locs ls h (lv_sub hl [1, 2, 3, 4, 5, 6, 0] rfl)
    · have hf := ie c17 hf
      refine lv_iload hx hb d_Maker_digWay_52 (lv_at hl 4 rfl) ?_
      refine lv_goto (tgt := 59) hx hb d_Maker_digWay_54 (by decide) ?_
      exact L59 y4 y5 y6 y7 s0 y5 σ hf H locs ls h (lv_sub hl [1, 2, 3, 4, 5, 6, 0] rfl)
  unfold f_Maker_digWay at hf
  refine lv_aload_n hx hb d_Maker_digWay_0 rfl (lv_at hl 0 rfl) ?_
  refine lv_iload_n hx hb d_Maker_digWay_1 rfl (lv_at hl 1 rfl) ?_
  obtain ⟨r1, σ2, h3, hf⟩ := bd_s hf
  refine x_Vi (As := [.int x1]) (rest := []) X hml hl.1 hZ hA h (c_Maker_centreColumn l D ad cA tz n x1 σ r1 σ2 h3) k_Maker_centreColumn m_m_Maker_64 kd_Maker_centreColumn ⟨rfl, rfl, Nat.le_of_ble_eq_true rfl, Nat.le_of_ble_eq_true rfl⟩ 3 rfl rfl rfl rfl rfl (Nat.le_of_ble_eq_true rfl) d_Maker_digWay_2 (fun H locs h => ?_)
  refine lv_istore (lv' := [(4, .int r1), (0, .ref (ad 3)), (1, .int x1), (2, .int x2), (3, .ref (ad 5))]) hx hb d_Maker_digWay_5 hl (by decide) rfl (fun ls hl => ?_)
  refine lv_aload_n hx hb d_Maker_digWay_7 rfl (lv_at hl 1 rfl) ?_
  refine lv_iload_n hx hb d_Maker_digWay_8 rfl (lv_at hl 2 rfl) ?_
  obtain ⟨r4, σ5, h6, hf⟩ := bd_s hf
  refine x_Vi (As := [.int x1]) (rest := []) X hml hl.1 hZ hA h (c_Maker_centreRow l D ad cA tz n x1 σ2 r4 σ5 h6) k_Maker_centreRow m_m_Maker_61 kd_Maker_centreRow ⟨rfl, rfl, Nat.le_of_ble_eq_true rfl, Nat.le_of_ble_eq_true rfl⟩ 3 rfl rfl rfl rfl rfl (Nat.le_of_ble_eq_true rfl) d_Maker_digWay_9 (fun H locs h => ?_)
  refine lv_istore (lv' := [(5, .int r4), (4, .int r1), (0, .ref (ad 3)), (1, .int x1), (2, .int x2), (3, .ref (ad 5))]) hx hb d_Maker_digWay_12 hl (by decide) rfl (fun ls hl => ?_)
  refine lv_aload_n hx hb d_Maker_digWay_14 rfl (lv_at hl 2 rfl) ?_
  refine lv_iload_n hx hb d_Maker_digWay_15 rfl (lv_at hl 4 rfl) ?_
  obtain ⟨r7, σ8, h9, hf⟩ := bd_s hf
  refine x_Vi (As := [.int x2]) (rest := []) X hml hl.1 hZ hA h (c_Maker_centreColumn l D ad cA tz n x2 σ5 r7 σ8 h9) k_Maker_centreColumn m_m_Maker_64 kd_Maker_centreColumn ⟨rfl, rfl, Nat.le_of_ble_eq_true rfl, Nat.le_of_ble_eq_true rfl⟩ 3 rfl rfl rfl rfl rfl (Nat.le_of_ble_eq_true rfl) d_Maker_digWay_16 (fun H locs h => ?_)
  refine lv_istore (lv' := [(6, .int r7), (5, .int r4), (4, .int r1), (0, .ref (ad 3)), (1, .int x1), (2, .int x2), (3, .ref (ad 5))]) hx hb d_Maker_digWay_19 hl (by decide) rfl (fun ls hl => ?_)
  refine lv_aload_n hx hb d_Maker_digWay_21 rfl (lv_at hl 3 rfl) ?_
  refine lv_iload_n hx hb d_Maker_digWay_22 rfl (lv_at hl 5 rfl) ?_
  obtain ⟨r10, σ11, h12, hf⟩ := bd_s hf
  refine x_Vi (As := [.int x2]) (rest := []) X hml hl.1 hZ hA h (c_Maker_centreRow l D ad cA tz n x2 σ8 r10 σ11 h12) k_Maker_centreRow m_m_Maker_61 kd_Maker_centreRow ⟨rfl, rfl, Nat.le_of_ble_eq_true rfl, Nat.le_of_ble_eq_true rfl⟩ 3 rfl rfl rfl rfl rfl (Nat.le_of_ble_eq_true rfl) d_Maker_digWay_23 (fun H locs h => ?_)
  refine lv_istore (lv' := [(7, .int r10), (6, .int r7), (5, .int r4), (4, .int r1), (0, .ref (ad 3)), (1, .int x1), (2, .int x2), (3, .ref (ad 5))]) hx hb d_Maker_digWay_26 hl (by decide) rfl (fun ls hl => ?_)
  refine lv_aload_n hx hb d_Maker_digWay_28 rfl (lv_at hl 4 rfl) ?_
  refine G_maker_making X h m_f_Maker_12 d_Maker_digWay_29 ?_
  refine lv_iconst (v := 2) hx hb d_Maker_digWay_32 (by decide) ?_
  obtain ⟨r13, σ14, h15, hf⟩ := bd_s hf
  refine x_Vi (As := [.int 2]) (rest := []) X hml hl.1 hZ hA h (c_Draws_draw_making l D ad cA tz n 2 σ11 r13 σ14 h15) k_Draws_draw m_m_Maker_71 kd_Draws_draw ⟨rfl, rfl, Nat.le_of_ble_eq_true rfl, Nat.le_of_ble_eq_true rfl⟩ 4 rfl rfl rfl rfl rfl (Nat.le_of_ble_eq_true rfl) d_Maker_digWay_33 (fun H locs h => ?_)
  refine lv_if_ne (tgt := 43) hx hb d_Maker_digWay_36 (by decide) (fun c16 => ?_) (fun c16 => ?_)
  · have hf := ie c16 hf
    refine lv_iconst (v := 0) hx hb d_Maker_digWay_43 (by decide) ?_
    exact L44 r1 r4 r7 r10 0 σ14 hf H locs ls h (lv_sub hl [4, 7, 3, 2, 1, 0] rfl)
  · have hf := it c16 hf
    refine lv_iconst (v := 1) hx hb d_Maker_digWay_39 (by decide) ?_
    refine lv_goto (tgt := 44) hx hb d_Maker_digWay_40 (by decide) ?_
    exact L44 r1 r4 r7 r10 1 σ14 hf H locs ls h (lv_sub hl [4, 7, 3, 2, 1, 0] rfl)
theorem d_Maker_drawPlace_0 : decode b_Maker_drawPlace 0 = .ok (.iload_n 1, 1) := by decide +kernel
theorem d_Maker_drawPlace_1 : decode b_Maker_drawPlace 1 = .ok (.ifCond .lt 8, 3) := by decide +kernel
theorem d_Maker_drawPlace_4 : decode b_Maker_drawPlace 4 = .ok (.iload_n 1, 1) := by decide +kernel
theorem d_Maker_drawPlace_5 : decode b_Maker_drawPlace 5 = .ok (.iconst 4, 1) := by decide +kernel
theorem d_Maker_drawPlace_6 : decode b_Maker_drawPlace 6 = .ok (.if_icmp .lt 6, 3) := by decide +kernel
theorem d_Maker_drawPlace_9 : decode b_Maker_drawPlace 9 = .ok (.bipush (-2), 2) := by decide +kernel
theorem d_Maker_drawPlace_11 : decode b_Maker_drawPlace 11 = .ok (.ireturn, 1) := by decide +kernel
theorem d_Maker_drawPlace_12 : decode b_Maker_drawPlace 12 = .ok (.aload_n 0, 1) := by decide +kernel
theorem d_Maker_drawPlace_13 : decode b_Maker_drawPlace 13 = .ok (.getfield 18, 3) := by decide +kernel
theorem d_Maker_drawPlace_16 : decode b_Maker_drawPlace 16 = .ok (.iload_n 1, 1) := by decide +kernel
theorem d_Maker_drawPlace_17 : decode b_Maker_drawPlace 17 = .ok (.iaload, 1) := by decide +kernel
theorem d_Maker_drawPlace_18 : decode b_Maker_drawPlace 18 = .ok (.aload_n 0, 1) := by decide +kernel
theorem d_Maker_drawPlace_19 : decode b_Maker_drawPlace 19 = .ok (.getfield 12, 3) := by decide +kernel
theorem d_Maker_drawPlace_22 : decode b_Maker_drawPlace 22 = .ok (.aload_n 0, 1) := by decide +kernel
theorem d_Maker_drawPlace_23 : decode b_Maker_drawPlace 23 = .ok (.getfield 25, 3) := by decide +kernel
theorem d_Maker_drawPlace_26 : decode b_Maker_drawPlace 26 = .ok (.iload_n 1, 1) := by decide +kernel
theorem d_Maker_drawPlace_27 : decode b_Maker_drawPlace 27 = .ok (.iaload, 1) := by decide +kernel
theorem d_Maker_drawPlace_28 : decode b_Maker_drawPlace 28 = .ok (.invokevirtual 71, 3) := by decide +kernel
theorem d_Maker_drawPlace_31 : decode b_Maker_drawPlace 31 = .ok (.iadd, 1) := by decide +kernel
theorem d_Maker_drawPlace_32 : decode b_Maker_drawPlace 32 = .ok (.istore_n 2, 1) := by decide +kernel
theorem d_Maker_drawPlace_33 : decode b_Maker_drawPlace 33 = .ok (.aload_n 0, 1) := by decide +kernel
theorem d_Maker_drawPlace_34 : decode b_Maker_drawPlace 34 = .ok (.getfield 22, 3) := by decide +kernel
theorem d_Maker_drawPlace_37 : decode b_Maker_drawPlace 37 = .ok (.iload_n 1, 1) := by decide +kernel
theorem d_Maker_drawPlace_38 : decode b_Maker_drawPlace 38 = .ok (.iaload, 1) := by decide +kernel
theorem d_Maker_drawPlace_39 : decode b_Maker_drawPlace 39 = .ok (.aload_n 0, 1) := by decide +kernel
theorem d_Maker_drawPlace_40 : decode b_Maker_drawPlace 40 = .ok (.getfield 12, 3) := by decide +kernel
theorem d_Maker_drawPlace_43 : decode b_Maker_drawPlace 43 = .ok (.aload_n 0, 1) := by decide +kernel
theorem d_Maker_drawPlace_44 : decode b_Maker_drawPlace 44 = .ok (.getfield 28, 3) := by decide +kernel
theorem d_Maker_drawPlace_47 : decode b_Maker_drawPlace 47 = .ok (.iload_n 1, 1) := by decide +kernel
theorem d_Maker_drawPlace_48 : decode b_Maker_drawPlace 48 = .ok (.iaload, 1) := by decide +kernel
theorem d_Maker_drawPlace_49 : decode b_Maker_drawPlace 49 = .ok (.invokevirtual 71, 3) := by decide +kernel
theorem d_Maker_drawPlace_52 : decode b_Maker_drawPlace 52 = .ok (.iadd, 1) := by decide +kernel
theorem d_Maker_drawPlace_53 : decode b_Maker_drawPlace 53 = .ok (.istore_n 3, 1) := by decide +kernel
theorem d_Maker_drawPlace_54 : decode b_Maker_drawPlace 54 = .ok (.iload_n 3, 1) := by decide +kernel
theorem d_Maker_drawPlace_55 : decode b_Maker_drawPlace 55 = .ok (.bipush 12, 2) := by decide +kernel
theorem d_Maker_drawPlace_57 : decode b_Maker_drawPlace 57 = .ok (.imul, 1) := by decide +kernel
theorem d_Maker_drawPlace_58 : decode b_Maker_drawPlace 58 = .ok (.iload_n 2, 1) := by decide +kernel
theorem d_Maker_drawPlace_59 : decode b_Maker_drawPlace 59 = .ok (.iadd, 1) := by decide +kernel
theorem d_Maker_drawPlace_60 : decode b_Maker_drawPlace 60 = .ok (.ireturn, 1) := by decide +kernel
def f_Maker_drawPlace (n : Nat) (x1 : Int32) (σ : St) : Option (Int32 × St) := if x1 < 0 then (some ((-2), σ)) else (if x1 < 4 then (gd (inb x1 4) (gd (inb x1 4) (bd (f_Draws_draw_making n (σ.2.2 11 x1.toNatClampNeg) σ) (fun r5 σ6 => bnd ((σ.2.2 9 x1.toNatClampNeg) + r5) (fun v8 => gd (inb x1 4) (gd (inb x1 4) (bd (f_Draws_draw_making n (σ6.2.2 12 x1.toNatClampNeg) σ6) (fun r11 σ12 => bnd ((σ6.2.2 10 x1.toNatClampNeg) + r11) (fun v14 => some ((v14 * 12) + v8, σ12)))))))))) else (some ((-2), σ)))
set_option maxHeartbeats 4000000 in
set_option maxRecDepth 100000 in
theorem c_Maker_drawPlace (l : Launch) (D : va_G) (ad : Nat → Nat) (cA : Nat → ClassId) (tz : Nat → Nat) (n : Nat) (x1 : Int32) (σ : St) (r : Int32) (σr : St) (hf : f_Maker_drawPlace n x1 σ = some (r, σr)) : Ki l D cA tz (wl ad cA) y_Maker_drawPlace (.code y_Maker_drawPlace b_Maker_drawPlace 4 (some .int) :: TB) ({ frames := 1, cells := 0, slots := 0, locals := 21 }) [.ref (ad 3), .int x1] σ r σr := by
  refine x_openi (own := R_Maker) rfl (by decide) (fun p e s m args below meth c A Q X hml hZ hA H locs ls h hl rt => ?_)
  have hx := X.1
  have hb := X.2.1
  have hl : lv_has ls 4 [(0, .ref (ad 3)), (1, .int x1)] := hl
  unfold f_Maker_drawPlace at hf
  refine lv_iload_n hx hb d_Maker_drawPlace_0 rfl (lv_at hl 1 rfl) ?_
  refine lv_if_lt (tgt := 9) hx hb d_Maker_drawPlace_1 (by decide) (fun c1 => ?_) (fun c1 => ?_)
  · have hf := it c1 hf
    refine lv_bipush (v := (-2)) hx hb d_Maker_drawPlace_9 (by decide) ?_
    exact rt _ _ H locs 11 ls hf h d_Maker_drawPlace_11
  · have hf := ie c1 hf
    refine lv_iload_n hx hb d_Maker_drawPlace_4 rfl (lv_at hl 1 rfl) ?_
    refine lv_iconst (v := 4) hx hb d_Maker_drawPlace_5 (by decide) ?_
    refine lv_icmp_lt (tgt := 12) hx hb d_Maker_drawPlace_6 (by decide) (fun c2 => ?_) (fun c2 => ?_)
    · have hf := it c2 hf
      refine lv_aload_n hx hb d_Maker_drawPlace_12 rfl (lv_at hl 0 rfl) ?_
      refine G_maker_left X h m_f_Maker_18 d_Maker_drawPlace_13 ?_
      refine lv_iload_n hx hb d_Maker_drawPlace_16 rfl (lv_at hl 1 rfl) ?_
      obtain ⟨g3, hf⟩ := gd_s hf
      refine R_left X h (inb_s g3) d_Maker_drawPlace_17 ?_
      refine lv_aload_n hx hb d_Maker_drawPlace_18 rfl (lv_at hl 0 rfl) ?_
      refine G_maker_making X h m_f_Maker_12 d_Maker_drawPlace_19 ?_
      refine lv_aload_n hx hb d_Maker_drawPlace_22 rfl (lv_at hl 0 rfl) ?_
      refine G_maker_width X h m_f_Maker_25 d_Maker_drawPlace_23 ?_
      refine lv_iload_n hx hb d_Maker_drawPlace_26 rfl (lv_at hl 1 rfl) ?_
      obtain ⟨g4, hf⟩ := gd_s hf
      refine R_width X h (inb_s g4) d_Maker_drawPlace_27 ?_
      obtain ⟨r5, σ6, h7, hf⟩ := bd_s hf
      refine x_Vi (As := [.int (σ.2.2 11 x1.toNatClampNeg)]) (rest := [.int (σ.2.2 9 x1.toNatClampNeg)]) X hml hl.1 hZ hA h (c_Draws_draw_making l D ad cA tz n (σ.2.2 11 x1.toNatClampNeg) σ r5 σ6 h7) k_Draws_draw m_m_Maker_71 kd_Draws_draw ⟨rfl, rfl, Nat.le_of_ble_eq_true rfl, Nat.le_of_ble_eq_true rfl⟩ 4 rfl rfl rfl rfl rfl (Nat.le_of_ble_eq_true rfl) d_Maker_drawPlace_28 (fun H locs h => ?_)
      refine lv_iadd hx hb d_Maker_drawPlace_31 ?_
      refine lv_topi (fun v8 ev8 => ?_)
      have hf := nm_b hf ev8
      refine lv_istore_n (lv' := [(2, .int v8), (0, .ref (ad 3)), (1, .int x1)]) hx hb d_Maker_drawPlace_32 rfl hl (by decide) rfl (fun ls hl => ?_)
      refine lv_aload_n hx hb d_Maker_drawPlace_33 rfl (lv_at hl 1 rfl) ?_
      refine G_maker_top X h m_f_Maker_22 d_Maker_drawPlace_34 ?_
      refine lv_iload_n hx hb d_Maker_drawPlace_37 rfl (lv_at hl 2 rfl) ?_
      obtain ⟨g9, hf⟩ := gd_s hf
      refine R_top X h (inb_s g9) d_Maker_drawPlace_38 ?_
      refine lv_aload_n hx hb d_Maker_drawPlace_39 rfl (lv_at hl 1 rfl) ?_
      refine G_maker_making X h m_f_Maker_12 d_Maker_drawPlace_40 ?_
      refine lv_aload_n hx hb d_Maker_drawPlace_43 rfl (lv_at hl 1 rfl) ?_
      refine G_maker_height X h m_f_Maker_28 d_Maker_drawPlace_44 ?_
      refine lv_iload_n hx hb d_Maker_drawPlace_47 rfl (lv_at hl 2 rfl) ?_
      obtain ⟨g10, hf⟩ := gd_s hf
      refine R_height X h (inb_s g10) d_Maker_drawPlace_48 ?_
      obtain ⟨r11, σ12, h13, hf⟩ := bd_s hf
      refine x_Vi (As := [.int (σ6.2.2 12 x1.toNatClampNeg)]) (rest := [.int (σ6.2.2 10 x1.toNatClampNeg)]) X hml hl.1 hZ hA h (c_Draws_draw_making l D ad cA tz n (σ6.2.2 12 x1.toNatClampNeg) σ6 r11 σ12 h13) k_Draws_draw m_m_Maker_71 kd_Draws_draw ⟨rfl, rfl, Nat.le_of_ble_eq_true rfl, Nat.le_of_ble_eq_true rfl⟩ 4 rfl rfl rfl rfl rfl (Nat.le_of_ble_eq_true rfl) d_Maker_drawPlace_49 (fun H locs h => ?_)
      refine lv_iadd hx hb d_Maker_drawPlace_52 ?_
      refine lv_topi (fun v14 ev14 => ?_)
      have hf := nm_b hf ev14
      refine lv_istore_n (lv' := [(3, .int v14), (2, .int v8), (0, .ref (ad 3)), (1, .int x1)]) hx hb d_Maker_drawPlace_53 rfl hl (by decide) rfl (fun ls hl => ?_)
      refine lv_iload_n hx hb d_Maker_drawPlace_54 rfl (lv_at hl 0 rfl) ?_
      refine lv_bipush (v := 12) hx hb d_Maker_drawPlace_55 (by decide) ?_
      refine lv_imul hx hb d_Maker_drawPlace_57 ?_
      refine lv_iload_n hx hb d_Maker_drawPlace_58 rfl (lv_at hl 1 rfl) ?_
      refine lv_iadd hx hb d_Maker_drawPlace_59 ?_
      exact rt _ _ H locs 60 ls hf h d_Maker_drawPlace_60
    · have hf := ie c2 hf
      refine lv_bipush (v := (-2)) hx hb d_Maker_drawPlace_9 (by decide) ?_
      exact rt _ _ H locs 11 ls hf h d_Maker_drawPlace_11
theorem d_Maker_digRoom_0 : decode b_Maker_digRoom 0 = .ok (.aload_n 0, 1) := by decide +kernel
theorem d_Maker_digRoom_1 : decode b_Maker_digRoom 1 = .ok (.getfield 25, 3) := by decide +kernel
theorem d_Maker_digRoom_4 : decode b_Maker_digRoom 4 = .ok (.iload_n 1, 1) := by decide +kernel
theorem d_Maker_digRoom_5 : decode b_Maker_digRoom 5 = .ok (.iconst 2, 1) := by decide +kernel
theorem d_Maker_digRoom_6 : decode b_Maker_digRoom 6 = .ok (.aload_n 0, 1) := by decide +kernel
theorem d_Maker_digRoom_7 : decode b_Maker_digRoom 7 = .ok (.getfield 12, 3) := by decide +kernel
theorem d_Maker_digRoom_10 : decode b_Maker_digRoom 10 = .ok (.iconst 3, 1) := by decide +kernel
theorem d_Maker_digRoom_11 : decode b_Maker_digRoom 11 = .ok (.invokevirtual 71, 3) := by decide +kernel
theorem d_Maker_digRoom_14 : decode b_Maker_digRoom 14 = .ok (.iadd, 1) := by decide +kernel
theorem d_Maker_digRoom_15 : decode b_Maker_digRoom 15 = .ok (.iastore, 1) := by decide +kernel
theorem d_Maker_digRoom_16 : decode b_Maker_digRoom 16 = .ok (.aload_n 0, 1) := by decide +kernel
theorem d_Maker_digRoom_17 : decode b_Maker_digRoom 17 = .ok (.getfield 28, 3) := by decide +kernel
theorem d_Maker_digRoom_20 : decode b_Maker_digRoom 20 = .ok (.iload_n 1, 1) := by decide +kernel
theorem d_Maker_digRoom_21 : decode b_Maker_digRoom 21 = .ok (.iconst 2, 1) := by decide +kernel
theorem d_Maker_digRoom_22 : decode b_Maker_digRoom 22 = .ok (.aload_n 0, 1) := by decide +kernel
theorem d_Maker_digRoom_23 : decode b_Maker_digRoom 23 = .ok (.getfield 12, 3) := by decide +kernel
theorem d_Maker_digRoom_26 : decode b_Maker_digRoom 26 = .ok (.iconst 2, 1) := by decide +kernel
theorem d_Maker_digRoom_27 : decode b_Maker_digRoom 27 = .ok (.invokevirtual 71, 3) := by decide +kernel
theorem d_Maker_digRoom_30 : decode b_Maker_digRoom 30 = .ok (.iadd, 1) := by decide +kernel
theorem d_Maker_digRoom_31 : decode b_Maker_digRoom 31 = .ok (.iastore, 1) := by decide +kernel
theorem d_Maker_digRoom_32 : decode b_Maker_digRoom 32 = .ok (.aload_n 0, 1) := by decide +kernel
theorem d_Maker_digRoom_33 : decode b_Maker_digRoom 33 = .ok (.getfield 18, 3) := by decide +kernel
theorem d_Maker_digRoom_36 : decode b_Maker_digRoom 36 = .ok (.iload_n 1, 1) := by decide +kernel
theorem d_Maker_digRoom_37 : decode b_Maker_digRoom 37 = .ok (.bipush 6, 2) := by decide +kernel
theorem d_Maker_digRoom_39 : decode b_Maker_digRoom 39 = .ok (.iload_n 1, 1) := by decide +kernel
theorem d_Maker_digRoom_40 : decode b_Maker_digRoom 40 = .ok (.iconst 2, 1) := by decide +kernel
theorem d_Maker_digRoom_41 : decode b_Maker_digRoom 41 = .ok (.irem, 1) := by decide +kernel
theorem d_Maker_digRoom_42 : decode b_Maker_digRoom 42 = .ok (.imul, 1) := by decide +kernel
theorem d_Maker_digRoom_43 : decode b_Maker_digRoom 43 = .ok (.iconst 1, 1) := by decide +kernel
theorem d_Maker_digRoom_44 : decode b_Maker_digRoom 44 = .ok (.iadd, 1) := by decide +kernel
theorem d_Maker_digRoom_45 : decode b_Maker_digRoom 45 = .ok (.aload_n 0, 1) := by decide +kernel
theorem d_Maker_digRoom_46 : decode b_Maker_digRoom 46 = .ok (.getfield 12, 3) := by decide +kernel
theorem d_Maker_digRoom_49 : decode b_Maker_digRoom 49 = .ok (.iconst 5, 1) := by decide +kernel
theorem d_Maker_digRoom_50 : decode b_Maker_digRoom 50 = .ok (.aload_n 0, 1) := by decide +kernel
theorem d_Maker_digRoom_51 : decode b_Maker_digRoom 51 = .ok (.getfield 25, 3) := by decide +kernel
theorem d_Maker_digRoom_54 : decode b_Maker_digRoom 54 = .ok (.iload_n 1, 1) := by decide +kernel
theorem d_Maker_digRoom_55 : decode b_Maker_digRoom 55 = .ok (.iaload, 1) := by decide +kernel
theorem d_Maker_digRoom_56 : decode b_Maker_digRoom 56 = .ok (.isub, 1) := by decide +kernel
theorem d_Maker_digRoom_57 : decode b_Maker_digRoom 57 = .ok (.invokevirtual 71, 3) := by decide +kernel
theorem d_Maker_digRoom_60 : decode b_Maker_digRoom 60 = .ok (.iadd, 1) := by decide +kernel
theorem d_Maker_digRoom_61 : decode b_Maker_digRoom 61 = .ok (.iastore, 1) := by decide +kernel
theorem d_Maker_digRoom_62 : decode b_Maker_digRoom 62 = .ok (.aload_n 0, 1) := by decide +kernel
theorem d_Maker_digRoom_63 : decode b_Maker_digRoom 63 = .ok (.getfield 22, 3) := by decide +kernel
theorem d_Maker_digRoom_66 : decode b_Maker_digRoom 66 = .ok (.iload_n 1, 1) := by decide +kernel
theorem d_Maker_digRoom_67 : decode b_Maker_digRoom 67 = .ok (.iconst 5, 1) := by decide +kernel
theorem d_Maker_digRoom_68 : decode b_Maker_digRoom 68 = .ok (.iload_n 1, 1) := by decide +kernel
theorem d_Maker_digRoom_69 : decode b_Maker_digRoom 69 = .ok (.iconst 2, 1) := by decide +kernel
theorem d_Maker_digRoom_70 : decode b_Maker_digRoom 70 = .ok (.idiv, 1) := by decide +kernel
theorem d_Maker_digRoom_71 : decode b_Maker_digRoom 71 = .ok (.imul, 1) := by decide +kernel
theorem d_Maker_digRoom_72 : decode b_Maker_digRoom 72 = .ok (.iconst 1, 1) := by decide +kernel
theorem d_Maker_digRoom_73 : decode b_Maker_digRoom 73 = .ok (.iadd, 1) := by decide +kernel
theorem d_Maker_digRoom_74 : decode b_Maker_digRoom 74 = .ok (.aload_n 0, 1) := by decide +kernel
theorem d_Maker_digRoom_75 : decode b_Maker_digRoom 75 = .ok (.getfield 12, 3) := by decide +kernel
theorem d_Maker_digRoom_78 : decode b_Maker_digRoom 78 = .ok (.iconst 4, 1) := by decide +kernel
theorem d_Maker_digRoom_79 : decode b_Maker_digRoom 79 = .ok (.aload_n 0, 1) := by decide +kernel
theorem d_Maker_digRoom_80 : decode b_Maker_digRoom 80 = .ok (.getfield 28, 3) := by decide +kernel
theorem d_Maker_digRoom_83 : decode b_Maker_digRoom 83 = .ok (.iload_n 1, 1) := by decide +kernel
theorem d_Maker_digRoom_84 : decode b_Maker_digRoom 84 = .ok (.iaload, 1) := by decide +kernel
theorem d_Maker_digRoom_85 : decode b_Maker_digRoom 85 = .ok (.isub, 1) := by decide +kernel
theorem d_Maker_digRoom_86 : decode b_Maker_digRoom 86 = .ok (.invokevirtual 71, 3) := by decide +kernel
theorem d_Maker_digRoom_89 : decode b_Maker_digRoom 89 = .ok (.iadd, 1) := by decide +kernel
theorem d_Maker_digRoom_90 : decode b_Maker_digRoom 90 = .ok (.iastore, 1) := by decide +kernel
theorem d_Maker_digRoom_91 : decode b_Maker_digRoom 91 = .ok (.aload_n 0, 1) := by decide +kernel
theorem d_Maker_digRoom_92 : decode b_Maker_digRoom 92 = .ok (.getfield 22, 3) := by decide +kernel
theorem d_Maker_digRoom_95 : decode b_Maker_digRoom 95 = .ok (.iload_n 1, 1) := by decide +kernel
theorem d_Maker_digRoom_96 : decode b_Maker_digRoom 96 = .ok (.iaload, 1) := by decide +kernel
theorem d_Maker_digRoom_97 : decode b_Maker_digRoom 97 = .ok (.istore_n 3, 1) := by decide +kernel
theorem d_Maker_digRoom_98 : decode b_Maker_digRoom 98 = .ok (.iload_n 3, 1) := by decide +kernel
theorem d_Maker_digRoom_99 : decode b_Maker_digRoom 99 = .ok (.aload_n 0, 1) := by decide +kernel
theorem d_Maker_digRoom_100 : decode b_Maker_digRoom 100 = .ok (.getfield 22, 3) := by decide +kernel
theorem d_Maker_digRoom_103 : decode b_Maker_digRoom 103 = .ok (.iload_n 1, 1) := by decide +kernel
theorem d_Maker_digRoom_104 : decode b_Maker_digRoom 104 = .ok (.iaload, 1) := by decide +kernel
theorem d_Maker_digRoom_105 : decode b_Maker_digRoom 105 = .ok (.aload_n 0, 1) := by decide +kernel
theorem d_Maker_digRoom_106 : decode b_Maker_digRoom 106 = .ok (.getfield 28, 3) := by decide +kernel
theorem d_Maker_digRoom_109 : decode b_Maker_digRoom 109 = .ok (.iload_n 1, 1) := by decide +kernel
theorem d_Maker_digRoom_110 : decode b_Maker_digRoom 110 = .ok (.iaload, 1) := by decide +kernel
theorem d_Maker_digRoom_111 : decode b_Maker_digRoom 111 = .ok (.iadd, 1) := by decide +kernel
theorem d_Maker_digRoom_112 : decode b_Maker_digRoom 112 = .ok (.if_icmp .ge 36, 3) := by decide +kernel
theorem d_Maker_digRoom_115 : decode b_Maker_digRoom 115 = .ok (.aload_n 0, 1) := by decide +kernel
theorem d_Maker_digRoom_116 : decode b_Maker_digRoom 116 = .ok (.iload_n 3, 1) := by decide +kernel
theorem d_Maker_digRoom_117 : decode b_Maker_digRoom 117 = .ok (.aload_n 0, 1) := by decide +kernel
theorem d_Maker_digRoom_118 : decode b_Maker_digRoom 118 = .ok (.getfield 18, 3) := by decide +kernel
theorem d_Maker_digRoom_121 : decode b_Maker_digRoom 121 = .ok (.iload_n 1, 1) := by decide +kernel
theorem d_Maker_digRoom_122 : decode b_Maker_digRoom 122 = .ok (.iaload, 1) := by decide +kernel
theorem d_Maker_digRoom_123 : decode b_Maker_digRoom 123 = .ok (.aload_n 0, 1) := by decide +kernel
theorem d_Maker_digRoom_124 : decode b_Maker_digRoom 124 = .ok (.getfield 18, 3) := by decide +kernel
theorem d_Maker_digRoom_127 : decode b_Maker_digRoom 127 = .ok (.iload_n 1, 1) := by decide +kernel
theorem d_Maker_digRoom_128 : decode b_Maker_digRoom 128 = .ok (.iaload, 1) := by decide +kernel
theorem d_Maker_digRoom_129 : decode b_Maker_digRoom 129 = .ok (.aload_n 0, 1) := by decide +kernel
theorem d_Maker_digRoom_130 : decode b_Maker_digRoom 130 = .ok (.getfield 25, 3) := by decide +kernel
theorem d_Maker_digRoom_133 : decode b_Maker_digRoom 133 = .ok (.iload_n 1, 1) := by decide +kernel
theorem d_Maker_digRoom_134 : decode b_Maker_digRoom 134 = .ok (.iaload, 1) := by decide +kernel
theorem d_Maker_digRoom_135 : decode b_Maker_digRoom 135 = .ok (.iadd, 1) := by decide +kernel
theorem d_Maker_digRoom_136 : decode b_Maker_digRoom 136 = .ok (.iconst 1, 1) := by decide +kernel
theorem d_Maker_digRoom_137 : decode b_Maker_digRoom 137 = .ok (.isub, 1) := by decide +kernel
theorem d_Maker_digRoom_138 : decode b_Maker_digRoom 138 = .ok (.aload_n 2, 1) := by decide +kernel
theorem d_Maker_digRoom_139 : decode b_Maker_digRoom 139 = .ok (.invokevirtual 80, 3) := by decide +kernel
theorem d_Maker_digRoom_142 : decode b_Maker_digRoom 142 = .ok (.iinc 3 1, 3) := by decide +kernel
theorem d_Maker_digRoom_145 : decode b_Maker_digRoom 145 = .ok (.goto (-47), 3) := by decide +kernel
theorem d_Maker_digRoom_148 : decode b_Maker_digRoom 148 = .ok (.return_, 1) := by decide +kernel
def f_Maker_digRoom_98 (n : Nat) : Nat → Int32 → Int32 → St → Option (Unit × St)
  | 0, _, _, _ => none
  | j + 1, y1, y3, σ => gd (inb y1 4) (gd (inb y1 4) (if ((σ.2.2 10 y1.toNatClampNeg) + (σ.2.2 12 y1.toNatClampNeg)) ≤ y3 then (some ((), σ)) else (gd (inb y1 4) (gd (inb y1 4) (gd (inb y1 4) (bd (f_Maker_digRow n y3 (σ.2.2 9 y1.toNatClampNeg) (((σ.2.2 9 y1.toNatClampNeg) + (σ.2.2 11 y1.toNatClampNeg)) - 1) σ) (fun _ σ32 => bnd (y3 + 1) (fun v34 => f_Maker_digRoom_98 n j y1 v34 σ32))))))))
theorem f_Maker_digRoom_98_s (n : Nat) (j : Nat) (y1 : Int32) (y3 : Int32) (σ : St) : f_Maker_digRoom_98 n (j + 1) y1 y3 σ = (gd (inb y1 4) (gd (inb y1 4) (if ((σ.2.2 10 y1.toNatClampNeg) + (σ.2.2 12 y1.toNatClampNeg)) ≤ y3 then (some ((), σ)) else (gd (inb y1 4) (gd (inb y1 4) (gd (inb y1 4) (bd (f_Maker_digRow n y3 (σ.2.2 9 y1.toNatClampNeg) (((σ.2.2 9 y1.toNatClampNeg) + (σ.2.2 11 y1.toNatClampNeg)) - 1) σ) (fun _ σ32 => bnd (y3 + 1) (fun v34 => f_Maker_digRoom_98 n j y1 v34 σ32))))))))) := rfl
def f_Maker_digRoom (n : Nat) (x1 : Int32) (σ : St) : Option (Unit × St) := bd (f_Draws_draw_making n 3 σ) (fun r1 σ2 => gd (inb x1 4) (bnd (sA σ2 11 x1.toNatClampNeg (2 + r1)) (fun σ5 => bd (f_Draws_draw_making n 2 σ5) (fun r6 σ7 => gd (inb x1 4) (bnd (sA σ7 12 x1.toNatClampNeg (2 + r6)) (fun σ10 => gd (inb x1 4) (bd (f_Draws_draw_making n (5 - (σ10.2.2 11 x1.toNatClampNeg)) σ10) (fun r12 σ13 => gd (inb x1 4) (bnd (sA σ13 9 x1.toNatClampNeg (((6 * (x1 - x1 / 2 * 2)) + 1) + r12)) (fun σ16 => gd (inb x1 4) (bd (f_Draws_draw_making n (4 - (σ16.2.2 12 x1.toNatClampNeg)) σ16) (fun r18 σ19 => gd (inb x1 4) (bnd (sA σ19 10 x1.toNatClampNeg (((5 * (x1 / 2)) + 1) + r18)) (fun σ22 => gd (inb x1 4) (bnd (σ22.2.2 10 x1.toNatClampNeg) (fun v24 => f_Maker_digRoom_98 n n x1 v24 σ22))))))))))))))))
set_option maxHeartbeats 4000000 in
set_option maxRecDepth 100000 in
theorem c_Maker_digRoom (l : Launch) (D : va_G) (ad : Nat → Nat) (cA : Nat → ClassId) (tz : Nat → Nat) (n : Nat) (x1 : Int32) (σ : St) (r : Unit) (σr : St) (hf : f_Maker_digRoom n x1 σ = some (r, σr)) : Kv l D cA tz (wl ad cA) y_Maker_digRoom (.code y_Maker_digRoom b_Maker_digRoom 4 none :: TB) ({ frames := 2, cells := 0, slots := 0, locals := 48 }) [.ref (ad 3), .int x1, .ref (ad 5)] σ σr := by
  refine x_openv (r := r) (own := R_Maker) rfl (by decide) (fun p e s m args below meth c A Q X hml hZ hA H locs ls h hl rt => ?_)
  have hx := X.1
  have hb := X.2.1
  have hl : lv_has ls 4 [(0, .ref (ad 3)), (1, .int x1), (2, .ref (ad 5))] := hl
  have L98 : ∀ j : Nat, ∀ (y1 : Int32) (y3 : Int32) (σ : St), f_Maker_digRoom_98 n j y1 y3 σ = some (r, σr) → ∀ (H : Heap) (locs : List Loc) (ls : Array Slot), WD D A s (wl ad cA σ) H locs → lv_has ls 4 [(0, .ref (ad 3)), (1, .int y1), (2, .ref (ad 5)), (3, .int y3)] → W p l e ({ frames := 2, cells := 0, slots := 0, locals := 48 }) s m args below meth c H locs 0 0 Q (F0 m 98 ls []) := by
    intro j
    induction j with
    | zero => intro y1 y3 σ hf; exact absurd hf (fun z => by cases z)
    | succ j ih =>
      intro y1 y3 σ hf H locs ls h hl
      have hf := us (f_Maker_digRoom_98_s n j y1 y3 σ) hf
      refine lv_iload_n hx hb d_Maker_digRoom_98 rfl (lv_at hl 3 rfl) ?_
      refine lv_aload_n hx hb d_Maker_digRoom_99 rfl (lv_at hl 0 rfl) ?_
      refine G_maker_top X h m_f_Maker_22 d_Maker_digRoom_100 ?_
      refine lv_iload_n hx hb d_Maker_digRoom_103 rfl (lv_at hl 1 rfl) ?_
      obtain ⟨g25, hf⟩ := gd_s hf
      refine R_top X h (inb_s g25) d_Maker_digRoom_104 ?_
      refine lv_aload_n hx hb d_Maker_digRoom_105 rfl (lv_at hl 0 rfl) ?_
      refine G_maker_height X h m_f_Maker_28 d_Maker_digRoom_106 ?_
      refine lv_iload_n hx hb d_Maker_digRoom_109 rfl (lv_at hl 1 rfl) ?_
      obtain ⟨g26, hf⟩ := gd_s hf
      refine R_height X h (inb_s g26) d_Maker_digRoom_110 ?_
      refine lv_iadd hx hb d_Maker_digRoom_111 ?_
      refine lv_icmp_ge (tgt := 148) hx hb d_Maker_digRoom_112 (by decide) (fun c27 => ?_) (fun c27 => ?_)
      · have hf := it c27 hf
        exact rt _ H locs 148 ls hf h d_Maker_digRoom_148
      · have hf := ie c27 hf
        refine lv_aload_n hx hb d_Maker_digRoom_115 rfl (lv_at hl 0 rfl) ?_
        refine lv_iload_n hx hb d_Maker_digRoom_116 rfl (lv_at hl 3 rfl) ?_
        refine lv_aload_n hx hb d_Maker_digRoom_117 rfl (lv_at hl 0 rfl) ?_
        refine G_maker_left X h m_f_Maker_18 d_Maker_digRoom_118 ?_
        refine lv_iload_n hx hb d_Maker_digRoom_121 rfl (lv_at hl 1 rfl) ?_
        obtain ⟨g28, hf⟩ := gd_s hf
        refine R_left X h (inb_s g28) d_Maker_digRoom_122 ?_
        refine lv_aload_n hx hb d_Maker_digRoom_123 rfl (lv_at hl 0 rfl) ?_
        refine G_maker_left X h m_f_Maker_18 d_Maker_digRoom_124 ?_
        refine lv_iload_n hx hb d_Maker_digRoom_127 rfl (lv_at hl 1 rfl) ?_
        obtain ⟨g29, hf⟩ := gd_s hf
        refine R_left X h (inb_s g29) d_Maker_digRoom_128 ?_
        refine lv_aload_n hx hb d_Maker_digRoom_129 rfl (lv_at hl 0 rfl) ?_
        refine G_maker_width X h m_f_Maker_25 d_Maker_digRoom_130 ?_
        refine lv_iload_n hx hb d_Maker_digRoom_133 rfl (lv_at hl 1 rfl) ?_
        obtain ⟨g30, hf⟩ := gd_s hf
        refine R_width X h (inb_s g30) d_Maker_digRoom_134 ?_
        refine lv_iadd hx hb d_Maker_digRoom_135 ?_
        refine lv_iconst (v := 1) hx hb d_Maker_digRoom_136 (by decide) ?_
        refine lv_isub hx hb d_Maker_digRoom_137 ?_
        refine lv_aload_n hx hb d_Maker_digRoom_138 rfl (lv_at hl 2 rfl) ?_
        obtain ⟨r31, σ32, h33, hf⟩ := bd_s hf
        refine x_Vv (As := [.int y3, .int (σ.2.2 9 y1.toNatClampNeg), .int (((σ.2.2 9 y1.toNatClampNeg) + (σ.2.2 11 y1.toNatClampNeg)) - 1), .ref (ad 5)]) (rest := []) X hml hl.1 hZ hA h (c_Maker_digRow l D ad cA tz n y3 (σ.2.2 9 y1.toNatClampNeg) (((σ.2.2 9 y1.toNatClampNeg) + (σ.2.2 11 y1.toNatClampNeg)) - 1) σ r31 σ32 h33) k_Maker_digRow m_m_Maker_80 kd_Maker_digRow ⟨rfl, rfl, Nat.le_of_ble_eq_true rfl, Nat.le_of_ble_eq_true rfl⟩ 3 rfl rfl rfl rfl rfl (Nat.le_of_ble_eq_true rfl) d_Maker_digRoom_139 (fun H locs h => ?_)
        obtain ⟨v34, ev34⟩ : ∃ y : Int32, y = y3 + 1 := ⟨_, rfl⟩
        have hf := nm_b hf ev34
        refine lv_iinc (v := v34) (lv' := [(3, .int v34), (0, .ref (ad 3)), (1, .int y1), (2, .ref (ad 5))]) hx hb d_Maker_digRoom_142 hl (k := 3) rfl (by rw [ev34]; rfl) (by decide) rfl (fun ls hl => ?_)
        refine lv_goto (tgt := 98) hx hb d_Maker_digRoom_145 (by decide) ?_
        exact ih y1 v34 σ32 hf H locs ls h (lv_sub hl [1, 2, 3, 0] rfl)
  unfold f_Maker_digRoom at hf
  refine lv_aload_n hx hb d_Maker_digRoom_0 rfl (lv_at hl 0 rfl) ?_
  refine G_maker_width X h m_f_Maker_25 d_Maker_digRoom_1 ?_
  refine lv_iload_n hx hb d_Maker_digRoom_4 rfl (lv_at hl 1 rfl) ?_
  refine lv_iconst (v := 2) hx hb d_Maker_digRoom_5 (by decide) ?_
  refine lv_aload_n hx hb d_Maker_digRoom_6 rfl (lv_at hl 0 rfl) ?_
  refine G_maker_making X h m_f_Maker_12 d_Maker_digRoom_7 ?_
  refine lv_iconst (v := 3) hx hb d_Maker_digRoom_10 (by decide) ?_
  obtain ⟨r1, σ2, h3, hf⟩ := bd_s hf
  refine x_Vi (As := [.int 3]) (rest := [.int 2, .int x1, .ref (ad 20)]) X hml hl.1 hZ hA h (c_Draws_draw_making l D ad cA tz n 3 σ r1 σ2 h3) k_Draws_draw m_m_Maker_71 kd_Draws_draw ⟨rfl, rfl, Nat.le_of_ble_eq_true rfl, Nat.le_of_ble_eq_true rfl⟩ 4 rfl rfl rfl rfl rfl (Nat.le_of_ble_eq_true rfl) d_Maker_digRoom_11 (fun H locs h => ?_)
  refine lv_iadd hx hb d_Maker_digRoom_14 ?_
  obtain ⟨g4, hf⟩ := gd_s hf
  refine S_width X h (inb_s g4) d_Maker_digRoom_15 (fun H locs σ5 eσ5 h => ?_)
  have hf := nm_b hf eσ5
  refine lv_aload_n hx hb d_Maker_digRoom_16 rfl (lv_at hl 0 rfl) ?_
  refine G_maker_height X h m_f_Maker_28 d_Maker_digRoom_17 ?_
  refine lv_iload_n hx hb d_Maker_digRoom_20 rfl (lv_at hl 1 rfl) ?_
  refine lv_iconst (v := 2) hx hb d_Maker_digRoom_21 (by decide) ?_
  refine lv_aload_n hx hb d_Maker_digRoom_22 rfl (lv_at hl 0 rfl) ?_
  refine G_maker_making X h m_f_Maker_12 d_Maker_digRoom_23 ?_
  refine lv_iconst (v := 2) hx hb d_Maker_digRoom_26 (by decide) ?_
  obtain ⟨r6, σ7, h8, hf⟩ := bd_s hf
  refine x_Vi (As := [.int 2]) (rest := [.int 2, .int x1, .ref (ad 21)]) X hml hl.1 hZ hA h (c_Draws_draw_making l D ad cA tz n 2 σ5 r6 σ7 h8) k_Draws_draw m_m_Maker_71 kd_Draws_draw ⟨rfl, rfl, Nat.le_of_ble_eq_true rfl, Nat.le_of_ble_eq_true rfl⟩ 4 rfl rfl rfl rfl rfl (Nat.le_of_ble_eq_true rfl) d_Maker_digRoom_27 (fun H locs h => ?_)
  refine lv_iadd hx hb d_Maker_digRoom_30 ?_
  obtain ⟨g9, hf⟩ := gd_s hf
  refine S_height X h (inb_s g9) d_Maker_digRoom_31 (fun H locs σ10 eσ10 h => ?_)
  have hf := nm_b hf eσ10
  refine lv_aload_n hx hb d_Maker_digRoom_32 rfl (lv_at hl 0 rfl) ?_
  refine G_maker_left X h m_f_Maker_18 d_Maker_digRoom_33 ?_
  refine lv_iload_n hx hb d_Maker_digRoom_36 rfl (lv_at hl 1 rfl) ?_
  refine lv_bipush (v := 6) hx hb d_Maker_digRoom_37 (by decide) ?_
  refine lv_iload_n hx hb d_Maker_digRoom_39 rfl (lv_at hl 1 rfl) ?_
  refine lv_iconst (v := 2) hx hb d_Maker_digRoom_40 (by decide) ?_
  refine lv_irem hx hb d_Maker_digRoom_41 (by decide) ?_
  refine lv_imul hx hb d_Maker_digRoom_42 ?_
  refine lv_iconst (v := 1) hx hb d_Maker_digRoom_43 (by decide) ?_
  refine lv_iadd hx hb d_Maker_digRoom_44 ?_
  refine lv_aload_n hx hb d_Maker_digRoom_45 rfl (lv_at hl 0 rfl) ?_
  refine G_maker_making X h m_f_Maker_12 d_Maker_digRoom_46 ?_
  refine lv_iconst (v := 5) hx hb d_Maker_digRoom_49 (by decide) ?_
  refine lv_aload_n hx hb d_Maker_digRoom_50 rfl (lv_at hl 0 rfl) ?_
  refine G_maker_width X h m_f_Maker_25 d_Maker_digRoom_51 ?_
  refine lv_iload_n hx hb d_Maker_digRoom_54 rfl (lv_at hl 1 rfl) ?_
  obtain ⟨g11, hf⟩ := gd_s hf
  refine R_width X h (inb_s g11) d_Maker_digRoom_55 ?_
  refine lv_isub hx hb d_Maker_digRoom_56 ?_
  obtain ⟨r12, σ13, h14, hf⟩ := bd_s hf
  refine x_Vi (As := [.int (5 - (σ10.2.2 11 x1.toNatClampNeg))]) (rest := [.int ((6 * (x1 - x1 / 2 * 2)) + 1), .int x1, .ref (ad 18)]) X hml hl.1 hZ hA h (c_Draws_draw_making l D ad cA tz n (5 - (σ10.2.2 11 x1.toNatClampNeg)) σ10 r12 σ13 h14) k_Draws_draw m_m_Maker_71 kd_Draws_draw ⟨rfl, rfl, Nat.le_of_ble_eq_true rfl, Nat.le_of_ble_eq_true rfl⟩ 4 rfl rfl rfl rfl rfl (Nat.le_of_ble_eq_true rfl) d_Maker_digRoom_57 (fun H locs h => ?_)
  refine lv_iadd hx hb d_Maker_digRoom_60 ?_
  obtain ⟨g15, hf⟩ := gd_s hf
  refine S_left X h (inb_s g15) d_Maker_digRoom_61 (fun H locs σ16 eσ16 h => ?_)
  have hf := nm_b hf eσ16
  refine lv_aload_n hx hb d_Maker_digRoom_62 rfl (lv_at hl 0 rfl) ?_
  refine G_maker_top X h m_f_Maker_22 d_Maker_digRoom_63 ?_
  refine lv_iload_n hx hb d_Maker_digRoom_66 rfl (lv_at hl 1 rfl) ?_
  refine lv_iconst (v := 5) hx hb d_Maker_digRoom_67 (by decide) ?_
  refine lv_iload_n hx hb d_Maker_digRoom_68 rfl (lv_at hl 1 rfl) ?_
  refine lv_iconst (v := 2) hx hb d_Maker_digRoom_69 (by decide) ?_
  refine lv_idiv hx hb d_Maker_digRoom_70 (by decide) ?_
  refine lv_imul hx hb d_Maker_digRoom_71 ?_
  refine lv_iconst (v := 1) hx hb d_Maker_digRoom_72 (by decide) ?_
  refine lv_iadd hx hb d_Maker_digRoom_73 ?_
  refine lv_aload_n hx hb d_Maker_digRoom_74 rfl (lv_at hl 0 rfl) ?_
  refine G_maker_making X h m_f_Maker_12 d_Maker_digRoom_75 ?_
  refine lv_iconst (v := 4) hx hb d_Maker_digRoom_78 (by decide) ?_
  refine lv_aload_n hx hb d_Maker_digRoom_79 rfl (lv_at hl 0 rfl) ?_
  refine G_maker_height X h m_f_Maker_28 d_Maker_digRoom_80 ?_
  refine lv_iload_n hx hb d_Maker_digRoom_83 rfl (lv_at hl 1 rfl) ?_
  obtain ⟨g17, hf⟩ := gd_s hf
  refine R_height X h (inb_s g17) d_Maker_digRoom_84 ?_
  refine lv_isub hx hb d_Maker_digRoom_85 ?_
  obtain ⟨r18, σ19, h20, hf⟩ := bd_s hf
  refine x_Vi (As := [.int (4 - (σ16.2.2 12 x1.toNatClampNeg))]) (rest := [.int ((5 * (x1 / 2)) + 1), .int x1, .ref (ad 19)]) X hml hl.1 hZ hA h (c_Draws_draw_making l D ad cA tz n (4 - (σ16.2.2 12 x1.toNatClampNeg)) σ16 r18 σ19 h20) k_Draws_draw m_m_Maker_71 kd_Draws_draw ⟨rfl, rfl, Nat.le_of_ble_eq_true rfl, Nat.le_of_ble_eq_true rfl⟩ 4 rfl rfl rfl rfl rfl (Nat.le_of_ble_eq_true rfl) d_Maker_digRoom_86 (fun H locs h => ?_)
  refine lv_iadd hx hb d_Maker_digRoom_89 ?_
  obtain ⟨g21, hf⟩ := gd_s hf
  refine S_top X h (inb_s g21) d_Maker_digRoom_90 (fun H locs σ22 eσ22 h => ?_)
  have hf := nm_b hf eσ22
  refine lv_aload_n hx hb d_Maker_digRoom_91 rfl (lv_at hl 0 rfl) ?_
  refine G_maker_top X h m_f_Maker_22 d_Maker_digRoom_92 ?_
  refine lv_iload_n hx hb d_Maker_digRoom_95 rfl (lv_at hl 1 rfl) ?_
  obtain ⟨g23, hf⟩ := gd_s hf
  refine R_top X h (inb_s g23) d_Maker_digRoom_96 ?_
  refine lv_topi (fun v24 ev24 => ?_)
  have hf := nm_b hf ev24
  refine lv_istore_n (lv' := [(3, .int v24), (0, .ref (ad 3)), (1, .int x1), (2, .ref (ad 5))]) hx hb d_Maker_digRoom_97 rfl hl (by decide) rfl (fun ls hl => ?_)
  exact L98 n x1 v24 σ22 hf H locs ls h (lv_sub hl [1, 2, 3, 0] rfl)
theorem d_Monsters_at_0 : decode b_Monsters_at 0 = .ok (.iconst 0, 1) := by decide +kernel
theorem d_Monsters_at_1 : decode b_Monsters_at 1 = .ok (.istore_n 2, 1) := by decide +kernel
theorem d_Monsters_at_2 : decode b_Monsters_at 2 = .ok (.iload_n 2, 1) := by decide +kernel
theorem d_Monsters_at_3 : decode b_Monsters_at 3 = .ok (.aload_n 0, 1) := by decide +kernel
theorem d_Monsters_at_4 : decode b_Monsters_at 4 = .ok (.getfield 27, 3) := by decide +kernel
theorem d_Monsters_at_7 : decode b_Monsters_at 7 = .ok (.if_icmp .ge 30, 3) := by decide +kernel
theorem d_Monsters_at_10 : decode b_Monsters_at 10 = .ok (.aload_n 0, 1) := by decide +kernel
theorem d_Monsters_at_11 : decode b_Monsters_at 11 = .ok (.getfield 18, 3) := by decide +kernel
theorem d_Monsters_at_14 : decode b_Monsters_at 14 = .ok (.iload_n 2, 1) := by decide +kernel
theorem d_Monsters_at_15 : decode b_Monsters_at 15 = .ok (.iaload, 1) := by decide +kernel
theorem d_Monsters_at_16 : decode b_Monsters_at 16 = .ok (.ifCond .le 15, 3) := by decide +kernel
theorem d_Monsters_at_19 : decode b_Monsters_at 19 = .ok (.aload_n 0, 1) := by decide +kernel
theorem d_Monsters_at_20 : decode b_Monsters_at 20 = .ok (.getfield 15, 3) := by decide +kernel
theorem d_Monsters_at_23 : decode b_Monsters_at 23 = .ok (.iload_n 2, 1) := by decide +kernel
theorem d_Monsters_at_24 : decode b_Monsters_at 24 = .ok (.iaload, 1) := by decide +kernel
theorem d_Monsters_at_25 : decode b_Monsters_at 25 = .ok (.iload_n 1, 1) := by decide +kernel
theorem d_Monsters_at_26 : decode b_Monsters_at 26 = .ok (.if_icmp .ne 5, 3) := by decide +kernel
theorem d_Monsters_at_29 : decode b_Monsters_at 29 = .ok (.iload_n 2, 1) := by decide +kernel
theorem d_Monsters_at_30 : decode b_Monsters_at 30 = .ok (.ireturn, 1) := by decide +kernel
theorem d_Monsters_at_31 : decode b_Monsters_at 31 = .ok (.iinc 2 1, 3) := by decide +kernel
theorem d_Monsters_at_34 : decode b_Monsters_at 34 = .ok (.goto (-32), 3) := by decide +kernel
theorem d_Monsters_at_37 : decode b_Monsters_at 37 = .ok (.bipush (-2), 2) := by decide +kernel
theorem d_Monsters_at_39 : decode b_Monsters_at 39 = .ok (.ireturn, 1) := by decide +kernel
def f_Monsters_at_2 (n : Nat) : Nat → Int32 → Int32 → St → Option (Int32 × St)
  | 0, _, _, _ => none
  | j + 1, y1, y2, σ => if (σ.1 7) ≤ y2 then (some ((-2), σ)) else (gd (inb y2 5) (if (σ.2.2 6 y2.toNatClampNeg) ≤ 0 then (bnd (y2 + 1) (fun v4 => f_Monsters_at_2 n j y1 v4 σ)) else (gd (inb y2 5) (if (σ.2.2 5 y2.toNatClampNeg) = y1 then (some (y2, σ)) else (bnd (y2 + 1) (fun v7 => f_Monsters_at_2 n j y1 v7 σ))))))
theorem f_Monsters_at_2_s (n : Nat) (j : Nat) (y1 : Int32) (y2 : Int32) (σ : St) : f_Monsters_at_2 n (j + 1) y1 y2 σ = (if (σ.1 7) ≤ y2 then (some ((-2), σ)) else (gd (inb y2 5) (if (σ.2.2 6 y2.toNatClampNeg) ≤ 0 then (bnd (y2 + 1) (fun v4 => f_Monsters_at_2 n j y1 v4 σ)) else (gd (inb y2 5) (if (σ.2.2 5 y2.toNatClampNeg) = y1 then (some (y2, σ)) else (bnd (y2 + 1) (fun v7 => f_Monsters_at_2 n j y1 v7 σ))))))) := rfl
def f_Monsters_at (n : Nat) (x1 : Int32) (σ : St) : Option (Int32 × St) := f_Monsters_at_2 n n x1 0 σ
set_option maxHeartbeats 4000000 in
set_option maxRecDepth 100000 in
theorem c_Monsters_at (l : Launch) (D : va_G) (ad : Nat → Nat) (cA : Nat → ClassId) (tz : Nat → Nat) (n : Nat) (x1 : Int32) (σ : St) (r : Int32) (σr : St) (hf : f_Monsters_at n x1 σ = some (r, σr)) : Ki l D cA tz (wl ad cA) y_Monsters_at (.code y_Monsters_at b_Monsters_at 3 (some .int) :: TB) ({ frames := 0, cells := 0, slots := 0, locals := 0 }) [.ref (ad 6), .int x1] σ r σr := by
  refine x_openi (own := R_Monsters) rfl (by decide) (fun p e s m args below meth c A Q X hml hZ hA H locs ls h hl rt => ?_)
  have hx := X.1
  have hb := X.2.1
  have hl : lv_has ls 3 [(0, .ref (ad 6)), (1, .int x1)] := hl
  have L2 : ∀ j : Nat, ∀ (y1 : Int32) (y2 : Int32) (σ : St), f_Monsters_at_2 n j y1 y2 σ = some (r, σr) → ∀ (H : Heap) (locs : List Loc) (ls : Array Slot), WD D A s (wl ad cA σ) H locs → lv_has ls 3 [(0, .ref (ad 6)), (1, .int y1), (2, .int y2)] → W p l e ({ frames := 0, cells := 0, slots := 0, locals := 0 }) s m args below meth c H locs 0 0 Q (F0 m 2 ls []) := by
    intro j
    induction j with
    | zero => intro y1 y2 σ hf; exact absurd hf (fun z => by cases z)
    | succ j ih =>
      intro y1 y2 σ hf H locs ls h hl
      have hf := us (f_Monsters_at_2_s n j y1 y2 σ) hf
      refine lv_iload_n hx hb d_Monsters_at_2 rfl (lv_at hl 2 rfl) ?_
      refine lv_aload_n hx hb d_Monsters_at_3 rfl (lv_at hl 0 rfl) ?_
      refine G_monsters_made X h m_f_Monsters_27 d_Monsters_at_4 ?_
      refine lv_icmp_ge (tgt := 37) hx hb d_Monsters_at_7 (by decide) (fun c1 => ?_) (fun c1 => ?_)
      · have hf := it c1 hf
        refine lv_bipush (v := (-2)) hx hb d_Monsters_at_37 (by decide) ?_
        exact rt _ _ H locs 39 ls hf h d_Monsters_at_39
      · have hf := ie c1 hf
        refine lv_aload_n hx hb d_Monsters_at_10 rfl (lv_at hl 0 rfl) ?_
        refine G_monsters_health X h m_f_Monsters_18 d_Monsters_at_11 ?_
        refine lv_iload_n hx hb d_Monsters_at_14 rfl (lv_at hl 2 rfl) ?_
        obtain ⟨g2, hf⟩ := gd_s hf
        refine R_health X h (inb_s g2) d_Monsters_at_15 ?_
        refine lv_if_le (tgt := 31) hx hb d_Monsters_at_16 (by decide) (fun c3 => ?_) (fun c3 => ?_)
        · have hf := it c3 hf
          obtain ⟨v4, ev4⟩ : ∃ y : Int32, y = y2 + 1 := ⟨_, rfl⟩
          have hf := nm_b hf ev4
          refine lv_iinc (v := v4) (lv' := [(2, .int v4), (0, .ref (ad 6)), (1, .int y1)]) hx hb d_Monsters_at_31 hl (k := 2) rfl (by rw [ev4]; rfl) (by decide) rfl (fun ls hl => ?_)
          refine lv_goto (tgt := 2) hx hb d_Monsters_at_34 (by decide) ?_
          exact ih y1 v4 σ hf H locs ls h (lv_sub hl [1, 2, 0] rfl)
        · have hf := ie c3 hf
          refine lv_aload_n hx hb d_Monsters_at_19 rfl (lv_at hl 0 rfl) ?_
          refine G_monsters_place X h m_f_Monsters_15 d_Monsters_at_20 ?_
          refine lv_iload_n hx hb d_Monsters_at_23 rfl (lv_at hl 2 rfl) ?_
          obtain ⟨g5, hf⟩ := gd_s hf
          refine R_place X h (inb_s g5) d_Monsters_at_24 ?_
          refine lv_iload_n hx hb d_Monsters_at_25 rfl (lv_at hl 1 rfl) ?_
          refine lv_icmp_ne (tgt := 31) hx hb d_Monsters_at_26 (by decide) (fun c6 => ?_) (fun c6 => ?_)
          · have hf := ie c6 hf
            obtain ⟨v7, ev7⟩ : ∃ y : Int32, y = y2 + 1 := ⟨_, rfl⟩
            have hf := nm_b hf ev7
            refine lv_iinc (v := v7) (lv' := [(2, .int v7), (0, .ref (ad 6)), (1, .int y1)]) hx hb d_Monsters_at_31 hl (k := 2) rfl (by rw [ev7]; rfl) (by decide) rfl (fun ls hl => ?_)
            refine lv_goto (tgt := 2) hx hb d_Monsters_at_34 (by decide) ?_
            exact ih y1 v7 σ hf H locs ls h (lv_sub hl [1, 2, 0] rfl)
          · have hf := it c6 hf
            refine lv_iload_n hx hb d_Monsters_at_29 rfl (lv_at hl 2 rfl) ?_
            exact rt _ _ H locs 30 ls hf h d_Monsters_at_30
  unfold f_Monsters_at at hf
  refine lv_iconst (v := 0) hx hb d_Monsters_at_0 (by decide) ?_
  refine lv_istore_n (lv' := [(2, .int 0), (0, .ref (ad 6)), (1, .int x1)]) hx hb d_Monsters_at_1 rfl hl (by decide) rfl (fun ls hl => ?_)
  exact L2 n x1 0 σ hf H locs ls h (lv_sub hl [1, 2, 0] rfl)

