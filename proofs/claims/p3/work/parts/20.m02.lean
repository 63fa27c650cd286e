theorem d_Model_goes_0 : decode b_Model_goes 0 = .ok (.aload_n 0, 1) := by decide +kernel
theorem d_Model_goes_1 : decode b_Model_goes 1 = .ok (.getfield 129, 3) := by decide +kernel
theorem d_Model_goes_4 : decode b_Model_goes 4 = .ok (.iload_n 1, 1) := by decide +kernel
theorem d_Model_goes_5 : decode b_Model_goes 5 = .ok (.invokestatic 169, 3) := by decide +kernel
theorem d_Model_goes_8 : decode b_Model_goes 8 = .ok (.iadd, 1) := by decide +kernel
theorem d_Model_goes_9 : decode b_Model_goes 9 = .ok (.istore_n 2, 1) := by decide +kernel
theorem d_Model_goes_10 : decode b_Model_goes 10 = .ok (.aload_n 0, 1) := by decide +kernel
theorem d_Model_goes_11 : decode b_Model_goes 11 = .ok (.getfield 132, 3) := by decide +kernel
theorem d_Model_goes_14 : decode b_Model_goes 14 = .ok (.iload_n 1, 1) := by decide +kernel
theorem d_Model_goes_15 : decode b_Model_goes 15 = .ok (.invokestatic 172, 3) := by decide +kernel
theorem d_Model_goes_18 : decode b_Model_goes 18 = .ok (.iadd, 1) := by decide +kernel
theorem d_Model_goes_19 : decode b_Model_goes 19 = .ok (.istore_n 3, 1) := by decide +kernel
theorem d_Model_goes_20 : decode b_Model_goes 20 = .ok (.aload_n 0, 1) := by decide +kernel
theorem d_Model_goes_21 : decode b_Model_goes 21 = .ok (.iload_n 2, 1) := by decide +kernel
theorem d_Model_goes_22 : decode b_Model_goes 22 = .ok (.iload_n 3, 1) := by decide +kernel
theorem d_Model_goes_23 : decode b_Model_goes 23 = .ok (.invokevirtual 155, 3) := by decide +kernel
theorem d_Model_goes_26 : decode b_Model_goes 26 = .ok (.ifCond .ne 5, 3) := by decide +kernel
theorem d_Model_goes_29 : decode b_Model_goes 29 = .ok (.iconst 0, 1) := by decide +kernel
theorem d_Model_goes_30 : decode b_Model_goes 30 = .ok (.ireturn, 1) := by decide +kernel
theorem d_Model_goes_31 : decode b_Model_goes 31 = .ok (.aload_n 0, 1) := by decide +kernel
theorem d_Model_goes_32 : decode b_Model_goes 32 = .ok (.iload_n 2, 1) := by decide +kernel
theorem d_Model_goes_33 : decode b_Model_goes 33 = .ok (.iload_n 3, 1) := by decide +kernel
theorem d_Model_goes_34 : decode b_Model_goes 34 = .ok (.invokevirtual 141, 3) := by decide +kernel
theorem d_Model_goes_37 : decode b_Model_goes 37 = .ok (.istore 4, 2) := by decide +kernel
theorem d_Model_goes_39 : decode b_Model_goes 39 = .ok (.iload 4, 2) := by decide +kernel
theorem d_Model_goes_41 : decode b_Model_goes 41 = .ok (.ifCond .ge 15, 3) := by decide +kernel
theorem d_Model_goes_44 : decode b_Model_goes 44 = .ok (.aload_n 0, 1) := by decide +kernel
theorem d_Model_goes_45 : decode b_Model_goes 45 = .ok (.iload_n 2, 1) := by decide +kernel
theorem d_Model_goes_46 : decode b_Model_goes 46 = .ok (.putfield 129, 3) := by decide +kernel
theorem d_Model_goes_49 : decode b_Model_goes 49 = .ok (.aload_n 0, 1) := by decide +kernel
theorem d_Model_goes_50 : decode b_Model_goes 50 = .ok (.iload_n 3, 1) := by decide +kernel
theorem d_Model_goes_51 : decode b_Model_goes 51 = .ok (.putfield 132, 3) := by decide +kernel
theorem d_Model_goes_54 : decode b_Model_goes 54 = .ok (.iconst 1, 1) := by decide +kernel
theorem d_Model_goes_55 : decode b_Model_goes 55 = .ok (.ireturn, 1) := by decide +kernel
theorem d_Model_goes_56 : decode b_Model_goes 56 = .ok (.aload_n 0, 1) := by decide +kernel
theorem d_Model_goes_57 : decode b_Model_goes 57 = .ok (.getfield 38, 3) := by decide +kernel
theorem d_Model_goes_60 : decode b_Model_goes 60 = .ok (.iload 4, 2) := by decide +kernel
theorem d_Model_goes_62 : decode b_Model_goes 62 = .ok (.iconst 1, 1) := by decide +kernel
theorem d_Model_goes_63 : decode b_Model_goes 63 = .ok (.bastore, 1) := by decide +kernel
theorem d_Model_goes_64 : decode b_Model_goes 64 = .ok (.aload_n 0, 1) := by decide +kernel
theorem d_Model_goes_65 : decode b_Model_goes 65 = .ok (.getfield 32, 3) := by decide +kernel
theorem d_Model_goes_68 : decode b_Model_goes 68 = .ok (.iload 4, 2) := by decide +kernel
theorem d_Model_goes_70 : decode b_Model_goes 70 = .ok (.dup2, 1) := by decide +kernel
theorem d_Model_goes_71 : decode b_Model_goes 71 = .ok (.iaload, 1) := by decide +kernel
theorem d_Model_goes_72 : decode b_Model_goes 72 = .ok (.aload_n 0, 1) := by decide +kernel
theorem d_Model_goes_73 : decode b_Model_goes 73 = .ok (.getfield 87, 3) := by decide +kernel
theorem d_Model_goes_76 : decode b_Model_goes 76 = .ok (.isub, 1) := by decide +kernel
theorem d_Model_goes_77 : decode b_Model_goes 77 = .ok (.iastore, 1) := by decide +kernel
theorem d_Model_goes_78 : decode b_Model_goes 78 = .ok (.aload_n 0, 1) := by decide +kernel
theorem d_Model_goes_79 : decode b_Model_goes 79 = .ok (.getfield 32, 3) := by decide +kernel
theorem d_Model_goes_82 : decode b_Model_goes 82 = .ok (.iload 4, 2) := by decide +kernel
theorem d_Model_goes_84 : decode b_Model_goes 84 = .ok (.iaload, 1) := by decide +kernel
theorem d_Model_goes_85 : decode b_Model_goes 85 = .ok (.ifCond .gt 21, 3) := by decide +kernel
theorem d_Model_goes_88 : decode b_Model_goes 88 = .ok (.aload_n 0, 1) := by decide +kernel
theorem d_Model_goes_89 : decode b_Model_goes 89 = .ok (.getfield 41, 3) := by decide +kernel
theorem d_Model_goes_92 : decode b_Model_goes 92 = .ok (.iload 4, 2) := by decide +kernel
theorem d_Model_goes_94 : decode b_Model_goes 94 = .ok (.iconst 1, 1) := by decide +kernel
theorem d_Model_goes_95 : decode b_Model_goes 95 = .ok (.bastore, 1) := by decide +kernel
theorem d_Model_goes_96 : decode b_Model_goes 96 = .ok (.aload_n 0, 1) := by decide +kernel
theorem d_Model_goes_97 : decode b_Model_goes 97 = .ok (.dup, 1) := by decide +kernel
theorem d_Model_goes_98 : decode b_Model_goes 98 = .ok (.getfield 102, 3) := by decide +kernel
theorem d_Model_goes_101 : decode b_Model_goes 101 = .ok (.iconst 1, 1) := by decide +kernel
theorem d_Model_goes_102 : decode b_Model_goes 102 = .ok (.iadd, 1) := by decide +kernel
theorem d_Model_goes_103 : decode b_Model_goes 103 = .ok (.putfield 102, 3) := by decide +kernel
theorem d_Model_goes_106 : decode b_Model_goes 106 = .ok (.iconst 1, 1) := by decide +kernel
theorem d_Model_goes_107 : decode b_Model_goes 107 = .ok (.ireturn, 1) := by decide +kernel
def f_Model_goes (n : Nat) (x1 : Int32) (σ : St) : Option (Int32 × St) := bd (f_Model_dx n x1 σ) (fun r1 σ2 => bnd ((σ.1 2) + r1) (fun v4 => bd (f_Model_dy n x1 σ2) (fun r5 σ6 => bnd ((σ2.1 3) + r5) (fun v8 => bd (f_Model_isFloor n v4 v8 σ6) (fun r9 σ10 => if r9 = 0 then (some (0, σ10)) else (bd (f_Model_monsterAt n v4 v8 σ10) (fun r13 σ14 => if 0 ≤ r13 then (gd (inb r13 8) (bnd (sA σ14 9 r13.toNatClampNeg 1) (fun σ18 => gd (inb r13 8) (gd (inb r13 8) (bnd (sA σ18 7 r13.toNatClampNeg ((σ18.2.2 7 r13.toNatClampNeg) - (σ18.1 5))) (fun σ21 => gd (inb r13 8) (if 0 < (σ21.2.2 7 r13.toNatClampNeg) then (some (1, σ21)) else (gd (inb r13 8) (bnd (sA σ21 10 r13.toNatClampNeg 1) (fun σ25 => bnd (sI σ25 11 ((σ25.1 11) + 1)) (fun σ26 => some (1, σ26)))))))))))) else (bnd (sI σ14 2 v4) (fun σ27 => bnd (sI σ27 3 v8) (fun σ28 => some (1, σ28)))))))))))
set_option maxHeartbeats 4000000 in
set_option maxRecDepth 100000 in
theorem c_Model_goes (l : Launch) (D : va_G) (ad : Nat → Nat) (cA : Nat → ClassId) (tz : Nat → Nat) (n : Nat) (x1 : Int32) (σ : St) (r : Int32) (σr : St) (hf : f_Model_goes n x1 σ = some (r, σr)) : Ki l D cA tz (wm ad cA) y_Model_goes (.code y_Model_goes b_Model_goes 5 (some .boolean) :: TB) ({ frames := 2, cells := 0, slots := 0, locals := 44 }) [.ref (ad 0), .int x1] σ r σr := by
  refine x_openz (own := R_Model) rfl (by decide) (fun p e s m args below meth c A Q X hml hZ hA H locs ls h hl rt => ?_)
  have hx := X.1
  have hb := X.2.1
  have hl : lv_has ls 5 [(0, .ref (ad 0)), (1, .int x1)] := hl
  unfold f_Model_goes at hf
  refine lv_aload_n hx hb d_Model_goes_0 rfl (lv_at hl 0 rfl) ?_
  refine G_model_px X h m_f_Model_129 d_Model_goes_1 ?_
  refine lv_iload_n hx hb d_Model_goes_4 rfl (lv_at hl 1 rfl) ?_
  obtain ⟨r1, σ2, h3, hf⟩ := bd_s hf
  refine x_Si (As := [.int x1]) (rest := [.int (σ.1 2)]) X hml hl.1 hZ hA h (c_Model_dx l D ad cA tz n x1 σ r1 σ2 h3) k_Model_dx m_m_Model_169 kd_Model_dx ⟨rfl, rfl, Nat.le_of_ble_eq_true rfl, Nat.le_of_ble_eq_true rfl⟩ rfl rfl (Nat.le_of_ble_eq_true rfl) d_Model_goes_5 (fun H locs h => ?_)
  refine lv_iadd hx hb d_Model_goes_8 ?_
  refine lv_topi (fun v4 ev4 => ?_)
  have hf := nm_b hf ev4
  refine lv_istore_n (lv' := [(2, .int v4), (0, .ref (ad 0)), (1, .int x1)]) hx hb d_Model_goes_9 rfl hl (by decide) rfl (fun ls hl => ?_)
  refine lv_aload_n hx hb d_Model_goes_10 rfl (lv_at hl 1 rfl) ?_
  refine G_model_py X h m_f_Model_132 d_Model_goes_11 ?_
  refine lv_iload_n hx hb d_Model_goes_14 rfl (lv_at hl 2 rfl) ?_
  obtain ⟨r5, σ6, h7, hf⟩ := bd_s hf
  refine x_Si (As := [.int x1]) (rest := [.int (σ2.1 3)]) X hml hl.1 hZ hA h (c_Model_dy l D ad cA tz n x1 σ2 r5 σ6 h7) k_Model_dy m_m_Model_172 kd_Model_dy ⟨rfl, rfl, Nat.le_of_ble_eq_true rfl, Nat.le_of_ble_eq_true rfl⟩ rfl rfl (Nat.le_of_ble_eq_true rfl) d_Model_goes_15 (fun H locs h => ?_)
  refine lv_iadd hx hb d_Model_goes_18 ?_
  refine lv_topi (fun v8 ev8 => ?_)
  have hf := nm_b hf ev8
  refine lv_istore_n (lv' := [(3, .int v8), (2, .int v4), (0, .ref (ad 0)), (1, .int x1)]) hx hb d_Model_goes_19 rfl hl (by decide) rfl (fun ls hl => ?_)
  refine lv_aload_n hx hb d_Model_goes_20 rfl (lv_at hl 2 rfl) ?_
  refine lv_iload_n hx hb d_Model_goes_21 rfl (lv_at hl 1 rfl) ?_
  refine lv_iload_n hx hb d_Model_goes_22 rfl (lv_at hl 0 rfl) ?_
  obtain ⟨r9, σ10, h11, hf⟩ := bd_s hf
  refine x_Vi (As := [.int v4, .int v8]) (rest := []) X hml hl.1 hZ hA h (c_Model_isFloor l D ad cA tz n v4 v8 σ6 r9 σ10 h11) k_Model_isFloor m_m_Model_155 kd_Model_isFloor ⟨rfl, rfl, Nat.le_of_ble_eq_true rfl, Nat.le_of_ble_eq_true rfl⟩ 0 rfl rfl rfl rfl rfl (Nat.le_of_ble_eq_true rfl) d_Model_goes_23 (fun H locs h => ?_)
  refine lv_if_ne (tgt := 31) hx hb d_Model_goes_26 (by decide) (fun c12 => ?_) (fun c12 => ?_)
  · have hf := ie c12 hf
    refine lv_aload_n hx hb d_Model_goes_31 rfl (lv_at hl 2 rfl) ?_
    refine lv_iload_n hx hb d_Model_goes_32 rfl (lv_at hl 1 rfl) ?_
    refine lv_iload_n hx hb d_Model_goes_33 rfl (lv_at hl 0 rfl) ?_
    obtain ⟨r13, σ14, h15, hf⟩ := bd_s hf
    refine x_Vi (As := [.int v4, .int v8]) (rest := []) X hml hl.1 hZ hA h (c_Model_monsterAt l D ad cA tz n v4 v8 σ10 r13 σ14 h15) k_Model_monsterAt m_m_Model_141 kd_Model_monsterAt ⟨rfl, rfl, Nat.le_of_ble_eq_true rfl, Nat.le_of_ble_eq_true rfl⟩ 0 rfl rfl rfl rfl rfl (Nat.le_of_ble_eq_true rfl) d_Model_goes_34 (fun H locs h => ?_)
    refine lv_istore (lv' := [(4, .int r13), (3, .int v8), (2, .int v4), (0, .ref (ad 0)), (1, .int x1)]) hx hb d_Model_goes_37 hl (by decide) rfl (fun ls hl => ?_)
    refine lv_iload hx hb d_Model_goes_39 (lv_at hl 0 rfl) ?_
    refine lv_if_ge (tgt := 56) hx hb d_Model_goes_41 (by decide) (fun c16 => ?_) (fun c16 => ?_)
    · have hf := it c16 hf
      refine lv_aload_n hx hb d_Model_goes_56 rfl (lv_at hl 3 rfl) ?_
      refine G_model_awake X h m_f_Model_38 d_Model_goes_57 ?_
      refine lv_iload hx hb d_Model_goes_60 (lv_at hl 0 rfl) ?_
      refine lv_iconst (v := 1) hx hb d_Model_goes_62 (by decide) ?_
      obtain ⟨g17, hf⟩ := gd_s hf
      refine S_mawake X h (inb_s g17) rfl d_Model_goes_63 (fun H locs σ18 eσ18 h => ?_)
      have hf := nm_b hf eσ18
      refine lv_aload_n hx hb d_Model_goes_64 rfl (lv_at hl 3 rfl) ?_
      refine G_model_health X h m_f_Model_32 d_Model_goes_65 ?_
      refine lv_iload hx hb d_Model_goes_68 (lv_at hl 0 rfl) ?_
      refine lv_dup2_11 hx hb d_Model_goes_70 rfl rfl ?_
      obtain ⟨g19, hf⟩ := gd_s hf
      refine R_mhealth X h (inb_s g19) d_Model_goes_71 ?_
      refine lv_aload_n hx hb d_Model_goes_72 rfl (lv_at hl 3 rfl) ?_
      refine G_model_hit X h m_f_Model_87 d_Model_goes_73 ?_
      refine lv_isub hx hb d_Model_goes_76 ?_
      obtain ⟨g20, hf⟩ := gd_s hf
      refine S_mhealth X h (inb_s g20) d_Model_goes_77 (fun H locs σ21 eσ21 h => ?_)
      have hf := nm_b hf eσ21
      refine lv_aload_n hx hb d_Model_goes_78 rfl (lv_at hl 3 rfl) ?_
      refine G_model_health X h m_f_Model_32 d_Model_goes_79 ?_
      refine lv_iload hx hb d_Model_goes_82 (lv_at hl 0 rfl) ?_
      obtain ⟨g22, hf⟩ := gd_s hf
      refine R_mhealth X h (inb_s g22) d_Model_goes_84 ?_
      refine lv_if_gt (tgt := 106) hx hb d_Model_goes_85 (by decide) (fun c23 => ?_) (fun c23 => ?_)
      · have hf := it c23 hf
        refine lv_iconst (v := 1) hx hb d_Model_goes_106 (by decide) ?_
        exact rt _ _ H locs 107 ls rfl hf h d_Model_goes_107
      · have hf := ie c23 hf
        refine lv_aload_n hx hb d_Model_goes_88 rfl (lv_at hl 3 rfl) ?_
        refine G_model_gone X h m_f_Model_41 d_Model_goes_89 ?_
        refine lv_iload hx hb d_Model_goes_92 (lv_at hl 0 rfl) ?_
        refine lv_iconst (v := 1) hx hb d_Model_goes_94 (by decide) ?_
        obtain ⟨g24, hf⟩ := gd_s hf
        refine S_mgone X h (inb_s g24) rfl d_Model_goes_95 (fun H locs σ25 eσ25 h => ?_)
        have hf := nm_b hf eσ25
        refine lv_aload_n hx hb d_Model_goes_96 rfl (lv_at hl 3 rfl) ?_
        refine lv_dup hx hb d_Model_goes_97 rfl ?_
        refine G_model_went X h m_f_Model_102 d_Model_goes_98 ?_
        refine lv_iconst (v := 1) hx hb d_Model_goes_101 (by decide) ?_
        refine lv_iadd hx hb d_Model_goes_102 ?_
        refine P_model_went X h m_f_Model_102 d_Model_goes_103 (fun H locs σ26 eσ26 h => ?_)
        have hf := nm_b hf eσ26
        refine lv_iconst (v := 1) hx hb d_Model_goes_106 (by decide) ?_
        exact rt _ _ H locs 107 ls rfl hf h d_Model_goes_107
    · have hf := ie c16 hf
      refine lv_aload_n hx hb d_Model_goes_44 rfl (lv_at hl 3 rfl) ?_
      refine lv_iload_n hx hb d_Model_goes_45 rfl (lv_at hl 2 rfl) ?_
      refine P_model_px X h m_f_Model_129 d_Model_goes_46 (fun H locs σ27 eσ27 h => ?_)
      have hf := nm_b hf eσ27
      refine lv_aload_n hx hb d_Model_goes_49 rfl (lv_at hl 3 rfl) ?_
      refine lv_iload_n hx hb d_Model_goes_50 rfl (lv_at hl 1 rfl) ?_
      refine P_model_py X h m_f_Model_132 d_Model_goes_51 (fun H locs σ28 eσ28 h => ?_)
      have hf := nm_b hf eσ28
      refine lv_iconst (v := 1) hx hb d_Model_goes_54 (by decide) ?_
      exact rt _ _ H locs 55 ls rfl hf h d_Model_goes_55
  · have hf := it c12 hf
    refine lv_iconst (v := 0) hx hb d_Model_goes_29 (by decide) ?_
    exact rt _ _ H locs 30 ls rfl hf h d_Model_goes_30
theorem d_Model_make_0 : decode b_Model_make 0 = .ok (.aload_n 0, 1) := by decide +kernel
theorem d_Model_make_1 : decode b_Model_make 1 = .ok (.aload_n 0, 1) := by decide +kernel
theorem d_Model_make_2 : decode b_Model_make 2 = .ok (.getfield 73, 3) := by decide +kernel
theorem d_Model_make_5 : decode b_Model_make 5 = .ok (.invokestatic 77, 3) := by decide +kernel
theorem d_Model_make_8 : decode b_Model_make 8 = .ok (.putfield 73, 3) := by decide +kernel
theorem d_Model_make_11 : decode b_Model_make 11 = .ok (.aload_n 0, 1) := by decide +kernel
theorem d_Model_make_12 : decode b_Model_make 12 = .ok (.getfield 73, 3) := by decide +kernel
theorem d_Model_make_15 : decode b_Model_make 15 = .ok (.bipush 33, 2) := by decide +kernel
theorem d_Model_make_17 : decode b_Model_make 17 = .ok (.lushr, 1) := by decide +kernel
theorem d_Model_make_18 : decode b_Model_make 18 = .ok (.iload_n 1, 1) := by decide +kernel
theorem d_Model_make_19 : decode b_Model_make 19 = .ok (.i2l, 1) := by decide +kernel
theorem d_Model_make_20 : decode b_Model_make 20 = .ok (.lrem, 1) := by decide +kernel
theorem d_Model_make_21 : decode b_Model_make 21 = .ok (.l2i, 1) := by decide +kernel
theorem d_Model_make_22 : decode b_Model_make 22 = .ok (.ireturn, 1) := by decide +kernel
def f_Model_make (n : Nat) (x1 : Int32) (σ : St) : Option (Int32 × St) := bd (f_Model_next n (σ.2.1 0) σ) (fun r1 σ2 => bnd (sL σ2 0 r1) (fun σ4 => gd (nzl (Int32.toInt64 x1)) (some (Int64.toInt32 ((ush (σ4.2.1 0) 33) - (ush (σ4.2.1 0) 33) / (Int32.toInt64 x1) * (Int32.toInt64 x1)), σ4))))
set_option maxHeartbeats 4000000 in
set_option maxRecDepth 100000 in
theorem c_Model_make (l : Launch) (D : va_G) (ad : Nat → Nat) (cA : Nat → ClassId) (tz : Nat → Nat) (n : Nat) (x1 : Int32) (σ : St) (r : Int32) (σr : St) (hf : f_Model_make n x1 σ = some (r, σr)) : Ki l D cA tz (wm ad cA) y_Model_make (.code y_Model_make b_Model_make 2 (some .int) :: TB) ({ frames := 1, cells := 0, slots := 0, locals := 21 }) [.ref (ad 0), .int x1] σ r σr := by
  refine x_openi (own := R_Model) rfl (by decide) (fun p e s m args below meth c A Q X hml hZ hA H locs ls h hl rt => ?_)
  have hx := X.1
  have hb := X.2.1
  have hl : lv_has ls 2 [(0, .ref (ad 0)), (1, .int x1)] := hl
  unfold f_Model_make at hf
  refine lv_aload_n hx hb d_Model_make_0 rfl (lv_at hl 0 rfl) ?_
  refine lv_aload_n hx hb d_Model_make_1 rfl (lv_at hl 0 rfl) ?_
  refine G_model_making X h m_f_Model_73 d_Model_make_2 ?_
  obtain ⟨r1, σ2, h3, hf⟩ := bd_s hf
  refine x_Sl (As := [.long (σ.2.1 0)]) (rest := [.ref (ad 0)]) X hml hl.1 hZ hA h (c_Model_next l D ad cA tz n (σ.2.1 0) σ r1 σ2 h3) k_Model_next m_m_Model_77 kd_Model_next ⟨rfl, rfl, Nat.le_of_ble_eq_true rfl, Nat.le_of_ble_eq_true rfl⟩ rfl rfl (Nat.le_of_ble_eq_true rfl) d_Model_make_5 (fun H locs h => ?_)
  refine P_model_making X h m_f_Model_73 d_Model_make_8 (fun H locs σ4 eσ4 h => ?_)
  have hf := nm_b hf eσ4
  refine lv_aload_n hx hb d_Model_make_11 rfl (lv_at hl 0 rfl) ?_
  refine G_model_making X h m_f_Model_73 d_Model_make_12 ?_
  refine lv_bipush (v := 33) hx hb d_Model_make_15 (by decide) ?_
  refine lv_lushr (v := ush (σ4.2.1 0) 33) hx hb d_Model_make_17 rfl ?_
  refine lv_iload_n hx hb d_Model_make_18 rfl (lv_at hl 1 rfl) ?_
  refine lv_i2l hx hb d_Model_make_19 rfl ?_
  obtain ⟨g5, hf⟩ := gd_s hf
  refine lv_lrem hx hb d_Model_make_20 (nzl_s g5) ?_
  refine lv_l2i hx hb d_Model_make_21 rfl ?_
  exact rt _ _ H locs 22 ls hf h d_Model_make_22
theorem d_Model_dig_0 : decode b_Model_dig 0 = .ok (.iload_n 1, 1) := by decide +kernel
theorem d_Model_dig_1 : decode b_Model_dig 1 = .ok (.iload_n 3, 1) := by decide +kernel
theorem d_Model_dig_2 : decode b_Model_dig 2 = .ok (.if_icmp .ge 7, 3) := by decide +kernel
theorem d_Model_dig_5 : decode b_Model_dig 5 = .ok (.iload_n 1, 1) := by decide +kernel
theorem d_Model_dig_6 : decode b_Model_dig 6 = .ok (.goto 4, 3) := by decide +kernel
theorem d_Model_dig_9 : decode b_Model_dig 9 = .ok (.iload_n 3, 1) := by decide +kernel
theorem d_Model_dig_10 : decode b_Model_dig 10 = .ok (.istore 5, 2) := by decide +kernel
theorem d_Model_dig_12 : decode b_Model_dig 12 = .ok (.iload 5, 2) := by decide +kernel
theorem d_Model_dig_14 : decode b_Model_dig 14 = .ok (.iload_n 1, 1) := by decide +kernel
theorem d_Model_dig_15 : decode b_Model_dig 15 = .ok (.iload_n 3, 1) := by decide +kernel
theorem d_Model_dig_16 : decode b_Model_dig 16 = .ok (.if_icmp .ge 7, 3) := by decide +kernel
theorem d_Model_dig_19 : decode b_Model_dig 19 = .ok (.iload_n 3, 1) := by decide +kernel
theorem d_Model_dig_20 : decode b_Model_dig 20 = .ok (.goto 4, 3) := by decide +kernel
theorem d_Model_dig_23 : decode b_Model_dig 23 = .ok (.iload_n 1, 1) := by decide +kernel
theorem d_Model_dig_24 : decode b_Model_dig 24 = .ok (.if_icmp .gt 60, 3) := by decide +kernel
theorem d_Model_dig_27 : decode b_Model_dig 27 = .ok (.iload_n 2, 1) := by decide +kernel
theorem d_Model_dig_28 : decode b_Model_dig 28 = .ok (.iload 4, 2) := by decide +kernel
theorem d_Model_dig_30 : decode b_Model_dig 30 = .ok (.if_icmp .ge 7, 3) := by decide +kernel
theorem d_Model_dig_33 : decode b_Model_dig 33 = .ok (.iload_n 2, 1) := by decide +kernel
theorem d_Model_dig_34 : decode b_Model_dig 34 = .ok (.goto 5, 3) := by decide +kernel
theorem d_Model_dig_37 : decode b_Model_dig 37 = .ok (.iload 4, 2) := by decide +kernel
theorem d_Model_dig_39 : decode b_Model_dig 39 = .ok (.istore 6, 2) := by decide +kernel
theorem d_Model_dig_41 : decode b_Model_dig 41 = .ok (.iload 6, 2) := by decide +kernel
theorem d_Model_dig_43 : decode b_Model_dig 43 = .ok (.iload_n 2, 1) := by decide +kernel
theorem d_Model_dig_44 : decode b_Model_dig 44 = .ok (.iload 4, 2) := by decide +kernel
theorem d_Model_dig_46 : decode b_Model_dig 46 = .ok (.if_icmp .ge 8, 3) := by decide +kernel
theorem d_Model_dig_49 : decode b_Model_dig 49 = .ok (.iload 4, 2) := by decide +kernel
theorem d_Model_dig_51 : decode b_Model_dig 51 = .ok (.goto 4, 3) := by decide +kernel
theorem d_Model_dig_54 : decode b_Model_dig 54 = .ok (.iload_n 2, 1) := by decide +kernel
theorem d_Model_dig_55 : decode b_Model_dig 55 = .ok (.if_icmp .gt 23, 3) := by decide +kernel
theorem d_Model_dig_58 : decode b_Model_dig 58 = .ok (.aload_n 0, 1) := by decide +kernel
theorem d_Model_dig_59 : decode b_Model_dig 59 = .ok (.getfield 7, 3) := by decide +kernel
theorem d_Model_dig_62 : decode b_Model_dig 62 = .ok (.bipush 12, 2) := by decide +kernel
theorem d_Model_dig_64 : decode b_Model_dig 64 = .ok (.iload 6, 2) := by decide +kernel
theorem d_Model_dig_66 : decode b_Model_dig 66 = .ok (.imul, 1) := by decide +kernel
theorem d_Model_dig_67 : decode b_Model_dig 67 = .ok (.iload 5, 2) := by decide +kernel
theorem d_Model_dig_69 : decode b_Model_dig 69 = .ok (.iadd, 1) := by decide +kernel
theorem d_Model_dig_70 : decode b_Model_dig 70 = .ok (.iconst 1, 1) := by decide +kernel
theorem d_Model_dig_71 : decode b_Model_dig 71 = .ok (.iastore, 1) := by decide +kernel
theorem d_Model_dig_72 : decode b_Model_dig 72 = .ok (.iinc 6 1, 3) := by decide +kernel
theorem d_Model_dig_75 : decode b_Model_dig 75 = .ok (.goto (-34), 3) := by decide +kernel
theorem d_Model_dig_78 : decode b_Model_dig 78 = .ok (.iinc 5 1, 3) := by decide +kernel
theorem d_Model_dig_81 : decode b_Model_dig 81 = .ok (.goto (-69), 3) := by decide +kernel
theorem d_Model_dig_84 : decode b_Model_dig 84 = .ok (.return_, 1) := by decide +kernel
def f_Model_dig_55 (n : Nat) (k12 : Int32 → Int32 → Int32 → Int32 → Int32 → St → Option (Unit × St)) (k41 : Int32 → Int32 → Int32 → Int32 → Int32 → Int32 → St → Option (Unit × St)) (y1 : Int32) (y2 : Int32) (y3 : Int32) (y4 : Int32) (y5 : Int32) (y6 : Int32) (s0 : Int32) (s1 : Int32) (σ : St) : Option (Unit × St) := if s0 < s1 then (bnd (y5 + 1) (fun v7 => k12 y1 y2 y3 y4 v7 σ)) else (gd (inb ((12 * y6) + y5) 120) (bnd (sA σ 0 ((12 * y6) + y5).toNatClampNeg 1) (fun σ9 => bnd (y6 + 1) (fun v10 => k41 y1 y2 y3 y4 y5 v10 σ9))))
def f_Model_dig_41 (n : Nat) (k12 : Int32 → Int32 → Int32 → Int32 → Int32 → St → Option (Unit × St)) : Nat → Int32 → Int32 → Int32 → Int32 → Int32 → Int32 → St → Option (Unit × St)
  | 0, _, _, _, _, _, _, _ => none
  | j + 1, y1, y2, y3, y4, y5, y6, σ => if y4 ≤ y2 then (f_Model_dig_55 n k12 (fun y1 y2 y3 y4 y5 y6 σ => f_Model_dig_41 n k12 j y1 y2 y3 y4 y5 y6 σ) y1 y2 y3 y4 y5 y6 y2 y6 σ) else (f_Model_dig_55 n k12 (fun y1 y2 y3 y4 y5 y6 σ => f_Model_dig_41 n k12 j y1 y2 y3 y4 y5 y6 σ) y1 y2 y3 y4 y5 y6 y4 y6 σ)
theorem f_Model_dig_41_s (n : Nat) (k12 : Int32 → Int32 → Int32 → Int32 → Int32 → St → Option (Unit × St)) (j : Nat) (y1 : Int32) (y2 : Int32) (y3 : Int32) (y4 : Int32) (y5 : Int32) (y6 : Int32) (σ : St) : f_Model_dig_41 n k12 (j + 1) y1 y2 y3 y4 y5 y6 σ = (if y4 ≤ y2 then (f_Model_dig_55 n k12 (fun y1 y2 y3 y4 y5 y6 σ => f_Model_dig_41 n k12 j y1 y2 y3 y4 y5 y6 σ) y1 y2 y3 y4 y5 y6 y2 y6 σ) else (f_Model_dig_55 n k12 (fun y1 y2 y3 y4 y5 y6 σ => f_Model_dig_41 n k12 j y1 y2 y3 y4 y5 y6 σ) y1 y2 y3 y4 y5 y6 y4 y6 σ)) := rfl
def f_Model_dig_24 (n : Nat) (k12 : Int32 → Int32 → Int32 → Int32 → Int32 → St → Option (Unit × St)) (y1 : Int32) (y2 : Int32) (y3 : Int32) (y4 : Int32) (y5 : Int32) (s0 : Int32) (s1 : Int32) (σ : St) : Option (Unit × St) := if s0 < s1 then (some ((), σ)) else (if y4 ≤ y2 then (f_Model_dig_41 n k12 n y1 y2 y3 y4 y5 y4 σ) else (f_Model_dig_41 n k12 n y1 y2 y3 y4 y5 y2 σ))
def f_Model_dig_12 (n : Nat) : Nat → Int32 → Int32 → Int32 → Int32 → Int32 → St → Option (Unit × St)
  | 0, _, _, _, _, _, _ => none
  | j + 1, y1, y2, y3, y4, y5, σ => if y3 ≤ y1 then (f_Model_dig_24 n (fun y1 y2 y3 y4 y5 σ => f_Model_dig_12 n j y1 y2 y3 y4 y5 σ) y1 y2 y3 y4 y5 y1 y5 σ) else (f_Model_dig_24 n (fun y1 y2 y3 y4 y5 σ => f_Model_dig_12 n j y1 y2 y3 y4 y5 σ) y1 y2 y3 y4 y5 y3 y5 σ)
theorem f_Model_dig_12_s (n : Nat) (j : Nat) (y1 : Int32) (y2 : Int32) (y3 : Int32) (y4 : Int32) (y5 : Int32) (σ : St) : f_Model_dig_12 n (j + 1) y1 y2 y3 y4 y5 σ = (if y3 ≤ y1 then (f_Model_dig_24 n (fun y1 y2 y3 y4 y5 σ => f_Model_dig_12 n j y1 y2 y3 y4 y5 σ) y1 y2 y3 y4 y5 y1 y5 σ) else (f_Model_dig_24 n (fun y1 y2 y3 y4 y5 σ => f_Model_dig_12 n j y1 y2 y3 y4 y5 σ) y1 y2 y3 y4 y5 y3 y5 σ)) := rfl
def f_Model_dig (n : Nat) (x1 : Int32) (x2 : Int32) (x3 : Int32) (x4 : Int32) (σ : St) : Option (Unit × St) := if x3 ≤ x1 then (f_Model_dig_12 n n x1 x2 x3 x4 x3 σ) else (f_Model_dig_12 n n x1 x2 x3 x4 x1 σ)
set_option maxHeartbeats 4000000 in
set_option maxRecDepth 100000 in
theorem c_Model_dig (l : Launch) (D : va_G) (ad : Nat → Nat) (cA : Nat → ClassId) (tz : Nat → Nat) (n : Nat) (x1 : Int32) (x2 : Int32) (x3 : Int32) (x4 : Int32) (σ : St) (r : Unit) (σr : St) (hf : f_Model_dig n x1 x2 x3 x4 σ = some (r, σr)) : Kv l D cA tz (wm ad cA) y_Model_dig (.code y_Model_dig b_Model_dig 7 none :: TB) ({ frames := 0, cells := 0, slots := 0, locals := 0 }) [.ref (ad 0), .int x1, .int x2, .int x3, .int x4] σ σr := by
  refine x_openv (r := r) (own := R_Model) rfl (by decide) (fun p e s m args below meth c A Q X hml hZ hA H locs ls h hl rt => ?_)
  have hx := X.1
  have hb := X.2.1
  have hl : lv_has ls 7 [(0, .ref (ad 0)), (1, .int x1), (2, .int x2), (3, .int x3), (4, .int x4)] := hl
  have L55 : ∀ (k12 : Int32 → Int32 → Int32 → Int32 → Int32 → St → Option (Unit × St)), (∀ (y1 : Int32) (y2 : Int32) (y3 : Int32) (y4 : Int32) (y5 : Int32) (σ : St), k12 y1 y2 y3 y4 y5 σ = some (r, σr) → ∀ (H : Heap) (locs : List Loc) (ls : Array Slot), WD D A s (wm ad cA σ) H locs → lv_has ls 7 [(0, .ref (ad 0)), (1, .int y1), (2, .int y2), (3, .int y3), (4, .int y4), (5, .int y5)] → W p l e ({ frames := 0, cells := 0, slots := 0, locals := 0 }) s m args below meth c H locs 0 0 Q (F0 m 12 ls [])) → ∀ (k41 : Int32 → Int32 → Int32 → Int32 → Int32 → Int32 → St → Option (Unit × St)), (∀ (y1 : Int32) (y2 : Int32) (y3 : Int32) (y4 : Int32) (y5 : Int32) (y6 : Int32) (σ : St), k41 y1 y2 y3 y4 y5 y6 σ = some (r, σr) → ∀ (H : Heap) (locs : List Loc) (ls : Array Slot), WD D A s (wm ad cA σ) H locs → lv_has ls 7 [(0, .ref (ad 0)), (1, .int y1), (2, .int y2), (3, .int y3), (4, .int y4), (5, .int y5), (6, .int y6)] → W p l e ({ frames := 0, cells := 0, slots := 0, locals := 0 }) s m args below meth c H locs 0 0 Q (F0 m 41 ls [])) → ∀ (y1 : Int32) (y2 : Int32) (y3 : Int32) (y4 : Int32) (y5 : Int32) (y6 : Int32) (s0 : Int32) (s1 : Int32) (σ : St), f_Model_dig_55 n k12 k41 y1 y2 y3 y4 y5 y6 s0 s1 σ = some (r, σr) → ∀ (H : Heap) (locs : List Loc) (ls : Array Slot), WD D A s (wm ad cA σ) H locs → lv_has ls 7 [(0, .ref (ad 0)), (1, .int y1), (2, .int y2), (3, .int y3), (4, .int y4), (5, .int y5), (6, .int y6)] → W p l e ({ frames := 0, cells := 0, slots := 0, locals := 0 }) s m args below meth c H locs 0 0 Q (F0 m 55 ls [.int s0, .int s1]) := by
    intro k12 K12 k41 K41
    intro y1 y2 y3 y4 y5 y6 s0 s1 σ hf H locs ls h hl
    unfold f_Model_dig_55 at hf
    refine lv_icmp_gt (tgt := 78) hx hb d_Model_dig_55 (by decide) (fun c6 => ?_) (fun c6 => ?_)
    · have hf := it c6 hf
      obtain ⟨v7, ev7⟩ : ∃ y : Int32, y = y5 + 1 := ⟨_, rfl⟩
      have hf := nm_b hf ev7
      refine lv_iinc (v := v7) (lv' := [(5, .int v7), (0, .ref (ad 0)), (1, .int y1), (2, .int y2), (3, .int y3), (4, .int y4), (6, .int y6)]) hx hb d_Model_dig_78 hl (k := 5) rfl (by rw [ev7]; rfl) (by decide) rfl (fun ls hl => ?_)
      refine lv_goto (tgt := 12) hx hb d_Model_dig_81 (by decide) ?_
      exact K12 y1 y2 y3 y4 v7 σ hf H locs ls h (lv_sub hl [1, 2, 3, 4, 5, 0] rfl)
    · have hf := ie c6 hf
      refine lv_aload_n hx hb d_Model_dig_58 rfl (lv_at hl 0 rfl) ?_
      refine G_model_floor X h m_f_Model_7 d_Model_dig_59 ?_
      refine lv_bipush (v := 12) hx hb d_Model_dig_62 (by decide) ?_
      refine lv_iload hx hb d_Model_dig_64 (lv_at hl 6 rfl) ?_
      refine lv_imul hx hb d_Model_dig_66 ?_
      refine lv_iload hx hb d_Model_dig_67 (lv_at hl 5 rfl) ?_
      refine lv_iadd hx hb d_Model_dig_69 ?_
      refine lv_iconst (v := 1) hx hb d_Model_dig_70 (by decide) ?_
      obtain ⟨g8, hf⟩ := gd_s hf
      refine S_mfloor X h (inb_s g8) d_Model_dig_71 (fun H locs σ9 eσ9 h => ?_)
      have hf := nm_b hf eσ9
      obtain ⟨v10, ev10⟩ : ∃ y : Int32, y = y6 + 1 := ⟨_, rfl⟩
      have hf := nm_b hf ev10
      refine lv_iinc (v := v10) (lv' := [(6, .int v10), (0, .ref (ad 0)), (1, .int y1), (2, .int y2), (3, .int y3), (4, .int y4), (5, .int y5)]) hx hb d_Model_dig_72 hl (k := 6) rfl (by rw [ev10]; rfl) (by decide) rfl (fun ls hl => ?_)
      refine lv_goto (tgt := 41) hx hb d_Model_dig_75 (by decide) ?_
      exact K41 y1 y2 y3 y4 y5 v10 σ9 hf H locs ls h (lv_sub hl [1, 2, 3, 4, 5, 6, 0] rfl)
  have L41 : ∀ (k12 : Int32 → Int32 → Int32 → Int32 → Int32 → St → Option (Unit × St)), (∀ (y1 : Int32) (y2 : Int32) (y3 : Int32) (y4 : Int32) (y5 : Int32) (σ : St), k12 y1 y2 y3 y4 y5 σ = some (r, σr) → ∀ (H : Heap) (locs : List Loc) (ls : Array Slot), WD D A s (wm ad cA σ) H locs → lv_has ls 7 [(0, .ref (ad 0)), (1, .int y1), (2, .int y2), (3, .int y3), (4, .int y4), (5, .int y5)] → W p l e ({ frames := 0, cells := 0, slots := 0, locals := 0 }) s m args below meth c H locs 0 0 Q (F0 m 12 ls [])) → ∀ j : Nat, ∀ (y1 : Int32) (y2 : Int32) (y3 : Int32) (y4 : Int32) (y5 : Int32) (y6 : Int32) (σ : St), f_Model_dig_41 n k12 j y1 y2 y3 y4 y5 y6 σ = some (r, σr) → ∀ (H : Heap) (locs : List Loc) (ls : Array Slot), WD D A s (wm ad cA σ) H locs → lv_has ls 7 [(0, .ref (ad 0)), (1, .int y1), (2, .int y2), (3, .int y3), (4, .int y4), (5, .int y5), (6, .int y6)] → W p l e ({ frames := 0, cells := 0, slots := 0, locals := 0 }) s m args below meth c H locs 0 0 Q (F0 m 41 ls []) := by
    intro k12 K12
    intro j
    induction j with
    | zero => intro y1 y2 y3 y4 y5 y6 σ hf; exact absurd hf (fun z => by cases z)
    | succ j ih =>
      intro y1 y2 y3 y4 y5 y6 σ hf H locs ls h hl
      have hf := us (f_Model_dig_41_s n k12 j y1 y2 y3 y4 y5 y6 σ) hf
      refine lv_iload hx hb d_Model_dig_41 (lv_at hl 6 rfl) ?_
      refine lv_iload_n hx hb d_Model_dig_43 rfl (lv_at hl 2 rfl) ?_
      refine lv_iload hx hb d_Model_dig_44 (lv_at hl 4 rfl) ?_
      refine lv_icmp_ge (tgt := 54) hx hb d_Model_dig_46 (by decide) (fun c5 => ?_) (fun c5 => ?_)
      · have hf := it c5 hf
        refine lv_iload_n hx hb d_Model_dig_54 rfl (lv_at hl 2 rfl) ?_
        exact L55 k12 K12 (fun y1 y2 y3 y4 y5 y6 σ => f_Model_dig_41 n k12 j y1 y2 y3 y4 y5 y6 σ) ih y1 y2 y3 y4 y5 y6 y2 y6 σ hf H locs ls h (lv_sub hl [0, 1, 2, 3, 4, 5, 6] rfl)
      · have hf := ie c5 hf
        refine lv_iload hx hb d_Model_dig_49 (lv_at hl 4 rfl) ?_
        refine lv_goto (tgt := 55) hx hb d_Model_dig_51 (by decide) ?_
        exact L55 k12 K12 (fun y1 y2 y3 y4 y5 y6 σ => f_Model_dig_41 n k12 j y1 y2 y3 y4 y5 y6 σ) ih y1 y2 y3 y4 y5 y6 y4 y6 σ hf H locs ls h (lv_sub hl [0, 1, 2, 3, 4, 5, 6] rfl)
  have L24 : ∀ (k12 : Int32 → Int32 → Int32 → Int32 → Int32 → St → Option (Unit × St)), (∀ (y1 : Int32) (y2 : Int32) (y3 : Int32) (y4 : Int32) (y5 : Int32) (σ : St), k12 y1 y2 y3 y4 y5 σ = some (r, σr) → ∀ (H : Heap) (locs : List Loc) (ls : Array Slot), WD D A s (wm ad cA σ) H locs → lv_has ls 7 [(0, .ref (ad 0)), (1, .int y1), (2, .int y2), (3, .int y3), (4, .int y4), (5, .int y5)] → W p l e ({ frames := 0, cells := 0, slots := 0, locals := 0 }) s m args below meth c H locs 0 0 Q (F0 m 12 ls [])) → ∀ (y1 : Int32) (y2 : Int32) (y3 : Int32) (y4 : Int32) (y5 : Int32) (s0 : Int32) (s1 : Int32) (σ : St), f_Model_dig_24 n k12 y1 y2 y3 y4 y5 s0 s1 σ = some (r, σr) → ∀ (H : Heap) (locs : List Loc) (ls : Array Slot), WD D A s (wm ad cA σ) H locs → lv_has ls 7 [(0, .ref (ad 0)), (1, .int y1), (2, .int y2), (3, .int y3), (4, .int y4), (5, .int y5)] → W p l e ({ frames := 0, cells := 0, slots := 0, locals := 0 }) s m args below meth c H locs 0 0 Q (F0 m 24 ls [.int s0, .int s1]) := by
    intro k12 K12
    intro y1 y2 y3 y4 y5 s0 s1 σ hf H locs ls h hl
    unfold f_Model_dig_24 at hf
    refine lv_icmp_gt (tgt := 84) hx hb d_Model_dig_24 (by decide) (fun c3 => ?_) (fun c3 => ?_)
    · have hf := it c3 hf
      exact rt _ H locs 84 ls hf h d_Model_dig_84
    · have hf := ie c3 hf
      refine lv_iload_n hx hb d_Model_dig_27 rfl (lv_at hl 2 rfl) ?_
      refine lv_iload hx hb d_Model_dig_28 (lv_at hl 4 rfl) ?_
      refine lv_icmp_ge (tgt := 37) hx hb d_Model_dig_30 (by decide) (fun c4 => ?_) (fun c4 => ?_)
      · have hf := it c4 hf
        refine lv_iload hx hb d_Model_dig_37 (lv_at hl 4 rfl) ?_
        refine lv_istore (lv' := [(6, .int y4), (0, .ref (ad 0)), (1, .int y1), (2, .int y2), (3, .int y3), (4, .int y4), (5, .int y5)]) hx hb d_Model_dig_39 hl (by decide) rfl (fun ls hl => ?_)
        exact L41 k12 K12 n y1 y2 y3 y4 y5 y4 σ hf H locs ls h (lv_sub hl [1, 2, 3, 4, 5, 6, 0] rfl)
      · have hf := ie c4 hf
        refine lv_iload_n hx hb d_Model_dig_33 rfl (lv_at hl 2 rfl) ?_
        refine lv_goto (tgt := 39) hx hb d_Model_dig_34 (by decide) ?_
        refine lv_istore (lv' := [(6, .int y2), (0, .ref (ad 0)), (1, .int y1), (2, .int y2), (3, .int y3), (4, .int y4), (5, .int y5)]) hx hb d_Model_dig_39 hl (by decide) rfl (fun ls hl => ?_)
        exact L41 k12 K12 n y1 y2 y3 y4 y5 y2 σ hf H locs ls h (lv_sub hl [1, 2, 3, 4, 5, 6, 0] rfl)
  have L12 : ∀ j : Nat, ∀ (y1 : Int32) (y2 : Int32) (y3 : Int32) (y4 : Int32) (y5 : Int32) (σ : St), f_Model_dig_12 n j y1 y2 y3 y4 y5 σ = some (r, σr) → ∀ (H : Heap) (locs : List Loc) (ls : Array Slot), WD D A s (wm ad cA σ) H locs → lv_has ls 7 [(0, .ref (ad 0)), (1, .int y1), (2, .int y2), (3, .int y3), (4, .int y4), (5, .int y5)] → W p l e ({ frames := 0, cells := 0, slots := 0, locals := 0 }) s m args below meth c H locs 0 0 Q (F0 m 12 ls []) := by
    intro j
    induction j with
    | zero => intro y1 y2 y3 y4 y5 σ hf; exact absurd hf (fun z => by cases z)
    | succ j ih =>
      intro y1 y2 y3 y4 y5 σ hf H locs ls h hl
      have hf := us (f_Model_dig_12_s n j y1 y2 y3 y4 y5 σ) hf
      refine lv_iload hx hb d_Model_dig_12 (lv_at hl 5 rfl) ?_
      refine lv_iload_n hx hb d_Model_dig_14 rfl (lv_at hl 1 rfl) ?_
      refine lv_iload_n hx hb d_Model_dig_15 rfl (lv_at hl 3 rfl) ?_
      refine lv_icmp_ge (tgt := 23) hx hb d_Model_dig_16 (by decide) (fun c2 => ?_) (fun c2 => ?_)
      · have hf := it c2 hf
        refine lv_iload_n hx hb d_Model_dig_23 rfl (lv_at hl 1 rfl) ?_
        exact L24 (fun y1 y2 y3 y4 y5 σ => f_Model_dig_12 n j y1 y2 y3 y4 y5 σ) ih y1 y2 y3 y4 y5 y1 y5 σ hf H locs ls h (lv_sub hl [0, 1, 2, 3, 4, 5] rfl)
      · have hf := ie c2 hf
        refine lv_iload_n hx hb d_Model_dig_19 rfl (lv_at hl 3 rfl) ?_
        refine lv_goto (tgt := 24) hx hb d_Model_dig_20 (by decide) ?_
        exact L24 (fun y1 y2 y3 y4 y5 σ => f_Model_dig_12 n j y1 y2 y3 y4 y5 σ) ih y1 y2 y3 y4 y5 y3 y5 σ hf H locs ls h (lv_sub hl [0, 1, 2, 3, 4, 5] rfl)
  unfold f_Model_dig at hf
  refine lv_iload_n hx hb d_Model_dig_0 rfl (lv_at hl 1 rfl) ?_
  refine lv_iload_n hx hb d_Model_dig_1 rfl (lv_at hl 3 rfl) ?_
  refine lv_icmp_ge (tgt := 9) hx hb d_Model_dig_2 (by decide) (fun c1 => ?_) (fun c1 => ?_)
  · have hf := it c1 hf
    refine lv_iload_n hx hb d_Model_dig_9 rfl (lv_at hl 3 rfl) ?_
    refine lv_istore (lv' := [(5, .int x3), (0, .ref (ad 0)), (1, .int x1), (2, .int x2), (3, .int x3), (4, .int x4)]) hx hb d_Model_dig_10 hl (by decide) rfl (fun ls hl => ?_)
    exact L12 n x1 x2 x3 x4 x3 σ hf H locs ls h (lv_sub hl [1, 2, 3, 4, 5, 0] rfl)
  · have hf := ie c1 hf
    refine lv_iload_n hx hb d_Model_dig_5 rfl (lv_at hl 1 rfl) ?_
    refine lv_goto (tgt := 10) hx hb d_Model_dig_6 (by decide) ?_
    refine lv_istore (lv' := [(5, .int x1), (0, .ref (ad 0)), (1, .int x1), (2, .int x2), (3, .int x3), (4, .int x4)]) hx hb d_Model_dig_10 hl (by decide) rfl (fun ls hl => ?_)
    exact L12 n x1 x2 x3 x4 x1 σ hf H locs ls h (lv_sub hl [1, 2, 3, 4, 5, 0] rfl)
theorem d_Model_way_0 : decode b_Model_way 0 = .ok (.aload_n 0, 1) := by decide +kernel
theorem d_Model_way_1 : decode b_Model_way 1 = .ok (.getfield 44, 3) := by decide +kernel
theorem d_Model_way_4 : decode b_Model_way 4 = .ok (.iload_n 1, 1) := by decide +kernel
theorem d_Model_way_5 : decode b_Model_way 5 = .ok (.iaload, 1) := by decide +kernel
theorem d_Model_way_6 : decode b_Model_way 6 = .ok (.aload_n 0, 1) := by decide +kernel
theorem d_Model_way_7 : decode b_Model_way 7 = .ok (.getfield 50, 3) := by decide +kernel
theorem d_Model_way_10 : decode b_Model_way 10 = .ok (.iload_n 1, 1) := by decide +kernel
theorem d_Model_way_11 : decode b_Model_way 11 = .ok (.iaload, 1) := by decide +kernel
theorem d_Model_way_12 : decode b_Model_way 12 = .ok (.iconst 2, 1) := by decide +kernel
theorem d_Model_way_13 : decode b_Model_way 13 = .ok (.idiv, 1) := by decide +kernel
theorem d_Model_way_14 : decode b_Model_way 14 = .ok (.iadd, 1) := by decide +kernel
theorem d_Model_way_15 : decode b_Model_way 15 = .ok (.istore_n 3, 1) := by decide +kernel
theorem d_Model_way_16 : decode b_Model_way 16 = .ok (.aload_n 0, 1) := by decide +kernel
theorem d_Model_way_17 : decode b_Model_way 17 = .ok (.getfield 47, 3) := by decide +kernel
theorem d_Model_way_20 : decode b_Model_way 20 = .ok (.iload_n 1, 1) := by decide +kernel
theorem d_Model_way_21 : decode b_Model_way 21 = .ok (.iaload, 1) := by decide +kernel
theorem d_Model_way_22 : decode b_Model_way 22 = .ok (.aload_n 0, 1) := by decide +kernel
theorem d_Model_way_23 : decode b_Model_way 23 = .ok (.getfield 53, 3) := by decide +kernel
theorem d_Model_way_26 : decode b_Model_way 26 = .ok (.iload_n 1, 1) := by decide +kernel
theorem d_Model_way_27 : decode b_Model_way 27 = .ok (.iaload, 1) := by decide +kernel
theorem d_Model_way_28 : decode b_Model_way 28 = .ok (.iconst 2, 1) := by decide +kernel
theorem d_Model_way_29 : decode b_Model_way 29 = .ok (.idiv, 1) := by decide +kernel
theorem d_Model_way_30 : decode b_Model_way 30 = .ok (.iadd, 1) := by decide +kernel
theorem d_Model_way_31 : decode b_Model_way 31 = .ok (.istore 4, 2) := by decide +kernel
theorem d_Model_way_33 : decode b_Model_way 33 = .ok (.aload_n 0, 1) := by decide +kernel
theorem d_Model_way_34 : decode b_Model_way 34 = .ok (.getfield 44, 3) := by decide +kernel
theorem d_Model_way_37 : decode b_Model_way 37 = .ok (.iload_n 2, 1) := by decide +kernel
theorem d_Model_way_38 : decode b_Model_way 38 = .ok (.iaload, 1) := by decide +kernel
theorem d_Model_way_39 : decode b_Model_way 39 = .ok (.aload_n 0, 1) := by decide +kernel
theorem d_Model_way_40 : decode b_Model_way 40 = .ok (.getfield 50, 3) := by decide +kernel
theorem d_Model_way_43 : decode b_Model_way 43 = .ok (.iload_n 2, 1) := by decide +kernel
theorem d_Model_way_44 : decode b_Model_way 44 = .ok (.iaload, 1) := by decide +kernel
theorem d_Model_way_45 : decode b_Model_way 45 = .ok (.iconst 2, 1) := by decide +kernel
theorem d_Model_way_46 : decode b_Model_way 46 = .ok (.idiv, 1) := by decide +kernel
theorem d_Model_way_47 : decode b_Model_way 47 = .ok (.iadd, 1) := by decide +kernel
theorem d_Model_way_48 : decode b_Model_way 48 = .ok (.istore 5, 2) := by decide +kernel
theorem d_Model_way_50 : decode b_Model_way 50 = .ok (.aload_n 0, 1) := by decide +kernel
theorem d_Model_way_51 : decode b_Model_way 51 = .ok (.getfield 47, 3) := by decide +kernel
theorem d_Model_way_54 : decode b_Model_way 54 = .ok (.iload_n 2, 1) := by decide +kernel
theorem d_Model_way_55 : decode b_Model_way 55 = .ok (.iaload, 1) := by decide +kernel
theorem d_Model_way_56 : decode b_Model_way 56 = .ok (.aload_n 0, 1) := by decide +kernel
theorem d_Model_way_57 : decode b_Model_way 57 = .ok (.getfield 53, 3) := by decide +kernel
theorem d_Model_way_60 : decode b_Model_way 60 = .ok (.iload_n 2, 1) := by decide +kernel
theorem d_Model_way_61 : decode b_Model_way 61 = .ok (.iaload, 1) := by decide +kernel
theorem d_Model_way_62 : decode b_Model_way 62 = .ok (.iconst 2, 1) := by decide +kernel
theorem d_Model_way_63 : decode b_Model_way 63 = .ok (.idiv, 1) := by decide +kernel
theorem d_Model_way_64 : decode b_Model_way 64 = .ok (.iadd, 1) := by decide +kernel
theorem d_Model_way_65 : decode b_Model_way 65 = .ok (.istore 6, 2) := by decide +kernel
theorem d_Model_way_67 : decode b_Model_way 67 = .ok (.aload_n 0, 1) := by decide +kernel
theorem d_Model_way_68 : decode b_Model_way 68 = .ok (.iconst 2, 1) := by decide +kernel
theorem d_Model_way_69 : decode b_Model_way 69 = .ok (.invokevirtual 112, 3) := by decide +kernel
theorem d_Model_way_72 : decode b_Model_way 72 = .ok (.ifCond .ne 29, 3) := by decide +kernel
theorem d_Model_way_75 : decode b_Model_way 75 = .ok (.aload_n 0, 1) := by decide +kernel
theorem d_Model_way_76 : decode b_Model_way 76 = .ok (.iload_n 3, 1) := by decide +kernel
theorem d_Model_way_77 : decode b_Model_way 77 = .ok (.iload 4, 2) := by decide +kernel
theorem d_Model_way_79 : decode b_Model_way 79 = .ok (.iload 5, 2) := by decide +kernel
theorem d_Model_way_81 : decode b_Model_way 81 = .ok (.iload 4, 2) := by decide +kernel
theorem d_Model_way_83 : decode b_Model_way 83 = .ok (.invokevirtual 116, 3) := by decide +kernel
theorem d_Model_way_86 : decode b_Model_way 86 = .ok (.aload_n 0, 1) := by decide +kernel
theorem d_Model_way_87 : decode b_Model_way 87 = .ok (.iload 5, 2) := by decide +kernel
theorem d_Model_way_89 : decode b_Model_way 89 = .ok (.iload 4, 2) := by decide +kernel
theorem d_Model_way_91 : decode b_Model_way 91 = .ok (.iload 5, 2) := by decide +kernel
theorem d_Model_way_93 : decode b_Model_way 93 = .ok (.iload 6, 2) := by decide +kernel
theorem d_Model_way_95 : decode b_Model_way 95 = .ok (.invokevirtual 116, 3) := by decide +kernel
theorem d_Model_way_98 : decode b_Model_way 98 = .ok (.goto 24, 3) := by decide +kernel
theorem d_Model_way_101 : decode b_Model_way 101 = .ok (.aload_n 0, 1) := by decide +kernel
theorem d_Model_way_102 : decode b_Model_way 102 = .ok (.iload_n 3, 1) := by decide +kernel
theorem d_Model_way_103 : decode b_Model_way 103 = .ok (.iload 4, 2) := by decide +kernel
theorem d_Model_way_105 : decode b_Model_way 105 = .ok (.iload_n 3, 1) := by decide +kernel
theorem d_Model_way_106 : decode b_Model_way 106 = .ok (.iload 6, 2) := by decide +kernel
theorem d_Model_way_108 : decode b_Model_way 108 = .ok (.invokevirtual 116, 3) := by decide +kernel
theorem d_Model_way_111 : decode b_Model_way 111 = .ok (.aload_n 0, 1) := by decide +kernel
theorem d_Model_way_112 : decode b_Model_way 112 = .ok (.iload_n 3, 1) := by decide +kernel
theorem d_Model_way_113 : decode b_Model_way 113 = .ok (.iload 6, 2) := by decide +kernel
theorem d_Model_way_115 : decode b_Model_way 115 = .ok (.iload 5, 2) := by decide +kernel
theorem d_Model_way_117 : decode b_Model_way 117 = .ok (.iload 6, 2) := by decide +kernel
theorem d_Model_way_119 : decode b_Model_way 119 = .ok (.invokevirtual 116, 3) := by decide +kernel
theorem d_Model_way_122 : decode b_Model_way 122 = .ok (.return_, 1) := by decide +kernel
def f_Model_way (n : Nat) (x1 : Int32) (x2 : Int32) (σ : St) : Option (Unit × St) := gd (inb x1 4) (gd (inb x1 4) (bnd ((σ.2.2 11 x1.toNatClampNeg) + ((σ.2.2 13 x1.toNatClampNeg) / 2)) (fun v3 => gd (inb x1 4) (gd (inb x1 4) (bnd ((σ.2.2 12 x1.toNatClampNeg) + ((σ.2.2 14 x1.toNatClampNeg) / 2)) (fun v6 => gd (inb x2 4) (gd (inb x2 4) (bnd ((σ.2.2 11 x2.toNatClampNeg) + ((σ.2.2 13 x2.toNatClampNeg) / 2)) (fun v9 => gd (inb x2 4) (gd (inb x2 4) (bnd ((σ.2.2 12 x2.toNatClampNeg) + ((σ.2.2 14 x2.toNatClampNeg) / 2)) (fun v12 => bd (f_Model_make n 2 σ) (fun r13 σ14 => if r13 = 0 then (bd (f_Model_dig n v3 v6 v9 v6 σ14) (fun _ σ24 => bd (f_Model_dig n v9 v6 v9 v12 σ24) (fun _ σ27 => some ((), σ27)))) else (bd (f_Model_dig n v3 v6 v3 v12 σ14) (fun _ σ18 => bd (f_Model_dig n v3 v12 v9 v12 σ18) (fun _ σ21 => some ((), σ21)))))))))))))))))
set_option maxHeartbeats 4000000 in
set_option maxRecDepth 100000 in
theorem c_Model_way (l : Launch) (D : va_G) (ad : Nat → Nat) (cA : Nat → ClassId) (tz : Nat → Nat) (n : Nat) (x1 : Int32) (x2 : Int32) (σ : St) (r : Unit) (σr : St) (hf : f_Model_way n x1 x2 σ = some (r, σr)) : Kv l D cA tz (wm ad cA) y_Model_way (.code y_Model_way b_Model_way 7 none :: TB) ({ frames := 2, cells := 0, slots := 0, locals := 42 }) [.ref (ad 0), .int x1, .int x2] σ σr := by
  refine x_openv (r := r) (own := R_Model) rfl (by decide) (fun p e s m args below meth c A Q X hml hZ hA H locs ls h hl rt => ?_)
  have hx := X.1
  have hb := X.2.1
  have hl : lv_has ls 7 [(0, .ref (ad 0)), (1, .int x1), (2, .int x2)] := hl
  unfold f_Model_way at hf
  refine lv_aload_n hx hb d_Model_way_0 rfl (lv_at hl 0 rfl) ?_
  refine G_model_left X h m_f_Model_44 d_Model_way_1 ?_
  refine lv_iload_n hx hb d_Model_way_4 rfl (lv_at hl 1 rfl) ?_
  obtain ⟨g1, hf⟩ := gd_s hf
  refine R_mleft X h (inb_s g1) d_Model_way_5 ?_
  refine lv_aload_n hx hb d_Model_way_6 rfl (lv_at hl 0 rfl) ?_
  refine G_model_wide X h m_f_Model_50 d_Model_way_7 ?_
  refine lv_iload_n hx hb d_Model_way_10 rfl (lv_at hl 1 rfl) ?_
  obtain ⟨g2, hf⟩ := gd_s hf
  refine R_mwide X h (inb_s g2) d_Model_way_11 ?_
  refine lv_iconst (v := 2) hx hb d_Model_way_12 (by decide) ?_
  refine lv_idiv hx hb d_Model_way_13 (by decide) ?_
  refine lv_iadd hx hb d_Model_way_14 ?_
  refine lv_topi (fun v3 ev3 => ?_)
  have hf := nm_b hf ev3
  refine lv_istore_n (lv' := [(3, .int v3), (0, .ref (ad 0)), (1, .int x1), (2, .int x2)]) hx hb d_Model_way_15 rfl hl (by decide) rfl (fun ls hl => ?_)
  refine lv_aload_n hx hb d_Model_way_16 rfl (lv_at hl 1 rfl) ?_
  refine G_model_top X h m_f_Model_47 d_Model_way_17 ?_
  refine lv_iload_n hx hb d_Model_way_20 rfl (lv_at hl 2 rfl) ?_
  obtain ⟨g4, hf⟩ := gd_s hf
  refine R_mtop X h (inb_s g4) d_Model_way_21 ?_
  refine lv_aload_n hx hb d_Model_way_22 rfl (lv_at hl 1 rfl) ?_
  refine G_model_high X h m_f_Model_53 d_Model_way_23 ?_
  refine lv_iload_n hx hb d_Model_way_26 rfl (lv_at hl 2 rfl) ?_
  obtain ⟨g5, hf⟩ := gd_s hf
  refine R_mhigh X h (inb_s g5) d_Model_way_27 ?_
  refine lv_iconst (v := 2) hx hb d_Model_way_28 (by decide) ?_
  refine lv_idiv hx hb d_Model_way_29 (by decide) ?_
  refine lv_iadd hx hb d_Model_way_30 ?_
  refine lv_topi (fun v6 ev6 => ?_)
  have hf := nm_b hf ev6
  refine lv_istore (lv' := [(4, .int v6), (3, .int v3), (0, .ref (ad 0)), (1, .int x1), (2, .int x2)]) hx hb d_Model_way_31 hl (by decide) rfl (fun ls hl => ?_)
  refine lv_aload_n hx hb d_Model_way_33 rfl (lv_at hl 2 rfl) ?_
  refine G_model_left X h m_f_Model_44 d_Model_way_34 ?_
  refine lv_iload_n hx hb d_Model_way_37 rfl (lv_at hl 4 rfl) ?_
  obtain ⟨g7, hf⟩ := gd_s hf
  refine R_mleft X h (inb_s g7) d_Model_way_38 ?_
  refine lv_aload_n hx hb d_Model_way_39 rfl (lv_at hl 2 rfl) ?_
  refine G_model_wide X h m_f_Model_50 d_Model_way_40 ?_
  refine lv_iload_n hx hb d_Model_way_43 rfl (lv_at hl 4 rfl) ?_
  obtain ⟨g8, hf⟩ := gd_s hf
  refine R_mwide X h (inb_s g8) d_Model_way_44 ?_
  refine lv_iconst (v := 2) hx hb d_Model_way_45 (by decide) ?_
  refine lv_idiv hx hb d_Model_way_46 (by decide) ?_
  refine lv_iadd hx hb d_Model_way_47 ?_
  refine lv_topi (fun v9 ev9 => ?_)
  have hf := nm_b hf ev9
  refine lv_istore (lv' := [(5, .int v9), (4, .int v6), (3, .int v3), (0, .ref (ad 0)), (1, .int x1), (2, .int x2)]) hx hb d_Model_way_48 hl (by decide) rfl (fun ls hl => ?_)
  refine lv_aload_n hx hb d_Model_way_50 rfl (lv_at hl 3 rfl) ?_
  refine G_model_top X h m_f_Model_47 d_Model_way_51 ?_
  refine lv_iload_n hx hb d_Model_way_54 rfl (lv_at hl 5 rfl) ?_
  obtain ⟨g10, hf⟩ := gd_s hf
  refine R_mtop X h (inb_s g10) d_Model_way_55 ?_
  refine lv_aload_n hx hb d_Model_way_56 rfl (lv_at hl 3 rfl) ?_
  refine G_model_high X h m_f_Model_53 d_Model_way_57 ?_
  refine lv_iload_n hx hb d_Model_way_60 rfl (lv_at hl 5 rfl) ?_
  obtain ⟨g11, hf⟩ := gd_s hf
  refine R_mhigh X h (inb_s g11) d_Model_way_61 ?_
  refine lv_iconst (v := 2) hx hb d_Model_way_62 (by decide) ?_
  refine lv_idiv hx hb d_Model_way_63 (by decide) ?_
  refine lv_iadd hx hb d_Model_way_64 ?_
  refine lv_topi (fun v12 ev12 => ?_)
  have hf := nm_b hf ev12
  refine lv_istore (lv' := [(6, .int v12), (5, .int v9), (4, .int v6), (3, .int v3), (0, .ref (ad 0)), (1, .int x1), (2, .int x2)]) hx hb d_Model_way_65 hl (by decide) rfl (fun ls hl => ?_)
  refine lv_aload_n hx hb d_Model_way_67 rfl (lv_at hl 4 rfl) ?_
  refine lv_iconst (v := 2) hx hb d_Model_way_68 (by decide) ?_
  obtain ⟨r13, σ14, h15, hf⟩ := bd_s hf
  refine x_Vi (As := [.int 2]) (rest := []) X hml hl.1 hZ hA h (c_Model_make l D ad cA tz n 2 σ r13 σ14 h15) k_Model_make m_m_Model_112 kd_Model_make ⟨rfl, rfl, Nat.le_of_ble_eq_true rfl, Nat.le_of_ble_eq_true rfl⟩ 0 rfl rfl rfl rfl rfl (Nat.le_of_ble_eq_true rfl) d_Model_way_69 (fun H locs h => ?_)
  refine lv_if_ne (tgt := 101) hx hb d_Model_way_72 (by decide) (fun c16 => ?_) (fun c16 => ?_)
  · have hf := ie c16 hf
    refine lv_aload_n hx hb d_Model_way_101 rfl (lv_at hl 4 rfl) ?_
    refine lv_iload_n hx hb d_Model_way_102 rfl (lv_at hl 3 rfl) ?_
    refine lv_iload hx hb d_Model_way_103 (lv_at hl 2 rfl) ?_
    refine lv_iload_n hx hb d_Model_way_105 rfl (lv_at hl 3 rfl) ?_
    refine lv_iload hx hb d_Model_way_106 (lv_at hl 0 rfl) ?_
    obtain ⟨r17, σ18, h19, hf⟩ := bd_s hf
    refine x_Vv (As := [.int v3, .int v6, .int v3, .int v12]) (rest := []) X hml hl.1 hZ hA h (c_Model_dig l D ad cA tz n v3 v6 v3 v12 σ14 r17 σ18 h19) k_Model_dig m_m_Model_116 kd_Model_dig ⟨rfl, rfl, Nat.le_of_ble_eq_true rfl, Nat.le_of_ble_eq_true rfl⟩ 0 rfl rfl rfl rfl rfl (Nat.le_of_ble_eq_true rfl) d_Model_way_108 (fun H locs h => ?_)
    refine lv_aload_n hx hb d_Model_way_111 rfl (lv_at hl 4 rfl) ?_
    refine lv_iload_n hx hb d_Model_way_112 rfl (lv_at hl 3 rfl) ?_
    refine lv_iload hx hb d_Model_way_113 (lv_at hl 0 rfl) ?_
    refine lv_iload hx hb d_Model_way_115 (lv_at hl 1 rfl) ?_
    refine lv_iload hx hb d_Model_way_117 (lv_at hl 0 rfl) ?_
    obtain ⟨r20, σ21, h22, hf⟩ := bd_s hf
    refine x_Vv (As := [.int v3, .int v12, .int v9, .int v12]) (rest := []) X hml hl.1 hZ hA h (c_Model_dig l D ad cA tz n v3 v12 v9 v12 σ18 r20 σ21 h22) k_Model_dig m_m_Model_116 kd_Model_dig ⟨rfl, rfl, Nat.le_of_ble_eq_true rfl, Nat.le_of_ble_eq_true rfl⟩ 0 rfl rfl rfl rfl rfl (Nat.le_of_ble_eq_true rfl) d_Model_way_119 (fun H locs h => ?_)
    exact rt _ H locs 122 ls hf h d_Model_way_122
  · have hf := it c16 hf
    refine lv_aload_n hx hb d_Model_way_75 rfl (lv_at hl 4 rfl) ?_
    refine lv_iload_n hx hb d_Model_way_76 rfl (lv_at hl 3 rfl) ?_
    refine lv_iload hx hb d_Model_way_77 (lv_at hl 2 rfl) ?_
    refine lv_iload hx hb d_Model_way_79 (lv_at hl 1 rfl) ?_
    refine lv_iload hx hb d_Model_way_81 (lv_at hl 2 rfl) ?_
    obtain ⟨r23, σ24, h25, hf⟩ := bd_s hf
    refine x_Vv (As := [.int v3, .int v6, .int v9, .int v6]) (rest := []) X hml hl.1 hZ hA h (c_Model_dig l D ad cA tz n v3 v6 v9 v6 σ14 r23 σ24 h25) k_Model_dig m_m_Model_116 kd_Model_dig ⟨rfl, rfl, Nat.le_of_ble_eq_true rfl, Nat.le_of_ble_eq_true rfl⟩ 0 rfl rfl rfl rfl rfl (Nat.le_of_ble_eq_true rfl) d_Model_way_83 (fun H locs h => ?_)
    refine lv_aload_n hx hb d_Model_way_86 rfl (lv_at hl 4 rfl) ?_
    refine lv_iload hx hb d_Model_way_87 (lv_at hl 1 rfl) ?_
    refine lv_iload hx hb d_Model_way_89 (lv_at hl 2 rfl) ?_
    refine lv_iload hx hb d_Model_way_91 (lv_at hl 1 rfl) ?_
    refine lv_iload hx hb d_Model_way_93 (lv_at hl 0 rfl) ?_
    obtain ⟨r26, σ27, h28, hf⟩ := bd_s hf
    refine x_Vv (As := [.int v9, .int v6, .int v9, .int v12]) (rest := []) X hml hl.1 hZ hA h (c_Model_dig l D ad cA tz n v9 v6 v9 v12 σ24 r26 σ27 h28) k_Model_dig m_m_Model_116 kd_Model_dig ⟨rfl, rfl, Nat.le_of_ble_eq_true rfl, Nat.le_of_ble_eq_true rfl⟩ 0 rfl rfl rfl rfl rfl (Nat.le_of_ble_eq_true rfl) d_Model_way_95 (fun H locs h => ?_)
    refine lv_goto (tgt := 122) hx hb d_Model_way_98 (by decide) ?_
    exact rt _ H locs 122 ls hf h d_Model_way_122
theorem d_Model_isNear_0 : decode b_Model_isNear 0 = .ok (.iload_n 1, 1) := by decide +kernel
theorem d_Model_isNear_1 : decode b_Model_isNear 1 = .ok (.aload_n 0, 1) := by decide +kernel
theorem d_Model_isNear_2 : decode b_Model_isNear 2 = .ok (.getfield 129, 3) := by decide +kernel
theorem d_Model_isNear_5 : decode b_Model_isNear 5 = .ok (.isub, 1) := by decide +kernel
theorem d_Model_isNear_6 : decode b_Model_isNear 6 = .ok (.bipush (-4), 2) := by decide +kernel
theorem d_Model_isNear_8 : decode b_Model_isNear 8 = .ok (.iconst 4, 1) := by decide +kernel
theorem d_Model_isNear_9 : decode b_Model_isNear 9 = .ok (.invokestatic 148, 3) := by decide +kernel
theorem d_Model_isNear_12 : decode b_Model_isNear 12 = .ok (.ifCond .eq 22, 3) := by decide +kernel
theorem d_Model_isNear_15 : decode b_Model_isNear 15 = .ok (.iload_n 2, 1) := by decide +kernel
theorem d_Model_isNear_16 : decode b_Model_isNear 16 = .ok (.aload_n 0, 1) := by decide +kernel
theorem d_Model_isNear_17 : decode b_Model_isNear 17 = .ok (.getfield 132, 3) := by decide +kernel
theorem d_Model_isNear_20 : decode b_Model_isNear 20 = .ok (.isub, 1) := by decide +kernel
theorem d_Model_isNear_21 : decode b_Model_isNear 21 = .ok (.bipush (-4), 2) := by decide +kernel
theorem d_Model_isNear_23 : decode b_Model_isNear 23 = .ok (.iconst 4, 1) := by decide +kernel
theorem d_Model_isNear_24 : decode b_Model_isNear 24 = .ok (.invokestatic 148, 3) := by decide +kernel
theorem d_Model_isNear_27 : decode b_Model_isNear 27 = .ok (.ifCond .eq 7, 3) := by decide +kernel
theorem d_Model_isNear_30 : decode b_Model_isNear 30 = .ok (.iconst 1, 1) := by decide +kernel
theorem d_Model_isNear_31 : decode b_Model_isNear 31 = .ok (.goto 4, 3) := by decide +kernel
theorem d_Model_isNear_34 : decode b_Model_isNear 34 = .ok (.iconst 0, 1) := by decide +kernel
theorem d_Model_isNear_35 : decode b_Model_isNear 35 = .ok (.ireturn, 1) := by decide +kernel
def f_Model_isNear (n : Nat) (x1 : Int32) (x2 : Int32) (σ : St) : Option (Int32 × St) := bd (f_Model_in n (x1 - (σ.1 2)) (-4) 4 σ) (fun r1 σ2 => if r1 = 0 then (some (0, σ2)) else (bd (f_Model_in n (x2 - (σ2.1 3)) (-4) 4 σ2) (fun r5 σ6 => if r5 = 0 then (some (0, σ6)) else (some (1, σ6)))))
set_option maxHeartbeats 4000000 in
set_option maxRecDepth 100000 in
theorem c_Model_isNear (l : Launch) (D : va_G) (ad : Nat → Nat) (cA : Nat → ClassId) (tz : Nat → Nat) (n : Nat) (x1 : Int32) (x2 : Int32) (σ : St) (r : Int32) (σr : St) (hf : f_Model_isNear n x1 x2 σ = some (r, σr)) : Ki l D cA tz (wm ad cA) y_Model_isNear (.code y_Model_isNear b_Model_isNear 3 (some .boolean) :: TB) ({ frames := 1, cells := 0, slots := 0, locals := 22 }) [.ref (ad 0), .int x1, .int x2] σ r σr := by
  refine x_openz (own := R_Model) rfl (by decide) (fun p e s m args below meth c A Q X hml hZ hA H locs ls h hl rt => ?_)
  have hx := X.1
  have hb := X.2.1
  have hl : lv_has ls 3 [(0, .ref (ad 0)), (1, .int x1), (2, .int x2)] := hl
  unfold f_Model_isNear at hf
  refine lv_iload_n hx hb d_Model_isNear_0 rfl (lv_at hl 1 rfl) ?_
  refine lv_aload_n hx hb d_Model_isNear_1 rfl (lv_at hl 0 rfl) ?_
  refine G_model_px X h m_f_Model_129 d_Model_isNear_2 ?_
  refine lv_isub hx hb d_Model_isNear_5 ?_
  refine lv_bipush (v := (-4)) hx hb d_Model_isNear_6 (by decide) ?_
  refine lv_iconst (v := 4) hx hb d_Model_isNear_8 (by decide) ?_
  obtain ⟨r1, σ2, h3, hf⟩ := bd_s hf
  refine x_Si (As := [.int (x1 - (σ.1 2)), .int (-4), .int 4]) (rest := []) X hml hl.1 hZ hA h (c_Model_in l D ad cA tz n (x1 - (σ.1 2)) (-4) 4 σ r1 σ2 h3) k_Model_in m_m_Model_148 kd_Model_in ⟨rfl, rfl, Nat.le_of_ble_eq_true rfl, Nat.le_of_ble_eq_true rfl⟩ rfl rfl (Nat.le_of_ble_eq_true rfl) d_Model_isNear_9 (fun H locs h => ?_)
  refine lv_if_eq (tgt := 34) hx hb d_Model_isNear_12 (by decide) (fun c4 => ?_) (fun c4 => ?_)
  · have hf := it c4 hf
    refine lv_iconst (v := 0) hx hb d_Model_isNear_34 (by decide) ?_
    exact rt _ _ H locs 35 ls rfl hf h d_Model_isNear_35
  · have hf := ie c4 hf
    refine lv_iload_n hx hb d_Model_isNear_15 rfl (lv_at hl 2 rfl) ?_
    refine lv_aload_n hx hb d_Model_isNear_16 rfl (lv_at hl 0 rfl) ?_
    refine G_model_py X h m_f_Model_132 d_Model_isNear_17 ?_
    refine lv_isub hx hb d_Model_isNear_20 ?_
    refine lv_bipush (v := (-4)) hx hb d_Model_isNear_21 (by decide) ?_
    refine lv_iconst (v := 4) hx hb d_Model_isNear_23 (by decide) ?_
    obtain ⟨r5, σ6, h7, hf⟩ := bd_s hf
    refine x_Si (As := [.int (x2 - (σ2.1 3)), .int (-4), .int 4]) (rest := []) X hml hl.1 hZ hA h (c_Model_in l D ad cA tz n (x2 - (σ2.1 3)) (-4) 4 σ2 r5 σ6 h7) k_Model_in m_m_Model_148 kd_Model_in ⟨rfl, rfl, Nat.le_of_ble_eq_true rfl, Nat.le_of_ble_eq_true rfl⟩ rfl rfl (Nat.le_of_ble_eq_true rfl) d_Model_isNear_24 (fun H locs h => ?_)
    refine lv_if_eq (tgt := 34) hx hb d_Model_isNear_27 (by decide) (fun c8 => ?_) (fun c8 => ?_)
    · have hf := it c8 hf
      refine lv_iconst (v := 0) hx hb d_Model_isNear_34 (by decide) ?_
      exact rt _ _ H locs 35 ls rfl hf h d_Model_isNear_35
    · have hf := ie c8 hf
      refine lv_iconst (v := 1) hx hb d_Model_isNear_30 (by decide) ?_
      refine lv_goto (tgt := 35) hx hb d_Model_isNear_31 (by decide) ?_
      exact rt _ _ H locs 35 ls rfl hf h d_Model_isNear_35

