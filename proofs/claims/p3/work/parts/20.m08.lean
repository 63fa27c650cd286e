theorem d_Model_begin_0 : decode b_Model_begin 0 = .ok (.aload_n 0, 1) := by decide +kernel
theorem d_Model_begin_1 : decode b_Model_begin 1 = .ok (.aload_n 0, 1) := by decide +kernel
theorem d_Model_begin_2 : decode b_Model_begin 2 = .ok (.getfield 62, 3) := by decide +kernel
theorem d_Model_begin_5 : decode b_Model_begin 5 = .ok (.i2l, 1) := by decide +kernel
theorem d_Model_begin_6 : decode b_Model_begin 6 = .ok (.putfield 81, 3) := by decide +kernel
theorem d_Model_begin_9 : decode b_Model_begin 9 = .ok (.aload_n 0, 1) := by decide +kernel
theorem d_Model_begin_10 : decode b_Model_begin 10 = .ok (.bipush 10, 2) := by decide +kernel
theorem d_Model_begin_12 : decode b_Model_begin 12 = .ok (.putfield 84, 3) := by decide +kernel
theorem d_Model_begin_15 : decode b_Model_begin 15 = .ok (.aload_n 0, 1) := by decide +kernel
theorem d_Model_begin_16 : decode b_Model_begin 16 = .ok (.iconst 1, 1) := by decide +kernel
theorem d_Model_begin_17 : decode b_Model_begin 17 = .ok (.putfield 87, 3) := by decide +kernel
theorem d_Model_begin_20 : decode b_Model_begin 20 = .ok (.aload_n 0, 1) := by decide +kernel
theorem d_Model_begin_21 : decode b_Model_begin 21 = .ok (.iconst 0, 1) := by decide +kernel
theorem d_Model_begin_22 : decode b_Model_begin 22 = .ok (.putfield 90, 3) := by decide +kernel
theorem d_Model_begin_25 : decode b_Model_begin 25 = .ok (.aload_n 0, 1) := by decide +kernel
theorem d_Model_begin_26 : decode b_Model_begin 26 = .ok (.iconst 0, 1) := by decide +kernel
theorem d_Model_begin_27 : decode b_Model_begin 27 = .ok (.putfield 93, 3) := by decide +kernel
theorem d_Model_begin_30 : decode b_Model_begin 30 = .ok (.aload_n 0, 1) := by decide +kernel
theorem d_Model_begin_31 : decode b_Model_begin 31 = .ok (.iconst 0, 1) := by decide +kernel
theorem d_Model_begin_32 : decode b_Model_begin 32 = .ok (.putfield 96, 3) := by decide +kernel
theorem d_Model_begin_35 : decode b_Model_begin 35 = .ok (.aload_n 0, 1) := by decide +kernel
theorem d_Model_begin_36 : decode b_Model_begin 36 = .ok (.iconst 0, 1) := by decide +kernel
theorem d_Model_begin_37 : decode b_Model_begin 37 = .ok (.putfield 99, 3) := by decide +kernel
theorem d_Model_begin_40 : decode b_Model_begin 40 = .ok (.aload_n 0, 1) := by decide +kernel
theorem d_Model_begin_41 : decode b_Model_begin 41 = .ok (.iconst 0, 1) := by decide +kernel
theorem d_Model_begin_42 : decode b_Model_begin 42 = .ok (.putfield 102, 3) := by decide +kernel
theorem d_Model_begin_45 : decode b_Model_begin 45 = .ok (.aload_n 0, 1) := by decide +kernel
theorem d_Model_begin_46 : decode b_Model_begin 46 = .ok (.iconst 0, 1) := by decide +kernel
theorem d_Model_begin_47 : decode b_Model_begin 47 = .ok (.putfield 105, 3) := by decide +kernel
theorem d_Model_begin_50 : decode b_Model_begin 50 = .ok (.aload_n 0, 1) := by decide +kernel
theorem d_Model_begin_51 : decode b_Model_begin 51 = .ok (.iconst 1, 1) := by decide +kernel
theorem d_Model_begin_52 : decode b_Model_begin 52 = .ok (.invokevirtual 108, 3) := by decide +kernel
theorem d_Model_begin_55 : decode b_Model_begin 55 = .ok (.return_, 1) := by decide +kernel
def f_Model_begin (n : Nat) (σ : St) : Option (Unit × St) := bnd (sL σ 1 (Int32.toInt64 (σ.1 0))) (fun σ1 => bnd (sI σ1 4 10) (fun σ2 => bnd (sI σ2 5 1) (fun σ3 => bnd (sI σ3 7 0) (fun σ4 => bnd (sI σ4 12 0) (fun σ5 => bnd (sI σ5 9 0) (fun σ6 => bnd (sI σ6 10 0) (fun σ7 => bnd (sI σ7 11 0) (fun σ8 => bnd (sI σ8 13 0) (fun σ9 => bd (f_Model_build n 1 σ9) (fun _ σ11 => some ((), σ11)))))))))))
set_option maxHeartbeats 4000000 in
set_option maxRecDepth 100000 in
theorem c_Model_begin (l : Launch) (D : va_G) (ad : Nat → Nat) (cA : Nat → ClassId) (tz : Nat → Nat) (n : Nat) (σ : St) (r : Unit) (σr : St) (hf : f_Model_begin n σ = some (r, σr)) : Kv l D cA tz (wm ad cA) y_Model_begin (.code y_Model_begin b_Model_begin 1 none :: TB) ({ frames := 6, cells := 0, slots := 0, locals := 145 }) [.ref (ad 0)] σ σr := by
  refine x_openv (r := r) (own := R_Model) rfl (by decide) (fun p e s m args below meth c A Q X hml hZ hA H locs ls h hl rt => ?_)
  have hx := X.1
  have hb := X.2.1
  have hl : lv_has ls 1 [(0, .ref (ad 0))] := hl
  unfold f_Model_begin at hf
  refine lv_aload_n hx hb d_Model_begin_0 rfl (lv_at hl 0 rfl) ?_
  refine lv_aload_n hx hb d_Model_begin_1 rfl (lv_at hl 0 rfl) ?_
  refine G_model_seed X h m_f_Model_62 d_Model_begin_2 ?_
  refine lv_i2l hx hb d_Model_begin_5 rfl ?_
  refine P_model_play X h m_f_Model_81 d_Model_begin_6 (fun H locs σ1 eσ1 h => ?_)
  have hf := nm_b hf eσ1
  refine lv_aload_n hx hb d_Model_begin_9 rfl (lv_at hl 0 rfl) ?_
  refine lv_bipush (v := 10) hx hb d_Model_begin_10 (by decide) ?_
  refine P_model_life X h m_f_Model_84 d_Model_begin_12 (fun H locs σ2 eσ2 h => ?_)
  have hf := nm_b hf eσ2
  refine lv_aload_n hx hb d_Model_begin_15 rfl (lv_at hl 0 rfl) ?_
  refine lv_iconst (v := 1) hx hb d_Model_begin_16 (by decide) ?_
  refine P_model_hit X h m_f_Model_87 d_Model_begin_17 (fun H locs σ3 eσ3 h => ?_)
  have hf := nm_b hf eσ3
  refine lv_aload_n hx hb d_Model_begin_20 rfl (lv_at hl 0 rfl) ?_
  refine lv_iconst (v := 0) hx hb d_Model_begin_21 (by decide) ?_
  refine P_model_haste X h m_f_Model_90 d_Model_begin_22 (fun H locs σ4 eσ4 h => ?_)
  have hf := nm_b hf eσ4
  refine lv_aload_n hx hb d_Model_begin_25 rfl (lv_at hl 0 rfl) ?_
  refine lv_iconst (v := 0) hx hb d_Model_begin_26 (by decide) ?_
  refine P_model_things X h m_f_Model_93 d_Model_begin_27 (fun H locs σ5 eσ5 h => ?_)
  have hf := nm_b hf eσ5
  refine lv_aload_n hx hb d_Model_begin_30 rfl (lv_at hl 0 rfl) ?_
  refine lv_iconst (v := 0) hx hb d_Model_begin_31 (by decide) ?_
  refine P_model_state X h m_f_Model_96 d_Model_begin_32 (fun H locs σ6 eσ6 h => ?_)
  have hf := nm_b hf eσ6
  refine lv_aload_n hx hb d_Model_begin_35 rfl (lv_at hl 0 rfl) ?_
  refine lv_iconst (v := 0) hx hb d_Model_begin_36 (by decide) ?_
  refine P_model_ticks X h m_f_Model_99 d_Model_begin_37 (fun H locs σ7 eσ7 h => ?_)
  have hf := nm_b hf eσ7
  refine lv_aload_n hx hb d_Model_begin_40 rfl (lv_at hl 0 rfl) ?_
  refine lv_iconst (v := 0) hx hb d_Model_begin_41 (by decide) ?_
  refine P_model_went X h m_f_Model_102 d_Model_begin_42 (fun H locs σ8 eσ8 h => ?_)
  have hf := nm_b hf eσ8
  refine lv_aload_n hx hb d_Model_begin_45 rfl (lv_at hl 0 rfl) ?_
  refine lv_iconst (v := 0) hx hb d_Model_begin_46 (by decide) ?_
  refine P_model_recorded X h m_f_Model_105 d_Model_begin_47 (fun H locs σ9 eσ9 h => ?_)
  have hf := nm_b hf eσ9
  refine lv_aload_n hx hb d_Model_begin_50 rfl (lv_at hl 0 rfl) ?_
  refine lv_iconst (v := 1) hx hb d_Model_begin_51 (by decide) ?_
  obtain ⟨r10, σ11, h12, hf⟩ := bd_s hf
  refine x_Vv (As := [.int 1]) (rest := []) X hml hl.1 hZ hA h (c_Model_build l D ad cA tz n 1 σ9 r10 σ11 h12) k_Model_build m_m_Model_108 kd_Model_build ⟨rfl, rfl, Nat.le_of_ble_eq_true rfl, Nat.le_of_ble_eq_true rfl⟩ 0 rfl rfl rfl rfl rfl (Nat.le_of_ble_eq_true rfl) d_Model_begin_52 (fun H locs h => ?_)
  exact rt _ H locs 55 ls hf h d_Model_begin_55
theorem d_Model_rewind_0 : decode b_Model_rewind 0 = .ok (.iload_n 1, 1) := by decide +kernel
theorem d_Model_rewind_1 : decode b_Model_rewind 1 = .ok (.iconst 0, 1) := by decide +kernel
theorem d_Model_rewind_2 : decode b_Model_rewind 2 = .ok (.aload_n 0, 1) := by decide +kernel
theorem d_Model_rewind_3 : decode b_Model_rewind 3 = .ok (.getfield 105, 3) := by decide +kernel
theorem d_Model_rewind_6 : decode b_Model_rewind 6 = .ok (.invokestatic 148, 3) := by decide +kernel
theorem d_Model_rewind_9 : decode b_Model_rewind 9 = .ok (.ifCond .ne 5, 3) := by decide +kernel
theorem d_Model_rewind_12 : decode b_Model_rewind 12 = .ok (.iconst (-1), 1) := by decide +kernel
theorem d_Model_rewind_13 : decode b_Model_rewind 13 = .ok (.ireturn, 1) := by decide +kernel
theorem d_Model_rewind_14 : decode b_Model_rewind 14 = .ok (.aload_n 0, 1) := by decide +kernel
theorem d_Model_rewind_15 : decode b_Model_rewind 15 = .ok (.invokevirtual 66, 3) := by decide +kernel
theorem d_Model_rewind_18 : decode b_Model_rewind 18 = .ok (.iconst 0, 1) := by decide +kernel
theorem d_Model_rewind_19 : decode b_Model_rewind 19 = .ok (.istore_n 2, 1) := by decide +kernel
theorem d_Model_rewind_20 : decode b_Model_rewind 20 = .ok (.iload_n 2, 1) := by decide +kernel
theorem d_Model_rewind_21 : decode b_Model_rewind 21 = .ok (.iload_n 1, 1) := by decide +kernel
theorem d_Model_rewind_22 : decode b_Model_rewind 22 = .ok (.if_icmp .ge 20, 3) := by decide +kernel
theorem d_Model_rewind_25 : decode b_Model_rewind 25 = .ok (.aload_n 0, 1) := by decide +kernel
theorem d_Model_rewind_26 : decode b_Model_rewind 26 = .ok (.aload_n 0, 1) := by decide +kernel
theorem d_Model_rewind_27 : decode b_Model_rewind 27 = .ok (.getfield 59, 3) := by decide +kernel
theorem d_Model_rewind_30 : decode b_Model_rewind 30 = .ok (.iload_n 2, 1) := by decide +kernel
theorem d_Model_rewind_31 : decode b_Model_rewind 31 = .ok (.iaload, 1) := by decide +kernel
theorem d_Model_rewind_32 : decode b_Model_rewind 32 = .ok (.invokevirtual 198, 3) := by decide +kernel
theorem d_Model_rewind_35 : decode b_Model_rewind 35 = .ok (.pop, 1) := by decide +kernel
theorem d_Model_rewind_36 : decode b_Model_rewind 36 = .ok (.iinc 2 1, 3) := by decide +kernel
theorem d_Model_rewind_39 : decode b_Model_rewind 39 = .ok (.goto (-19), 3) := by decide +kernel
theorem d_Model_rewind_42 : decode b_Model_rewind 42 = .ok (.aload_n 0, 1) := by decide +kernel
theorem d_Model_rewind_43 : decode b_Model_rewind 43 = .ok (.iload_n 1, 1) := by decide +kernel
theorem d_Model_rewind_44 : decode b_Model_rewind 44 = .ok (.putfield 105, 3) := by decide +kernel
theorem d_Model_rewind_47 : decode b_Model_rewind 47 = .ok (.aload_n 0, 1) := by decide +kernel
theorem d_Model_rewind_48 : decode b_Model_rewind 48 = .ok (.getfield 99, 3) := by decide +kernel
theorem d_Model_rewind_51 : decode b_Model_rewind 51 = .ok (.ireturn, 1) := by decide +kernel
def f_Model_rewind_20 (n : Nat) : Nat → Int32 → Int32 → St → Option (Int32 × St)
  | 0, _, _, _ => none
  | j + 1, y1, y2, σ => if y1 ≤ y2 then (bnd (sI σ 13 y1) (fun σ9 => some (σ9.1 10, σ9))) else (gd (inb y2 520) (bd (f_Model_does n (σ.2.2 16 y2.toNatClampNeg) σ) (fun r11 σ12 => bnd (y2 + 1) (fun v14 => f_Model_rewind_20 n j y1 v14 σ12))))
theorem f_Model_rewind_20_s (n : Nat) (j : Nat) (y1 : Int32) (y2 : Int32) (σ : St) : f_Model_rewind_20 n (j + 1) y1 y2 σ = (if y1 ≤ y2 then (bnd (sI σ 13 y1) (fun σ9 => some (σ9.1 10, σ9))) else (gd (inb y2 520) (bd (f_Model_does n (σ.2.2 16 y2.toNatClampNeg) σ) (fun r11 σ12 => bnd (y2 + 1) (fun v14 => f_Model_rewind_20 n j y1 v14 σ12))))) := rfl
def f_Model_rewind (n : Nat) (x1 : Int32) (σ : St) : Option (Int32 × St) := bd (f_Model_in n x1 0 (σ.1 13) σ) (fun r1 σ2 => if r1 = 0 then (some ((-1), σ2)) else (bd (f_Model_begin n σ2) (fun _ σ6 => f_Model_rewind_20 n n x1 0 σ6)))
set_option maxHeartbeats 4000000 in
set_option maxRecDepth 100000 in
theorem c_Model_rewind (l : Launch) (D : va_G) (ad : Nat → Nat) (cA : Nat → ClassId) (tz : Nat → Nat) (n : Nat) (x1 : Int32) (σ : St) (r : Int32) (σr : St) (hf : f_Model_rewind n x1 σ = some (r, σr)) : Ki l D cA tz (wm ad cA) y_Model_rewind (.code y_Model_rewind b_Model_rewind 3 (some .int) :: TB) ({ frames := 7, cells := 0, slots := 0, locals := 168 }) [.ref (ad 0), .int x1] σ r σr := by
  refine x_openi (own := R_Model) rfl (by decide) (fun p e s m args below meth c A Q X hml hZ hA H locs ls h hl rt => ?_)
  have hx := X.1
  have hb := X.2.1
  have hl : lv_has ls 3 [(0, .ref (ad 0)), (1, .int x1)] := hl
  have L20 : ∀ j : Nat, ∀ (y1 : Int32) (y2 : Int32) (σ : St), f_Model_rewind_20 n j y1 y2 σ = some (r, σr) → ∀ (H : Heap) (locs : List Loc) (ls : Array Slot), WD D A s (wm ad cA σ) H locs → lv_has ls 3 [(0, .ref (ad 0)), (1, .int y1), (2, .int y2)] → W p l e ({ frames := 7, cells := 0, slots := 0, locals := 168 }) s m args below meth c H locs 0 0 Q (F0 m 20 ls []) := by
    intro j
    induction j with
    | zero => intro y1 y2 σ hf; exact absurd hf (fun z => by cases z)
    | succ j ih =>
      intro y1 y2 σ hf H locs ls h hl
      have hf := us (f_Model_rewind_20_s n j y1 y2 σ) hf
      refine lv_iload_n hx hb d_Model_rewind_20 rfl (lv_at hl 2 rfl) ?_
      refine lv_iload_n hx hb d_Model_rewind_21 rfl (lv_at hl 1 rfl) ?_
      refine lv_icmp_ge (tgt := 42) hx hb d_Model_rewind_22 (by decide) (fun c8 => ?_) (fun c8 => ?_)
      · have hf := it c8 hf
        refine lv_aload_n hx hb d_Model_rewind_42 rfl (lv_at hl 0 rfl) ?_
        refine lv_iload_n hx hb d_Model_rewind_43 rfl (lv_at hl 1 rfl) ?_
        refine P_model_recorded X h m_f_Model_105 d_Model_rewind_44 (fun H locs σ9 eσ9 h => ?_)
        have hf := nm_b hf eσ9
        refine lv_aload_n hx hb d_Model_rewind_47 rfl (lv_at hl 0 rfl) ?_
        refine G_model_ticks X h m_f_Model_99 d_Model_rewind_48 ?_
        exact rt _ _ H locs 51 ls hf h d_Model_rewind_51
      · have hf := ie c8 hf
        refine lv_aload_n hx hb d_Model_rewind_25 rfl (lv_at hl 0 rfl) ?_
        refine lv_aload_n hx hb d_Model_rewind_26 rfl (lv_at hl 0 rfl) ?_
        refine G_model_keys X h m_f_Model_59 d_Model_rewind_27 ?_
        refine lv_iload_n hx hb d_Model_rewind_30 rfl (lv_at hl 2 rfl) ?_
        obtain ⟨g10, hf⟩ := gd_s hf
        refine R_mkeys X h (inb_s g10) d_Model_rewind_31 ?_
        obtain ⟨r11, σ12, h13, hf⟩ := bd_s hf
        refine x_Vi (As := [.int (σ.2.2 16 y2.toNatClampNeg)]) (rest := []) X hml hl.1 hZ hA h (c_Model_does l D ad cA tz n (σ.2.2 16 y2.toNatClampNeg) σ r11 σ12 h13) k_Model_does m_m_Model_198 kd_Model_does ⟨rfl, rfl, Nat.le_of_ble_eq_true rfl, Nat.le_of_ble_eq_true rfl⟩ 0 rfl rfl rfl rfl rfl (Nat.le_of_ble_eq_true rfl) d_Model_rewind_32 (fun H locs h => ?_)
        refine lv_pop hx hb d_Model_rewind_35 rfl ?_
        obtain ⟨v14, ev14⟩ : ∃ y : Int32, y = y2 + 1 := ⟨_, rfl⟩
        have hf := nm_b hf ev14
        refine lv_iinc (v := v14) (lv' := [(2, .int v14), (0, .ref (ad 0)), (1, .int y1)]) hx hb d_Model_rewind_36 hl (k := 2) rfl (by rw [ev14]; rfl) (by decide) rfl (fun ls hl => ?_)
        refine lv_goto (tgt := 20) hx hb d_Model_rewind_39 (by decide) ?_
        exact ih y1 v14 σ12 hf H locs ls h (lv_sub hl [1, 2, 0] rfl)
  unfold f_Model_rewind at hf
  refine lv_iload_n hx hb d_Model_rewind_0 rfl (lv_at hl 1 rfl) ?_
  refine lv_iconst (v := 0) hx hb d_Model_rewind_1 (by decide) ?_
  refine lv_aload_n hx hb d_Model_rewind_2 rfl (lv_at hl 0 rfl) ?_
  refine G_model_recorded X h m_f_Model_105 d_Model_rewind_3 ?_
  obtain ⟨r1, σ2, h3, hf⟩ := bd_s hf
  refine x_Si (As := [.int x1, .int 0, .int (σ.1 13)]) (rest := []) X hml hl.1 hZ hA h (c_Model_in l D ad cA tz n x1 0 (σ.1 13) σ r1 σ2 h3) k_Model_in m_m_Model_148 kd_Model_in ⟨rfl, rfl, Nat.le_of_ble_eq_true rfl, Nat.le_of_ble_eq_true rfl⟩ rfl rfl (Nat.le_of_ble_eq_true rfl) d_Model_rewind_6 (fun H locs h => ?_)
  refine lv_if_ne (tgt := 14) hx hb d_Model_rewind_9 (by decide) (fun c4 => ?_) (fun c4 => ?_)
  · have hf := ie c4 hf
    refine lv_aload_n hx hb d_Model_rewind_14 rfl (lv_at hl 0 rfl) ?_
    obtain ⟨r5, σ6, h7, hf⟩ := bd_s hf
    refine x_Vv (As := []) (rest := []) X hml hl.1 hZ hA h (c_Model_begin l D ad cA tz n σ2 r5 σ6 h7) k_Model_begin m_m_Model_66 kd_Model_begin ⟨rfl, rfl, Nat.le_of_ble_eq_true rfl, Nat.le_of_ble_eq_true rfl⟩ 0 rfl rfl rfl rfl rfl (Nat.le_of_ble_eq_true rfl) d_Model_rewind_15 (fun H locs h => ?_)
    refine lv_iconst (v := 0) hx hb d_Model_rewind_18 (by decide) ?_
    refine lv_istore_n (lv' := [(2, .int 0), (0, .ref (ad 0)), (1, .int x1)]) hx hb d_Model_rewind_19 rfl hl (by decide) rfl (fun ls hl => ?_)
    exact L20 n x1 0 σ6 hf H locs ls h (lv_sub hl [1, 2, 0] rfl)
  · have hf := it c4 hf
    refine lv_iconst (v := (-1)) hx hb d_Model_rewind_12 (by decide) ?_
    exact rt _ _ H locs 13 ls hf h d_Model_rewind_13
theorem d_Model_cell_0 : decode b_Model_cell 0 = .ok (.iload_n 1, 1) := by decide +kernel
theorem d_Model_cell_1 : decode b_Model_cell 1 = .ok (.iconst 0, 1) := by decide +kernel
theorem d_Model_cell_2 : decode b_Model_cell 2 = .ok (.bipush 11, 2) := by decide +kernel
theorem d_Model_cell_4 : decode b_Model_cell 4 = .ok (.invokestatic 148, 3) := by decide +kernel
theorem d_Model_cell_7 : decode b_Model_cell 7 = .ok (.ifCond .eq 22, 3) := by decide +kernel
theorem d_Model_cell_10 : decode b_Model_cell 10 = .ok (.iload_n 2, 1) := by decide +kernel
theorem d_Model_cell_11 : decode b_Model_cell 11 = .ok (.iconst 0, 1) := by decide +kernel
theorem d_Model_cell_12 : decode b_Model_cell 12 = .ok (.bipush 9, 2) := by decide +kernel
theorem d_Model_cell_14 : decode b_Model_cell 14 = .ok (.invokestatic 148, 3) := by decide +kernel
theorem d_Model_cell_17 : decode b_Model_cell 17 = .ok (.ifCond .eq 12, 3) := by decide +kernel
theorem d_Model_cell_20 : decode b_Model_cell 20 = .ok (.iload_n 3, 1) := by decide +kernel
theorem d_Model_cell_21 : decode b_Model_cell 21 = .ok (.iconst 0, 1) := by decide +kernel
theorem d_Model_cell_22 : decode b_Model_cell 22 = .ok (.iconst 5, 1) := by decide +kernel
theorem d_Model_cell_23 : decode b_Model_cell 23 = .ok (.invokestatic 148, 3) := by decide +kernel
theorem d_Model_cell_26 : decode b_Model_cell 26 = .ok (.ifCond .ne 5, 3) := by decide +kernel
theorem d_Model_cell_29 : decode b_Model_cell 29 = .ok (.iconst (-1), 1) := by decide +kernel
theorem d_Model_cell_30 : decode b_Model_cell 30 = .ok (.ireturn, 1) := by decide +kernel
theorem d_Model_cell_31 : decode b_Model_cell 31 = .ok (.bipush 12, 2) := by decide +kernel
theorem d_Model_cell_33 : decode b_Model_cell 33 = .ok (.iload_n 2, 1) := by decide +kernel
theorem d_Model_cell_34 : decode b_Model_cell 34 = .ok (.imul, 1) := by decide +kernel
theorem d_Model_cell_35 : decode b_Model_cell 35 = .ok (.iload_n 1, 1) := by decide +kernel
theorem d_Model_cell_36 : decode b_Model_cell 36 = .ok (.iadd, 1) := by decide +kernel
theorem d_Model_cell_37 : decode b_Model_cell 37 = .ok (.istore 4, 2) := by decide +kernel
theorem d_Model_cell_39 : decode b_Model_cell 39 = .ok (.aload_n 0, 1) := by decide +kernel
theorem d_Model_cell_40 : decode b_Model_cell 40 = .ok (.iload_n 1, 1) := by decide +kernel
theorem d_Model_cell_41 : decode b_Model_cell 41 = .ok (.iload_n 2, 1) := by decide +kernel
theorem d_Model_cell_42 : decode b_Model_cell 42 = .ok (.invokevirtual 141, 3) := by decide +kernel
theorem d_Model_cell_45 : decode b_Model_cell 45 = .ok (.istore 5, 2) := by decide +kernel
theorem d_Model_cell_47 : decode b_Model_cell 47 = .ok (.iload_n 3, 1) := by decide +kernel
theorem d_Model_cell_48 : decode b_Model_cell 48 = .ok (.tableswitch 124 0 4 #[36, 44, 59, 75, 114], 36) := by decide +kernel
theorem d_Model_cell_84 : decode b_Model_cell 84 = .ok (.aload_n 0, 1) := by decide +kernel
theorem d_Model_cell_85 : decode b_Model_cell 85 = .ok (.getfield 7, 3) := by decide +kernel
theorem d_Model_cell_88 : decode b_Model_cell 88 = .ok (.iload 4, 2) := by decide +kernel
theorem d_Model_cell_90 : decode b_Model_cell 90 = .ok (.iaload, 1) := by decide +kernel
theorem d_Model_cell_91 : decode b_Model_cell 91 = .ok (.ireturn, 1) := by decide +kernel
theorem d_Model_cell_92 : decode b_Model_cell 92 = .ok (.aload_n 0, 1) := by decide +kernel
theorem d_Model_cell_93 : decode b_Model_cell 93 = .ok (.iload_n 1, 1) := by decide +kernel
theorem d_Model_cell_94 : decode b_Model_cell 94 = .ok (.iload_n 2, 1) := by decide +kernel
theorem d_Model_cell_95 : decode b_Model_cell 95 = .ok (.invokevirtual 166, 3) := by decide +kernel
theorem d_Model_cell_98 : decode b_Model_cell 98 = .ok (.ifCond .eq 7, 3) := by decide +kernel
theorem d_Model_cell_101 : decode b_Model_cell 101 = .ok (.iconst 1, 1) := by decide +kernel
theorem d_Model_cell_102 : decode b_Model_cell 102 = .ok (.goto 4, 3) := by decide +kernel
theorem d_Model_cell_105 : decode b_Model_cell 105 = .ok (.iconst 0, 1) := by decide +kernel
theorem d_Model_cell_106 : decode b_Model_cell 106 = .ok (.ireturn, 1) := by decide +kernel
theorem d_Model_cell_107 : decode b_Model_cell 107 = .ok (.aload_n 0, 1) := by decide +kernel
theorem d_Model_cell_108 : decode b_Model_cell 108 = .ok (.getfield 19, 3) := by decide +kernel
theorem d_Model_cell_111 : decode b_Model_cell 111 = .ok (.iload 4, 2) := by decide +kernel
theorem d_Model_cell_113 : decode b_Model_cell 113 = .ok (.baload, 1) := by decide +kernel
theorem d_Model_cell_114 : decode b_Model_cell 114 = .ok (.ifCond .eq 7, 3) := by decide +kernel
theorem d_Model_cell_117 : decode b_Model_cell 117 = .ok (.iconst 1, 1) := by decide +kernel
theorem d_Model_cell_118 : decode b_Model_cell 118 = .ok (.goto 4, 3) := by decide +kernel
theorem d_Model_cell_121 : decode b_Model_cell 121 = .ok (.iconst 0, 1) := by decide +kernel
theorem d_Model_cell_122 : decode b_Model_cell 122 = .ok (.ireturn, 1) := by decide +kernel
theorem d_Model_cell_123 : decode b_Model_cell 123 = .ok (.iload_n 1, 1) := by decide +kernel
theorem d_Model_cell_124 : decode b_Model_cell 124 = .ok (.aload_n 0, 1) := by decide +kernel
theorem d_Model_cell_125 : decode b_Model_cell 125 = .ok (.getfield 129, 3) := by decide +kernel
theorem d_Model_cell_128 : decode b_Model_cell 128 = .ok (.if_icmp .ne 15, 3) := by decide +kernel
theorem d_Model_cell_131 : decode b_Model_cell 131 = .ok (.iload_n 2, 1) := by decide +kernel
theorem d_Model_cell_132 : decode b_Model_cell 132 = .ok (.aload_n 0, 1) := by decide +kernel
theorem d_Model_cell_133 : decode b_Model_cell 133 = .ok (.getfield 132, 3) := by decide +kernel
theorem d_Model_cell_136 : decode b_Model_cell 136 = .ok (.if_icmp .ne 7, 3) := by decide +kernel
theorem d_Model_cell_139 : decode b_Model_cell 139 = .ok (.iconst 1, 1) := by decide +kernel
theorem d_Model_cell_140 : decode b_Model_cell 140 = .ok (.goto 21, 3) := by decide +kernel
theorem d_Model_cell_143 : decode b_Model_cell 143 = .ok (.iload 5, 2) := by decide +kernel
theorem d_Model_cell_145 : decode b_Model_cell 145 = .ok (.ifCond .ge 7, 3) := by decide +kernel
theorem d_Model_cell_148 : decode b_Model_cell 148 = .ok (.iconst 0, 1) := by decide +kernel
theorem d_Model_cell_149 : decode b_Model_cell 149 = .ok (.goto 12, 3) := by decide +kernel
theorem d_Model_cell_152 : decode b_Model_cell 152 = .ok (.iconst 2, 1) := by decide +kernel
theorem d_Model_cell_153 : decode b_Model_cell 153 = .ok (.aload_n 0, 1) := by decide +kernel
theorem d_Model_cell_154 : decode b_Model_cell 154 = .ok (.getfield 23, 3) := by decide +kernel
theorem d_Model_cell_157 : decode b_Model_cell 157 = .ok (.iload 5, 2) := by decide +kernel
theorem d_Model_cell_159 : decode b_Model_cell 159 = .ok (.iaload, 1) := by decide +kernel
theorem d_Model_cell_160 : decode b_Model_cell 160 = .ok (.iadd, 1) := by decide +kernel
theorem d_Model_cell_161 : decode b_Model_cell 161 = .ok (.ireturn, 1) := by decide +kernel
theorem d_Model_cell_162 : decode b_Model_cell 162 = .ok (.iconst 1, 1) := by decide +kernel
theorem d_Model_cell_163 : decode b_Model_cell 163 = .ok (.aload_n 0, 1) := by decide +kernel
theorem d_Model_cell_164 : decode b_Model_cell 164 = .ok (.getfield 13, 3) := by decide +kernel
theorem d_Model_cell_167 : decode b_Model_cell 167 = .ok (.iload 4, 2) := by decide +kernel
theorem d_Model_cell_169 : decode b_Model_cell 169 = .ok (.iaload, 1) := by decide +kernel
theorem d_Model_cell_170 : decode b_Model_cell 170 = .ok (.iadd, 1) := by decide +kernel
theorem d_Model_cell_171 : decode b_Model_cell 171 = .ok (.ireturn, 1) := by decide +kernel
theorem d_Model_cell_172 : decode b_Model_cell 172 = .ok (.aload_n 0, 1) := by decide +kernel
theorem d_Model_cell_173 : decode b_Model_cell 173 = .ok (.invokevirtual 185, 3) := by decide +kernel
theorem d_Model_cell_176 : decode b_Model_cell 176 = .ok (.aload_n 0, 1) := by decide +kernel
theorem d_Model_cell_177 : decode b_Model_cell 177 = .ok (.getfield 16, 3) := by decide +kernel
theorem d_Model_cell_180 : decode b_Model_cell 180 = .ok (.iload 4, 2) := by decide +kernel
theorem d_Model_cell_182 : decode b_Model_cell 182 = .ok (.iaload, 1) := by decide +kernel
theorem d_Model_cell_183 : decode b_Model_cell 183 = .ok (.ifCond .ge 8, 3) := by decide +kernel
theorem d_Model_cell_186 : decode b_Model_cell 186 = .ok (.bipush (-2), 2) := by decide +kernel
theorem d_Model_cell_188 : decode b_Model_cell 188 = .ok (.goto 10, 3) := by decide +kernel
theorem d_Model_cell_191 : decode b_Model_cell 191 = .ok (.aload_n 0, 1) := by decide +kernel
theorem d_Model_cell_192 : decode b_Model_cell 192 = .ok (.getfield 16, 3) := by decide +kernel
theorem d_Model_cell_195 : decode b_Model_cell 195 = .ok (.iload 4, 2) := by decide +kernel
theorem d_Model_cell_197 : decode b_Model_cell 197 = .ok (.iaload, 1) := by decide +kernel
theorem d_Model_cell_198 : decode b_Model_cell 198 = .ok (.ireturn, 1) := by decide +kernel
def f_Model_cell_143 (n : Nat) (y5 : Int32) (σ : St) : Option (Int32 × St) := if 0 ≤ y5 then (gd (inb y5 8) (some (2 + (σ.2.2 4 y5.toNatClampNeg), σ))) else (some (0, σ))
def f_Model_cell (n : Nat) (x1 : Int32) (x2 : Int32) (x3 : Int32) (σ : St) : Option (Int32 × St) := bd (f_Model_in n x1 0 11 σ) (fun r1 σ2 => if r1 = 0 then (some ((-1), σ2)) else (bd (f_Model_in n x2 0 9 σ2) (fun r5 σ6 => if r5 = 0 then (some ((-1), σ6)) else (bd (f_Model_in n x3 0 5 σ6) (fun r9 σ10 => if r9 = 0 then (some ((-1), σ10)) else (bnd ((12 * x2) + x1) (fun v13 => bd (f_Model_monsterAt n x1 x2 σ10) (fun r14 σ15 => if x3 = 0 then (gd (inb v13 120) (some (σ15.2.2 0 v13.toNatClampNeg, σ15))) else (if x3 = 1 then (bd (f_Model_isSeen n x1 x2 σ15) (fun r20 σ21 => if r20 = 0 then (some (0, σ21)) else (some (1, σ21)))) else (if x3 = 2 then (gd (inb v13 120) (if (σ15.2.2 3 v13.toNatClampNeg) = 0 then (some (0, σ15)) else (some (1, σ15)))) else (if x3 = 3 then (if x1 = (σ15.1 2) then (if x2 = (σ15.1 3) then (some (1, σ15)) else (f_Model_cell_143 n r14 σ15)) else (f_Model_cell_143 n r14 σ15)) else (if x3 = 4 then (gd (inb v13 120) (some (1 + (σ15.2.2 1 v13.toNatClampNeg), σ15))) else (bd (f_Model_measure n σ15) (fun _ σ33 => gd (inb v13 120) (if 0 ≤ (σ33.2.2 2 v13.toNatClampNeg) then (gd (inb v13 120) (some (σ33.2.2 2 v13.toNatClampNeg, σ33))) else (some ((-2), σ33)))))))))))))))))
set_option maxHeartbeats 4000000 in
set_option maxRecDepth 100000 in
theorem c_Model_cell (l : Launch) (D : va_G) (ad : Nat → Nat) (cA : Nat → ClassId) (tz : Nat → Nat) (n : Nat) (x1 : Int32) (x2 : Int32) (x3 : Int32) (σ : St) (r : Int32) (σr : St) (hf : f_Model_cell n x1 x2 x3 σ = some (r, σr)) : Ki l D cA tz (wm ad cA) y_Model_cell (.code y_Model_cell b_Model_cell 6 (some .int) :: TB) ({ frames := 4, cells := 0, slots := 0, locals := 96 }) [.ref (ad 0), .int x1, .int x2, .int x3] σ r σr := by
  refine x_openi (own := R_Model) rfl (by decide) (fun p e s m args below meth c A Q X hml hZ hA H locs ls h hl rt => ?_)
  have hx := X.1
  have hb := X.2.1
  have hl : lv_has ls 6 [(0, .ref (ad 0)), (1, .int x1), (2, .int x2), (3, .int x3)] := hl
  have L143 : ∀ (y5 : Int32) (σ : St), f_Model_cell_143 n y5 σ = some (r, σr) → ∀ (H : Heap) (locs : List Loc) (ls : Array Slot), WD D A s (wm ad cA σ) H locs → lv_has ls 6 [(0, .ref (ad 0)), (5, .int y5)] → W p l e ({ frames := 4, cells := 0, slots := 0, locals := 96 }) s m args below meth c H locs 0 0 Q (F0 m 143 ls []) := by
    intro y5 σ hf H locs ls h hl
    unfold f_Model_cell_143 at hf
    refine lv_iload hx hb d_Model_cell_143 (lv_at hl 1 rfl) ?_
    refine lv_if_ge (tgt := 152) hx hb d_Model_cell_145 (by decide) (fun c38 => ?_) (fun c38 => ?_)
    · have hf := it c38 hf
      refine lv_iconst (v := 2) hx hb d_Model_cell_152 (by decide) ?_
      refine lv_aload_n hx hb d_Model_cell_153 rfl (lv_at hl 0 rfl) ?_
      refine G_model_kind X h m_f_Model_23 d_Model_cell_154 ?_
      refine lv_iload hx hb d_Model_cell_157 (lv_at hl 1 rfl) ?_
      obtain ⟨g39, hf⟩ := gd_s hf
      refine R_mkind X h (inb_s g39) d_Model_cell_159 ?_
      refine lv_iadd hx hb d_Model_cell_160 ?_
      exact rt _ _ H locs 161 ls hf h d_Model_cell_161
    · have hf := ie c38 hf
      refine lv_iconst (v := 0) hx hb d_Model_cell_148 (by decide) ?_
      refine lv_goto (tgt := 161) hx hb d_Model_cell_149 (by decide) ?_
      exact rt _ _ H locs 161 ls hf h d_Model_cell_161
  unfold f_Model_cell at hf
  refine lv_iload_n hx hb d_Model_cell_0 rfl (lv_at hl 1 rfl) ?_
  refine lv_iconst (v := 0) hx hb d_Model_cell_1 (by decide) ?_
  refine lv_bipush (v := 11) hx hb d_Model_cell_2 (by decide) ?_
  obtain ⟨r1, σ2, h3, hf⟩ := bd_s hf
  refine x_Si (As := [.int x1, .int 0, .int 11]) (rest := []) X hml hl.1 hZ hA h (c_Model_in l D ad cA tz n x1 0 11 σ r1 σ2 h3) k_Model_in m_m_Model_148 kd_Model_in ⟨rfl, rfl, Nat.le_of_ble_eq_true rfl, Nat.le_of_ble_eq_true rfl⟩ rfl rfl (Nat.le_of_ble_eq_true rfl) d_Model_cell_4 (fun H locs h => ?_)
  refine lv_if_eq (tgt := 29) hx hb d_Model_cell_7 (by decide) (fun c4 => ?_) (fun c4 => ?_)
  · have hf := it c4 hf
    refine lv_iconst (v := (-1)) hx hb d_Model_cell_29 (by decide) ?_
    exact rt _ _ H locs 30 ls hf h d_Model_cell_30
  · have hf := ie c4 hf
    refine lv_iload_n hx hb d_Model_cell_10 rfl (lv_at hl 2 rfl) ?_
    refine lv_iconst (v := 0) hx hb d_Model_cell_11 (by decide) ?_
    refine lv_bipush (v := 9) hx hb d_Model_cell_12 (by decide) ?_
    obtain ⟨r5, σ6, h7, hf⟩ := bd_s hf
    refine x_Si (As := [.int x2, .int 0, .int 9]) (rest := []) X hml hl.1 hZ hA h (c_Model_in l D ad cA tz n x2 0 9 σ2 r5 σ6 h7) k_Model_in m_m_Model_148 kd_Model_in ⟨rfl, rfl, Nat.le_of_ble_eq_true rfl, Nat.le_of_ble_eq_true rfl⟩ rfl rfl (Nat.le_of_ble_eq_true rfl) d_Model_cell_14 (fun H locs h => ?_)
    refine lv_if_eq (tgt := 29) hx hb d_Model_cell_17 (by decide) (fun c8 => ?_) (fun c8 => ?_)
    · have hf := it c8 hf
      refine lv_iconst (v := (-1)) hx hb d_Model_cell_29 (by decide) ?_
      exact rt _ _ H locs 30 ls hf h d_Model_cell_30
    · have hf := ie c8 hf
      refine lv_iload_n hx hb d_Model_cell_20 rfl (lv_at hl 3 rfl) ?_
      refine lv_iconst (v := 0) hx hb d_Model_cell_21 (by decide) ?_
      refine lv_iconst (v := 5) hx hb d_Model_cell_22 (by decide) ?_
      obtain ⟨r9, σ10, h11, hf⟩ := bd_s hf
      refine x_Si (As := [.int x3, .int 0, .int 5]) (rest := []) X hml hl.1 hZ hA h (c_Model_in l D ad cA tz n x3 0 5 σ6 r9 σ10 h11) k_Model_in m_m_Model_148 kd_Model_in ⟨rfl, rfl, Nat.le_of_ble_eq_true rfl, Nat.le_of_ble_eq_true rfl⟩ rfl rfl (Nat.le_of_ble_eq_true rfl) d_Model_cell_23 (fun H locs h => ?_)
      refine lv_if_ne (tgt := 31) hx hb d_Model_cell_26 (by decide) (fun c12 => ?_) (fun c12 => ?_)
      · have hf := ie c12 hf
        refine lv_bipush (v := 12) hx hb d_Model_cell_31 (by decide) ?_
        refine lv_iload_n hx hb d_Model_cell_33 rfl (lv_at hl 2 rfl) ?_
        refine lv_imul hx hb d_Model_cell_34 ?_
        refine lv_iload_n hx hb d_Model_cell_35 rfl (lv_at hl 1 rfl) ?_
        refine lv_iadd hx hb d_Model_cell_36 ?_
        refine lv_topi (fun v13 ev13 => ?_)
        have hf := nm_b hf ev13
        refine lv_istore (lv' := [(4, .int v13), (0, .ref (ad 0)), (1, .int x1), (2, .int x2), (3, .int x3)]) hx hb d_Model_cell_37 hl (by decide) rfl (fun ls hl => ?_)
        refine lv_aload_n hx hb d_Model_cell_39 rfl (lv_at hl 1 rfl) ?_
        refine lv_iload_n hx hb d_Model_cell_40 rfl (lv_at hl 2 rfl) ?_
        refine lv_iload_n hx hb d_Model_cell_41 rfl (lv_at hl 3 rfl) ?_
        obtain ⟨r14, σ15, h16, hf⟩ := bd_s hf
        refine x_Vi (As := [.int x1, .int x2]) (rest := []) X hml hl.1 hZ hA h (c_Model_monsterAt l D ad cA tz n x1 x2 σ10 r14 σ15 h16) k_Model_monsterAt m_m_Model_141 kd_Model_monsterAt ⟨rfl, rfl, Nat.le_of_ble_eq_true rfl, Nat.le_of_ble_eq_true rfl⟩ 0 rfl rfl rfl rfl rfl (Nat.le_of_ble_eq_true rfl) d_Model_cell_42 (fun H locs h => ?_)
        refine lv_istore (lv' := [(5, .int r14), (4, .int v13), (0, .ref (ad 0)), (1, .int x1), (2, .int x2), (3, .int x3)]) hx hb d_Model_cell_45 hl (by decide) rfl (fun ls hl => ?_)
        refine lv_iload_n hx hb d_Model_cell_47 rfl (lv_at hl 5 rfl) ?_
        by_cases c17 : x3 = 0
        · have hf := it c17 hf
          refine lv_tableIn (off := 36) (tgt := 84) hx hb d_Model_cell_48 (by rw [c17]; decide) (by rw [c17]; decide) (by rw [c17]; decide) (by decide) ?_
          refine lv_aload_n hx hb d_Model_cell_84 rfl (lv_at hl 2 rfl) ?_
          refine G_model_floor X h m_f_Model_7 d_Model_cell_85 ?_
          refine lv_iload hx hb d_Model_cell_88 (lv_at hl 1 rfl) ?_
          obtain ⟨g18, hf⟩ := gd_s hf
          refine R_mfloor X h (inb_s g18) d_Model_cell_90 ?_
          exact rt _ _ H locs 91 ls hf h d_Model_cell_91
        · have hf := ie c17 hf
          by_cases c19 : x3 = 1
          · have hf := it c19 hf
            refine lv_tableIn (off := 44) (tgt := 92) hx hb d_Model_cell_48 (by rw [c19]; decide) (by rw [c19]; decide) (by rw [c19]; decide) (by decide) ?_
            refine lv_aload_n hx hb d_Model_cell_92 rfl (lv_at hl 2 rfl) ?_
            refine lv_iload_n hx hb d_Model_cell_93 rfl (lv_at hl 3 rfl) ?_
            refine lv_iload_n hx hb d_Model_cell_94 rfl (lv_at hl 4 rfl) ?_
            obtain ⟨r20, σ21, h22, hf⟩ := bd_s hf
            refine x_Vi (As := [.int x1, .int x2]) (rest := []) X hml hl.1 hZ hA h (c_Model_isSeen l D ad cA tz n x1 x2 σ15 r20 σ21 h22) k_Model_isSeen m_m_Model_166 kd_Model_isSeen ⟨rfl, rfl, Nat.le_of_ble_eq_true rfl, Nat.le_of_ble_eq_true rfl⟩ 0 rfl rfl rfl rfl rfl (Nat.le_of_ble_eq_true rfl) d_Model_cell_95 (fun H locs h => ?_)
            refine lv_if_eq (tgt := 105) hx hb d_Model_cell_98 (by decide) (fun c23 => ?_) (fun c23 => ?_)
            · have hf := it c23 hf
              refine lv_iconst (v := 0) hx hb d_Model_cell_105 (by decide) ?_
              exact rt _ _ H locs 106 ls hf h d_Model_cell_106
            · have hf := ie c23 hf
              refine lv_iconst (v := 1) hx hb d_Model_cell_101 (by decide) ?_
              refine lv_goto (tgt := 106) hx hb d_Model_cell_102 (by decide) ?_
              exact rt _ _ H locs 106 ls hf h d_Model_cell_106
          · have hf := ie c19 hf
            by_cases c24 : x3 = 2
            · have hf := it c24 hf
              refine lv_tableIn (off := 59) (tgt := 107) hx hb d_Model_cell_48 (by rw [c24]; decide) (by rw [c24]; decide) (by rw [c24]; decide) (by decide) ?_
              refine lv_aload_n hx hb d_Model_cell_107 rfl (lv_at hl 2 rfl) ?_
              refine G_model_known X h m_f_Model_19 d_Model_cell_108 ?_
              refine lv_iload hx hb d_Model_cell_111 (lv_at hl 1 rfl) ?_
              obtain ⟨g25, hf⟩ := gd_s hf
              refine R_mknown X h (inb_s g25) d_Model_cell_113 ?_
              refine lv_if_eq (tgt := 121) hx hb d_Model_cell_114 (by decide) (fun c26 => ?_) (fun c26 => ?_)
              · have hf := it c26 hf
                refine lv_iconst (v := 0) hx hb d_Model_cell_121 (by decide) ?_
                exact rt _ _ H locs 122 ls hf h d_Model_cell_122
              · have hf := ie c26 hf
                refine lv_iconst (v := 1) hx hb d_Model_cell_117 (by decide) ?_
                refine lv_goto (tgt := 122) hx hb d_Model_cell_118 (by decide) ?_
                exact rt _ _ H locs 122 ls hf h d_Model_cell_122
            · have hf := ie c24 hf
              by_cases c27 : x3 = 3
              · have hf := it c27 hf
                refine lv_tableIn (off := 75) (tgt := 123) hx hb d_Model_cell_48 (by rw [c27]; decide) (by rw [c27]; decide) (by rw [c27]; decide) (by decide) ?_
                refine lv_iload_n hx hb d_Model_cell_123 rfl (lv_at hl 3 rfl) ?_
                refine lv_aload_n hx hb d_Model_cell_124 rfl (lv_at hl 2 rfl) ?_
                refine G_model_px X h m_f_Model_129 d_Model_cell_125 ?_
                refine lv_icmp_ne (tgt := 143) hx hb d_Model_cell_128 (by decide) (fun c28 => ?_) (fun c28 => ?_)
                · have hf := ie c28 hf
                  exact L143 r14 σ15 hf H locs ls h (lv_sub hl [2, 0] rfl)
                · have hf := it c28 hf
                  refine lv_iload_n hx hb d_Model_cell_131 rfl (lv_at hl 4 rfl) ?_
                  refine lv_aload_n hx hb d_Model_cell_132 rfl (lv_at hl 2 rfl) ?_
                  refine G_model_py X h m_f_Model_132 d_Model_cell_133 ?_
                  refine lv_icmp_ne (tgt := 143) hx hb d_Model_cell_136 (by decide) (fun c29 => ?_) (fun c29 => ?_)
                  · have hf := ie c29 hf
                    exact L143 r14 σ15 hf H locs ls h (lv_sub hl [2, 0] rfl)
                  · have hf := it c29 hf
                    refine lv_iconst (v := 1) hx hb d_Model_cell_139 (by decide) ?_
                    refine lv_goto (tgt := 161) hx hb d_Model_cell_140 (by decide) ?_
                    exact rt _ _ H locs 161 ls hf h d_Model_cell_161
              · have hf := ie c27 hf
                by_cases c30 : x3 = 4
                · have hf := it c30 hf
                  refine lv_tableIn (off := 114) (tgt := 162) hx hb d_Model_cell_48 (by rw [c30]; decide) (by rw [c30]; decide) (by rw [c30]; decide) (by decide) ?_
                  refine lv_iconst (v := 1) hx hb d_Model_cell_162 (by decide) ?_
                  refine lv_aload_n hx hb d_Model_cell_163 rfl (lv_at hl 2 rfl) ?_
                  refine G_model_thing X h m_f_Model_13 d_Model_cell_164 ?_
                  refine lv_iload hx hb d_Model_cell_167 (lv_at hl 1 rfl) ?_
                  obtain ⟨g31, hf⟩ := gd_s hf
                  refine R_mthing X h (inb_s g31) d_Model_cell_169 ?_
                  refine lv_iadd hx hb d_Model_cell_170 ?_
                  exact rt _ _ H locs 171 ls hf h d_Model_cell_171
                · have hf := ie c30 hf
                  refine lv_tableOut (tgt := 172) hx hb d_Model_cell_48 (by have zc17 := lv_neT c17 (show (0 : Int32).toInt = 0 by decide); have zc19 := lv_neT c19 (show (1 : Int32).toInt = 1 by decide); have zc24 := lv_neT c24 (show (2 : Int32).toInt = 2 by decide); have zc27 := lv_neT c27 (show (3 : Int32).toInt = 3 by decide); have zc30 := lv_neT c30 (show (4 : Int32).toInt = 4 by decide); omega) (by decide) ?_
                  refine lv_aload_n hx hb d_Model_cell_172 rfl (lv_at hl 2 rfl) ?_
                  obtain ⟨r32, σ33, h34, hf⟩ := bd_s hf
                  refine x_Vv (As := []) (rest := []) X hml hl.1 hZ hA h (c_Model_measure l D ad cA tz n σ15 r32 σ33 h34) k_Model_measure m_m_Model_185 kd_Model_measure ⟨rfl, rfl, Nat.le_of_ble_eq_true rfl, Nat.le_of_ble_eq_true rfl⟩ 0 rfl rfl rfl rfl rfl (Nat.le_of_ble_eq_true rfl) d_Model_cell_173 (fun H locs h => ?_)
                  refine lv_aload_n hx hb d_Model_cell_176 rfl (lv_at hl 2 rfl) ?_
                  refine G_model_distance X h m_f_Model_16 d_Model_cell_177 ?_
                  refine lv_iload hx hb d_Model_cell_180 (lv_at hl 1 rfl) ?_
                  obtain ⟨g35, hf⟩ := gd_s hf
                  refine R_mdistance X h (inb_s g35) d_Model_cell_182 ?_
                  refine lv_if_ge (tgt := 191) hx hb d_Model_cell_183 (by decide) (fun c36 => ?_) (fun c36 => ?_)
                  · have hf := it c36 hf
                    refine lv_aload_n hx hb d_Model_cell_191 rfl (lv_at hl 2 rfl) ?_
                    refine G_model_distance X h m_f_Model_16 d_Model_cell_192 ?_
                    refine lv_iload hx hb d_Model_cell_195 (lv_at hl 1 rfl) ?_
                    obtain ⟨g37, hf⟩ := gd_s hf
                    refine R_mdistance X h (inb_s g37) d_Model_cell_197 ?_
                    exact rt _ _ H locs 198 ls hf h d_Model_cell_198
                  · have hf := ie c36 hf
                    refine lv_bipush (v := (-2)) hx hb d_Model_cell_186 (by decide) ?_
                    refine lv_goto (tgt := 198) hx hb d_Model_cell_188 (by decide) ?_
                    exact rt _ _ H locs 198 ls hf h d_Model_cell_198
      · have hf := it c12 hf
        refine lv_iconst (v := (-1)) hx hb d_Model_cell_29 (by decide) ?_
        exact rt _ _ H locs 30 ls hf h d_Model_cell_30
theorem d_Model_monster_0 : decode b_Model_monster 0 = .ok (.iload_n 2, 1) := by decide +kernel
theorem d_Model_monster_1 : decode b_Model_monster 1 = .ok (.iconst 0, 1) := by decide +kernel
theorem d_Model_monster_2 : decode b_Model_monster 2 = .ok (.iconst 5, 1) := by decide +kernel
theorem d_Model_monster_3 : decode b_Model_monster 3 = .ok (.invokestatic 148, 3) := by decide +kernel
theorem d_Model_monster_6 : decode b_Model_monster 6 = .ok (.ifCond .ne 5, 3) := by decide +kernel
theorem d_Model_monster_9 : decode b_Model_monster 9 = .ok (.iconst (-1), 1) := by decide +kernel
theorem d_Model_monster_10 : decode b_Model_monster 10 = .ok (.ireturn, 1) := by decide +kernel
theorem d_Model_monster_11 : decode b_Model_monster 11 = .ok (.iload_n 1, 1) := by decide +kernel
theorem d_Model_monster_12 : decode b_Model_monster 12 = .ok (.iconst 0, 1) := by decide +kernel
theorem d_Model_monster_13 : decode b_Model_monster 13 = .ok (.aload_n 0, 1) := by decide +kernel
theorem d_Model_monster_14 : decode b_Model_monster 14 = .ok (.getfield 138, 3) := by decide +kernel
theorem d_Model_monster_17 : decode b_Model_monster 17 = .ok (.iconst 1, 1) := by decide +kernel
theorem d_Model_monster_18 : decode b_Model_monster 18 = .ok (.isub, 1) := by decide +kernel
theorem d_Model_monster_19 : decode b_Model_monster 19 = .ok (.invokestatic 148, 3) := by decide +kernel
theorem d_Model_monster_22 : decode b_Model_monster 22 = .ok (.ifCond .eq 12, 3) := by decide +kernel
theorem d_Model_monster_25 : decode b_Model_monster 25 = .ok (.aload_n 0, 1) := by decide +kernel
theorem d_Model_monster_26 : decode b_Model_monster 26 = .ok (.getfield 41, 3) := by decide +kernel
theorem d_Model_monster_29 : decode b_Model_monster 29 = .ok (.iload_n 1, 1) := by decide +kernel
theorem d_Model_monster_30 : decode b_Model_monster 30 = .ok (.baload, 1) := by decide +kernel
theorem d_Model_monster_31 : decode b_Model_monster 31 = .ok (.ifCond .eq 6, 3) := by decide +kernel
theorem d_Model_monster_34 : decode b_Model_monster 34 = .ok (.bipush (-2), 2) := by decide +kernel
theorem d_Model_monster_36 : decode b_Model_monster 36 = .ok (.ireturn, 1) := by decide +kernel
theorem d_Model_monster_37 : decode b_Model_monster 37 = .ok (.iload_n 2, 1) := by decide +kernel
theorem d_Model_monster_38 : decode b_Model_monster 38 = .ok (.ifCond .ne 12, 3) := by decide +kernel
theorem d_Model_monster_41 : decode b_Model_monster 41 = .ok (.aload_n 0, 1) := by decide +kernel
theorem d_Model_monster_42 : decode b_Model_monster 42 = .ok (.getfield 23, 3) := by decide +kernel
theorem d_Model_monster_45 : decode b_Model_monster 45 = .ok (.iload_n 1, 1) := by decide +kernel
theorem d_Model_monster_46 : decode b_Model_monster 46 = .ok (.iaload, 1) := by decide +kernel
theorem d_Model_monster_47 : decode b_Model_monster 47 = .ok (.goto 73, 3) := by decide +kernel
theorem d_Model_monster_50 : decode b_Model_monster 50 = .ok (.iload_n 2, 1) := by decide +kernel
theorem d_Model_monster_51 : decode b_Model_monster 51 = .ok (.iconst 1, 1) := by decide +kernel
theorem d_Model_monster_52 : decode b_Model_monster 52 = .ok (.if_icmp .ne 12, 3) := by decide +kernel
theorem d_Model_monster_55 : decode b_Model_monster 55 = .ok (.aload_n 0, 1) := by decide +kernel
theorem d_Model_monster_56 : decode b_Model_monster 56 = .ok (.getfield 26, 3) := by decide +kernel
theorem d_Model_monster_59 : decode b_Model_monster 59 = .ok (.iload_n 1, 1) := by decide +kernel
theorem d_Model_monster_60 : decode b_Model_monster 60 = .ok (.iaload, 1) := by decide +kernel
theorem d_Model_monster_61 : decode b_Model_monster 61 = .ok (.goto 59, 3) := by decide +kernel
theorem d_Model_monster_64 : decode b_Model_monster 64 = .ok (.iload_n 2, 1) := by decide +kernel
theorem d_Model_monster_65 : decode b_Model_monster 65 = .ok (.iconst 2, 1) := by decide +kernel
theorem d_Model_monster_66 : decode b_Model_monster 66 = .ok (.if_icmp .ne 12, 3) := by decide +kernel
theorem d_Model_monster_69 : decode b_Model_monster 69 = .ok (.aload_n 0, 1) := by decide +kernel
theorem d_Model_monster_70 : decode b_Model_monster 70 = .ok (.getfield 29, 3) := by decide +kernel
theorem d_Model_monster_73 : decode b_Model_monster 73 = .ok (.iload_n 1, 1) := by decide +kernel
theorem d_Model_monster_74 : decode b_Model_monster 74 = .ok (.iaload, 1) := by decide +kernel
theorem d_Model_monster_75 : decode b_Model_monster 75 = .ok (.goto 45, 3) := by decide +kernel
theorem d_Model_monster_78 : decode b_Model_monster 78 = .ok (.iload_n 2, 1) := by decide +kernel
theorem d_Model_monster_79 : decode b_Model_monster 79 = .ok (.iconst 3, 1) := by decide +kernel
theorem d_Model_monster_80 : decode b_Model_monster 80 = .ok (.if_icmp .ne 12, 3) := by decide +kernel
theorem d_Model_monster_83 : decode b_Model_monster 83 = .ok (.aload_n 0, 1) := by decide +kernel
theorem d_Model_monster_84 : decode b_Model_monster 84 = .ok (.getfield 32, 3) := by decide +kernel
theorem d_Model_monster_87 : decode b_Model_monster 87 = .ok (.iload_n 1, 1) := by decide +kernel
theorem d_Model_monster_88 : decode b_Model_monster 88 = .ok (.iaload, 1) := by decide +kernel
theorem d_Model_monster_89 : decode b_Model_monster 89 = .ok (.goto 31, 3) := by decide +kernel
theorem d_Model_monster_92 : decode b_Model_monster 92 = .ok (.iload_n 2, 1) := by decide +kernel
theorem d_Model_monster_93 : decode b_Model_monster 93 = .ok (.iconst 4, 1) := by decide +kernel
theorem d_Model_monster_94 : decode b_Model_monster 94 = .ok (.if_icmp .ne 12, 3) := by decide +kernel
theorem d_Model_monster_97 : decode b_Model_monster 97 = .ok (.aload_n 0, 1) := by decide +kernel
theorem d_Model_monster_98 : decode b_Model_monster 98 = .ok (.getfield 35, 3) := by decide +kernel
theorem d_Model_monster_101 : decode b_Model_monster 101 = .ok (.iload_n 1, 1) := by decide +kernel
theorem d_Model_monster_102 : decode b_Model_monster 102 = .ok (.iaload, 1) := by decide +kernel
theorem d_Model_monster_103 : decode b_Model_monster 103 = .ok (.goto 17, 3) := by decide +kernel
theorem d_Model_monster_106 : decode b_Model_monster 106 = .ok (.aload_n 0, 1) := by decide +kernel
theorem d_Model_monster_107 : decode b_Model_monster 107 = .ok (.getfield 38, 3) := by decide +kernel
theorem d_Model_monster_110 : decode b_Model_monster 110 = .ok (.iload_n 1, 1) := by decide +kernel
theorem d_Model_monster_111 : decode b_Model_monster 111 = .ok (.baload, 1) := by decide +kernel
theorem d_Model_monster_112 : decode b_Model_monster 112 = .ok (.ifCond .eq 7, 3) := by decide +kernel
theorem d_Model_monster_115 : decode b_Model_monster 115 = .ok (.iconst 1, 1) := by decide +kernel
theorem d_Model_monster_116 : decode b_Model_monster 116 = .ok (.goto 4, 3) := by decide +kernel
theorem d_Model_monster_119 : decode b_Model_monster 119 = .ok (.iconst 0, 1) := by decide +kernel
theorem d_Model_monster_120 : decode b_Model_monster 120 = .ok (.ireturn, 1) := by decide +kernel
def f_Model_monster (n : Nat) (x1 : Int32) (x2 : Int32) (σ : St) : Option (Int32 × St) := bd (f_Model_in n x2 0 5 σ) (fun r1 σ2 => if r1 = 0 then (some ((-1), σ2)) else (bd (f_Model_in n x1 0 ((σ2.1 1) - 1) σ2) (fun r5 σ6 => if r5 = 0 then (some ((-2), σ6)) else (gd (inb x1 8) (if (σ6.2.2 10 x1.toNatClampNeg) = 0 then (if x2 = 0 then (gd (inb x1 8) (some (σ6.2.2 4 x1.toNatClampNeg, σ6))) else (if x2 = 1 then (gd (inb x1 8) (some (σ6.2.2 5 x1.toNatClampNeg, σ6))) else (if x2 = 2 then (gd (inb x1 8) (some (σ6.2.2 6 x1.toNatClampNeg, σ6))) else (if x2 = 3 then (gd (inb x1 8) (some (σ6.2.2 7 x1.toNatClampNeg, σ6))) else (if x2 = 4 then (gd (inb x1 8) (some (σ6.2.2 8 x1.toNatClampNeg, σ6))) else (gd (inb x1 8) (if (σ6.2.2 9 x1.toNatClampNeg) = 0 then (some (0, σ6)) else (some (1, σ6))))))))) else (some ((-2), σ6)))))))
set_option maxHeartbeats 4000000 in
set_option maxRecDepth 100000 in
theorem c_Model_monster (l : Launch) (D : va_G) (ad : Nat → Nat) (cA : Nat → ClassId) (tz : Nat → Nat) (n : Nat) (x1 : Int32) (x2 : Int32) (σ : St) (r : Int32) (σr : St) (hf : f_Model_monster n x1 x2 σ = some (r, σr)) : Ki l D cA tz (wm ad cA) y_Model_monster (.code y_Model_monster b_Model_monster 3 (some .int) :: TB) ({ frames := 1, cells := 0, slots := 0, locals := 22 }) [.ref (ad 0), .int x1, .int x2] σ r σr := by
  refine x_openi (own := R_Model) rfl (by decide) (fun p e s m args below meth c A Q X hml hZ hA H locs ls h hl rt => ?_)
  have hx := X.1
  have hb := X.2.1
  have hl : lv_has ls 3 [(0, .ref (ad 0)), (1, .int x1), (2, .int x2)] := hl
  unfold f_Model_monster at hf
  refine lv_iload_n hx hb d_Model_monster_0 rfl (lv_at hl 2 rfl) ?_
  refine lv_iconst (v := 0) hx hb d_Model_monster_1 (by decide) ?_
  refine lv_iconst (v := 5) hx hb d_Model_monster_2 (by decide) ?_
  obtain ⟨r1, σ2, h3, hf⟩ := bd_s hf
  refine x_Si (As := [.int x2, .int 0, .int 5]) (rest := []) X hml hl.1 hZ hA h (c_Model_in l D ad cA tz n x2 0 5 σ r1 σ2 h3) k_Model_in m_m_Model_148 kd_Model_in ⟨rfl, rfl, Nat.le_of_ble_eq_true rfl, Nat.le_of_ble_eq_true rfl⟩ rfl rfl (Nat.le_of_ble_eq_true rfl) d_Model_monster_3 (fun H locs h => ?_)
  refine lv_if_ne (tgt := 11) hx hb d_Model_monster_6 (by decide) (fun c4 => ?_) (fun c4 => ?_)
  · have hf := ie c4 hf
    refine lv_iload_n hx hb d_Model_monster_11 rfl (lv_at hl 1 rfl) ?_
    refine lv_iconst (v := 0) hx hb d_Model_monster_12 (by decide) ?_
    refine lv_aload_n hx hb d_Model_monster_13 rfl (lv_at hl 0 rfl) ?_
    refine G_model_monsters X h m_f_Model_138 d_Model_monster_14 ?_
    refine lv_iconst (v := 1) hx hb d_Model_monster_17 (by decide) ?_
    refine lv_isub hx hb d_Model_monster_18 ?_
    obtain ⟨r5, σ6, h7, hf⟩ := bd_s hf
    refine x_Si (As := [.int x1, .int 0, .int ((σ2.1 1) - 1)]) (rest := []) X hml hl.1 hZ hA h (c_Model_in l D ad cA tz n x1 0 ((σ2.1 1) - 1) σ2 r5 σ6 h7) k_Model_in m_m_Model_148 kd_Model_in ⟨rfl, rfl, Nat.le_of_ble_eq_true rfl, Nat.le_of_ble_eq_true rfl⟩ rfl rfl (Nat.le_of_ble_eq_true rfl) d_Model_monster_19 (fun H locs h => ?_)
    refine lv_if_eq (tgt := 34) hx hb d_Model_monster_22 (by decide) (fun c8 => ?_) (fun c8 => ?_)
    · have hf := it c8 hf
      refine lv_bipush (v := (-2)) hx hb d_Model_monster_34 (by decide) ?_
      exact rt _ _ H locs 36 ls hf h d_Model_monster_36
    · have hf := ie c8 hf
      refine lv_aload_n hx hb d_Model_monster_25 rfl (lv_at hl 0 rfl) ?_
      refine G_model_gone X h m_f_Model_41 d_Model_monster_26 ?_
      refine lv_iload_n hx hb d_Model_monster_29 rfl (lv_at hl 1 rfl) ?_
      obtain ⟨g9, hf⟩ := gd_s hf
      refine R_mgone X h (inb_s g9) d_Model_monster_30 ?_
      refine lv_if_eq (tgt := 37) hx hb d_Model_monster_31 (by decide) (fun c10 => ?_) (fun c10 => ?_)
      · have hf := it c10 hf
        refine lv_iload_n hx hb d_Model_monster_37 rfl (lv_at hl 2 rfl) ?_
        refine lv_if_ne (tgt := 50) hx hb d_Model_monster_38 (by decide) (fun c11 => ?_) (fun c11 => ?_)
        · have hf := ie c11 hf
          refine lv_iload_n hx hb d_Model_monster_50 rfl (lv_at hl 2 rfl) ?_
          refine lv_iconst (v := 1) hx hb d_Model_monster_51 (by decide) ?_
          refine lv_icmp_ne (tgt := 64) hx hb d_Model_monster_52 (by decide) (fun c12 => ?_) (fun c12 => ?_)
          · have hf := ie c12 hf
            refine lv_iload_n hx hb d_Model_monster_64 rfl (lv_at hl 2 rfl) ?_
            refine lv_iconst (v := 2) hx hb d_Model_monster_65 (by decide) ?_
            refine lv_icmp_ne (tgt := 78) hx hb d_Model_monster_66 (by decide) (fun c13 => ?_) (fun c13 => ?_)
            · have hf := ie c13 hf
              refine lv_iload_n hx hb d_Model_monster_78 rfl (lv_at hl 2 rfl) ?_
              refine lv_iconst (v := 3) hx hb d_Model_monster_79 (by decide) ?_
              refine lv_icmp_ne (tgt := 92) hx hb d_Model_monster_80 (by decide) (fun c14 => ?_) (fun c14 => ?_)
              · have hf := ie c14 hf
                refine lv_iload_n hx hb d_Model_monster_92 rfl (lv_at hl 2 rfl) ?_
                refine lv_iconst (v := 4) hx hb d_Model_monster_93 (by decide) ?_
                refine lv_icmp_ne (tgt := 106) hx hb d_Model_monster_94 (by decide) (fun c15 => ?_) (fun c15 => ?_)
                · have hf := ie c15 hf
                  refine lv_aload_n hx hb d_Model_monster_106 rfl (lv_at hl 0 rfl) ?_
                  refine G_model_awake X h m_f_Model_38 d_Model_monster_107 ?_
                  refine lv_iload_n hx hb d_Model_monster_110 rfl (lv_at hl 1 rfl) ?_
                  obtain ⟨g16, hf⟩ := gd_s hf
                  refine R_mawake X h (inb_s g16) d_Model_monster_111 ?_
                  refine lv_if_eq (tgt := 119) hx hb d_Model_monster_112 (by decide) (fun c17 => ?_) (fun c17 => ?_)
                  · have hf := it c17 hf
                    refine lv_iconst (v := 0) hx hb d_Model_monster_119 (by decide) ?_
                    exact rt _ _ H locs 120 ls hf h d_Model_monster_120
                  · have hf := ie c17 hf
                    refine lv_iconst (v := 1) hx hb d_Model_monster_115 (by decide) ?_
                    refine lv_goto (tgt := 120) hx hb d_Model_monster_116 (by decide) ?_
                    exact rt _ _ H locs 120 ls hf h d_Model_monster_120
                · have hf := it c15 hf
                  refine lv_aload_n hx hb d_Model_monster_97 rfl (lv_at hl 0 rfl) ?_
                  refine G_model_energy X h m_f_Model_35 d_Model_monster_98 ?_
                  refine lv_iload_n hx hb d_Model_monster_101 rfl (lv_at hl 1 rfl) ?_
                  obtain ⟨g18, hf⟩ := gd_s hf
                  refine R_menergy X h (inb_s g18) d_Model_monster_102 ?_
                  refine lv_goto (tgt := 120) hx hb d_Model_monster_103 (by decide) ?_
                  exact rt _ _ H locs 120 ls hf h d_Model_monster_120
              · have hf := it c14 hf
                refine lv_aload_n hx hb d_Model_monster_83 rfl (lv_at hl 0 rfl) ?_
                refine G_model_health X h m_f_Model_32 d_Model_monster_84 ?_
                refine lv_iload_n hx hb d_Model_monster_87 rfl (lv_at hl 1 rfl) ?_
                obtain ⟨g19, hf⟩ := gd_s hf
                refine R_mhealth X h (inb_s g19) d_Model_monster_88 ?_
                refine lv_goto (tgt := 120) hx hb d_Model_monster_89 (by decide) ?_
                exact rt _ _ H locs 120 ls hf h d_Model_monster_120
            · have hf := it c13 hf
              refine lv_aload_n hx hb d_Model_monster_69 rfl (lv_at hl 0 rfl) ?_
              refine G_model_my X h m_f_Model_29 d_Model_monster_70 ?_
              refine lv_iload_n hx hb d_Model_monster_73 rfl (lv_at hl 1 rfl) ?_
              obtain ⟨g20, hf⟩ := gd_s hf
              refine R_mmy X h (inb_s g20) d_Model_monster_74 ?_
              refine lv_goto (tgt := 120) hx hb d_Model_monster_75 (by decide) ?_
              exact rt _ _ H locs 120 ls hf h d_Model_monster_120
          · have hf := it c12 hf
            refine lv_aload_n hx hb d_Model_monster_55 rfl (lv_at hl 0 rfl) ?_
            refine G_model_mx X h m_f_Model_26 d_Model_monster_56 ?_
            refine lv_iload_n hx hb d_Model_monster_59 rfl (lv_at hl 1 rfl) ?_
            obtain ⟨g21, hf⟩ := gd_s hf
            refine R_mmx X h (inb_s g21) d_Model_monster_60 ?_
            refine lv_goto (tgt := 120) hx hb d_Model_monster_61 (by decide) ?_
            exact rt _ _ H locs 120 ls hf h d_Model_monster_120
        · have hf := it c11 hf
          refine lv_aload_n hx hb d_Model_monster_41 rfl (lv_at hl 0 rfl) ?_
          refine G_model_kind X h m_f_Model_23 d_Model_monster_42 ?_
          refine lv_iload_n hx hb d_Model_monster_45 rfl (lv_at hl 1 rfl) ?_
          obtain ⟨g22, hf⟩ := gd_s hf
          refine R_mkind X h (inb_s g22) d_Model_monster_46 ?_
          refine lv_goto (tgt := 120) hx hb d_Model_monster_47 (by decide) ?_
          exact rt _ _ H locs 120 ls hf h d_Model_monster_120
      · have hf := ie c10 hf
        refine lv_bipush (v := (-2)) hx hb d_Model_monster_34 (by decide) ?_
        exact rt _ _ H locs 36 ls hf h d_Model_monster_36
  · have hf := it c4 hf
    refine lv_iconst (v := (-1)) hx hb d_Model_monster_9 (by decide) ?_
    exact rt _ _ H locs 10 ls hf h d_Model_monster_10

