theorem d_Monsters_add_0 : decode b_Monsters_add 0 = .ok (.aload_n 0, 1) := by decide +kernel
theorem d_Monsters_add_1 : decode b_Monsters_add 1 = .ok (.getfield 27, 3) := by decide +kernel
theorem d_Monsters_add_4 : decode b_Monsters_add 4 = .ok (.iconst 5, 1) := by decide +kernel
theorem d_Monsters_add_5 : decode b_Monsters_add 5 = .ok (.if_icmp .ge 25, 3) := by decide +kernel
theorem d_Monsters_add_8 : decode b_Monsters_add 8 = .ok (.iload_n 1, 1) := by decide +kernel
theorem d_Monsters_add_9 : decode b_Monsters_add 9 = .ok (.ifCond .lt 21, 3) := by decide +kernel
theorem d_Monsters_add_12 : decode b_Monsters_add 12 = .ok (.iload_n 1, 1) := by decide +kernel
theorem d_Monsters_add_13 : decode b_Monsters_add 13 = .ok (.getstatic 31, 3) := by decide +kernel
theorem d_Monsters_add_16 : decode b_Monsters_add 16 = .ok (.arraylength, 1) := by decide +kernel
theorem d_Monsters_add_17 : decode b_Monsters_add 17 = .ok (.if_icmp .ge 13, 3) := by decide +kernel
theorem d_Monsters_add_20 : decode b_Monsters_add 20 = .ok (.aload_n 0, 1) := by decide +kernel
theorem d_Monsters_add_21 : decode b_Monsters_add 21 = .ok (.iload_n 2, 1) := by decide +kernel
theorem d_Monsters_add_22 : decode b_Monsters_add 22 = .ok (.invokevirtual 34, 3) := by decide +kernel
theorem d_Monsters_add_25 : decode b_Monsters_add 25 = .ok (.bipush (-2), 2) := by decide +kernel
theorem d_Monsters_add_27 : decode b_Monsters_add 27 = .ok (.if_icmp .eq 4, 3) := by decide +kernel
theorem d_Monsters_add_30 : decode b_Monsters_add 30 = .ok (.return_, 1) := by decide +kernel
theorem d_Monsters_add_31 : decode b_Monsters_add 31 = .ok (.aload_n 0, 1) := by decide +kernel
theorem d_Monsters_add_32 : decode b_Monsters_add 32 = .ok (.getfield 11, 3) := by decide +kernel
theorem d_Monsters_add_35 : decode b_Monsters_add 35 = .ok (.aload_n 0, 1) := by decide +kernel
theorem d_Monsters_add_36 : decode b_Monsters_add 36 = .ok (.getfield 27, 3) := by decide +kernel
theorem d_Monsters_add_39 : decode b_Monsters_add 39 = .ok (.iload_n 1, 1) := by decide +kernel
theorem d_Monsters_add_40 : decode b_Monsters_add 40 = .ok (.iastore, 1) := by decide +kernel
theorem d_Monsters_add_41 : decode b_Monsters_add 41 = .ok (.aload_n 0, 1) := by decide +kernel
theorem d_Monsters_add_42 : decode b_Monsters_add 42 = .ok (.getfield 15, 3) := by decide +kernel
theorem d_Monsters_add_45 : decode b_Monsters_add 45 = .ok (.aload_n 0, 1) := by decide +kernel
theorem d_Monsters_add_46 : decode b_Monsters_add 46 = .ok (.getfield 27, 3) := by decide +kernel
theorem d_Monsters_add_49 : decode b_Monsters_add 49 = .ok (.iload_n 2, 1) := by decide +kernel
theorem d_Monsters_add_50 : decode b_Monsters_add 50 = .ok (.iastore, 1) := by decide +kernel
theorem d_Monsters_add_51 : decode b_Monsters_add 51 = .ok (.aload_n 0, 1) := by decide +kernel
theorem d_Monsters_add_52 : decode b_Monsters_add 52 = .ok (.getfield 18, 3) := by decide +kernel
theorem d_Monsters_add_55 : decode b_Monsters_add 55 = .ok (.aload_n 0, 1) := by decide +kernel
theorem d_Monsters_add_56 : decode b_Monsters_add 56 = .ok (.getfield 27, 3) := by decide +kernel
theorem d_Monsters_add_59 : decode b_Monsters_add 59 = .ok (.getstatic 31, 3) := by decide +kernel
theorem d_Monsters_add_62 : decode b_Monsters_add 62 = .ok (.iload_n 1, 1) := by decide +kernel
theorem d_Monsters_add_63 : decode b_Monsters_add 63 = .ok (.iaload, 1) := by decide +kernel
theorem d_Monsters_add_64 : decode b_Monsters_add 64 = .ok (.iastore, 1) := by decide +kernel
theorem d_Monsters_add_65 : decode b_Monsters_add 65 = .ok (.aload_n 0, 1) := by decide +kernel
theorem d_Monsters_add_66 : decode b_Monsters_add 66 = .ok (.getfield 21, 3) := by decide +kernel
theorem d_Monsters_add_69 : decode b_Monsters_add 69 = .ok (.aload_n 0, 1) := by decide +kernel
theorem d_Monsters_add_70 : decode b_Monsters_add 70 = .ok (.getfield 27, 3) := by decide +kernel
theorem d_Monsters_add_73 : decode b_Monsters_add 73 = .ok (.iconst 0, 1) := by decide +kernel
theorem d_Monsters_add_74 : decode b_Monsters_add 74 = .ok (.iastore, 1) := by decide +kernel
theorem d_Monsters_add_75 : decode b_Monsters_add 75 = .ok (.aload_n 0, 1) := by decide +kernel
theorem d_Monsters_add_76 : decode b_Monsters_add 76 = .ok (.getfield 24, 3) := by decide +kernel
theorem d_Monsters_add_79 : decode b_Monsters_add 79 = .ok (.aload_n 0, 1) := by decide +kernel
theorem d_Monsters_add_80 : decode b_Monsters_add 80 = .ok (.getfield 27, 3) := by decide +kernel
theorem d_Monsters_add_83 : decode b_Monsters_add 83 = .ok (.iconst 0, 1) := by decide +kernel
theorem d_Monsters_add_84 : decode b_Monsters_add 84 = .ok (.iastore, 1) := by decide +kernel
theorem d_Monsters_add_85 : decode b_Monsters_add 85 = .ok (.aload_n 0, 1) := by decide +kernel
theorem d_Monsters_add_86 : decode b_Monsters_add 86 = .ok (.dup, 1) := by decide +kernel
theorem d_Monsters_add_87 : decode b_Monsters_add 87 = .ok (.getfield 27, 3) := by decide +kernel
theorem d_Monsters_add_90 : decode b_Monsters_add 90 = .ok (.iconst 1, 1) := by decide +kernel
theorem d_Monsters_add_91 : decode b_Monsters_add 91 = .ok (.iadd, 1) := by decide +kernel
theorem d_Monsters_add_92 : decode b_Monsters_add 92 = .ok (.putfield 27, 3) := by decide +kernel
theorem d_Monsters_add_95 : decode b_Monsters_add 95 = .ok (.return_, 1) := by decide +kernel
def f_Monsters_add (n : Nat) (x1 : Int32) (x2 : Int32) (σ : St) : Option (Unit × St) := if 5 ≤ (σ.1 7) then (some ((), σ)) else (if x1 < 0 then (some ((), σ)) else (if 3 ≤ x1 then (some ((), σ)) else (bd (f_Monsters_at n x2 σ) (fun r4 σ5 => if r4 = (-2) then (gd (inb (σ5.1 7) 5) (bnd (sA σ5 4 (σ5.1 7).toNatClampNeg x1) (fun σ9 => gd (inb (σ9.1 7) 5) (bnd (sA σ9 5 (σ9.1 7).toNatClampNeg x2) (fun σ11 => gd (inb x1 3) (gd (inb (σ11.1 7) 5) (bnd (sA σ11 6 (σ11.1 7).toNatClampNeg (tb_HEALTH_OF x1.toNatClampNeg)) (fun σ14 => gd (inb (σ14.1 7) 5) (bnd (sA σ14 7 (σ14.1 7).toNatClampNeg 0) (fun σ16 => gd (inb (σ16.1 7) 5) (bnd (sA σ16 8 (σ16.1 7).toNatClampNeg 0) (fun σ18 => bnd (sI σ18 7 ((σ18.1 7) + 1)) (fun σ19 => some ((), σ19)))))))))))))) else (some ((), σ5))))))
set_option maxHeartbeats 4000000 in
set_option maxRecDepth 100000 in
theorem c_Monsters_add (l : Launch) (D : va_G) (ad : Nat → Nat) (cA : Nat → ClassId) (tz : Nat → Nat) (n : Nat) (x1 : Int32) (x2 : Int32) (σ : St) (r : Unit) (σr : St) (hf : f_Monsters_add n x1 x2 σ = some (r, σr)) : Kv l D cA tz (wl ad cA) y_Monsters_add (.code y_Monsters_add b_Monsters_add 3 none :: TB) ({ frames := 1, cells := 0, slots := 0, locals := 22 }) [.ref (ad 6), .int x1, .int x2] σ σr := by
  refine x_openv (r := r) (own := R_Monsters) rfl (by decide) (fun p e s m args below meth c A Q X hml hZ hA H locs ls h hl rt => ?_)
  have hx := X.1
  have hb := X.2.1
  have hl : lv_has ls 3 [(0, .ref (ad 6)), (1, .int x1), (2, .int x2)] := hl
  unfold f_Monsters_add at hf
  refine lv_aload_n hx hb d_Monsters_add_0 rfl (lv_at hl 0 rfl) ?_
  refine G_monsters_made X h m_f_Monsters_27 d_Monsters_add_1 ?_
  refine lv_iconst (v := 5) hx hb d_Monsters_add_4 (by decide) ?_
  refine lv_icmp_ge (tgt := 30) hx hb d_Monsters_add_5 (by decide) (fun c1 => ?_) (fun c1 => ?_)
  · have hf := it c1 hf
    exact rt _ H locs 30 ls hf h d_Monsters_add_30
  · have hf := ie c1 hf
    refine lv_iload_n hx hb d_Monsters_add_8 rfl (lv_at hl 1 rfl) ?_
    refine lv_if_lt (tgt := 30) hx hb d_Monsters_add_9 (by decide) (fun c2 => ?_) (fun c2 => ?_)
    · have hf := it c2 hf
      exact rt _ H locs 30 ls hf h d_Monsters_add_30
    · have hf := ie c2 hf
      refine lv_iload_n hx hb d_Monsters_add_12 rfl (lv_at hl 1 rfl) ?_
      refine Z_HEALTH_OF X hZ h m_f_Monsters_31 d_Monsters_add_13 ?_
      refine V_HEALTH_OF X hZ h d_Monsters_add_16 ?_
      refine lv_icmp_ge (tgt := 30) hx hb d_Monsters_add_17 (by decide) (fun c3 => ?_) (fun c3 => ?_)
      · have hf := it c3 hf
        exact rt _ H locs 30 ls hf h d_Monsters_add_30
      · have hf := ie c3 hf
        refine lv_aload_n hx hb d_Monsters_add_20 rfl (lv_at hl 0 rfl) ?_
        refine lv_iload_n hx hb d_Monsters_add_21 rfl (lv_at hl 2 rfl) ?_
        obtain ⟨r4, σ5, h6, hf⟩ := bd_s hf
        refine x_Vi (As := [.int x2]) (rest := []) X hml hl.1 hZ hA h (c_Monsters_at l D ad cA tz n x2 σ r4 σ5 h6) k_Monsters_at m_m_Monsters_34 kd_Monsters_at ⟨rfl, rfl, Nat.le_of_ble_eq_true rfl, Nat.le_of_ble_eq_true rfl⟩ 6 rfl rfl rfl rfl rfl (Nat.le_of_ble_eq_true rfl) d_Monsters_add_22 (fun H locs h => ?_)
        refine lv_bipush (v := (-2)) hx hb d_Monsters_add_25 (by decide) ?_
        refine lv_icmp_eq (tgt := 31) hx hb d_Monsters_add_27 (by decide) (fun c7 => ?_) (fun c7 => ?_)
        · have hf := it c7 hf
          refine lv_aload_n hx hb d_Monsters_add_31 rfl (lv_at hl 0 rfl) ?_
          refine G_monsters_kind X h m_f_Monsters_11 d_Monsters_add_32 ?_
          refine lv_aload_n hx hb d_Monsters_add_35 rfl (lv_at hl 0 rfl) ?_
          refine G_monsters_made X h m_f_Monsters_27 d_Monsters_add_36 ?_
          refine lv_iload_n hx hb d_Monsters_add_39 rfl (lv_at hl 1 rfl) ?_
          obtain ⟨g8, hf⟩ := gd_s hf
          refine S_kind X h (inb_s g8) d_Monsters_add_40 (fun H locs σ9 eσ9 h => ?_)
          have hf := nm_b hf eσ9
          refine lv_aload_n hx hb d_Monsters_add_41 rfl (lv_at hl 0 rfl) ?_
          refine G_monsters_place X h m_f_Monsters_15 d_Monsters_add_42 ?_
          refine lv_aload_n hx hb d_Monsters_add_45 rfl (lv_at hl 0 rfl) ?_
          refine G_monsters_made X h m_f_Monsters_27 d_Monsters_add_46 ?_
          refine lv_iload_n hx hb d_Monsters_add_49 rfl (lv_at hl 2 rfl) ?_
          obtain ⟨g10, hf⟩ := gd_s hf
          refine S_place X h (inb_s g10) d_Monsters_add_50 (fun H locs σ11 eσ11 h => ?_)
          have hf := nm_b hf eσ11
          refine lv_aload_n hx hb d_Monsters_add_51 rfl (lv_at hl 0 rfl) ?_
          refine G_monsters_health X h m_f_Monsters_18 d_Monsters_add_52 ?_
          refine lv_aload_n hx hb d_Monsters_add_55 rfl (lv_at hl 0 rfl) ?_
          refine G_monsters_made X h m_f_Monsters_27 d_Monsters_add_56 ?_
          refine Z_HEALTH_OF X hZ h m_f_Monsters_31 d_Monsters_add_59 ?_
          refine lv_iload_n hx hb d_Monsters_add_62 rfl (lv_at hl 1 rfl) ?_
          obtain ⟨g12, hf⟩ := gd_s hf
          refine U_HEALTH_OF X hZ h (inb_s g12) d_Monsters_add_63 ?_
          obtain ⟨g13, hf⟩ := gd_s hf
          refine S_health X h (inb_s g13) d_Monsters_add_64 (fun H locs σ14 eσ14 h => ?_)
          have hf := nm_b hf eσ14
          refine lv_aload_n hx hb d_Monsters_add_65 rfl (lv_at hl 0 rfl) ?_
          refine G_monsters_energy X h m_f_Monsters_21 d_Monsters_add_66 ?_
          refine lv_aload_n hx hb d_Monsters_add_69 rfl (lv_at hl 0 rfl) ?_
          refine G_monsters_made X h m_f_Monsters_27 d_Monsters_add_70 ?_
          refine lv_iconst (v := 0) hx hb d_Monsters_add_73 (by decide) ?_
          obtain ⟨g15, hf⟩ := gd_s hf
          refine S_energy X h (inb_s g15) d_Monsters_add_74 (fun H locs σ16 eσ16 h => ?_)
          have hf := nm_b hf eσ16
          refine lv_aload_n hx hb d_Monsters_add_75 rfl (lv_at hl 0 rfl) ?_
          refine G_monsters_awake X h m_f_Monsters_24 d_Monsters_add_76 ?_
          refine lv_aload_n hx hb d_Monsters_add_79 rfl (lv_at hl 0 rfl) ?_
          refine G_monsters_made X h m_f_Monsters_27 d_Monsters_add_80 ?_
          refine lv_iconst (v := 0) hx hb d_Monsters_add_83 (by decide) ?_
          obtain ⟨g17, hf⟩ := gd_s hf
          refine S_awake X h (inb_s g17) d_Monsters_add_84 (fun H locs σ18 eσ18 h => ?_)
          have hf := nm_b hf eσ18
          refine lv_aload_n hx hb d_Monsters_add_85 rfl (lv_at hl 0 rfl) ?_
          refine lv_dup hx hb d_Monsters_add_86 rfl ?_
          refine G_monsters_made X h m_f_Monsters_27 d_Monsters_add_87 ?_
          refine lv_iconst (v := 1) hx hb d_Monsters_add_90 (by decide) ?_
          refine lv_iadd hx hb d_Monsters_add_91 ?_
          refine P_monsters_made X h m_f_Monsters_27 d_Monsters_add_92 (fun H locs σ19 eσ19 h => ?_)
          have hf := nm_b hf eσ19
          exact rt _ H locs 95 ls hf h d_Monsters_add_95
        · have hf := ie c7 hf
          exact rt _ H locs 30 ls hf h d_Monsters_add_30
theorem d_Level_layThing_0 : decode b_Level_layThing 0 = .ok (.iload_n 1, 1) := by decide +kernel
theorem d_Level_layThing_1 : decode b_Level_layThing 1 = .ok (.invokestatic 34, 3) := by decide +kernel
theorem d_Level_layThing_4 : decode b_Level_layThing 4 = .ok (.ifCond .eq 31, 3) := by decide +kernel
theorem d_Level_layThing_7 : decode b_Level_layThing 7 = .ok (.aload_n 0, 1) := by decide +kernel
theorem d_Level_layThing_8 : decode b_Level_layThing 8 = .ok (.getfield 15, 3) := by decide +kernel
theorem d_Level_layThing_11 : decode b_Level_layThing 11 = .ok (.iload_n 1, 1) := by decide +kernel
theorem d_Level_layThing_12 : decode b_Level_layThing 12 = .ok (.iaload, 1) := by decide +kernel
theorem d_Level_layThing_13 : decode b_Level_layThing 13 = .ok (.ifCond .ne 22, 3) := by decide +kernel
theorem d_Level_layThing_16 : decode b_Level_layThing 16 = .ok (.aload_n 0, 1) := by decide +kernel
theorem d_Level_layThing_17 : decode b_Level_layThing 17 = .ok (.getfield 9, 3) := by decide +kernel
theorem d_Level_layThing_20 : decode b_Level_layThing 20 = .ok (.iload_n 1, 1) := by decide +kernel
theorem d_Level_layThing_21 : decode b_Level_layThing 21 = .ok (.iaload, 1) := by decide +kernel
theorem d_Level_layThing_22 : decode b_Level_layThing 22 = .ok (.iconst 2, 1) := by decide +kernel
theorem d_Level_layThing_23 : decode b_Level_layThing 23 = .ok (.if_icmp .eq 12, 3) := by decide +kernel
theorem d_Level_layThing_26 : decode b_Level_layThing 26 = .ok (.aload_n 0, 1) := by decide +kernel
theorem d_Level_layThing_27 : decode b_Level_layThing 27 = .ok (.getfield 15, 3) := by decide +kernel
theorem d_Level_layThing_30 : decode b_Level_layThing 30 = .ok (.iload_n 1, 1) := by decide +kernel
theorem d_Level_layThing_31 : decode b_Level_layThing 31 = .ok (.iconst 1, 1) := by decide +kernel
theorem d_Level_layThing_32 : decode b_Level_layThing 32 = .ok (.iload_n 2, 1) := by decide +kernel
theorem d_Level_layThing_33 : decode b_Level_layThing 33 = .ok (.iadd, 1) := by decide +kernel
theorem d_Level_layThing_34 : decode b_Level_layThing 34 = .ok (.iastore, 1) := by decide +kernel
theorem d_Level_layThing_35 : decode b_Level_layThing 35 = .ok (.return_, 1) := by decide +kernel
def f_Level_layThing (n : Nat) (x1 : Int32) (x2 : Int32) (σ : St) : Option (Unit × St) := bd (f_Level_isCell n x1 σ) (fun r1 σ2 => if r1 = 0 then (some ((), σ2)) else (gd (inb x1 120) (if (σ2.2.2 2 x1.toNatClampNeg) = 0 then (gd (inb x1 120) (if (σ2.2.2 1 x1.toNatClampNeg) = 2 then (some ((), σ2)) else (gd (inb x1 120) (bnd (sA σ2 2 x1.toNatClampNeg (1 + x2)) (fun σ10 => some ((), σ10)))))) else (some ((), σ2)))))
set_option maxHeartbeats 4000000 in
set_option maxRecDepth 100000 in
theorem c_Level_layThing (l : Launch) (D : va_G) (ad : Nat → Nat) (cA : Nat → ClassId) (tz : Nat → Nat) (n : Nat) (x1 : Int32) (x2 : Int32) (σ : St) (r : Unit) (σr : St) (hf : f_Level_layThing n x1 x2 σ = some (r, σr)) : Kv l D cA tz (wl ad cA) y_Level_layThing (.code y_Level_layThing b_Level_layThing 3 none :: TB) ({ frames := 1, cells := 0, slots := 0, locals := 20 }) [.ref (ad 5), .int x1, .int x2] σ σr := by
  refine x_openv (r := r) (own := R_Level) rfl (by decide) (fun p e s m args below meth c A Q X hml hZ hA H locs ls h hl rt => ?_)
  have hx := X.1
  have hb := X.2.1
  have hl : lv_has ls 3 [(0, .ref (ad 5)), (1, .int x1), (2, .int x2)] := hl
  unfold f_Level_layThing at hf
  refine lv_iload_n hx hb d_Level_layThing_0 rfl (lv_at hl 1 rfl) ?_
  obtain ⟨r1, σ2, h3, hf⟩ := bd_s hf
  refine x_Si (As := [.int x1]) (rest := []) X hml hl.1 hZ hA h (c_Level_isCell l D ad cA tz n x1 σ r1 σ2 h3) k_Level_isCell m_m_Level_34 kd_Level_isCell ⟨rfl, rfl, Nat.le_of_ble_eq_true rfl, Nat.le_of_ble_eq_true rfl⟩ rfl rfl (Nat.le_of_ble_eq_true rfl) d_Level_layThing_1 (fun H locs h => ?_)
  refine lv_if_eq (tgt := 35) hx hb d_Level_layThing_4 (by decide) (fun c4 => ?_) (fun c4 => ?_)
  · have hf := it c4 hf
    exact rt _ H locs 35 ls hf h d_Level_layThing_35
  · have hf := ie c4 hf
    refine lv_aload_n hx hb d_Level_layThing_7 rfl (lv_at hl 0 rfl) ?_
    refine G_level_things X h m_f_Level_15 d_Level_layThing_8 ?_
    refine lv_iload_n hx hb d_Level_layThing_11 rfl (lv_at hl 1 rfl) ?_
    obtain ⟨g5, hf⟩ := gd_s hf
    refine R_things X h (inb_s g5) d_Level_layThing_12 ?_
    refine lv_if_ne (tgt := 35) hx hb d_Level_layThing_13 (by decide) (fun c6 => ?_) (fun c6 => ?_)
    · have hf := ie c6 hf
      exact rt _ H locs 35 ls hf h d_Level_layThing_35
    · have hf := it c6 hf
      refine lv_aload_n hx hb d_Level_layThing_16 rfl (lv_at hl 0 rfl) ?_
      refine G_level_ground X h m_f_Level_9 d_Level_layThing_17 ?_
      refine lv_iload_n hx hb d_Level_layThing_20 rfl (lv_at hl 1 rfl) ?_
      obtain ⟨g7, hf⟩ := gd_s hf
      refine R_ground X h (inb_s g7) d_Level_layThing_21 ?_
      refine lv_iconst (v := 2) hx hb d_Level_layThing_22 (by decide) ?_
      refine lv_icmp_eq (tgt := 35) hx hb d_Level_layThing_23 (by decide) (fun c8 => ?_) (fun c8 => ?_)
      · have hf := it c8 hf
        exact rt _ H locs 35 ls hf h d_Level_layThing_35
      · have hf := ie c8 hf
        refine lv_aload_n hx hb d_Level_layThing_26 rfl (lv_at hl 0 rfl) ?_
        refine G_level_things X h m_f_Level_15 d_Level_layThing_27 ?_
        refine lv_iload_n hx hb d_Level_layThing_30 rfl (lv_at hl 1 rfl) ?_
        refine lv_iconst (v := 1) hx hb d_Level_layThing_31 (by decide) ?_
        refine lv_iload_n hx hb d_Level_layThing_32 rfl (lv_at hl 2 rfl) ?_
        refine lv_iadd hx hb d_Level_layThing_33 ?_
        obtain ⟨g9, hf⟩ := gd_s hf
        refine S_things X h (inb_s g9) d_Level_layThing_34 (fun H locs σ10 eσ10 h => ?_)
        have hf := nm_b hf eσ10
        exact rt _ H locs 35 ls hf h d_Level_layThing_35
theorem d_Maker_make_0 : decode b_Maker_make 0 = .ok (.aload_n 0, 1) := by decide +kernel
theorem d_Maker_make_1 : decode b_Maker_make 1 = .ok (.getfield 12, 3) := by decide +kernel
theorem d_Maker_make_4 : decode b_Maker_make 4 = .ok (.iload_n 1, 1) := by decide +kernel
theorem d_Maker_make_5 : decode b_Maker_make 5 = .ok (.i2l, 1) := by decide +kernel
theorem d_Maker_make_6 : decode b_Maker_make 6 = .ok (.lconst 1, 1) := by decide +kernel
theorem d_Maker_make_7 : decode b_Maker_make 7 = .ok (.ladd, 1) := by decide +kernel
theorem d_Maker_make_8 : decode b_Maker_make 8 = .ok (.ldc2_w 31, 3) := by decide +kernel
theorem d_Maker_make_11 : decode b_Maker_make 11 = .ok (.lmul, 1) := by decide +kernel
theorem d_Maker_make_12 : decode b_Maker_make 12 = .ok (.iload_n 2, 1) := by decide +kernel
theorem d_Maker_make_13 : decode b_Maker_make 13 = .ok (.i2l, 1) := by decide +kernel
theorem d_Maker_make_14 : decode b_Maker_make 14 = .ok (.ladd, 1) := by decide +kernel
theorem d_Maker_make_15 : decode b_Maker_make 15 = .ok (.putfield 33, 3) := by decide +kernel
theorem d_Maker_make_18 : decode b_Maker_make 18 = .ok (.aload_n 3, 1) := by decide +kernel
theorem d_Maker_make_19 : decode b_Maker_make 19 = .ok (.invokevirtual 37, 3) := by decide +kernel
theorem d_Maker_make_22 : decode b_Maker_make 22 = .ok (.aload 4, 2) := by decide +kernel
theorem d_Maker_make_24 : decode b_Maker_make 24 = .ok (.invokevirtual 42, 3) := by decide +kernel
theorem d_Maker_make_27 : decode b_Maker_make 27 = .ok (.iconst 0, 1) := by decide +kernel
theorem d_Maker_make_28 : decode b_Maker_make 28 = .ok (.istore 5, 2) := by decide +kernel
theorem d_Maker_make_30 : decode b_Maker_make 30 = .ok (.iload 5, 2) := by decide +kernel
theorem d_Maker_make_32 : decode b_Maker_make 32 = .ok (.iconst 4, 1) := by decide +kernel
theorem d_Maker_make_33 : decode b_Maker_make 33 = .ok (.if_icmp .ge 16, 3) := by decide +kernel
theorem d_Maker_make_36 : decode b_Maker_make 36 = .ok (.aload_n 0, 1) := by decide +kernel
theorem d_Maker_make_37 : decode b_Maker_make 37 = .ok (.iload 5, 2) := by decide +kernel
theorem d_Maker_make_39 : decode b_Maker_make 39 = .ok (.aload_n 3, 1) := by decide +kernel
theorem d_Maker_make_40 : decode b_Maker_make 40 = .ok (.invokevirtual 45, 3) := by decide +kernel
theorem d_Maker_make_43 : decode b_Maker_make 43 = .ok (.iinc 5 1, 3) := by decide +kernel
theorem d_Maker_make_46 : decode b_Maker_make 46 = .ok (.goto (-16), 3) := by decide +kernel
theorem d_Maker_make_49 : decode b_Maker_make 49 = .ok (.aload_n 0, 1) := by decide +kernel
theorem d_Maker_make_50 : decode b_Maker_make 50 = .ok (.iconst 0, 1) := by decide +kernel
theorem d_Maker_make_51 : decode b_Maker_make 51 = .ok (.iconst 1, 1) := by decide +kernel
theorem d_Maker_make_52 : decode b_Maker_make 52 = .ok (.aload_n 3, 1) := by decide +kernel
theorem d_Maker_make_53 : decode b_Maker_make 53 = .ok (.invokevirtual 49, 3) := by decide +kernel
theorem d_Maker_make_56 : decode b_Maker_make 56 = .ok (.aload_n 0, 1) := by decide +kernel
theorem d_Maker_make_57 : decode b_Maker_make 57 = .ok (.iconst 1, 1) := by decide +kernel
theorem d_Maker_make_58 : decode b_Maker_make 58 = .ok (.iconst 3, 1) := by decide +kernel
theorem d_Maker_make_59 : decode b_Maker_make 59 = .ok (.aload_n 3, 1) := by decide +kernel
theorem d_Maker_make_60 : decode b_Maker_make 60 = .ok (.invokevirtual 49, 3) := by decide +kernel
theorem d_Maker_make_63 : decode b_Maker_make 63 = .ok (.aload_n 0, 1) := by decide +kernel
theorem d_Maker_make_64 : decode b_Maker_make 64 = .ok (.iconst 3, 1) := by decide +kernel
theorem d_Maker_make_65 : decode b_Maker_make 65 = .ok (.iconst 2, 1) := by decide +kernel
theorem d_Maker_make_66 : decode b_Maker_make 66 = .ok (.aload_n 3, 1) := by decide +kernel
theorem d_Maker_make_67 : decode b_Maker_make 67 = .ok (.invokevirtual 49, 3) := by decide +kernel
theorem d_Maker_make_70 : decode b_Maker_make 70 = .ok (.aload_n 3, 1) := by decide +kernel
theorem d_Maker_make_71 : decode b_Maker_make 71 = .ok (.aload_n 0, 1) := by decide +kernel
theorem d_Maker_make_72 : decode b_Maker_make 72 = .ok (.iconst 2, 1) := by decide +kernel
theorem d_Maker_make_73 : decode b_Maker_make 73 = .ok (.invokevirtual 53, 3) := by decide +kernel
theorem d_Maker_make_76 : decode b_Maker_make 76 = .ok (.iconst 2, 1) := by decide +kernel
theorem d_Maker_make_77 : decode b_Maker_make 77 = .ok (.invokevirtual 57, 3) := by decide +kernel
theorem d_Maker_make_80 : decode b_Maker_make 80 = .ok (.aload_n 3, 1) := by decide +kernel
theorem d_Maker_make_81 : decode b_Maker_make 81 = .ok (.aload_n 0, 1) := by decide +kernel
theorem d_Maker_make_82 : decode b_Maker_make 82 = .ok (.iconst 0, 1) := by decide +kernel
theorem d_Maker_make_83 : decode b_Maker_make 83 = .ok (.invokevirtual 61, 3) := by decide +kernel
theorem d_Maker_make_86 : decode b_Maker_make 86 = .ok (.bipush 12, 2) := by decide +kernel
theorem d_Maker_make_88 : decode b_Maker_make 88 = .ok (.imul, 1) := by decide +kernel
theorem d_Maker_make_89 : decode b_Maker_make 89 = .ok (.aload_n 0, 1) := by decide +kernel
theorem d_Maker_make_90 : decode b_Maker_make 90 = .ok (.iconst 0, 1) := by decide +kernel
theorem d_Maker_make_91 : decode b_Maker_make 91 = .ok (.invokevirtual 64, 3) := by decide +kernel
theorem d_Maker_make_94 : decode b_Maker_make 94 = .ok (.iadd, 1) := by decide +kernel
theorem d_Maker_make_95 : decode b_Maker_make 95 = .ok (.putfield 67, 3) := by decide +kernel
theorem d_Maker_make_98 : decode b_Maker_make 98 = .ok (.iconst 0, 1) := by decide +kernel
theorem d_Maker_make_99 : decode b_Maker_make 99 = .ok (.istore 5, 2) := by decide +kernel
theorem d_Maker_make_101 : decode b_Maker_make 101 = .ok (.iload 5, 2) := by decide +kernel
theorem d_Maker_make_103 : decode b_Maker_make 103 = .ok (.iconst 2, 1) := by decide +kernel
theorem d_Maker_make_104 : decode b_Maker_make 104 = .ok (.iload_n 2, 1) := by decide +kernel
theorem d_Maker_make_105 : decode b_Maker_make 105 = .ok (.iadd, 1) := by decide +kernel
theorem d_Maker_make_106 : decode b_Maker_make 106 = .ok (.if_icmp .ge 40, 3) := by decide +kernel
theorem d_Maker_make_109 : decode b_Maker_make 109 = .ok (.aload_n 0, 1) := by decide +kernel
theorem d_Maker_make_110 : decode b_Maker_make 110 = .ok (.getfield 12, 3) := by decide +kernel
theorem d_Maker_make_113 : decode b_Maker_make 113 = .ok (.iconst 3, 1) := by decide +kernel
theorem d_Maker_make_114 : decode b_Maker_make 114 = .ok (.invokevirtual 71, 3) := by decide +kernel
theorem d_Maker_make_117 : decode b_Maker_make 117 = .ok (.istore 6, 2) := by decide +kernel
theorem d_Maker_make_119 : decode b_Maker_make 119 = .ok (.aload 4, 2) := by decide +kernel
theorem d_Maker_make_121 : decode b_Maker_make 121 = .ok (.iload 6, 2) := by decide +kernel
theorem d_Maker_make_123 : decode b_Maker_make 123 = .ok (.aload_n 0, 1) := by decide +kernel
theorem d_Maker_make_124 : decode b_Maker_make 124 = .ok (.iconst 1, 1) := by decide +kernel
theorem d_Maker_make_125 : decode b_Maker_make 125 = .ok (.aload_n 0, 1) := by decide +kernel
theorem d_Maker_make_126 : decode b_Maker_make 126 = .ok (.getfield 12, 3) := by decide +kernel
theorem d_Maker_make_129 : decode b_Maker_make 129 = .ok (.iconst 3, 1) := by decide +kernel
theorem d_Maker_make_130 : decode b_Maker_make 130 = .ok (.invokevirtual 71, 3) := by decide +kernel
theorem d_Maker_make_133 : decode b_Maker_make 133 = .ok (.iadd, 1) := by decide +kernel
theorem d_Maker_make_134 : decode b_Maker_make 134 = .ok (.invokevirtual 53, 3) := by decide +kernel
theorem d_Maker_make_137 : decode b_Maker_make 137 = .ok (.invokevirtual 74, 3) := by decide +kernel
theorem d_Maker_make_140 : decode b_Maker_make 140 = .ok (.iinc 5 1, 3) := by decide +kernel
theorem d_Maker_make_143 : decode b_Maker_make 143 = .ok (.goto (-42), 3) := by decide +kernel
theorem d_Maker_make_146 : decode b_Maker_make 146 = .ok (.iconst 0, 1) := by decide +kernel
theorem d_Maker_make_147 : decode b_Maker_make 147 = .ok (.istore 5, 2) := by decide +kernel
theorem d_Maker_make_149 : decode b_Maker_make 149 = .ok (.iload 5, 2) := by decide +kernel
theorem d_Maker_make_151 : decode b_Maker_make 151 = .ok (.iconst 3, 1) := by decide +kernel
theorem d_Maker_make_152 : decode b_Maker_make 152 = .ok (.if_icmp .ge 37, 3) := by decide +kernel
theorem d_Maker_make_155 : decode b_Maker_make 155 = .ok (.aload_n 0, 1) := by decide +kernel
theorem d_Maker_make_156 : decode b_Maker_make 156 = .ok (.getfield 12, 3) := by decide +kernel
theorem d_Maker_make_159 : decode b_Maker_make 159 = .ok (.iconst 4, 1) := by decide +kernel
theorem d_Maker_make_160 : decode b_Maker_make 160 = .ok (.invokevirtual 71, 3) := by decide +kernel
theorem d_Maker_make_163 : decode b_Maker_make 163 = .ok (.istore 6, 2) := by decide +kernel
theorem d_Maker_make_165 : decode b_Maker_make 165 = .ok (.aload_n 3, 1) := by decide +kernel
theorem d_Maker_make_166 : decode b_Maker_make 166 = .ok (.aload_n 0, 1) := by decide +kernel
theorem d_Maker_make_167 : decode b_Maker_make 167 = .ok (.aload_n 0, 1) := by decide +kernel
theorem d_Maker_make_168 : decode b_Maker_make 168 = .ok (.getfield 12, 3) := by decide +kernel
theorem d_Maker_make_171 : decode b_Maker_make 171 = .ok (.iconst 4, 1) := by decide +kernel
theorem d_Maker_make_172 : decode b_Maker_make 172 = .ok (.invokevirtual 71, 3) := by decide +kernel
theorem d_Maker_make_175 : decode b_Maker_make 175 = .ok (.invokevirtual 53, 3) := by decide +kernel
theorem d_Maker_make_178 : decode b_Maker_make 178 = .ok (.iload 6, 2) := by decide +kernel
theorem d_Maker_make_180 : decode b_Maker_make 180 = .ok (.invokevirtual 77, 3) := by decide +kernel
theorem d_Maker_make_183 : decode b_Maker_make 183 = .ok (.iinc 5 1, 3) := by decide +kernel
theorem d_Maker_make_186 : decode b_Maker_make 186 = .ok (.goto (-37), 3) := by decide +kernel
theorem d_Maker_make_189 : decode b_Maker_make 189 = .ok (.return_, 1) := by decide +kernel
def f_Maker_make_149 (n : Nat) : Nat → Int32 → St → Option (Unit × St)
  | 0, _, _ => none
  | j + 1, y5, σ => if 3 ≤ y5 then (some ((), σ)) else (bd (f_Draws_draw_making n 4 σ) (fun r50 σ51 => bd (f_Draws_draw_making n 4 σ51) (fun r53 σ54 => bd (f_Maker_drawPlace n r53 σ54) (fun r56 σ57 => bd (f_Level_layThing n r56 r50 σ57) (fun _ σ60 => bnd (y5 + 1) (fun v62 => f_Maker_make_149 n j v62 σ60))))))
theorem f_Maker_make_149_s (n : Nat) (j : Nat) (y5 : Int32) (σ : St) : f_Maker_make_149 n (j + 1) y5 σ = (if 3 ≤ y5 then (some ((), σ)) else (bd (f_Draws_draw_making n 4 σ) (fun r50 σ51 => bd (f_Draws_draw_making n 4 σ51) (fun r53 σ54 => bd (f_Maker_drawPlace n r53 σ54) (fun r56 σ57 => bd (f_Level_layThing n r56 r50 σ57) (fun _ σ60 => bnd (y5 + 1) (fun v62 => f_Maker_make_149 n j v62 σ60))))))) := rfl
def f_Maker_make_101 (n : Nat) : Nat → Int32 → Int32 → St → Option (Unit × St)
  | 0, _, _, _ => none
  | j + 1, y2, y5, σ => if (2 + y2) ≤ y5 then (f_Maker_make_149 n n 0 σ) else (bd (f_Draws_draw_making n 3 σ) (fun r36 σ37 => bd (f_Draws_draw_making n 3 σ37) (fun r39 σ40 => bd (f_Maker_drawPlace n (1 + r39) σ40) (fun r42 σ43 => bd (f_Monsters_add n r36 r42 σ43) (fun _ σ46 => bnd (y5 + 1) (fun v48 => f_Maker_make_101 n j y2 v48 σ46))))))
theorem f_Maker_make_101_s (n : Nat) (j : Nat) (y2 : Int32) (y5 : Int32) (σ : St) : f_Maker_make_101 n (j + 1) y2 y5 σ = (if (2 + y2) ≤ y5 then (f_Maker_make_149 n n 0 σ) else (bd (f_Draws_draw_making n 3 σ) (fun r36 σ37 => bd (f_Draws_draw_making n 3 σ37) (fun r39 σ40 => bd (f_Maker_drawPlace n (1 + r39) σ40) (fun r42 σ43 => bd (f_Monsters_add n r36 r42 σ43) (fun _ σ46 => bnd (y5 + 1) (fun v48 => f_Maker_make_101 n j y2 v48 σ46))))))) := rfl
def f_Maker_make_30 (n : Nat) : Nat → Int32 → Int32 → St → Option (Unit × St)
  | 0, _, _, _ => none
  | j + 1, y2, y5, σ => if 4 ≤ y5 then (bd (f_Maker_digWay n 0 1 σ) (fun _ σ10 => bd (f_Maker_digWay n 1 3 σ10) (fun _ σ13 => bd (f_Maker_digWay n 3 2 σ13) (fun _ σ16 => bd (f_Maker_drawPlace n 2 σ16) (fun r18 σ19 => bd (f_Level_setGround n r18 2 σ19) (fun _ σ22 => bd (f_Maker_centreRow n 0 σ22) (fun r24 σ25 => bd (f_Maker_centreColumn n 0 σ25) (fun r27 σ28 => bnd (sI σ28 6 ((r24 * 12) + r27)) (fun σ30 => f_Maker_make_101 n n y2 0 σ30))))))))) else (bd (f_Maker_digRoom n y5 σ) (fun _ σ32 => bnd (y5 + 1) (fun v34 => f_Maker_make_30 n j y2 v34 σ32)))
theorem f_Maker_make_30_s (n : Nat) (j : Nat) (y2 : Int32) (y5 : Int32) (σ : St) : f_Maker_make_30 n (j + 1) y2 y5 σ = (if 4 ≤ y5 then (bd (f_Maker_digWay n 0 1 σ) (fun _ σ10 => bd (f_Maker_digWay n 1 3 σ10) (fun _ σ13 => bd (f_Maker_digWay n 3 2 σ13) (fun _ σ16 => bd (f_Maker_drawPlace n 2 σ16) (fun r18 σ19 => bd (f_Level_setGround n r18 2 σ19) (fun _ σ22 => bd (f_Maker_centreRow n 0 σ22) (fun r24 σ25 => bd (f_Maker_centreColumn n 0 σ25) (fun r27 σ28 => bnd (sI σ28 6 ((r24 * 12) + r27)) (fun σ30 => f_Maker_make_101 n n y2 0 σ30))))))))) else (bd (f_Maker_digRoom n y5 σ) (fun _ σ32 => bnd (y5 + 1) (fun v34 => f_Maker_make_30 n j y2 v34 σ32)))) := rfl
def f_Maker_make (n : Nat) (x1 : Int32) (x2 : Int32) (σ : St) : Option (Unit × St) := bnd (sL σ 1 ((((Int32.toInt64 x1) + 1) * 1000003) + (Int32.toInt64 x2))) (fun σ1 => bd (f_Level_clear n σ1) (fun _ σ3 => bd (f_Monsters_clear n σ3) (fun _ σ6 => f_Maker_make_30 n n x2 0 σ6)))
set_option maxHeartbeats 4000000 in
set_option maxRecDepth 100000 in
theorem c_Maker_make (l : Launch) (D : va_G) (ad : Nat → Nat) (cA : Nat → ClassId) (tz : Nat → Nat) (n : Nat) (x1 : Int32) (x2 : Int32) (σ : St) (r : Unit) (σr : St) (hf : f_Maker_make n x1 x2 σ = some (r, σr)) : Kv l D cA tz (wl ad cA) y_Maker_make (.code y_Maker_make b_Maker_make 7 none :: TB) ({ frames := 3, cells := 0, slots := 0, locals := 76 }) [.ref (ad 3), .int x1, .int x2, .ref (ad 5), .ref (ad 6)] σ σr := by
  refine x_openv (r := r) (own := R_Maker) rfl (by decide) (fun p e s m args below meth c A Q X hml hZ hA H locs ls h hl rt => ?_)
  have hx := X.1
  have hb := X.2.1
  have hl : lv_has ls 7 [(0, .ref (ad 3)), (1, .int x1), (2, .int x2), (3, .ref (ad 5)), (4, .ref (ad 6))] := hl
  have L149 : ∀ j : Nat, ∀ (y5 : Int32) (σ : St), f_Maker_make_149 n j y5 σ = some (r, σr) → ∀ (H : Heap) (locs : List Loc) (ls : Array Slot), WD D A s (wl ad cA σ) H locs → lv_has ls 7 [(0, .ref (ad 3)), (3, .ref (ad 5)), (5, .int y5)] → W p l e ({ frames := 3, cells := 0, slots := 0, locals := 76 }) s m args below meth c H locs 0 0 Q (F0 m 149 ls []) := by
    intro j
    induction j with
    | zero => intro y5 σ hf; exact absurd hf (fun z => by cases z)
    | succ j ih =>
      intro y5 σ hf H locs ls h hl
      have hf := us (f_Maker_make_149_s n j y5 σ) hf
      refine lv_iload hx hb d_Maker_make_149 (lv_at hl 2 rfl) ?_
      refine lv_iconst (v := 3) hx hb d_Maker_make_151 (by decide) ?_
      refine lv_icmp_ge (tgt := 189) hx hb d_Maker_make_152 (by decide) (fun c49 => ?_) (fun c49 => ?_)
      · have hf := it c49 hf
        exact rt _ H locs 189 ls hf h d_Maker_make_189
      · have hf := ie c49 hf
        refine lv_aload_n hx hb d_Maker_make_155 rfl (lv_at hl 0 rfl) ?_
        refine G_maker_making X h m_f_Maker_12 d_Maker_make_156 ?_
        refine lv_iconst (v := 4) hx hb d_Maker_make_159 (by decide) ?_
        obtain ⟨r50, σ51, h52, hf⟩ := bd_s hf
        refine x_Vi (As := [.int 4]) (rest := []) X hml hl.1 hZ hA h (c_Draws_draw_making l D ad cA tz n 4 σ r50 σ51 h52) k_Draws_draw m_m_Maker_71 kd_Draws_draw ⟨rfl, rfl, Nat.le_of_ble_eq_true rfl, Nat.le_of_ble_eq_true rfl⟩ 4 rfl rfl rfl rfl rfl (Nat.le_of_ble_eq_true rfl) d_Maker_make_160 (fun H locs h => ?_)
        refine lv_istore (lv' := [(6, .int r50), (0, .ref (ad 3)), (3, .ref (ad 5)), (5, .int y5)]) hx hb d_Maker_make_163 hl (by decide) rfl (fun ls hl => ?_)
        refine lv_aload_n hx hb d_Maker_make_165 rfl (lv_at hl 2 rfl) ?_
        refine lv_aload_n hx hb d_Maker_make_166 rfl (lv_at hl 1 rfl) ?_
        refine lv_aload_n hx hb d_Maker_make_167 rfl (lv_at hl 1 rfl) ?_
        refine G_maker_making X h m_f_Maker_12 d_Maker_make_168 ?_
        refine lv_iconst (v := 4) hx hb d_Maker_make_171 (by decide) ?_
        obtain ⟨r53, σ54, h55, hf⟩ := bd_s hf
        refine x_Vi (As := [.int 4]) (rest := [.ref (ad 3), .ref (ad 5)]) X hml hl.1 hZ hA h (c_Draws_draw_making l D ad cA tz n 4 σ51 r53 σ54 h55) k_Draws_draw m_m_Maker_71 kd_Draws_draw ⟨rfl, rfl, Nat.le_of_ble_eq_true rfl, Nat.le_of_ble_eq_true rfl⟩ 4 rfl rfl rfl rfl rfl (Nat.le_of_ble_eq_true rfl) d_Maker_make_172 (fun H locs h => ?_)
        obtain ⟨r56, σ57, h58, hf⟩ := bd_s hf
        refine x_Vi (As := [.int r53]) (rest := [.ref (ad 5)]) X hml hl.1 hZ hA h (c_Maker_drawPlace l D ad cA tz n r53 σ54 r56 σ57 h58) k_Maker_drawPlace m_m_Maker_53 kd_Maker_drawPlace ⟨rfl, rfl, Nat.le_of_ble_eq_true rfl, Nat.le_of_ble_eq_true rfl⟩ 3 rfl rfl rfl rfl rfl (Nat.le_of_ble_eq_true rfl) d_Maker_make_175 (fun H locs h => ?_)
        refine lv_iload hx hb d_Maker_make_178 (lv_at hl 0 rfl) ?_
        obtain ⟨r59, σ60, h61, hf⟩ := bd_s hf
        refine x_Vv (As := [.int r56, .int r50]) (rest := []) X hml hl.1 hZ hA h (c_Level_layThing l D ad cA tz n r56 r50 σ57 r59 σ60 h61) k_Level_layThing m_m_Maker_77 kd_Level_layThing ⟨rfl, rfl, Nat.le_of_ble_eq_true rfl, Nat.le_of_ble_eq_true rfl⟩ 5 rfl rfl rfl rfl rfl (Nat.le_of_ble_eq_true rfl) d_Maker_make_180 (fun H locs h => ?_)
        obtain ⟨v62, ev62⟩ : ∃ y : Int32, y = y5 + 1 := ⟨_, rfl⟩
        have hf := nm_b hf ev62
        refine lv_iinc (v := v62) (lv' := [(5, .int v62), (6, .int r50), (0, .ref (ad 3)), (3, .ref (ad 5))]) hx hb d_Maker_make_183 hl (k := 3) rfl (by rw [ev62]; rfl) (by decide) rfl (fun ls hl => ?_)
        refine lv_goto (tgt := 149) hx hb d_Maker_make_186 (by decide) ?_
        exact ih v62 σ60 hf H locs ls h (lv_sub hl [2, 3, 0] rfl)
  have L101 : ∀ j : Nat, ∀ (y2 : Int32) (y5 : Int32) (σ : St), f_Maker_make_101 n j y2 y5 σ = some (r, σr) → ∀ (H : Heap) (locs : List Loc) (ls : Array Slot), WD D A s (wl ad cA σ) H locs → lv_has ls 7 [(0, .ref (ad 3)), (2, .int y2), (3, .ref (ad 5)), (4, .ref (ad 6)), (5, .int y5)] → W p l e ({ frames := 3, cells := 0, slots := 0, locals := 76 }) s m args below meth c H locs 0 0 Q (F0 m 101 ls []) := by
    intro j
    induction j with
    | zero => intro y2 y5 σ hf; exact absurd hf (fun z => by cases z)
    | succ j ih =>
      intro y2 y5 σ hf H locs ls h hl
      have hf := us (f_Maker_make_101_s n j y2 y5 σ) hf
      refine lv_iload hx hb d_Maker_make_101 (lv_at hl 4 rfl) ?_
      refine lv_iconst (v := 2) hx hb d_Maker_make_103 (by decide) ?_
      refine lv_iload_n hx hb d_Maker_make_104 rfl (lv_at hl 1 rfl) ?_
      refine lv_iadd hx hb d_Maker_make_105 ?_
      refine lv_icmp_ge (tgt := 146) hx hb d_Maker_make_106 (by decide) (fun c35 => ?_) (fun c35 => ?_)
      · have hf := it c35 hf
        refine lv_iconst (v := 0) hx hb d_Maker_make_146 (by decide) ?_
        refine lv_istore (lv' := [(5, .int 0), (0, .ref (ad 3)), (2, .int y2), (3, .ref (ad 5)), (4, .ref (ad 6))]) hx hb d_Maker_make_147 hl (by decide) rfl (fun ls hl => ?_)
        exact L149 n 0 σ hf H locs ls h (lv_sub hl [1, 3, 0] rfl)
      · have hf := ie c35 hf
        refine lv_aload_n hx hb d_Maker_make_109 rfl (lv_at hl 0 rfl) ?_
        refine G_maker_making X h m_f_Maker_12 d_Maker_make_110 ?_
        refine lv_iconst (v := 3) hx hb d_Maker_make_113 (by decide) ?_
        obtain ⟨r36, σ37, h38, hf⟩ := bd_s hf
        refine x_Vi (As := [.int 3]) (rest := []) X hml hl.1 hZ hA h (c_Draws_draw_making l D ad cA tz n 3 σ r36 σ37 h38) k_Draws_draw m_m_Maker_71 kd_Draws_draw ⟨rfl, rfl, Nat.le_of_ble_eq_true rfl, Nat.le_of_ble_eq_true rfl⟩ 4 rfl rfl rfl rfl rfl (Nat.le_of_ble_eq_true rfl) d_Maker_make_114 (fun H locs h => ?_)
        refine lv_istore (lv' := [(6, .int r36), (0, .ref (ad 3)), (2, .int y2), (3, .ref (ad 5)), (4, .ref (ad 6)), (5, .int y5)]) hx hb d_Maker_make_117 hl (by decide) rfl (fun ls hl => ?_)
        refine lv_aload hx hb d_Maker_make_119 (lv_at hl 4 rfl) ?_
        refine lv_iload hx hb d_Maker_make_121 (lv_at hl 0 rfl) ?_
        refine lv_aload_n hx hb d_Maker_make_123 rfl (lv_at hl 1 rfl) ?_
        refine lv_iconst (v := 1) hx hb d_Maker_make_124 (by decide) ?_
        refine lv_aload_n hx hb d_Maker_make_125 rfl (lv_at hl 1 rfl) ?_
        refine G_maker_making X h m_f_Maker_12 d_Maker_make_126 ?_
        refine lv_iconst (v := 3) hx hb d_Maker_make_129 (by decide) ?_
        obtain ⟨r39, σ40, h41, hf⟩ := bd_s hf
        refine x_Vi (As := [.int 3]) (rest := [.int 1, .ref (ad 3), .int r36, .ref (ad 6)]) X hml hl.1 hZ hA h (c_Draws_draw_making l D ad cA tz n 3 σ37 r39 σ40 h41) k_Draws_draw m_m_Maker_71 kd_Draws_draw ⟨rfl, rfl, Nat.le_of_ble_eq_true rfl, Nat.le_of_ble_eq_true rfl⟩ 4 rfl rfl rfl rfl rfl (Nat.le_of_ble_eq_true rfl) d_Maker_make_130 (fun H locs h => ?_)
        refine lv_iadd hx hb d_Maker_make_133 ?_
        obtain ⟨r42, σ43, h44, hf⟩ := bd_s hf
        refine x_Vi (As := [.int (1 + r39)]) (rest := [.int r36, .ref (ad 6)]) X hml hl.1 hZ hA h (c_Maker_drawPlace l D ad cA tz n (1 + r39) σ40 r42 σ43 h44) k_Maker_drawPlace m_m_Maker_53 kd_Maker_drawPlace ⟨rfl, rfl, Nat.le_of_ble_eq_true rfl, Nat.le_of_ble_eq_true rfl⟩ 3 rfl rfl rfl rfl rfl (Nat.le_of_ble_eq_true rfl) d_Maker_make_134 (fun H locs h => ?_)
        obtain ⟨r45, σ46, h47, hf⟩ := bd_s hf
        refine x_Vv (As := [.int r36, .int r42]) (rest := []) X hml hl.1 hZ hA h (c_Monsters_add l D ad cA tz n r36 r42 σ43 r45 σ46 h47) k_Monsters_add m_m_Maker_74 kd_Monsters_add ⟨rfl, rfl, Nat.le_of_ble_eq_true rfl, Nat.le_of_ble_eq_true rfl⟩ 6 rfl rfl rfl rfl rfl (Nat.le_of_ble_eq_true rfl) d_Maker_make_137 (fun H locs h => ?_)
        obtain ⟨v48, ev48⟩ : ∃ y : Int32, y = y5 + 1 := ⟨_, rfl⟩
        have hf := nm_b hf ev48
        refine lv_iinc (v := v48) (lv' := [(5, .int v48), (6, .int r36), (0, .ref (ad 3)), (2, .int y2), (3, .ref (ad 5)), (4, .ref (ad 6))]) hx hb d_Maker_make_140 hl (k := 5) rfl (by rw [ev48]; rfl) (by decide) rfl (fun ls hl => ?_)
        refine lv_goto (tgt := 101) hx hb d_Maker_make_143 (by decide) ?_
        exact ih y2 v48 σ46 hf H locs ls h (lv_sub hl [2, 3, 4, 5, 0] rfl)
  have L30 : ∀ j : Nat, ∀ (y2 : Int32) (y5 : Int32) (σ : St), f_Maker_make_30 n j y2 y5 σ = some (r, σr) → ∀ (H : Heap) (locs : List Loc) (ls : Array Slot), WD D A s (wl ad cA σ) H locs → lv_has ls 7 [(0, .ref (ad 3)), (2, .int y2), (3, .ref (ad 5)), (4, .ref (ad 6)), (5, .int y5)] → W p l e ({ frames := 3, cells := 0, slots := 0, locals := 76 }) s m args below meth c H locs 0 0 Q (F0 m 30 ls []) := by
    intro j
    induction j with
    | zero => intro y2 y5 σ hf; exact absurd hf (fun z => by cases z)
    | succ j ih =>
      intro y2 y5 σ hf H locs ls h hl
      have hf := us (f_Maker_make_30_s n j y2 y5 σ) hf
      refine lv_iload hx hb d_Maker_make_30 (lv_at hl 4 rfl) ?_
      refine lv_iconst (v := 4) hx hb d_Maker_make_32 (by decide) ?_
      refine lv_icmp_ge (tgt := 49) hx hb d_Maker_make_33 (by decide) (fun c8 => ?_) (fun c8 => ?_)
      · have hf := it c8 hf
        refine lv_aload_n hx hb d_Maker_make_49 rfl (lv_at hl 0 rfl) ?_
        refine lv_iconst (v := 0) hx hb d_Maker_make_50 (by decide) ?_
        refine lv_iconst (v := 1) hx hb d_Maker_make_51 (by decide) ?_
        refine lv_aload_n hx hb d_Maker_make_52 rfl (lv_at hl 2 rfl) ?_
        obtain ⟨r9, σ10, h11, hf⟩ := bd_s hf
        refine x_Vv (As := [.int 0, .int 1, .ref (ad 5)]) (rest := []) X hml hl.1 hZ hA h (c_Maker_digWay l D ad cA tz n 0 1 σ r9 σ10 h11) k_Maker_digWay m_m_Maker_49 kd_Maker_digWay ⟨rfl, rfl, Nat.le_of_ble_eq_true rfl, Nat.le_of_ble_eq_true rfl⟩ 3 rfl rfl rfl rfl rfl (Nat.le_of_ble_eq_true rfl) d_Maker_make_53 (fun H locs h => ?_)
        refine lv_aload_n hx hb d_Maker_make_56 rfl (lv_at hl 0 rfl) ?_
        refine lv_iconst (v := 1) hx hb d_Maker_make_57 (by decide) ?_
        refine lv_iconst (v := 3) hx hb d_Maker_make_58 (by decide) ?_
        refine lv_aload_n hx hb d_Maker_make_59 rfl (lv_at hl 2 rfl) ?_
        obtain ⟨r12, σ13, h14, hf⟩ := bd_s hf
        refine x_Vv (As := [.int 1, .int 3, .ref (ad 5)]) (rest := []) X hml hl.1 hZ hA h (c_Maker_digWay l D ad cA tz n 1 3 σ10 r12 σ13 h14) k_Maker_digWay m_m_Maker_49 kd_Maker_digWay ⟨rfl, rfl, Nat.le_of_ble_eq_true rfl, Nat.le_of_ble_eq_true rfl⟩ 3 rfl rfl rfl rfl rfl (Nat.le_of_ble_eq_true rfl) d_Maker_make_60 (fun H locs h => ?_)
        refine lv_aload_n hx hb d_Maker_make_63 rfl (lv_at hl 0 rfl) ?_
        refine lv_iconst (v := 3) hx hb d_Maker_make_64 (by decide) ?_
        refine lv_iconst (v := 2) hx hb d_Maker_make_65 (by decide) ?_
        refine lv_aload_n hx hb d_Maker_make_66 rfl (lv_at hl 2 rfl) ?_
        obtain ⟨r15, σ16, h17, hf⟩ := bd_s hf
        refine x_Vv (As := [.int 3, .int 2, .ref (ad 5)]) (rest := []) X hml hl.1 hZ hA h (c_Maker_digWay l D ad cA tz n 3 2 σ13 r15 σ16 h17) k_Maker_digWay m_m_Maker_49 kd_Maker_digWay ⟨rfl, rfl, Nat.le_of_ble_eq_true rfl, Nat.le_of_ble_eq_true rfl⟩ 3 rfl rfl rfl rfl rfl (Nat.le_of_ble_eq_true rfl) d_Maker_make_67 (fun H locs h => ?_)
        refine lv_aload_n hx hb d_Maker_make_70 rfl (lv_at hl 2 rfl) ?_
        refine lv_aload_n hx hb d_Maker_make_71 rfl (lv_at hl 0 rfl) ?_
        refine lv_iconst (v := 2) hx hb d_Maker_make_72 (by decide) ?_
        obtain ⟨r18, σ19, h20, hf⟩ := bd_s hf
        refine x_Vi (As := [.int 2]) (rest := [.ref (ad 5)]) X hml hl.1 hZ hA h (c_Maker_drawPlace l D ad cA tz n 2 σ16 r18 σ19 h20) k_Maker_drawPlace m_m_Maker_53 kd_Maker_drawPlace ⟨rfl, rfl, Nat.le_of_ble_eq_true rfl, Nat.le_of_ble_eq_true rfl⟩ 3 rfl rfl rfl rfl rfl (Nat.le_of_ble_eq_true rfl) d_Maker_make_73 (fun H locs h => ?_)
        refine lv_iconst (v := 2) hx hb d_Maker_make_76 (by decide) ?_
        obtain ⟨r21, σ22, h23, hf⟩ := bd_s hf
        refine x_Vv (As := [.int r18, .int 2]) (rest := []) X hml hl.1 hZ hA h (c_Level_setGround l D ad cA tz n r18 2 σ19 r21 σ22 h23) k_Level_setGround m_m_Maker_57 kd_Level_setGround ⟨rfl, rfl, Nat.le_of_ble_eq_true rfl, Nat.le_of_ble_eq_true rfl⟩ 5 rfl rfl rfl rfl rfl (Nat.le_of_ble_eq_true rfl) d_Maker_make_77 (fun H locs h => ?_)
        refine lv_aload_n hx hb d_Maker_make_80 rfl (lv_at hl 2 rfl) ?_
        refine lv_aload_n hx hb d_Maker_make_81 rfl (lv_at hl 0 rfl) ?_
        refine lv_iconst (v := 0) hx hb d_Maker_make_82 (by decide) ?_
        obtain ⟨r24, σ25, h26, hf⟩ := bd_s hf
        refine x_Vi (As := [.int 0]) (rest := [.ref (ad 5)]) X hml hl.1 hZ hA h (c_Maker_centreRow l D ad cA tz n 0 σ22 r24 σ25 h26) k_Maker_centreRow m_m_Maker_61 kd_Maker_centreRow ⟨rfl, rfl, Nat.le_of_ble_eq_true rfl, Nat.le_of_ble_eq_true rfl⟩ 3 rfl rfl rfl rfl rfl (Nat.le_of_ble_eq_true rfl) d_Maker_make_83 (fun H locs h => ?_)
        refine lv_bipush (v := 12) hx hb d_Maker_make_86 (by decide) ?_
        refine lv_imul hx hb d_Maker_make_88 ?_
        refine lv_aload_n hx hb d_Maker_make_89 rfl (lv_at hl 0 rfl) ?_
        refine lv_iconst (v := 0) hx hb d_Maker_make_90 (by decide) ?_
        obtain ⟨r27, σ28, h29, hf⟩ := bd_s hf
        refine x_Vi (As := [.int 0]) (rest := [.int (r24 * 12), .ref (ad 5)]) X hml hl.1 hZ hA h (c_Maker_centreColumn l D ad cA tz n 0 σ25 r27 σ28 h29) k_Maker_centreColumn m_m_Maker_64 kd_Maker_centreColumn ⟨rfl, rfl, Nat.le_of_ble_eq_true rfl, Nat.le_of_ble_eq_true rfl⟩ 3 rfl rfl rfl rfl rfl (Nat.le_of_ble_eq_true rfl) d_Maker_make_91 (fun H locs h => ?_)
        refine lv_iadd hx hb d_Maker_make_94 ?_
        refine P_level_start X h m_f_Maker_67 d_Maker_make_95 (fun H locs σ30 eσ30 h => ?_)
        have hf := nm_b hf eσ30
        refine lv_iconst (v := 0) hx hb d_Maker_make_98 (by decide) ?_
        refine lv_istore (lv' := [(5, .int 0), (0, .ref (ad 3)), (2, .int y2), (3, .ref (ad 5)), (4, .ref (ad 6))]) hx hb d_Maker_make_99 hl (by decide) rfl (fun ls hl => ?_)
        exact L101 n y2 0 σ30 hf H locs ls h (lv_sub hl [1, 2, 3, 4, 0] rfl)
      · have hf := ie c8 hf
        refine lv_aload_n hx hb d_Maker_make_36 rfl (lv_at hl 0 rfl) ?_
        refine lv_iload hx hb d_Maker_make_37 (lv_at hl 4 rfl) ?_
        refine lv_aload_n hx hb d_Maker_make_39 rfl (lv_at hl 2 rfl) ?_
        obtain ⟨r31, σ32, h33, hf⟩ := bd_s hf
        refine x_Vv (As := [.int y5, .ref (ad 5)]) (rest := []) X hml hl.1 hZ hA h (c_Maker_digRoom l D ad cA tz n y5 σ r31 σ32 h33) k_Maker_digRoom m_m_Maker_45 kd_Maker_digRoom ⟨rfl, rfl, Nat.le_of_ble_eq_true rfl, Nat.le_of_ble_eq_true rfl⟩ 3 rfl rfl rfl rfl rfl (Nat.le_of_ble_eq_true rfl) d_Maker_make_40 (fun H locs h => ?_)
        obtain ⟨v34, ev34⟩ : ∃ y : Int32, y = y5 + 1 := ⟨_, rfl⟩
        have hf := nm_b hf ev34
        refine lv_iinc (v := v34) (lv' := [(5, .int v34), (0, .ref (ad 3)), (2, .int y2), (3, .ref (ad 5)), (4, .ref (ad 6))]) hx hb d_Maker_make_43 hl (k := 4) rfl (by rw [ev34]; rfl) (by decide) rfl (fun ls hl => ?_)
        refine lv_goto (tgt := 30) hx hb d_Maker_make_46 (by decide) ?_
        exact ih y2 v34 σ32 hf H locs ls h (lv_sub hl [1, 2, 3, 4, 0] rfl)
  unfold f_Maker_make at hf
  refine lv_aload_n hx hb d_Maker_make_0 rfl (lv_at hl 0 rfl) ?_
  refine G_maker_making X h m_f_Maker_12 d_Maker_make_1 ?_
  refine lv_iload_n hx hb d_Maker_make_4 rfl (lv_at hl 1 rfl) ?_
  refine lv_i2l hx hb d_Maker_make_5 rfl ?_
  refine lv_lconst (v := 1) hx hb d_Maker_make_6 (by decide) ?_
  refine lv_ladd hx hb d_Maker_make_7 ?_
  refine lv_ldc2 (v := 1000003) hx hb X.2.2.1 (X.2.2.2.1 _ m_kl_Maker_31) d_Maker_make_8 ?_
  refine lv_lmul hx hb d_Maker_make_11 ?_
  refine lv_iload_n hx hb d_Maker_make_12 rfl (lv_at hl 2 rfl) ?_
  refine lv_i2l hx hb d_Maker_make_13 rfl ?_
  refine lv_ladd hx hb d_Maker_make_14 ?_
  refine P_making_state X h m_f_Maker_33 d_Maker_make_15 (fun H locs σ1 eσ1 h => ?_)
  have hf := nm_b hf eσ1
  refine lv_aload_n hx hb d_Maker_make_18 rfl (lv_at hl 3 rfl) ?_
  obtain ⟨r2, σ3, h4, hf⟩ := bd_s hf
  refine x_Vv (As := []) (rest := []) X hml hl.1 hZ hA h (c_Level_clear l D ad cA tz n σ1 r2 σ3 h4) k_Level_clear m_m_Maker_37 kd_Level_clear ⟨rfl, rfl, Nat.le_of_ble_eq_true rfl, Nat.le_of_ble_eq_true rfl⟩ 5 rfl rfl rfl rfl rfl (Nat.le_of_ble_eq_true rfl) d_Maker_make_19 (fun H locs h => ?_)
  refine lv_aload hx hb d_Maker_make_22 (lv_at hl 4 rfl) ?_
  obtain ⟨r5, σ6, h7, hf⟩ := bd_s hf
  refine x_Vv (As := []) (rest := []) X hml hl.1 hZ hA h (c_Monsters_clear l D ad cA tz n σ3 r5 σ6 h7) k_Monsters_clear m_m_Maker_42 kd_Monsters_clear ⟨rfl, rfl, Nat.le_of_ble_eq_true rfl, Nat.le_of_ble_eq_true rfl⟩ 6 rfl rfl rfl rfl rfl (Nat.le_of_ble_eq_true rfl) d_Maker_make_24 (fun H locs h => ?_)
  refine lv_iconst (v := 0) hx hb d_Maker_make_27 (by decide) ?_
  refine lv_istore (lv' := [(5, .int 0), (0, .ref (ad 3)), (1, .int x1), (2, .int x2), (3, .ref (ad 5)), (4, .ref (ad 6))]) hx hb d_Maker_make_28 hl (by decide) rfl (fun ls hl => ?_)
  exact L30 n x2 0 σ6 hf H locs ls h (lv_sub hl [1, 3, 4, 5, 0] rfl)
theorem d_Math_floorDiv_0 : decode b_Math_floorDiv 0 = .ok (.iload_n 0, 1) := by decide +kernel
theorem d_Math_floorDiv_1 : decode b_Math_floorDiv 1 = .ok (.iload_n 1, 1) := by decide +kernel
theorem d_Math_floorDiv_2 : decode b_Math_floorDiv 2 = .ok (.idiv, 1) := by decide +kernel
theorem d_Math_floorDiv_3 : decode b_Math_floorDiv 3 = .ok (.istore_n 2, 1) := by decide +kernel
theorem d_Math_floorDiv_4 : decode b_Math_floorDiv 4 = .ok (.iload_n 0, 1) := by decide +kernel
theorem d_Math_floorDiv_5 : decode b_Math_floorDiv 5 = .ok (.iload_n 1, 1) := by decide +kernel
theorem d_Math_floorDiv_6 : decode b_Math_floorDiv 6 = .ok (.ixor, 1) := by decide +kernel
theorem d_Math_floorDiv_7 : decode b_Math_floorDiv 7 = .ok (.ifCond .ge 14, 3) := by decide +kernel
theorem d_Math_floorDiv_10 : decode b_Math_floorDiv 10 = .ok (.iload_n 2, 1) := by decide +kernel
theorem d_Math_floorDiv_11 : decode b_Math_floorDiv 11 = .ok (.iload_n 1, 1) := by decide +kernel
theorem d_Math_floorDiv_12 : decode b_Math_floorDiv 12 = .ok (.imul, 1) := by decide +kernel
theorem d_Math_floorDiv_13 : decode b_Math_floorDiv 13 = .ok (.iload_n 0, 1) := by decide +kernel
theorem d_Math_floorDiv_14 : decode b_Math_floorDiv 14 = .ok (.if_icmp .eq 7, 3) := by decide +kernel
theorem d_Math_floorDiv_17 : decode b_Math_floorDiv 17 = .ok (.iload_n 2, 1) := by decide +kernel
theorem d_Math_floorDiv_18 : decode b_Math_floorDiv 18 = .ok (.iconst 1, 1) := by decide +kernel
theorem d_Math_floorDiv_19 : decode b_Math_floorDiv 19 = .ok (.isub, 1) := by decide +kernel
theorem d_Math_floorDiv_20 : decode b_Math_floorDiv 20 = .ok (.ireturn, 1) := by decide +kernel
theorem d_Math_floorDiv_21 : decode b_Math_floorDiv 21 = .ok (.iload_n 2, 1) := by decide +kernel
theorem d_Math_floorDiv_22 : decode b_Math_floorDiv 22 = .ok (.ireturn, 1) := by decide +kernel
def f_Math_floorDiv (n : Nat) (x0 : Int32) (x1 : Int32) (σ : St) : Option (Int32 × St) := gd (nzi x1) (bnd (x0 / x1) (fun v2 => if 0 ≤ (x0 ^^^ x1) then (some (v2, σ)) else (if (v2 * x1) = x0 then (some (v2, σ)) else (some (v2 - 1, σ)))))
set_option maxHeartbeats 4000000 in
set_option maxRecDepth 100000 in
theorem c_Math_floorDiv (l : Launch) (D : va_G) (ad : Nat → Nat) (cA : Nat → ClassId) (tz : Nat → Nat) (n : Nat) (x0 : Int32) (x1 : Int32) (σ : St) (r : Int32) (σr : St) (hf : f_Math_floorDiv n x0 x1 σ = some (r, σr)) : Ki l D cA tz (wl ad cA) y_Math_floorDiv (.code y_Math_floorDiv b_Math_floorDiv 3 (some .int) :: TB) ({ frames := 0, cells := 0, slots := 0, locals := 0 }) [.int x0, .int x1] σ r σr := by
  refine x_openf (own := R_Math) rfl (by decide +kernel) (fun p e s m args below meth c A Q X hml hZ hA H locs ls h hl rt => ?_)
  have hx := X.1
  have hb := X.2.1
  have hl : lv_has ls 3 [(0, .int x0), (1, .int x1)] := hl
  unfold f_Math_floorDiv at hf
  refine lv_iload_n hx hb d_Math_floorDiv_0 rfl (lv_at hl 0 rfl) ?_
  refine lv_iload_n hx hb d_Math_floorDiv_1 rfl (lv_at hl 1 rfl) ?_
  obtain ⟨g1, hf⟩ := gd_s hf
  refine lv_idiv hx hb d_Math_floorDiv_2 (nzi_s g1) ?_
  refine lv_topi (fun v2 ev2 => ?_)
  have hf := nm_b hf ev2
  refine lv_istore_n (lv' := [(2, .int v2), (0, .int x0), (1, .int x1)]) hx hb d_Math_floorDiv_3 rfl hl (by decide) rfl (fun ls hl => ?_)
  refine lv_iload_n hx hb d_Math_floorDiv_4 rfl (lv_at hl 1 rfl) ?_
  refine lv_iload_n hx hb d_Math_floorDiv_5 rfl (lv_at hl 2 rfl) ?_
  refine lv_ixor hx hb d_Math_floorDiv_6 ?_
  refine lv_if_ge (tgt := 21) hx hb d_Math_floorDiv_7 (by decide) (fun c3 => ?_) (fun c3 => ?_)
  · have hf := it c3 hf
    refine lv_iload_n hx hb d_Math_floorDiv_21 rfl (lv_at hl 0 rfl) ?_
    exact rt _ _ H locs 22 ls hf h d_Math_floorDiv_22
  · have hf := ie c3 hf
    refine lv_iload_n hx hb d_Math_floorDiv_10 rfl (lv_at hl 0 rfl) ?_
    refine lv_iload_n hx hb d_Math_floorDiv_11 rfl (lv_at hl 2 rfl) ?_
    refine lv_imul hx hb d_Math_floorDiv_12 ?_
    refine lv_iload_n hx hb d_Math_floorDiv_13 rfl (lv_at hl 1 rfl) ?_
    refine lv_icmp_eq (tgt := 21) hx hb d_Math_floorDiv_14 (by decide) (fun c4 => ?_) (fun c4 => ?_)
    · have hf := it c4 hf
      refine lv_iload_n hx hb d_Math_floorDiv_21 rfl (lv_at hl 0 rfl) ?_
      exact rt _ _ H locs 22 ls hf h d_Math_floorDiv_22
    · have hf := ie c4 hf
      refine lv_iload_n hx hb d_Math_floorDiv_17 rfl (lv_at hl 0 rfl) ?_
      refine lv_iconst (v := 1) hx hb d_Math_floorDiv_18 (by decide) ?_
      refine lv_isub hx hb d_Math_floorDiv_19 ?_
      exact rt _ _ H locs 20 ls hf h d_Math_floorDiv_20
theorem d_Level_isFloor_0 : decode b_Level_isFloor 0 = .ok (.iload_n 1, 1) := by decide +kernel
theorem d_Level_isFloor_1 : decode b_Level_isFloor 1 = .ok (.ifCond .lt 22, 3) := by decide +kernel
theorem d_Level_isFloor_4 : decode b_Level_isFloor 4 = .ok (.iload_n 1, 1) := by decide +kernel
theorem d_Level_isFloor_5 : decode b_Level_isFloor 5 = .ok (.bipush 120, 2) := by decide +kernel
theorem d_Level_isFloor_7 : decode b_Level_isFloor 7 = .ok (.if_icmp .ge 16, 3) := by decide +kernel
theorem d_Level_isFloor_10 : decode b_Level_isFloor 10 = .ok (.aload_n 0, 1) := by decide +kernel
theorem d_Level_isFloor_11 : decode b_Level_isFloor 11 = .ok (.getfield 9, 3) := by decide +kernel
theorem d_Level_isFloor_14 : decode b_Level_isFloor 14 = .ok (.iload_n 1, 1) := by decide +kernel
theorem d_Level_isFloor_15 : decode b_Level_isFloor 15 = .ok (.iaload, 1) := by decide +kernel
theorem d_Level_isFloor_16 : decode b_Level_isFloor 16 = .ok (.ifCond .eq 7, 3) := by decide +kernel
theorem d_Level_isFloor_19 : decode b_Level_isFloor 19 = .ok (.iconst 1, 1) := by decide +kernel
theorem d_Level_isFloor_20 : decode b_Level_isFloor 20 = .ok (.goto 4, 3) := by decide +kernel
theorem d_Level_isFloor_23 : decode b_Level_isFloor 23 = .ok (.iconst 0, 1) := by decide +kernel
theorem d_Level_isFloor_24 : decode b_Level_isFloor 24 = .ok (.ireturn, 1) := by decide +kernel
def f_Level_isFloor (n : Nat) (x1 : Int32) (σ : St) : Option (Int32 × St) := if x1 < 0 then (some (0, σ)) else (if 120 ≤ x1 then (some (0, σ)) else (gd (inb x1 120) (if (σ.2.2 1 x1.toNatClampNeg) = 0 then (some (0, σ)) else (some (1, σ)))))
set_option maxHeartbeats 4000000 in
set_option maxRecDepth 100000 in
theorem c_Level_isFloor (l : Launch) (D : va_G) (ad : Nat → Nat) (cA : Nat → ClassId) (tz : Nat → Nat) (n : Nat) (x1 : Int32) (σ : St) (r : Int32) (σr : St) (hf : f_Level_isFloor n x1 σ = some (r, σr)) : Ki l D cA tz (wl ad cA) y_Level_isFloor (.code y_Level_isFloor b_Level_isFloor 2 (some .boolean) :: TB) ({ frames := 0, cells := 0, slots := 0, locals := 0 }) [.ref (ad 5), .int x1] σ r σr := by
  refine x_openz (own := R_Level) rfl (by decide) (fun p e s m args below meth c A Q X hml hZ hA H locs ls h hl rt => ?_)
  have hx := X.1
  have hb := X.2.1
  have hl : lv_has ls 2 [(0, .ref (ad 5)), (1, .int x1)] := hl
  unfold f_Level_isFloor at hf
  refine lv_iload_n hx hb d_Level_isFloor_0 rfl (lv_at hl 1 rfl) ?_
  refine lv_if_lt (tgt := 23) hx hb d_Level_isFloor_1 (by decide) (fun c1 => ?_) (fun c1 => ?_)
  · have hf := it c1 hf
    refine lv_iconst (v := 0) hx hb d_Level_isFloor_23 (by decide) ?_
    exact rt _ _ H locs 24 ls rfl hf h d_Level_isFloor_24
  · have hf := ie c1 hf
    refine lv_iload_n hx hb d_Level_isFloor_4 rfl (lv_at hl 1 rfl) ?_
    refine lv_bipush (v := 120) hx hb d_Level_isFloor_5 (by decide) ?_
    refine lv_icmp_ge (tgt := 23) hx hb d_Level_isFloor_7 (by decide) (fun c2 => ?_) (fun c2 => ?_)
    · have hf := it c2 hf
      refine lv_iconst (v := 0) hx hb d_Level_isFloor_23 (by decide) ?_
      exact rt _ _ H locs 24 ls rfl hf h d_Level_isFloor_24
    · have hf := ie c2 hf
      refine lv_aload_n hx hb d_Level_isFloor_10 rfl (lv_at hl 0 rfl) ?_
      refine G_level_ground X h m_f_Level_9 d_Level_isFloor_11 ?_
      refine lv_iload_n hx hb d_Level_isFloor_14 rfl (lv_at hl 1 rfl) ?_
      obtain ⟨g3, hf⟩ := gd_s hf
      refine R_ground X h (inb_s g3) d_Level_isFloor_15 ?_
      refine lv_if_eq (tgt := 23) hx hb d_Level_isFloor_16 (by decide) (fun c4 => ?_) (fun c4 => ?_)
      · have hf := it c4 hf
        refine lv_iconst (v := 0) hx hb d_Level_isFloor_23 (by decide) ?_
        exact rt _ _ H locs 24 ls rfl hf h d_Level_isFloor_24
      · have hf := ie c4 hf
        refine lv_iconst (v := 1) hx hb d_Level_isFloor_19 (by decide) ?_
        refine lv_goto (tgt := 24) hx hb d_Level_isFloor_20 (by decide) ?_
        exact rt _ _ H locs 24 ls rfl hf h d_Level_isFloor_24

