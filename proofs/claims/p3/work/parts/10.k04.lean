theorem d_Distances_measure_0 : decode b_Distances_measure 0 = .ok (.aload_n 0, 1) := by decide +kernel
theorem d_Distances_measure_1 : decode b_Distances_measure 1 = .ok (.getfield 9, 3) := by decide +kernel
theorem d_Distances_measure_4 : decode b_Distances_measure 4 = .ok (.bipush (-2), 2) := by decide +kernel
theorem d_Distances_measure_6 : decode b_Distances_measure 6 = .ok (.invokestatic 22, 3) := by decide +kernel
theorem d_Distances_measure_9 : decode b_Distances_measure 9 = .ok (.aload_n 0, 1) := by decide +kernel
theorem d_Distances_measure_10 : decode b_Distances_measure 10 = .ok (.iconst 0, 1) := by decide +kernel
theorem d_Distances_measure_11 : decode b_Distances_measure 11 = .ok (.putfield 18, 3) := by decide +kernel
theorem d_Distances_measure_14 : decode b_Distances_measure 14 = .ok (.aload_n 2, 1) := by decide +kernel
theorem d_Distances_measure_15 : decode b_Distances_measure 15 = .ok (.iload_n 1, 1) := by decide +kernel
theorem d_Distances_measure_16 : decode b_Distances_measure 16 = .ok (.invokevirtual 28, 3) := by decide +kernel
theorem d_Distances_measure_19 : decode b_Distances_measure 19 = .ok (.ifCond .ne 4, 3) := by decide +kernel
theorem d_Distances_measure_22 : decode b_Distances_measure 22 = .ok (.return_, 1) := by decide +kernel
theorem d_Distances_measure_23 : decode b_Distances_measure 23 = .ok (.aload_n 0, 1) := by decide +kernel
theorem d_Distances_measure_24 : decode b_Distances_measure 24 = .ok (.getfield 9, 3) := by decide +kernel
theorem d_Distances_measure_27 : decode b_Distances_measure 27 = .ok (.iload_n 1, 1) := by decide +kernel
theorem d_Distances_measure_28 : decode b_Distances_measure 28 = .ok (.iconst 0, 1) := by decide +kernel
theorem d_Distances_measure_29 : decode b_Distances_measure 29 = .ok (.iastore, 1) := by decide +kernel
theorem d_Distances_measure_30 : decode b_Distances_measure 30 = .ok (.aload_n 0, 1) := by decide +kernel
theorem d_Distances_measure_31 : decode b_Distances_measure 31 = .ok (.getfield 15, 3) := by decide +kernel
theorem d_Distances_measure_34 : decode b_Distances_measure 34 = .ok (.iconst 0, 1) := by decide +kernel
theorem d_Distances_measure_35 : decode b_Distances_measure 35 = .ok (.iload_n 1, 1) := by decide +kernel
theorem d_Distances_measure_36 : decode b_Distances_measure 36 = .ok (.iastore, 1) := by decide +kernel
theorem d_Distances_measure_37 : decode b_Distances_measure 37 = .ok (.iconst 1, 1) := by decide +kernel
theorem d_Distances_measure_38 : decode b_Distances_measure 38 = .ok (.istore_n 3, 1) := by decide +kernel
theorem d_Distances_measure_39 : decode b_Distances_measure 39 = .ok (.iconst 0, 1) := by decide +kernel
theorem d_Distances_measure_40 : decode b_Distances_measure 40 = .ok (.istore 4, 2) := by decide +kernel
theorem d_Distances_measure_42 : decode b_Distances_measure 42 = .ok (.iload 4, 2) := by decide +kernel
theorem d_Distances_measure_44 : decode b_Distances_measure 44 = .ok (.iload_n 3, 1) := by decide +kernel
theorem d_Distances_measure_45 : decode b_Distances_measure 45 = .ok (.if_icmp .ge 114, 3) := by decide +kernel
theorem d_Distances_measure_48 : decode b_Distances_measure 48 = .ok (.iload 4, 2) := by decide +kernel
theorem d_Distances_measure_50 : decode b_Distances_measure 50 = .ok (.bipush 120, 2) := by decide +kernel
theorem d_Distances_measure_52 : decode b_Distances_measure 52 = .ok (.if_icmp .ge 107, 3) := by decide +kernel
theorem d_Distances_measure_55 : decode b_Distances_measure 55 = .ok (.aload_n 0, 1) := by decide +kernel
theorem d_Distances_measure_56 : decode b_Distances_measure 56 = .ok (.getfield 15, 3) := by decide +kernel
theorem d_Distances_measure_59 : decode b_Distances_measure 59 = .ok (.iload 4, 2) := by decide +kernel
theorem d_Distances_measure_61 : decode b_Distances_measure 61 = .ok (.iaload, 1) := by decide +kernel
theorem d_Distances_measure_62 : decode b_Distances_measure 62 = .ok (.istore 5, 2) := by decide +kernel
theorem d_Distances_measure_64 : decode b_Distances_measure 64 = .ok (.aload_n 0, 1) := by decide +kernel
theorem d_Distances_measure_65 : decode b_Distances_measure 65 = .ok (.aload_n 0, 1) := by decide +kernel
theorem d_Distances_measure_66 : decode b_Distances_measure 66 = .ok (.getfield 9, 3) := by decide +kernel
theorem d_Distances_measure_69 : decode b_Distances_measure 69 = .ok (.iload 5, 2) := by decide +kernel
theorem d_Distances_measure_71 : decode b_Distances_measure 71 = .ok (.iaload, 1) := by decide +kernel
theorem d_Distances_measure_72 : decode b_Distances_measure 72 = .ok (.putfield 18, 3) := by decide +kernel
theorem d_Distances_measure_75 : decode b_Distances_measure 75 = .ok (.iconst 0, 1) := by decide +kernel
theorem d_Distances_measure_76 : decode b_Distances_measure 76 = .ok (.istore 6, 2) := by decide +kernel
theorem d_Distances_measure_78 : decode b_Distances_measure 78 = .ok (.iload 6, 2) := by decide +kernel
theorem d_Distances_measure_80 : decode b_Distances_measure 80 = .ok (.iconst 4, 1) := by decide +kernel
theorem d_Distances_measure_81 : decode b_Distances_measure 81 = .ok (.if_icmp .ge 72, 3) := by decide +kernel
theorem d_Distances_measure_84 : decode b_Distances_measure 84 = .ok (.iload 5, 2) := by decide +kernel
theorem d_Distances_measure_86 : decode b_Distances_measure 86 = .ok (.iload 6, 2) := by decide +kernel
theorem d_Distances_measure_88 : decode b_Distances_measure 88 = .ok (.invokestatic 34, 3) := by decide +kernel
theorem d_Distances_measure_91 : decode b_Distances_measure 91 = .ok (.istore 7, 2) := by decide +kernel
theorem d_Distances_measure_93 : decode b_Distances_measure 93 = .ok (.aload_n 2, 1) := by decide +kernel
theorem d_Distances_measure_94 : decode b_Distances_measure 94 = .ok (.iload 7, 2) := by decide +kernel
theorem d_Distances_measure_96 : decode b_Distances_measure 96 = .ok (.invokevirtual 28, 3) := by decide +kernel
theorem d_Distances_measure_99 : decode b_Distances_measure 99 = .ok (.ifCond .eq 48, 3) := by decide +kernel
theorem d_Distances_measure_102 : decode b_Distances_measure 102 = .ok (.aload_n 0, 1) := by decide +kernel
theorem d_Distances_measure_103 : decode b_Distances_measure 103 = .ok (.getfield 9, 3) := by decide +kernel
theorem d_Distances_measure_106 : decode b_Distances_measure 106 = .ok (.iload 7, 2) := by decide +kernel
theorem d_Distances_measure_108 : decode b_Distances_measure 108 = .ok (.iaload, 1) := by decide +kernel
theorem d_Distances_measure_109 : decode b_Distances_measure 109 = .ok (.bipush (-2), 2) := by decide +kernel
theorem d_Distances_measure_111 : decode b_Distances_measure 111 = .ok (.if_icmp .ne 36, 3) := by decide +kernel
theorem d_Distances_measure_114 : decode b_Distances_measure 114 = .ok (.iload_n 3, 1) := by decide +kernel
theorem d_Distances_measure_115 : decode b_Distances_measure 115 = .ok (.bipush 120, 2) := by decide +kernel
theorem d_Distances_measure_117 : decode b_Distances_measure 117 = .ok (.if_icmp .ge 30, 3) := by decide +kernel
theorem d_Distances_measure_120 : decode b_Distances_measure 120 = .ok (.aload_n 0, 1) := by decide +kernel
theorem d_Distances_measure_121 : decode b_Distances_measure 121 = .ok (.getfield 9, 3) := by decide +kernel
theorem d_Distances_measure_124 : decode b_Distances_measure 124 = .ok (.iload 7, 2) := by decide +kernel
theorem d_Distances_measure_126 : decode b_Distances_measure 126 = .ok (.aload_n 0, 1) := by decide +kernel
theorem d_Distances_measure_127 : decode b_Distances_measure 127 = .ok (.getfield 9, 3) := by decide +kernel
theorem d_Distances_measure_130 : decode b_Distances_measure 130 = .ok (.iload 5, 2) := by decide +kernel
theorem d_Distances_measure_132 : decode b_Distances_measure 132 = .ok (.iaload, 1) := by decide +kernel
theorem d_Distances_measure_133 : decode b_Distances_measure 133 = .ok (.iconst 1, 1) := by decide +kernel
theorem d_Distances_measure_134 : decode b_Distances_measure 134 = .ok (.iadd, 1) := by decide +kernel
theorem d_Distances_measure_135 : decode b_Distances_measure 135 = .ok (.iastore, 1) := by decide +kernel
theorem d_Distances_measure_136 : decode b_Distances_measure 136 = .ok (.aload_n 0, 1) := by decide +kernel
theorem d_Distances_measure_137 : decode b_Distances_measure 137 = .ok (.getfield 15, 3) := by decide +kernel
theorem d_Distances_measure_140 : decode b_Distances_measure 140 = .ok (.iload_n 3, 1) := by decide +kernel
theorem d_Distances_measure_141 : decode b_Distances_measure 141 = .ok (.iload 7, 2) := by decide +kernel
theorem d_Distances_measure_143 : decode b_Distances_measure 143 = .ok (.iastore, 1) := by decide +kernel
theorem d_Distances_measure_144 : decode b_Distances_measure 144 = .ok (.iinc 3 1, 3) := by decide +kernel
theorem d_Distances_measure_147 : decode b_Distances_measure 147 = .ok (.iinc 6 1, 3) := by decide +kernel
theorem d_Distances_measure_150 : decode b_Distances_measure 150 = .ok (.goto (-72), 3) := by decide +kernel
theorem d_Distances_measure_153 : decode b_Distances_measure 153 = .ok (.iinc 4 1, 3) := by decide +kernel
theorem d_Distances_measure_156 : decode b_Distances_measure 156 = .ok (.goto (-114), 3) := by decide +kernel
theorem d_Distances_measure_159 : decode b_Distances_measure 159 = .ok (.return_, 1) := by decide +kernel
def f_Distances_measure_78 (n : Nat) (k42 : Int32 → Int32 → St → Option (Unit × St)) : Nat → Int32 → Int32 → Int32 → Int32 → St → Option (Unit × St)
  | 0, _, _, _, _, _ => none
  | j + 1, y3, y4, y5, y6, σ => if 4 ≤ y6 then (bnd (y4 + 1) (fun v20 => k42 y3 v20 σ)) else (bd (f_Level_neighbour n y5 y6 σ) (fun r21 σ22 => bd (f_Level_isFloor n r21 σ22) (fun r24 σ25 => if r24 = 0 then (bnd (y6 + 1) (fun v28 => f_Distances_measure_78 n k42 j y3 y4 y5 v28 σ25)) else (gd (inb r21 120) (if (σ25.2.2 13 r21.toNatClampNeg) = (-2) then (if 120 ≤ y3 then (bnd (y6 + 1) (fun v33 => f_Distances_measure_78 n k42 j y3 y4 y5 v33 σ25)) else (gd (inb y5 120) (gd (inb r21 120) (bnd (sA σ25 13 r21.toNatClampNeg ((σ25.2.2 13 y5.toNatClampNeg) + 1)) (fun σ36 => gd (inb y3 120) (bnd (sA σ36 14 y3.toNatClampNeg r21) (fun σ38 => bnd (y3 + 1) (fun v39 => bnd (y6 + 1) (fun v40 => f_Distances_measure_78 n k42 j v39 y4 y5 v40 σ38))))))))) else (bnd (y6 + 1) (fun v31 => f_Distances_measure_78 n k42 j y3 y4 y5 v31 σ25)))))))
theorem f_Distances_measure_78_s (n : Nat) (k42 : Int32 → Int32 → St → Option (Unit × St)) (j : Nat) (y3 : Int32) (y4 : Int32) (y5 : Int32) (y6 : Int32) (σ : St) : f_Distances_measure_78 n k42 (j + 1) y3 y4 y5 y6 σ = (if 4 ≤ y6 then (bnd (y4 + 1) (fun v20 => k42 y3 v20 σ)) else (bd (f_Level_neighbour n y5 y6 σ) (fun r21 σ22 => bd (f_Level_isFloor n r21 σ22) (fun r24 σ25 => if r24 = 0 then (bnd (y6 + 1) (fun v28 => f_Distances_measure_78 n k42 j y3 y4 y5 v28 σ25)) else (gd (inb r21 120) (if (σ25.2.2 13 r21.toNatClampNeg) = (-2) then (if 120 ≤ y3 then (bnd (y6 + 1) (fun v33 => f_Distances_measure_78 n k42 j y3 y4 y5 v33 σ25)) else (gd (inb y5 120) (gd (inb r21 120) (bnd (sA σ25 13 r21.toNatClampNeg ((σ25.2.2 13 y5.toNatClampNeg) + 1)) (fun σ36 => gd (inb y3 120) (bnd (sA σ36 14 y3.toNatClampNeg r21) (fun σ38 => bnd (y3 + 1) (fun v39 => bnd (y6 + 1) (fun v40 => f_Distances_measure_78 n k42 j v39 y4 y5 v40 σ38))))))))) else (bnd (y6 + 1) (fun v31 => f_Distances_measure_78 n k42 j y3 y4 y5 v31 σ25)))))))) := rfl
def f_Distances_measure_42 (n : Nat) : Nat → Int32 → Int32 → St → Option (Unit × St)
  | 0, _, _, _ => none
  | j + 1, y3, y4, σ => if y3 ≤ y4 then (some ((), σ)) else (if 120 ≤ y4 then (some ((), σ)) else (gd (inb y4 120) (bnd (σ.2.2 14 y4.toNatClampNeg) (fun v16 => gd (inb v16 120) (bnd (sI σ 8 (σ.2.2 13 v16.toNatClampNeg)) (fun σ18 => f_Distances_measure_78 n (fun y3 y4 σ => f_Distances_measure_42 n j y3 y4 σ) n y3 y4 v16 0 σ18))))))
theorem f_Distances_measure_42_s (n : Nat) (j : Nat) (y3 : Int32) (y4 : Int32) (σ : St) : f_Distances_measure_42 n (j + 1) y3 y4 σ = (if y3 ≤ y4 then (some ((), σ)) else (if 120 ≤ y4 then (some ((), σ)) else (gd (inb y4 120) (bnd (σ.2.2 14 y4.toNatClampNeg) (fun v16 => gd (inb v16 120) (bnd (sI σ 8 (σ.2.2 13 v16.toNatClampNeg)) (fun σ18 => f_Distances_measure_78 n (fun y3 y4 σ => f_Distances_measure_42 n j y3 y4 σ) n y3 y4 v16 0 σ18))))))) := rfl
def f_Distances_measure (n : Nat) (x1 : Int32) (σ : St) : Option (Unit × St) := bd (f_Arrays_fill_steps n (-2) σ) (fun _ σ2 => bnd (sI σ2 8 0) (fun σ4 => bd (f_Level_isFloor n x1 σ4) (fun r5 σ6 => if r5 = 0 then (some ((), σ6)) else (gd (inb x1 120) (bnd (sA σ6 13 x1.toNatClampNeg 0) (fun σ10 => gd (inb 0 120) (bnd (sA σ10 14 (0 : Int32).toNatClampNeg x1) (fun σ12 => f_Distances_measure_42 n n 1 0 σ12))))))))
set_option maxHeartbeats 4000000 in
set_option maxRecDepth 100000 in
theorem c_Distances_measure (l : Launch) (D : va_G) (ad : Nat → Nat) (cA : Nat → ClassId) (tz : Nat → Nat) (n : Nat) (x1 : Int32) (σ : St) (r : Unit) (σr : St) (hf : f_Distances_measure n x1 σ = some (r, σr)) : Kv l D cA tz (wl ad cA) y_Distances_measure (.code y_Distances_measure b_Distances_measure 8 none :: TB) ({ frames := 1, cells := 0, slots := 0, locals := 23 }) [.ref (ad 7), .int x1, .ref (ad 5)] σ σr := by
  refine x_openv (r := r) (own := R_Distances) rfl (by decide) (fun p e s m args below meth c A Q X hml hZ hA H locs ls h hl rt => ?_)
  have hx := X.1
  have hb := X.2.1
  have hl : lv_has ls 8 [(0, .ref (ad 7)), (1, .int x1), (2, .ref (ad 5))] := hl
  have L78 : ∀ (k42 : Int32 → Int32 → St → Option (Unit × St)), (∀ (y3 : Int32) (y4 : Int32) (σ : St), k42 y3 y4 σ = some (r, σr) → ∀ (H : Heap) (locs : List Loc) (ls : Array Slot), WD D A s (wl ad cA σ) H locs → lv_has ls 8 [(0, .ref (ad 7)), (2, .ref (ad 5)), (3, .int y3), (4, .int y4)] → W p l e ({ frames := 1, cells := 0, slots := 0, locals := 23 }) s m args below meth c H locs 0 0 Q (F0 m 42 ls [])) → ∀ j : Nat, ∀ (y3 : Int32) (y4 : Int32) (y5 : Int32) (y6 : Int32) (σ : St), f_Distances_measure_78 n k42 j y3 y4 y5 y6 σ = some (r, σr) → ∀ (H : Heap) (locs : List Loc) (ls : Array Slot), WD D A s (wl ad cA σ) H locs → lv_has ls 8 [(0, .ref (ad 7)), (2, .ref (ad 5)), (3, .int y3), (4, .int y4), (5, .int y5), (6, .int y6)] → W p l e ({ frames := 1, cells := 0, slots := 0, locals := 23 }) s m args below meth c H locs 0 0 Q (F0 m 78 ls []) := by
    intro k42 K42
    intro j
    induction j with
    | zero => intro y3 y4 y5 y6 σ hf; exact absurd hf (fun z => by cases z)
    | succ j ih =>
      intro y3 y4 y5 y6 σ hf H locs ls h hl
      have hf := us (f_Distances_measure_78_s n k42 j y3 y4 y5 y6 σ) hf
      refine lv_iload hx hb d_Distances_measure_78 (lv_at hl 5 rfl) ?_
      refine lv_iconst (v := 4) hx hb d_Distances_measure_80 (by decide) ?_
      refine lv_icmp_ge (tgt := 153) hx hb d_Distances_measure_81 (by decide) (fun c19 => ?_) (fun c19 => ?_)
      · have hf := it c19 hf
        obtain ⟨v20, ev20⟩ : ∃ y : Int32, y = y4 + 1 := ⟨_, rfl⟩
        have hf := nm_b hf ev20
        refine lv_iinc (v := v20) (lv' := [(4, .int v20), (0, .ref (ad 7)), (2, .ref (ad 5)), (3, .int y3), (5, .int y5), (6, .int y6)]) hx hb d_Distances_measure_153 hl (k := 3) rfl (by rw [ev20]; rfl) (by decide) rfl (fun ls hl => ?_)
        refine lv_goto (tgt := 42) hx hb d_Distances_measure_156 (by decide) ?_
        exact K42 y3 v20 σ hf H locs ls h (lv_sub hl [1, 2, 3, 0] rfl)
      · have hf := ie c19 hf
        refine lv_iload hx hb d_Distances_measure_84 (lv_at hl 4 rfl) ?_
        refine lv_iload hx hb d_Distances_measure_86 (lv_at hl 5 rfl) ?_
        obtain ⟨r21, σ22, h23, hf⟩ := bd_s hf
        refine x_Si (As := [.int y5, .int y6]) (rest := []) X hml hl.1 hZ hA h (c_Level_neighbour l D ad cA tz n y5 y6 σ r21 σ22 h23) k_Level_neighbour m_m_Distances_34 kd_Level_neighbour ⟨rfl, rfl, Nat.le_of_ble_eq_true rfl, Nat.le_of_ble_eq_true rfl⟩ rfl rfl (Nat.le_of_ble_eq_true rfl) d_Distances_measure_88 (fun H locs h => ?_)
        refine lv_istore (lv' := [(7, .int r21), (0, .ref (ad 7)), (2, .ref (ad 5)), (3, .int y3), (4, .int y4), (5, .int y5), (6, .int y6)]) hx hb d_Distances_measure_91 hl (by decide) rfl (fun ls hl => ?_)
        refine lv_aload_n hx hb d_Distances_measure_93 rfl (lv_at hl 2 rfl) ?_
        refine lv_iload hx hb d_Distances_measure_94 (lv_at hl 0 rfl) ?_
        obtain ⟨r24, σ25, h26, hf⟩ := bd_s hf
        refine x_Vi (As := [.int r21]) (rest := []) X hml hl.1 hZ hA h (c_Level_isFloor l D ad cA tz n r21 σ22 r24 σ25 h26) k_Level_isFloor m_m_Distances_28 kd_Level_isFloor ⟨rfl, rfl, Nat.le_of_ble_eq_true rfl, Nat.le_of_ble_eq_true rfl⟩ 5 rfl rfl rfl rfl rfl (Nat.le_of_ble_eq_true rfl) d_Distances_measure_96 (fun H locs h => ?_)
        refine lv_if_eq (tgt := 147) hx hb d_Distances_measure_99 (by decide) (fun c27 => ?_) (fun c27 => ?_)
        · have hf := it c27 hf
          obtain ⟨v28, ev28⟩ : ∃ y : Int32, y = y6 + 1 := ⟨_, rfl⟩
          have hf := nm_b hf ev28
          refine lv_iinc (v := v28) (lv' := [(6, .int v28), (7, .int r21), (0, .ref (ad 7)), (2, .ref (ad 5)), (3, .int y3), (4, .int y4), (5, .int y5)]) hx hb d_Distances_measure_147 hl (k := 6) rfl (by rw [ev28]; rfl) (by decide) rfl (fun ls hl => ?_)
          refine lv_goto (tgt := 78) hx hb d_Distances_measure_150 (by decide) ?_
          exact ih y3 y4 y5 v28 σ25 hf H locs ls h (lv_sub hl [2, 3, 4, 5, 6, 0] rfl)
        · have hf := ie c27 hf
          refine lv_aload_n hx hb d_Distances_measure_102 rfl (lv_at hl 1 rfl) ?_
          refine G_dist_steps X h m_f_Distances_9 d_Distances_measure_103 ?_
          refine lv_iload hx hb d_Distances_measure_106 (lv_at hl 0 rfl) ?_
          obtain ⟨g29, hf⟩ := gd_s hf
          refine R_steps X h (inb_s g29) d_Distances_measure_108 ?_
          refine lv_bipush (v := (-2)) hx hb d_Distances_measure_109 (by decide) ?_
          refine lv_icmp_ne (tgt := 147) hx hb d_Distances_measure_111 (by decide) (fun c30 => ?_) (fun c30 => ?_)
          · have hf := ie c30 hf
            obtain ⟨v31, ev31⟩ : ∃ y : Int32, y = y6 + 1 := ⟨_, rfl⟩
            have hf := nm_b hf ev31
            refine lv_iinc (v := v31) (lv' := [(6, .int v31), (7, .int r21), (0, .ref (ad 7)), (2, .ref (ad 5)), (3, .int y3), (4, .int y4), (5, .int y5)]) hx hb d_Distances_measure_147 hl (k := 6) rfl (by rw [ev31]; rfl) (by decide) rfl (fun ls hl => ?_)
            refine lv_goto (tgt := 78) hx hb d_Distances_measure_150 (by decide) ?_
            exact ih y3 y4 y5 v31 σ25 hf H locs ls h (lv_sub hl [2, 3, 4, 5, 6, 0] rfl)
          · have hf := it c30 hf
            refine lv_iload_n hx hb d_Distances_measure_114 rfl (lv_at hl 3 rfl) ?_
            refine lv_bipush (v := 120) hx hb d_Distances_measure_115 (by decide) ?_
            refine lv_icmp_ge (tgt := 147) hx hb d_Distances_measure_117 (by decide) (fun c32 => ?_) (fun c32 => ?_)
            · have hf := it c32 hf
              obtain ⟨v33, ev33⟩ : ∃ y : Int32, y = y6 + 1 := ⟨_, rfl⟩
              have hf := nm_b hf ev33
              refine lv_iinc (v := v33) (lv' := [(6, .int v33), (7, .int r21), (0, .ref (ad 7)), (2, .ref (ad 5)), (3, .int y3), (4, .int y4), (5, .int y5)]) hx hb d_Distances_measure_147 hl (k := 6) rfl (by rw [ev33]; rfl) (by decide) rfl (fun ls hl => ?_)
              refine lv_goto (tgt := 78) hx hb d_Distances_measure_150 (by decide) ?_
              exact ih y3 y4 y5 v33 σ25 hf H locs ls h (lv_sub hl [2, 3, 4, 5, 6, 0] rfl)
            · have hf := ie c32 hf
              refine lv_aload_n hx hb d_Distances_measure_120 rfl (lv_at hl 1 rfl) ?_
              refine G_dist_steps X h m_f_Distances_9 d_Distances_measure_121 ?_
              refine lv_iload hx hb d_Distances_measure_124 (lv_at hl 0 rfl) ?_
              refine lv_aload_n hx hb d_Distances_measure_126 rfl (lv_at hl 1 rfl) ?_
              refine G_dist_steps X h m_f_Distances_9 d_Distances_measure_127 ?_
              refine lv_iload hx hb d_Distances_measure_130 (lv_at hl 5 rfl) ?_
              obtain ⟨g34, hf⟩ := gd_s hf
              refine R_steps X h (inb_s g34) d_Distances_measure_132 ?_
              refine lv_iconst (v := 1) hx hb d_Distances_measure_133 (by decide) ?_
              refine lv_iadd hx hb d_Distances_measure_134 ?_
              obtain ⟨g35, hf⟩ := gd_s hf
              refine S_steps X h (inb_s g35) d_Distances_measure_135 (fun H locs σ36 eσ36 h => ?_)
              have hf := nm_b hf eσ36
              refine lv_aload_n hx hb d_Distances_measure_136 rfl (lv_at hl 1 rfl) ?_
              refine G_dist_queue X h m_f_Distances_15 d_Distances_measure_137 ?_
              refine lv_iload_n hx hb d_Distances_measure_140 rfl (lv_at hl 3 rfl) ?_
              refine lv_iload hx hb d_Distances_measure_141 (lv_at hl 0 rfl) ?_
              obtain ⟨g37, hf⟩ := gd_s hf
              refine S_queue X h (inb_s g37) d_Distances_measure_143 (fun H locs σ38 eσ38 h => ?_)
              have hf := nm_b hf eσ38
              obtain ⟨v39, ev39⟩ : ∃ y : Int32, y = y3 + 1 := ⟨_, rfl⟩
              have hf := nm_b hf ev39
              refine lv_iinc (v := v39) (lv' := [(3, .int v39), (7, .int r21), (0, .ref (ad 7)), (2, .ref (ad 5)), (4, .int y4), (5, .int y5), (6, .int y6)]) hx hb d_Distances_measure_144 hl (k := 3) rfl (by rw [ev39]; rfl) (by decide) rfl (fun ls hl => ?_)
              obtain ⟨v40, ev40⟩ : ∃ y : Int32, y = y6 + 1 := ⟨_, rfl⟩
              have hf := nm_b hf ev40
              refine lv_iinc (v := v40) (lv' := [(6, .int v40), (3, .int v39), (7, .int r21), (0, .ref (ad 7)), (2, .ref (ad 5)), (4, .int y4), (5, .int y5)]) hx hb d_Distances_measure_147 hl (k := 6) rfl (by rw [ev40]; rfl) (by decide) rfl (fun ls hl => ?_)
              refine lv_goto (tgt := 78) hx hb d_Distances_measure_150 (by decide) ?_
              exact ih v39 y4 y5 v40 σ38 hf H locs ls h (lv_sub hl [3, 4, 1, 5, 6, 0] rfl)
  have L42 : ∀ j : Nat, ∀ (y3 : Int32) (y4 : Int32) (σ : St), f_Distances_measure_42 n j y3 y4 σ = some (r, σr) → ∀ (H : Heap) (locs : List Loc) (ls : Array Slot), WD D A s (wl ad cA σ) H locs → lv_has ls 8 [(0, .ref (ad 7)), (2, .ref (ad 5)), (3, .int y3), (4, .int y4)] → W p l e ({ frames := 1, cells := 0, slots := 0, locals := 23 }) s m args below meth c H locs 0 0 Q (F0 m 42 ls []) := by
    intro j
    induction j with
    | zero => intro y3 y4 σ hf; exact absurd hf (fun z => by cases z)
    | succ j ih =>
      intro y3 y4 σ hf H locs ls h hl
      have hf := us (f_Distances_measure_42_s n j y3 y4 σ) hf
      refine lv_iload hx hb d_Distances_measure_42 (lv_at hl 3 rfl) ?_
      refine lv_iload_n hx hb d_Distances_measure_44 rfl (lv_at hl 2 rfl) ?_
      refine lv_icmp_ge (tgt := 159) hx hb d_Distances_measure_45 (by decide) (fun c13 => ?_) (fun c13 => ?_)
      · have hf := it c13 hf
        exact rt _ H locs 159 ls hf h d_Distances_measure_159
      · have hf := ie c13 hf
        refine lv_iload hx hb d_Distances_measure_48 (lv_at hl 3 rfl) ?_
        refine lv_bipush (v := 120) hx hb d_Distances_measure_50 (by decide) ?_
        refine lv_icmp_ge (tgt := 159) hx hb d_Distances_measure_52 (by decide) (fun c14 => ?_) (fun c14 => ?_)
        · have hf := it c14 hf
          exact rt _ H locs 159 ls hf h d_Distances_measure_159
        · have hf := ie c14 hf
          refine lv_aload_n hx hb d_Distances_measure_55 rfl (lv_at hl 0 rfl) ?_
          refine G_dist_queue X h m_f_Distances_15 d_Distances_measure_56 ?_
          refine lv_iload hx hb d_Distances_measure_59 (lv_at hl 3 rfl) ?_
          obtain ⟨g15, hf⟩ := gd_s hf
          refine R_queue X h (inb_s g15) d_Distances_measure_61 ?_
          refine lv_topi (fun v16 ev16 => ?_)
          have hf := nm_b hf ev16
          refine lv_istore (lv' := [(5, .int v16), (0, .ref (ad 7)), (2, .ref (ad 5)), (3, .int y3), (4, .int y4)]) hx hb d_Distances_measure_62 hl (by decide) rfl (fun ls hl => ?_)
          refine lv_aload_n hx hb d_Distances_measure_64 rfl (lv_at hl 1 rfl) ?_
          refine lv_aload_n hx hb d_Distances_measure_65 rfl (lv_at hl 1 rfl) ?_
          refine G_dist_steps X h m_f_Distances_9 d_Distances_measure_66 ?_
          refine lv_iload hx hb d_Distances_measure_69 (lv_at hl 0 rfl) ?_
          obtain ⟨g17, hf⟩ := gd_s hf
          refine R_steps X h (inb_s g17) d_Distances_measure_71 ?_
          refine P_dist_greatest X h m_f_Distances_18 d_Distances_measure_72 (fun H locs σ18 eσ18 h => ?_)
          have hf := nm_b hf eσ18
          refine lv_iconst (v := 0) hx hb d_Distances_measure_75 (by decide) ?_
          refine lv_istore (lv' := [(6, .int 0), (5, .int v16), (0, .ref (ad 7)), (2, .ref (ad 5)), (3, .int y3), (4, .int y4)]) hx hb d_Distances_measure_76 hl (by decide) rfl (fun ls hl => ?_)
          exact L78 (fun y3 y4 σ => f_Distances_measure_42 n j y3 y4 σ) ih n y3 y4 v16 0 σ18 hf H locs ls h (lv_sub hl [2, 3, 4, 5, 1, 0] rfl)
  unfold f_Distances_measure at hf
  refine lv_aload_n hx hb d_Distances_measure_0 rfl (lv_at hl 0 rfl) ?_
  refine G_dist_steps X h m_f_Distances_9 d_Distances_measure_1 ?_
  refine lv_bipush (v := (-2)) hx hb d_Distances_measure_4 (by decide) ?_
  obtain ⟨r1, σ2, h3, hf⟩ := bd_s hf
  refine x_Sv (As := [.ref (ad 22), .int (-2)]) (rest := []) X hml hl.1 hZ hA h (c_Arrays_fill_steps l D ad cA tz n (-2) σ r1 σ2 h3) k_Arrays_fill m_m_Distances_22 kd_Arrays_fill ⟨rfl, rfl, Nat.le_of_ble_eq_true rfl, Nat.le_of_ble_eq_true rfl⟩ rfl rfl (Nat.le_of_ble_eq_true rfl) d_Distances_measure_6 (fun H locs h => ?_)
  refine lv_aload_n hx hb d_Distances_measure_9 rfl (lv_at hl 0 rfl) ?_
  refine lv_iconst (v := 0) hx hb d_Distances_measure_10 (by decide) ?_
  refine P_dist_greatest X h m_f_Distances_18 d_Distances_measure_11 (fun H locs σ4 eσ4 h => ?_)
  have hf := nm_b hf eσ4
  refine lv_aload_n hx hb d_Distances_measure_14 rfl (lv_at hl 2 rfl) ?_
  refine lv_iload_n hx hb d_Distances_measure_15 rfl (lv_at hl 1 rfl) ?_
  obtain ⟨r5, σ6, h7, hf⟩ := bd_s hf
  refine x_Vi (As := [.int x1]) (rest := []) X hml hl.1 hZ hA h (c_Level_isFloor l D ad cA tz n x1 σ4 r5 σ6 h7) k_Level_isFloor m_m_Distances_28 kd_Level_isFloor ⟨rfl, rfl, Nat.le_of_ble_eq_true rfl, Nat.le_of_ble_eq_true rfl⟩ 5 rfl rfl rfl rfl rfl (Nat.le_of_ble_eq_true rfl) d_Distances_measure_16 (fun H locs h => ?_)
  refine lv_if_ne (tgt := 23) hx hb d_Distances_measure_19 (by decide) (fun c8 => ?_) (fun c8 => ?_)
  · have hf := ie c8 hf
    refine lv_aload_n hx hb d_Distances_measure_23 rfl (lv_at hl 0 rfl) ?_
    refine G_dist_steps X h m_f_Distances_9 d_Distances_measure_24 ?_
    refine lv_iload_n hx hb d_Distances_measure_27 rfl (lv_at hl 1 rfl) ?_
    refine lv_iconst (v := 0) hx hb d_Distances_measure_28 (by decide) ?_
    obtain ⟨g9, hf⟩ := gd_s hf
    refine S_steps X h (inb_s g9) d_Distances_measure_29 (fun H locs σ10 eσ10 h => ?_)
    have hf := nm_b hf eσ10
    refine lv_aload_n hx hb d_Distances_measure_30 rfl (lv_at hl 0 rfl) ?_
    refine G_dist_queue X h m_f_Distances_15 d_Distances_measure_31 ?_
    refine lv_iconst (v := 0) hx hb d_Distances_measure_34 (by decide) ?_
    refine lv_iload_n hx hb d_Distances_measure_35 rfl (lv_at hl 1 rfl) ?_
    obtain ⟨g11, hf⟩ := gd_s hf
    refine S_queue X h (inb_s g11) d_Distances_measure_36 (fun H locs σ12 eσ12 h => ?_)
    have hf := nm_b hf eσ12
    refine lv_iconst (v := 1) hx hb d_Distances_measure_37 (by decide) ?_
    refine lv_istore_n (lv' := [(3, .int 1), (0, .ref (ad 7)), (1, .int x1), (2, .ref (ad 5))]) hx hb d_Distances_measure_38 rfl hl (by decide) rfl (fun ls hl => ?_)
    refine lv_iconst (v := 0) hx hb d_Distances_measure_39 (by decide) ?_
    refine lv_istore (lv' := [(4, .int 0), (3, .int 1), (0, .ref (ad 7)), (1, .int x1), (2, .ref (ad 5))]) hx hb d_Distances_measure_40 hl (by decide) rfl (fun ls hl => ?_)
    exact L42 n 1 0 σ12 hf H locs ls h (lv_sub hl [2, 4, 1, 0] rfl)
  · have hf := it c8 hf
    exact rt _ H locs 22 ls hf h d_Distances_measure_22
theorem d_Game_arrive_0 : decode b_Game_arrive 0 = .ok (.aload_n 0, 1) := by decide +kernel
theorem d_Game_arrive_1 : decode b_Game_arrive 1 = .ok (.getfield 53, 3) := by decide +kernel
theorem d_Game_arrive_4 : decode b_Game_arrive 4 = .ok (.iload_n 1, 1) := by decide +kernel
theorem d_Game_arrive_5 : decode b_Game_arrive 5 = .ok (.putfield 109, 3) := by decide +kernel
theorem d_Game_arrive_8 : decode b_Game_arrive 8 = .ok (.aload_n 0, 1) := by decide +kernel
theorem d_Game_arrive_9 : decode b_Game_arrive 9 = .ok (.getfield 32, 3) := by decide +kernel
theorem d_Game_arrive_12 : decode b_Game_arrive 12 = .ok (.iload_n 1, 1) := by decide +kernel
theorem d_Game_arrive_13 : decode b_Game_arrive 13 = .ok (.invokevirtual 130, 3) := by decide +kernel
theorem d_Game_arrive_16 : decode b_Game_arrive 16 = .ok (.aload_n 0, 1) := by decide +kernel
theorem d_Game_arrive_17 : decode b_Game_arrive 17 = .ok (.getfield 46, 3) := by decide +kernel
theorem d_Game_arrive_20 : decode b_Game_arrive 20 = .ok (.iload_n 1, 1) := by decide +kernel
theorem d_Game_arrive_21 : decode b_Game_arrive 21 = .ok (.aload_n 0, 1) := by decide +kernel
theorem d_Game_arrive_22 : decode b_Game_arrive 22 = .ok (.getfield 32, 3) := by decide +kernel
theorem d_Game_arrive_25 : decode b_Game_arrive 25 = .ok (.invokevirtual 133, 3) := by decide +kernel
theorem d_Game_arrive_28 : decode b_Game_arrive 28 = .ok (.return_, 1) := by decide +kernel
def f_Game_arrive (n : Nat) (x1 : Int32) (σ : St) : Option (Unit × St) := bnd (sI σ 9 x1) (fun σ1 => bd (f_Level_learnFrom n x1 σ1) (fun _ σ3 => bd (f_Distances_measure n x1 σ3) (fun _ σ6 => some ((), σ6))))
set_option maxHeartbeats 4000000 in
set_option maxRecDepth 100000 in
theorem c_Game_arrive (l : Launch) (D : va_G) (ad : Nat → Nat) (cA : Nat → ClassId) (tz : Nat → Nat) (n : Nat) (x1 : Int32) (σ : St) (r : Unit) (σr : St) (hf : f_Game_arrive n x1 σ = some (r, σr)) : Kv l D cA tz (wl ad cA) y_Game_arrive (.code y_Game_arrive b_Game_arrive 2 none :: TB) ({ frames := 3, cells := 0, slots := 0, locals := 75 }) [.ref (ad 1), .int x1] σ σr := by
  refine x_openv (r := r) (own := R_Game) rfl (by decide) (fun p e s m args below meth c A Q X hml hZ hA H locs ls h hl rt => ?_)
  have hx := X.1
  have hb := X.2.1
  have hl : lv_has ls 2 [(0, .ref (ad 1)), (1, .int x1)] := hl
  unfold f_Game_arrive at hf
  refine lv_aload_n hx hb d_Game_arrive_0 rfl (lv_at hl 0 rfl) ?_
  refine G_game_hero X h m_f_Game_53 d_Game_arrive_1 ?_
  refine lv_iload_n hx hb d_Game_arrive_4 rfl (lv_at hl 1 rfl) ?_
  refine P_hero_place X h m_f_Game_109 d_Game_arrive_5 (fun H locs σ1 eσ1 h => ?_)
  have hf := nm_b hf eσ1
  refine lv_aload_n hx hb d_Game_arrive_8 rfl (lv_at hl 0 rfl) ?_
  refine G_game_level X h m_f_Game_32 d_Game_arrive_9 ?_
  refine lv_iload_n hx hb d_Game_arrive_12 rfl (lv_at hl 1 rfl) ?_
  obtain ⟨r2, σ3, h4, hf⟩ := bd_s hf
  refine x_Vv (As := [.int x1]) (rest := []) X hml hl.1 hZ hA h (c_Level_learnFrom l D ad cA tz n x1 σ1 r2 σ3 h4) k_Level_learnFrom m_m_Game_130 kd_Level_learnFrom ⟨rfl, rfl, Nat.le_of_ble_eq_true rfl, Nat.le_of_ble_eq_true rfl⟩ 5 rfl rfl rfl rfl rfl (Nat.le_of_ble_eq_true rfl) d_Game_arrive_13 (fun H locs h => ?_)
  refine lv_aload_n hx hb d_Game_arrive_16 rfl (lv_at hl 0 rfl) ?_
  refine G_game_distances X h m_f_Game_46 d_Game_arrive_17 ?_
  refine lv_iload_n hx hb d_Game_arrive_20 rfl (lv_at hl 1 rfl) ?_
  refine lv_aload_n hx hb d_Game_arrive_21 rfl (lv_at hl 0 rfl) ?_
  refine G_game_level X h m_f_Game_32 d_Game_arrive_22 ?_
  obtain ⟨r5, σ6, h7, hf⟩ := bd_s hf
  refine x_Vv (As := [.int x1, .ref (ad 5)]) (rest := []) X hml hl.1 hZ hA h (c_Distances_measure l D ad cA tz n x1 σ3 r5 σ6 h7) k_Distances_measure m_m_Game_133 kd_Distances_measure ⟨rfl, rfl, Nat.le_of_ble_eq_true rfl, Nat.le_of_ble_eq_true rfl⟩ 7 rfl rfl rfl rfl rfl (Nat.le_of_ble_eq_true rfl) d_Game_arrive_25 (fun H locs h => ?_)
  exact rt _ H locs 28 ls hf h d_Game_arrive_28
theorem d_Game_descend_0 : decode b_Game_descend 0 = .ok (.aload_n 0, 1) := by decide +kernel
theorem d_Game_descend_1 : decode b_Game_descend 1 = .ok (.getfield 32, 3) := by decide +kernel
theorem d_Game_descend_4 : decode b_Game_descend 4 = .ok (.aload_n 0, 1) := by decide +kernel
theorem d_Game_descend_5 : decode b_Game_descend 5 = .ok (.getfield 53, 3) := by decide +kernel
theorem d_Game_descend_8 : decode b_Game_descend 8 = .ok (.getfield 109, 3) := by decide +kernel
theorem d_Game_descend_11 : decode b_Game_descend 11 = .ok (.invokevirtual 175, 3) := by decide +kernel
theorem d_Game_descend_14 : decode b_Game_descend 14 = .ok (.ifCond .ne 5, 3) := by decide +kernel
theorem d_Game_descend_17 : decode b_Game_descend 17 = .ok (.iconst 0, 1) := by decide +kernel
theorem d_Game_descend_18 : decode b_Game_descend 18 = .ok (.ireturn, 1) := by decide +kernel
theorem d_Game_descend_19 : decode b_Game_descend 19 = .ok (.aload_n 0, 1) := by decide +kernel
theorem d_Game_descend_20 : decode b_Game_descend 20 = .ok (.getfield 57, 3) := by decide +kernel
theorem d_Game_descend_23 : decode b_Game_descend 23 = .ok (.iconst 3, 1) := by decide +kernel
theorem d_Game_descend_24 : decode b_Game_descend 24 = .ok (.if_icmp .lt 10, 3) := by decide +kernel
theorem d_Game_descend_27 : decode b_Game_descend 27 = .ok (.aload_n 0, 1) := by decide +kernel
theorem d_Game_descend_28 : decode b_Game_descend 28 = .ok (.iconst 1, 1) := by decide +kernel
theorem d_Game_descend_29 : decode b_Game_descend 29 = .ok (.putfield 66, 3) := by decide +kernel
theorem d_Game_descend_32 : decode b_Game_descend 32 = .ok (.iconst 4, 1) := by decide +kernel
theorem d_Game_descend_33 : decode b_Game_descend 33 = .ok (.ireturn, 1) := by decide +kernel
theorem d_Game_descend_34 : decode b_Game_descend 34 = .ok (.aload_n 0, 1) := by decide +kernel
theorem d_Game_descend_35 : decode b_Game_descend 35 = .ok (.dup, 1) := by decide +kernel
theorem d_Game_descend_36 : decode b_Game_descend 36 = .ok (.getfield 57, 3) := by decide +kernel
theorem d_Game_descend_39 : decode b_Game_descend 39 = .ok (.iconst 1, 1) := by decide +kernel
theorem d_Game_descend_40 : decode b_Game_descend 40 = .ok (.iadd, 1) := by decide +kernel
theorem d_Game_descend_41 : decode b_Game_descend 41 = .ok (.putfield 57, 3) := by decide +kernel
theorem d_Game_descend_44 : decode b_Game_descend 44 = .ok (.aload_n 0, 1) := by decide +kernel
theorem d_Game_descend_45 : decode b_Game_descend 45 = .ok (.getfield 25, 3) := by decide +kernel
theorem d_Game_descend_48 : decode b_Game_descend 48 = .ok (.aload_n 0, 1) := by decide +kernel
theorem d_Game_descend_49 : decode b_Game_descend 49 = .ok (.getfield 9, 3) := by decide +kernel
theorem d_Game_descend_52 : decode b_Game_descend 52 = .ok (.aload_n 0, 1) := by decide +kernel
theorem d_Game_descend_53 : decode b_Game_descend 53 = .ok (.getfield 57, 3) := by decide +kernel
theorem d_Game_descend_56 : decode b_Game_descend 56 = .ok (.aload_n 0, 1) := by decide +kernel
theorem d_Game_descend_57 : decode b_Game_descend 57 = .ok (.getfield 32, 3) := by decide +kernel
theorem d_Game_descend_60 : decode b_Game_descend 60 = .ok (.aload_n 0, 1) := by decide +kernel
theorem d_Game_descend_61 : decode b_Game_descend 61 = .ok (.getfield 39, 3) := by decide +kernel
theorem d_Game_descend_64 : decode b_Game_descend 64 = .ok (.invokevirtual 77, 3) := by decide +kernel
theorem d_Game_descend_67 : decode b_Game_descend 67 = .ok (.aload_n 0, 1) := by decide +kernel
theorem d_Game_descend_68 : decode b_Game_descend 68 = .ok (.aload_n 0, 1) := by decide +kernel
theorem d_Game_descend_69 : decode b_Game_descend 69 = .ok (.getfield 32, 3) := by decide +kernel
theorem d_Game_descend_72 : decode b_Game_descend 72 = .ok (.getfield 81, 3) := by decide +kernel
theorem d_Game_descend_75 : decode b_Game_descend 75 = .ok (.invokevirtual 84, 3) := by decide +kernel
theorem d_Game_descend_78 : decode b_Game_descend 78 = .ok (.aload_n 0, 1) := by decide +kernel
theorem d_Game_descend_79 : decode b_Game_descend 79 = .ok (.getfield 53, 3) := by decide +kernel
theorem d_Game_descend_82 : decode b_Game_descend 82 = .ok (.bipush 10, 2) := by decide +kernel
theorem d_Game_descend_84 : decode b_Game_descend 84 = .ok (.putfield 178, 3) := by decide +kernel
theorem d_Game_descend_87 : decode b_Game_descend 87 = .ok (.iconst 1, 1) := by decide +kernel
theorem d_Game_descend_88 : decode b_Game_descend 88 = .ok (.ireturn, 1) := by decide +kernel
def f_Game_descend (n : Nat) (σ : St) : Option (Int32 × St) := bd (f_Level_hasStairs n (σ.1 9) σ) (fun r1 σ2 => if r1 = 0 then (some (0, σ2)) else (if (σ2.1 2) < 3 then (bnd (sI σ2 2 ((σ2.1 2) + 1)) (fun σ6 => bd (f_Maker_make n (σ6.1 1) (σ6.1 2) σ6) (fun _ σ8 => bd (f_Game_arrive n (σ8.1 6) σ8) (fun _ σ11 => bnd (sI σ11 12 10) (fun σ13 => some (1, σ13)))))) else (bnd (sI σ2 5 1) (fun σ14 => some (4, σ14)))))
set_option maxHeartbeats 4000000 in
set_option maxRecDepth 100000 in
theorem c_Game_descend (l : Launch) (D : va_G) (ad : Nat → Nat) (cA : Nat → ClassId) (tz : Nat → Nat) (n : Nat) (σ : St) (r : Int32) (σr : St) (hf : f_Game_descend n σ = some (r, σr)) : Ki l D cA tz (wl ad cA) y_Game_descend (.code y_Game_descend b_Game_descend 1 (some .int) :: TB) ({ frames := 4, cells := 0, slots := 0, locals := 102 }) [.ref (ad 1)] σ r σr := by
  refine x_openi (own := R_Game) rfl (by decide) (fun p e s m args below meth c A Q X hml hZ hA H locs ls h hl rt => ?_)
  have hx := X.1
  have hb := X.2.1
  have hl : lv_has ls 1 [(0, .ref (ad 1))] := hl
  unfold f_Game_descend at hf
  refine lv_aload_n hx hb d_Game_descend_0 rfl (lv_at hl 0 rfl) ?_
  refine G_game_level X h m_f_Game_32 d_Game_descend_1 ?_
  refine lv_aload_n hx hb d_Game_descend_4 rfl (lv_at hl 0 rfl) ?_
  refine G_game_hero X h m_f_Game_53 d_Game_descend_5 ?_
  refine G_hero_place X h m_f_Game_109 d_Game_descend_8 ?_
  obtain ⟨r1, σ2, h3, hf⟩ := bd_s hf
  refine x_Vi (As := [.int (σ.1 9)]) (rest := []) X hml hl.1 hZ hA h (c_Level_hasStairs l D ad cA tz n (σ.1 9) σ r1 σ2 h3) k_Level_hasStairs m_m_Game_175 kd_Level_hasStairs ⟨rfl, rfl, Nat.le_of_ble_eq_true rfl, Nat.le_of_ble_eq_true rfl⟩ 5 rfl rfl rfl rfl rfl (Nat.le_of_ble_eq_true rfl) d_Game_descend_11 (fun H locs h => ?_)
  refine lv_if_ne (tgt := 19) hx hb d_Game_descend_14 (by decide) (fun c4 => ?_) (fun c4 => ?_)
  · have hf := ie c4 hf
    refine lv_aload_n hx hb d_Game_descend_19 rfl (lv_at hl 0 rfl) ?_
    refine G_game_depth X h m_f_Game_57 d_Game_descend_20 ?_
    refine lv_iconst (v := 3) hx hb d_Game_descend_23 (by decide) ?_
    refine lv_icmp_lt (tgt := 34) hx hb d_Game_descend_24 (by decide) (fun c5 => ?_) (fun c5 => ?_)
    · have hf := it c5 hf
      refine lv_aload_n hx hb d_Game_descend_34 rfl (lv_at hl 0 rfl) ?_
      refine lv_dup hx hb d_Game_descend_35 rfl ?_
      refine G_game_depth X h m_f_Game_57 d_Game_descend_36 ?_
      refine lv_iconst (v := 1) hx hb d_Game_descend_39 (by decide) ?_
      refine lv_iadd hx hb d_Game_descend_40 ?_
      refine P_game_depth X h m_f_Game_57 d_Game_descend_41 (fun H locs σ6 eσ6 h => ?_)
      have hf := nm_b hf eσ6
      refine lv_aload_n hx hb d_Game_descend_44 rfl (lv_at hl 0 rfl) ?_
      refine G_game_maker X h m_f_Game_25 d_Game_descend_45 ?_
      refine lv_aload_n hx hb d_Game_descend_48 rfl (lv_at hl 0 rfl) ?_
      refine G_game_seed X h m_f_Game_9 d_Game_descend_49 ?_
      refine lv_aload_n hx hb d_Game_descend_52 rfl (lv_at hl 0 rfl) ?_
      refine G_game_depth X h m_f_Game_57 d_Game_descend_53 ?_
      refine lv_aload_n hx hb d_Game_descend_56 rfl (lv_at hl 0 rfl) ?_
      refine G_game_level X h m_f_Game_32 d_Game_descend_57 ?_
      refine lv_aload_n hx hb d_Game_descend_60 rfl (lv_at hl 0 rfl) ?_
      refine G_game_monsters X h m_f_Game_39 d_Game_descend_61 ?_
      obtain ⟨r7, σ8, h9, hf⟩ := bd_s hf
      refine x_Vv (As := [.int (σ6.1 1), .int (σ6.1 2), .ref (ad 5), .ref (ad 6)]) (rest := []) X hml hl.1 hZ hA h (c_Maker_make l D ad cA tz n (σ6.1 1) (σ6.1 2) σ6 r7 σ8 h9) k_Maker_make m_m_Game_77 kd_Maker_make ⟨rfl, rfl, Nat.le_of_ble_eq_true rfl, Nat.le_of_ble_eq_true rfl⟩ 3 rfl rfl rfl rfl rfl (Nat.le_of_ble_eq_true rfl) d_Game_descend_64 (fun H locs h => ?_)
      refine lv_aload_n hx hb d_Game_descend_67 rfl (lv_at hl 0 rfl) ?_
      refine lv_aload_n hx hb d_Game_descend_68 rfl (lv_at hl 0 rfl) ?_
      refine G_game_level X h m_f_Game_32 d_Game_descend_69 ?_
      refine G_level_start X h m_f_Game_81 d_Game_descend_72 ?_
      obtain ⟨r10, σ11, h12, hf⟩ := bd_s hf
      refine x_Vv (As := [.int (σ8.1 6)]) (rest := []) X hml hl.1 hZ hA h (c_Game_arrive l D ad cA tz n (σ8.1 6) σ8 r10 σ11 h12) k_Game_arrive m_m_Game_84 kd_Game_arrive ⟨rfl, rfl, Nat.le_of_ble_eq_true rfl, Nat.le_of_ble_eq_true rfl⟩ 1 rfl rfl rfl rfl rfl (Nat.le_of_ble_eq_true rfl) d_Game_descend_75 (fun H locs h => ?_)
      refine lv_aload_n hx hb d_Game_descend_78 rfl (lv_at hl 0 rfl) ?_
      refine G_game_hero X h m_f_Game_53 d_Game_descend_79 ?_
      refine lv_bipush (v := 10) hx hb d_Game_descend_82 (by decide) ?_
      refine P_hero_energy X h m_f_Game_178 d_Game_descend_84 (fun H locs σ13 eσ13 h => ?_)
      have hf := nm_b hf eσ13
      refine lv_iconst (v := 1) hx hb d_Game_descend_87 (by decide) ?_
      exact rt _ _ H locs 88 ls hf h d_Game_descend_88
    · have hf := ie c5 hf
      refine lv_aload_n hx hb d_Game_descend_27 rfl (lv_at hl 0 rfl) ?_
      refine lv_iconst (v := 1) hx hb d_Game_descend_28 (by decide) ?_
      refine P_game_won X h rfl rfl m_f_Game_66 d_Game_descend_29 (fun H locs σ14 eσ14 h => ?_)
      have hf := nm_b hf eσ14
      refine lv_iconst (v := 4) hx hb d_Game_descend_32 (by decide) ?_
      exact rt _ _ H locs 33 ls hf h d_Game_descend_33
  · have hf := it c4 hf
    refine lv_iconst (v := 0) hx hb d_Game_descend_17 (by decide) ?_
    exact rt _ _ H locs 18 ls hf h d_Game_descend_18
theorem d_Hero_thingInBag_0 : decode b_Hero_thingInBag 0 = .ok (.iload_n 1, 1) := by decide +kernel
theorem d_Hero_thingInBag_1 : decode b_Hero_thingInBag 1 = .ok (.ifCond .lt 25, 3) := by decide +kernel
theorem d_Hero_thingInBag_4 : decode b_Hero_thingInBag 4 = .ok (.iload_n 1, 1) := by decide +kernel
theorem d_Hero_thingInBag_5 : decode b_Hero_thingInBag 5 = .ok (.aload_n 0, 1) := by decide +kernel
theorem d_Hero_thingInBag_6 : decode b_Hero_thingInBag 6 = .ok (.getfield 36, 3) := by decide +kernel
theorem d_Hero_thingInBag_9 : decode b_Hero_thingInBag 9 = .ok (.if_icmp .ge 17, 3) := by decide +kernel
theorem d_Hero_thingInBag_12 : decode b_Hero_thingInBag 12 = .ok (.iload_n 1, 1) := by decide +kernel
theorem d_Hero_thingInBag_13 : decode b_Hero_thingInBag 13 = .ok (.iconst 4, 1) := by decide +kernel
theorem d_Hero_thingInBag_14 : decode b_Hero_thingInBag 14 = .ok (.if_icmp .ge 12, 3) := by decide +kernel
theorem d_Hero_thingInBag_17 : decode b_Hero_thingInBag 17 = .ok (.aload_n 0, 1) := by decide +kernel
theorem d_Hero_thingInBag_18 : decode b_Hero_thingInBag 18 = .ok (.getfield 11, 3) := by decide +kernel
theorem d_Hero_thingInBag_21 : decode b_Hero_thingInBag 21 = .ok (.iload_n 1, 1) := by decide +kernel
theorem d_Hero_thingInBag_22 : decode b_Hero_thingInBag 22 = .ok (.iaload, 1) := by decide +kernel
theorem d_Hero_thingInBag_23 : decode b_Hero_thingInBag 23 = .ok (.goto 5, 3) := by decide +kernel
theorem d_Hero_thingInBag_26 : decode b_Hero_thingInBag 26 = .ok (.bipush (-2), 2) := by decide +kernel
theorem d_Hero_thingInBag_28 : decode b_Hero_thingInBag 28 = .ok (.ireturn, 1) := by decide +kernel
def f_Hero_thingInBag (n : Nat) (x1 : Int32) (σ : St) : Option (Int32 × St) := if x1 < 0 then (some ((-2), σ)) else (if (σ.1 14) ≤ x1 then (some ((-2), σ)) else (if 4 ≤ x1 then (some ((-2), σ)) else (gd (inb x1 4) (some (σ.2.2 15 x1.toNatClampNeg, σ)))))
set_option maxHeartbeats 4000000 in
set_option maxRecDepth 100000 in
theorem c_Hero_thingInBag (l : Launch) (D : va_G) (ad : Nat → Nat) (cA : Nat → ClassId) (tz : Nat → Nat) (n : Nat) (x1 : Int32) (σ : St) (r : Int32) (σr : St) (hf : f_Hero_thingInBag n x1 σ = some (r, σr)) : Ki l D cA tz (wl ad cA) y_Hero_thingInBag (.code y_Hero_thingInBag b_Hero_thingInBag 2 (some .int) :: TB) ({ frames := 0, cells := 0, slots := 0, locals := 0 }) [.ref (ad 8), .int x1] σ r σr := by
  refine x_openi (own := R_Hero) rfl (by decide) (fun p e s m args below meth c A Q X hml hZ hA H locs ls h hl rt => ?_)
  have hx := X.1
  have hb := X.2.1
  have hl : lv_has ls 2 [(0, .ref (ad 8)), (1, .int x1)] := hl
  unfold f_Hero_thingInBag at hf
  refine lv_iload_n hx hb d_Hero_thingInBag_0 rfl (lv_at hl 1 rfl) ?_
  refine lv_if_lt (tgt := 26) hx hb d_Hero_thingInBag_1 (by decide) (fun c1 => ?_) (fun c1 => ?_)
  · have hf := it c1 hf
    refine lv_bipush (v := (-2)) hx hb d_Hero_thingInBag_26 (by decide) ?_
    exact rt _ _ H locs 28 ls hf h d_Hero_thingInBag_28
  · have hf := ie c1 hf
    refine lv_iload_n hx hb d_Hero_thingInBag_4 rfl (lv_at hl 1 rfl) ?_
    refine lv_aload_n hx hb d_Hero_thingInBag_5 rfl (lv_at hl 0 rfl) ?_
    refine G_hero_bagSize X h m_f_Hero_36 d_Hero_thingInBag_6 ?_
    refine lv_icmp_ge (tgt := 26) hx hb d_Hero_thingInBag_9 (by decide) (fun c2 => ?_) (fun c2 => ?_)
    · have hf := it c2 hf
      refine lv_bipush (v := (-2)) hx hb d_Hero_thingInBag_26 (by decide) ?_
      exact rt _ _ H locs 28 ls hf h d_Hero_thingInBag_28
    · have hf := ie c2 hf
      refine lv_iload_n hx hb d_Hero_thingInBag_12 rfl (lv_at hl 1 rfl) ?_
      refine lv_iconst (v := 4) hx hb d_Hero_thingInBag_13 (by decide) ?_
      refine lv_icmp_ge (tgt := 26) hx hb d_Hero_thingInBag_14 (by decide) (fun c3 => ?_) (fun c3 => ?_)
      · have hf := it c3 hf
        refine lv_bipush (v := (-2)) hx hb d_Hero_thingInBag_26 (by decide) ?_
        exact rt _ _ H locs 28 ls hf h d_Hero_thingInBag_28
      · have hf := ie c3 hf
        refine lv_aload_n hx hb d_Hero_thingInBag_17 rfl (lv_at hl 0 rfl) ?_
        refine G_hero_bag X h m_f_Hero_11 d_Hero_thingInBag_18 ?_
        refine lv_iload_n hx hb d_Hero_thingInBag_21 rfl (lv_at hl 1 rfl) ?_
        obtain ⟨g4, hf⟩ := gd_s hf
        refine R_bag X h (inb_s g4) d_Hero_thingInBag_22 ?_
        refine lv_goto (tgt := 28) hx hb d_Hero_thingInBag_23 (by decide) ?_
        exact rt _ _ H locs 28 ls hf h d_Hero_thingInBag_28
theorem d_Hero_dropFromBag_0 : decode b_Hero_dropFromBag 0 = .ok (.iload_n 1, 1) := by decide +kernel
theorem d_Hero_dropFromBag_1 : decode b_Hero_dropFromBag 1 = .ok (.ifCond .lt 19, 3) := by decide +kernel
theorem d_Hero_dropFromBag_4 : decode b_Hero_dropFromBag 4 = .ok (.iload_n 1, 1) := by decide +kernel
theorem d_Hero_dropFromBag_5 : decode b_Hero_dropFromBag 5 = .ok (.aload_n 0, 1) := by decide +kernel
theorem d_Hero_dropFromBag_6 : decode b_Hero_dropFromBag 6 = .ok (.getfield 36, 3) := by decide +kernel
theorem d_Hero_dropFromBag_9 : decode b_Hero_dropFromBag 9 = .ok (.if_icmp .ge 11, 3) := by decide +kernel
theorem d_Hero_dropFromBag_12 : decode b_Hero_dropFromBag 12 = .ok (.aload_n 0, 1) := by decide +kernel
theorem d_Hero_dropFromBag_13 : decode b_Hero_dropFromBag 13 = .ok (.getfield 36, 3) := by decide +kernel
theorem d_Hero_dropFromBag_16 : decode b_Hero_dropFromBag 16 = .ok (.iconst 4, 1) := by decide +kernel
theorem d_Hero_dropFromBag_17 : decode b_Hero_dropFromBag 17 = .ok (.if_icmp .le 4, 3) := by decide +kernel
theorem d_Hero_dropFromBag_20 : decode b_Hero_dropFromBag 20 = .ok (.return_, 1) := by decide +kernel
theorem d_Hero_dropFromBag_21 : decode b_Hero_dropFromBag 21 = .ok (.iload_n 1, 1) := by decide +kernel
theorem d_Hero_dropFromBag_22 : decode b_Hero_dropFromBag 22 = .ok (.istore_n 2, 1) := by decide +kernel
theorem d_Hero_dropFromBag_23 : decode b_Hero_dropFromBag 23 = .ok (.iload_n 2, 1) := by decide +kernel
theorem d_Hero_dropFromBag_24 : decode b_Hero_dropFromBag 24 = .ok (.iconst 1, 1) := by decide +kernel
theorem d_Hero_dropFromBag_25 : decode b_Hero_dropFromBag 25 = .ok (.iadd, 1) := by decide +kernel
theorem d_Hero_dropFromBag_26 : decode b_Hero_dropFromBag 26 = .ok (.aload_n 0, 1) := by decide +kernel
theorem d_Hero_dropFromBag_27 : decode b_Hero_dropFromBag 27 = .ok (.getfield 36, 3) := by decide +kernel
theorem d_Hero_dropFromBag_30 : decode b_Hero_dropFromBag 30 = .ok (.if_icmp .ge 23, 3) := by decide +kernel
theorem d_Hero_dropFromBag_33 : decode b_Hero_dropFromBag 33 = .ok (.aload_n 0, 1) := by decide +kernel
theorem d_Hero_dropFromBag_34 : decode b_Hero_dropFromBag 34 = .ok (.getfield 11, 3) := by decide +kernel
theorem d_Hero_dropFromBag_37 : decode b_Hero_dropFromBag 37 = .ok (.iload_n 2, 1) := by decide +kernel
theorem d_Hero_dropFromBag_38 : decode b_Hero_dropFromBag 38 = .ok (.aload_n 0, 1) := by decide +kernel
theorem d_Hero_dropFromBag_39 : decode b_Hero_dropFromBag 39 = .ok (.getfield 11, 3) := by decide +kernel
theorem d_Hero_dropFromBag_42 : decode b_Hero_dropFromBag 42 = .ok (.iload_n 2, 1) := by decide +kernel
theorem d_Hero_dropFromBag_43 : decode b_Hero_dropFromBag 43 = .ok (.iconst 1, 1) := by decide +kernel
theorem d_Hero_dropFromBag_44 : decode b_Hero_dropFromBag 44 = .ok (.iadd, 1) := by decide +kernel
theorem d_Hero_dropFromBag_45 : decode b_Hero_dropFromBag 45 = .ok (.iaload, 1) := by decide +kernel
theorem d_Hero_dropFromBag_46 : decode b_Hero_dropFromBag 46 = .ok (.iastore, 1) := by decide +kernel
theorem d_Hero_dropFromBag_47 : decode b_Hero_dropFromBag 47 = .ok (.iinc 2 1, 3) := by decide +kernel
theorem d_Hero_dropFromBag_50 : decode b_Hero_dropFromBag 50 = .ok (.goto (-27), 3) := by decide +kernel
theorem d_Hero_dropFromBag_53 : decode b_Hero_dropFromBag 53 = .ok (.aload_n 0, 1) := by decide +kernel
theorem d_Hero_dropFromBag_54 : decode b_Hero_dropFromBag 54 = .ok (.dup, 1) := by decide +kernel
theorem d_Hero_dropFromBag_55 : decode b_Hero_dropFromBag 55 = .ok (.getfield 36, 3) := by decide +kernel
theorem d_Hero_dropFromBag_58 : decode b_Hero_dropFromBag 58 = .ok (.iconst 1, 1) := by decide +kernel
theorem d_Hero_dropFromBag_59 : decode b_Hero_dropFromBag 59 = .ok (.isub, 1) := by decide +kernel
theorem d_Hero_dropFromBag_60 : decode b_Hero_dropFromBag 60 = .ok (.putfield 36, 3) := by decide +kernel
theorem d_Hero_dropFromBag_63 : decode b_Hero_dropFromBag 63 = .ok (.return_, 1) := by decide +kernel
def f_Hero_dropFromBag_23 (n : Nat) : Nat → Int32 → St → Option (Unit × St)
  | 0, _, _ => none
  | j + 1, y2, σ => if (σ.1 14) ≤ (y2 + 1) then (bnd (sI σ 14 ((σ.1 14) - 1)) (fun σ5 => some ((), σ5))) else (gd (inb (y2 + 1) 4) (gd (inb y2 4) (bnd (sA σ 15 y2.toNatClampNeg (σ.2.2 15 (y2 + 1).toNatClampNeg)) (fun σ8 => bnd (y2 + 1) (fun v9 => f_Hero_dropFromBag_23 n j v9 σ8)))))
theorem f_Hero_dropFromBag_23_s (n : Nat) (j : Nat) (y2 : Int32) (σ : St) : f_Hero_dropFromBag_23 n (j + 1) y2 σ = (if (σ.1 14) ≤ (y2 + 1) then (bnd (sI σ 14 ((σ.1 14) - 1)) (fun σ5 => some ((), σ5))) else (gd (inb (y2 + 1) 4) (gd (inb y2 4) (bnd (sA σ 15 y2.toNatClampNeg (σ.2.2 15 (y2 + 1).toNatClampNeg)) (fun σ8 => bnd (y2 + 1) (fun v9 => f_Hero_dropFromBag_23 n j v9 σ8)))))) := rfl
def f_Hero_dropFromBag (n : Nat) (x1 : Int32) (σ : St) : Option (Unit × St) := if x1 < 0 then (some ((), σ)) else (if (σ.1 14) ≤ x1 then (some ((), σ)) else (if (σ.1 14) ≤ 4 then (f_Hero_dropFromBag_23 n n x1 σ) else (some ((), σ))))
set_option maxHeartbeats 4000000 in
set_option maxRecDepth 100000 in
theorem c_Hero_dropFromBag (l : Launch) (D : va_G) (ad : Nat → Nat) (cA : Nat → ClassId) (tz : Nat → Nat) (n : Nat) (x1 : Int32) (σ : St) (r : Unit) (σr : St) (hf : f_Hero_dropFromBag n x1 σ = some (r, σr)) : Kv l D cA tz (wl ad cA) y_Hero_dropFromBag (.code y_Hero_dropFromBag b_Hero_dropFromBag 3 none :: TB) ({ frames := 0, cells := 0, slots := 0, locals := 0 }) [.ref (ad 8), .int x1] σ σr := by
  refine x_openv (r := r) (own := R_Hero) rfl (by decide) (fun p e s m args below meth c A Q X hml hZ hA H locs ls h hl rt => ?_)
  have hx := X.1
  have hb := X.2.1
  have hl : lv_has ls 3 [(0, .ref (ad 8)), (1, .int x1)] := hl
  have L23 : ∀ j : Nat, ∀ (y2 : Int32) (σ : St), f_Hero_dropFromBag_23 n j y2 σ = some (r, σr) → ∀ (H : Heap) (locs : List Loc) (ls : Array Slot), WD D A s (wl ad cA σ) H locs → lv_has ls 3 [(0, .ref (ad 8)), (2, .int y2)] → W p l e ({ frames := 0, cells := 0, slots := 0, locals := 0 }) s m args below meth c H locs 0 0 Q (F0 m 23 ls []) := by
    intro j
    induction j with
    | zero => intro y2 σ hf; exact absurd hf (fun z => by cases z)
    | succ j ih =>
      intro y2 σ hf H locs ls h hl
      have hf := us (f_Hero_dropFromBag_23_s n j y2 σ) hf
      refine lv_iload_n hx hb d_Hero_dropFromBag_23 rfl (lv_at hl 1 rfl) ?_
      refine lv_iconst (v := 1) hx hb d_Hero_dropFromBag_24 (by decide) ?_
      refine lv_iadd hx hb d_Hero_dropFromBag_25 ?_
      refine lv_aload_n hx hb d_Hero_dropFromBag_26 rfl (lv_at hl 0 rfl) ?_
      refine G_hero_bagSize X h m_f_Hero_36 d_Hero_dropFromBag_27 ?_
      refine lv_icmp_ge (tgt := 53) hx hb d_Hero_dropFromBag_30 (by decide) (fun c4 => ?_) (fun c4 => ?_)
      · have hf := it c4 hf
        refine lv_aload_n hx hb d_Hero_dropFromBag_53 rfl (lv_at hl 0 rfl) ?_
        refine lv_dup hx hb d_Hero_dropFromBag_54 rfl ?_
        refine G_hero_bagSize X h m_f_Hero_36 d_Hero_dropFromBag_55 ?_
        refine lv_iconst (v := 1) hx hb d_Hero_dropFromBag_58 (by decide) ?_
        refine lv_isub hx hb d_Hero_dropFromBag_59 ?_
        refine P_hero_bagSize X h m_f_Hero_36 d_Hero_dropFromBag_60 (fun H locs σ5 eσ5 h => ?_)
        have hf := nm_b hf eσ5
        exact rt _ H locs 63 ls hf h d_Hero_dropFromBag_63
      · have hf := ie c4 hf
        refine lv_aload_n hx hb d_Hero_dropFromBag_33 rfl (lv_at hl 0 rfl) ?_
        refine G_hero_bag X h m_f_Hero_11 d_Hero_dropFromBag_34 ?_
        refine lv_iload_n hx hb d_Hero_dropFromBag_37 rfl (lv_at hl 1 rfl) ?_
        refine lv_aload_n hx hb d_Hero_dropFromBag_38 rfl (lv_at hl 0 rfl) ?_
        refine G_hero_bag X h m_f_Hero_11 d_Hero_dropFromBag_39 ?_
        refine lv_iload_n hx hb d_Hero_dropFromBag_42 rfl (lv_at hl 1 rfl) ?_
        refine lv_iconst (v := 1) hx hb d_Hero_dropFromBag_43 (by decide) ?_
        refine lv_iadd hx hb d_Hero_dropFromBag_44 ?_
        obtain ⟨g6, hf⟩ := gd_s hf
        refine R_bag X h (inb_s g6) d_Hero_dropFromBag_45 ?_
        obtain ⟨g7, hf⟩ := gd_s hf
        refine S_bag X h (inb_s g7) d_Hero_dropFromBag_46 (fun H locs σ8 eσ8 h => ?_)
        have hf := nm_b hf eσ8
        obtain ⟨v9, ev9⟩ : ∃ y : Int32, y = y2 + 1 := ⟨_, rfl⟩
        have hf := nm_b hf ev9
        refine lv_iinc (v := v9) (lv' := [(2, .int v9), (0, .ref (ad 8))]) hx hb d_Hero_dropFromBag_47 hl (k := 1) rfl (by rw [ev9]; rfl) (by decide) rfl (fun ls hl => ?_)
        refine lv_goto (tgt := 23) hx hb d_Hero_dropFromBag_50 (by decide) ?_
        exact ih v9 σ8 hf H locs ls h (lv_sub hl [1, 0] rfl)
  unfold f_Hero_dropFromBag at hf
  refine lv_iload_n hx hb d_Hero_dropFromBag_0 rfl (lv_at hl 1 rfl) ?_
  refine lv_if_lt (tgt := 20) hx hb d_Hero_dropFromBag_1 (by decide) (fun c1 => ?_) (fun c1 => ?_)
  · have hf := it c1 hf
    exact rt _ H locs 20 ls hf h d_Hero_dropFromBag_20
  · have hf := ie c1 hf
    refine lv_iload_n hx hb d_Hero_dropFromBag_4 rfl (lv_at hl 1 rfl) ?_
    refine lv_aload_n hx hb d_Hero_dropFromBag_5 rfl (lv_at hl 0 rfl) ?_
    refine G_hero_bagSize X h m_f_Hero_36 d_Hero_dropFromBag_6 ?_
    refine lv_icmp_ge (tgt := 20) hx hb d_Hero_dropFromBag_9 (by decide) (fun c2 => ?_) (fun c2 => ?_)
    · have hf := it c2 hf
      exact rt _ H locs 20 ls hf h d_Hero_dropFromBag_20
    · have hf := ie c2 hf
      refine lv_aload_n hx hb d_Hero_dropFromBag_12 rfl (lv_at hl 0 rfl) ?_
      refine G_hero_bagSize X h m_f_Hero_36 d_Hero_dropFromBag_13 ?_
      refine lv_iconst (v := 4) hx hb d_Hero_dropFromBag_16 (by decide) ?_
      refine lv_icmp_le (tgt := 21) hx hb d_Hero_dropFromBag_17 (by decide) (fun c3 => ?_) (fun c3 => ?_)
      · have hf := it c3 hf
        refine lv_iload_n hx hb d_Hero_dropFromBag_21 rfl (lv_at hl 1 rfl) ?_
        refine lv_istore_n (lv' := [(2, .int x1), (0, .ref (ad 8)), (1, .int x1)]) hx hb d_Hero_dropFromBag_22 rfl hl (by decide) rfl (fun ls hl => ?_)
        exact L23 n x1 σ hf H locs ls h (lv_sub hl [1, 0] rfl)
      · have hf := ie c3 hf
        exact rt _ H locs 20 ls hf h d_Hero_dropFromBag_20
def f_Draws_draw_play (n : Nat) (x1 : Int32) (σ : St) : Option (Int32 × St) := bnd (sL σ 0 (((σ.2.1 0) * 6364136223846793005) + 1442695040888963407)) (fun σ1 => if x1 ≤ 0 then (some (0, σ1)) else (gd (nzl (Int32.toInt64 x1)) (some (Int64.toInt32 ((ush (σ1.2.1 0) 33) - (ush (σ1.2.1 0) 33) / (Int32.toInt64 x1) * (Int32.toInt64 x1)), σ1))))
set_option maxHeartbeats 4000000 in
set_option maxRecDepth 100000 in
theorem c_Draws_draw_play (l : Launch) (D : va_G) (ad : Nat → Nat) (cA : Nat → ClassId) (tz : Nat → Nat) (n : Nat) (x1 : Int32) (σ : St) (r : Int32) (σr : St) (hf : f_Draws_draw_play n x1 σ = some (r, σr)) : Ki l D cA tz (wl ad cA) y_Draws_draw (.code y_Draws_draw b_Draws_draw 2 (some .int) :: TB) ({ frames := 0, cells := 0, slots := 0, locals := 0 }) [.ref (ad 2), .int x1] σ r σr := by
  refine x_openi (own := R_Draws) rfl (by decide) (fun p e s m args below meth c A Q X hml hZ hA H locs ls h hl rt => ?_)
  have hx := X.1
  have hb := X.2.1
  have hl : lv_has ls 2 [(0, .ref (ad 2)), (1, .int x1)] := hl
  unfold f_Draws_draw_play at hf
  refine lv_aload_n hx hb d_Draws_draw_0 rfl (lv_at hl 0 rfl) ?_
  refine lv_aload_n hx hb d_Draws_draw_1 rfl (lv_at hl 0 rfl) ?_
  refine G_play_state X h m_f_Draws_7 d_Draws_draw_2 ?_
  refine lv_ldc2 (v := 6364136223846793005) hx hb X.2.2.1 (X.2.2.2.1 _ m_kl_Draws_13) d_Draws_draw_5 ?_
  refine lv_lmul hx hb d_Draws_draw_8 ?_
  refine lv_ldc2 (v := 1442695040888963407) hx hb X.2.2.1 (X.2.2.2.1 _ m_kl_Draws_15) d_Draws_draw_9 ?_
  refine lv_ladd hx hb d_Draws_draw_12 ?_
  refine P_play_state X h m_f_Draws_7 d_Draws_draw_13 (fun H locs σ1 eσ1 h => ?_)
  have hf := nm_b hf eσ1
  refine lv_iload_n hx hb d_Draws_draw_16 rfl (lv_at hl 1 rfl) ?_
  refine lv_if_le (tgt := 34) hx hb d_Draws_draw_17 (by decide) (fun c2 => ?_) (fun c2 => ?_)
  · have hf := it c2 hf
    refine lv_iconst (v := 0) hx hb d_Draws_draw_34 (by decide) ?_
    exact rt _ _ H locs 35 ls hf h d_Draws_draw_35
  · have hf := ie c2 hf
    refine lv_aload_n hx hb d_Draws_draw_20 rfl (lv_at hl 0 rfl) ?_
    refine G_play_state X h m_f_Draws_7 d_Draws_draw_21 ?_
    refine lv_bipush (v := 33) hx hb d_Draws_draw_24 (by decide) ?_
    refine lv_lushr (v := ush (σ1.2.1 0) 33) hx hb d_Draws_draw_26 rfl ?_
    refine lv_iload_n hx hb d_Draws_draw_27 rfl (lv_at hl 1 rfl) ?_
    refine lv_i2l hx hb d_Draws_draw_28 rfl ?_
    obtain ⟨g3, hf⟩ := gd_s hf
    refine lv_lrem hx hb d_Draws_draw_29 (nzl_s g3) ?_
    refine lv_l2i hx hb d_Draws_draw_30 rfl ?_
    refine lv_goto (tgt := 35) hx hb d_Draws_draw_31 (by decide) ?_
    exact rt _ _ H locs 35 ls hf h d_Draws_draw_35

