theorem d_Model_measure_0 : decode b_Model_measure 0 = .ok (.iconst 0, 1) := by decide +kernel
theorem d_Model_measure_1 : decode b_Model_measure 1 = .ok (.istore_n 1, 1) := by decide +kernel
theorem d_Model_measure_2 : decode b_Model_measure 2 = .ok (.iload_n 1, 1) := by decide +kernel
theorem d_Model_measure_3 : decode b_Model_measure 3 = .ok (.bipush 120, 2) := by decide +kernel
theorem d_Model_measure_5 : decode b_Model_measure 5 = .ok (.if_icmp .ge 16, 3) := by decide +kernel
theorem d_Model_measure_8 : decode b_Model_measure 8 = .ok (.aload_n 0, 1) := by decide +kernel
theorem d_Model_measure_9 : decode b_Model_measure 9 = .ok (.getfield 16, 3) := by decide +kernel
theorem d_Model_measure_12 : decode b_Model_measure 12 = .ok (.iload_n 1, 1) := by decide +kernel
theorem d_Model_measure_13 : decode b_Model_measure 13 = .ok (.iconst (-1), 1) := by decide +kernel
theorem d_Model_measure_14 : decode b_Model_measure 14 = .ok (.iastore, 1) := by decide +kernel
theorem d_Model_measure_15 : decode b_Model_measure 15 = .ok (.iinc 1 1, 3) := by decide +kernel
theorem d_Model_measure_18 : decode b_Model_measure 18 = .ok (.goto (-16), 3) := by decide +kernel
theorem d_Model_measure_21 : decode b_Model_measure 21 = .ok (.aload_n 0, 1) := by decide +kernel
theorem d_Model_measure_22 : decode b_Model_measure 22 = .ok (.getfield 16, 3) := by decide +kernel
theorem d_Model_measure_25 : decode b_Model_measure 25 = .ok (.bipush 12, 2) := by decide +kernel
theorem d_Model_measure_27 : decode b_Model_measure 27 = .ok (.aload_n 0, 1) := by decide +kernel
theorem d_Model_measure_28 : decode b_Model_measure 28 = .ok (.getfield 132, 3) := by decide +kernel
theorem d_Model_measure_31 : decode b_Model_measure 31 = .ok (.imul, 1) := by decide +kernel
theorem d_Model_measure_32 : decode b_Model_measure 32 = .ok (.aload_n 0, 1) := by decide +kernel
theorem d_Model_measure_33 : decode b_Model_measure 33 = .ok (.getfield 129, 3) := by decide +kernel
theorem d_Model_measure_36 : decode b_Model_measure 36 = .ok (.iadd, 1) := by decide +kernel
theorem d_Model_measure_37 : decode b_Model_measure 37 = .ok (.iconst 0, 1) := by decide +kernel
theorem d_Model_measure_38 : decode b_Model_measure 38 = .ok (.iastore, 1) := by decide +kernel
theorem d_Model_measure_39 : decode b_Model_measure 39 = .ok (.iconst 1, 1) := by decide +kernel
theorem d_Model_measure_40 : decode b_Model_measure 40 = .ok (.istore_n 1, 1) := by decide +kernel
theorem d_Model_measure_41 : decode b_Model_measure 41 = .ok (.iconst 0, 1) := by decide +kernel
theorem d_Model_measure_42 : decode b_Model_measure 42 = .ok (.istore_n 2, 1) := by decide +kernel
theorem d_Model_measure_43 : decode b_Model_measure 43 = .ok (.iload_n 1, 1) := by decide +kernel
theorem d_Model_measure_44 : decode b_Model_measure 44 = .ok (.ifCond .eq 125, 3) := by decide +kernel
theorem d_Model_measure_47 : decode b_Model_measure 47 = .ok (.iconst 0, 1) := by decide +kernel
theorem d_Model_measure_48 : decode b_Model_measure 48 = .ok (.istore_n 1, 1) := by decide +kernel
theorem d_Model_measure_49 : decode b_Model_measure 49 = .ok (.iconst 0, 1) := by decide +kernel
theorem d_Model_measure_50 : decode b_Model_measure 50 = .ok (.istore_n 3, 1) := by decide +kernel
theorem d_Model_measure_51 : decode b_Model_measure 51 = .ok (.iload_n 3, 1) := by decide +kernel
theorem d_Model_measure_52 : decode b_Model_measure 52 = .ok (.bipush 120, 2) := by decide +kernel
theorem d_Model_measure_54 : decode b_Model_measure 54 = .ok (.if_icmp .ge 109, 3) := by decide +kernel
theorem d_Model_measure_57 : decode b_Model_measure 57 = .ok (.aload_n 0, 1) := by decide +kernel
theorem d_Model_measure_58 : decode b_Model_measure 58 = .ok (.getfield 16, 3) := by decide +kernel
theorem d_Model_measure_61 : decode b_Model_measure 61 = .ok (.iload_n 3, 1) := by decide +kernel
theorem d_Model_measure_62 : decode b_Model_measure 62 = .ok (.iaload, 1) := by decide +kernel
theorem d_Model_measure_63 : decode b_Model_measure 63 = .ok (.iload_n 2, 1) := by decide +kernel
theorem d_Model_measure_64 : decode b_Model_measure 64 = .ok (.if_icmp .eq 6, 3) := by decide +kernel
theorem d_Model_measure_67 : decode b_Model_measure 67 = .ok (.goto 90, 3) := by decide +kernel
theorem d_Model_measure_70 : decode b_Model_measure 70 = .ok (.iconst 0, 1) := by decide +kernel
theorem d_Model_measure_71 : decode b_Model_measure 71 = .ok (.istore 4, 2) := by decide +kernel
theorem d_Model_measure_73 : decode b_Model_measure 73 = .ok (.iload 4, 2) := by decide +kernel
theorem d_Model_measure_75 : decode b_Model_measure 75 = .ok (.iconst 4, 1) := by decide +kernel
theorem d_Model_measure_76 : decode b_Model_measure 76 = .ok (.if_icmp .ge 81, 3) := by decide +kernel
theorem d_Model_measure_79 : decode b_Model_measure 79 = .ok (.iload_n 3, 1) := by decide +kernel
theorem d_Model_measure_80 : decode b_Model_measure 80 = .ok (.bipush 12, 2) := by decide +kernel
theorem d_Model_measure_82 : decode b_Model_measure 82 = .ok (.irem, 1) := by decide +kernel
theorem d_Model_measure_83 : decode b_Model_measure 83 = .ok (.iload 4, 2) := by decide +kernel
theorem d_Model_measure_85 : decode b_Model_measure 85 = .ok (.invokestatic 169, 3) := by decide +kernel
theorem d_Model_measure_88 : decode b_Model_measure 88 = .ok (.iadd, 1) := by decide +kernel
theorem d_Model_measure_89 : decode b_Model_measure 89 = .ok (.istore 5, 2) := by decide +kernel
theorem d_Model_measure_91 : decode b_Model_measure 91 = .ok (.iload_n 3, 1) := by decide +kernel
theorem d_Model_measure_92 : decode b_Model_measure 92 = .ok (.bipush 12, 2) := by decide +kernel
theorem d_Model_measure_94 : decode b_Model_measure 94 = .ok (.idiv, 1) := by decide +kernel
theorem d_Model_measure_95 : decode b_Model_measure 95 = .ok (.iload 4, 2) := by decide +kernel
theorem d_Model_measure_97 : decode b_Model_measure 97 = .ok (.invokestatic 172, 3) := by decide +kernel
theorem d_Model_measure_100 : decode b_Model_measure 100 = .ok (.iadd, 1) := by decide +kernel
theorem d_Model_measure_101 : decode b_Model_measure 101 = .ok (.istore 6, 2) := by decide +kernel
theorem d_Model_measure_103 : decode b_Model_measure 103 = .ok (.aload_n 0, 1) := by decide +kernel
theorem d_Model_measure_104 : decode b_Model_measure 104 = .ok (.iload 5, 2) := by decide +kernel
theorem d_Model_measure_106 : decode b_Model_measure 106 = .ok (.iload 6, 2) := by decide +kernel
theorem d_Model_measure_108 : decode b_Model_measure 108 = .ok (.invokevirtual 155, 3) := by decide +kernel
theorem d_Model_measure_111 : decode b_Model_measure 111 = .ok (.ifCond .eq 40, 3) := by decide +kernel
theorem d_Model_measure_114 : decode b_Model_measure 114 = .ok (.aload_n 0, 1) := by decide +kernel
theorem d_Model_measure_115 : decode b_Model_measure 115 = .ok (.getfield 16, 3) := by decide +kernel
theorem d_Model_measure_118 : decode b_Model_measure 118 = .ok (.bipush 12, 2) := by decide +kernel
theorem d_Model_measure_120 : decode b_Model_measure 120 = .ok (.iload 6, 2) := by decide +kernel
theorem d_Model_measure_122 : decode b_Model_measure 122 = .ok (.imul, 1) := by decide +kernel
theorem d_Model_measure_123 : decode b_Model_measure 123 = .ok (.iload 5, 2) := by decide +kernel
theorem d_Model_measure_125 : decode b_Model_measure 125 = .ok (.iadd, 1) := by decide +kernel
theorem d_Model_measure_126 : decode b_Model_measure 126 = .ok (.iaload, 1) := by decide +kernel
theorem d_Model_measure_127 : decode b_Model_measure 127 = .ok (.ifCond .lt 6, 3) := by decide +kernel
theorem d_Model_measure_130 : decode b_Model_measure 130 = .ok (.goto 21, 3) := by decide +kernel
theorem d_Model_measure_133 : decode b_Model_measure 133 = .ok (.aload_n 0, 1) := by decide +kernel
theorem d_Model_measure_134 : decode b_Model_measure 134 = .ok (.getfield 16, 3) := by decide +kernel
theorem d_Model_measure_137 : decode b_Model_measure 137 = .ok (.bipush 12, 2) := by decide +kernel
theorem d_Model_measure_139 : decode b_Model_measure 139 = .ok (.iload 6, 2) := by decide +kernel
theorem d_Model_measure_141 : decode b_Model_measure 141 = .ok (.imul, 1) := by decide +kernel
theorem d_Model_measure_142 : decode b_Model_measure 142 = .ok (.iload 5, 2) := by decide +kernel
theorem d_Model_measure_144 : decode b_Model_measure 144 = .ok (.iadd, 1) := by decide +kernel
theorem d_Model_measure_145 : decode b_Model_measure 145 = .ok (.iload_n 2, 1) := by decide +kernel
theorem d_Model_measure_146 : decode b_Model_measure 146 = .ok (.iconst 1, 1) := by decide +kernel
theorem d_Model_measure_147 : decode b_Model_measure 147 = .ok (.iadd, 1) := by decide +kernel
theorem d_Model_measure_148 : decode b_Model_measure 148 = .ok (.iastore, 1) := by decide +kernel
theorem d_Model_measure_149 : decode b_Model_measure 149 = .ok (.iconst 1, 1) := by decide +kernel
theorem d_Model_measure_150 : decode b_Model_measure 150 = .ok (.istore_n 1, 1) := by decide +kernel
theorem d_Model_measure_151 : decode b_Model_measure 151 = .ok (.iinc 4 1, 3) := by decide +kernel
theorem d_Model_measure_154 : decode b_Model_measure 154 = .ok (.goto (-81), 3) := by decide +kernel
theorem d_Model_measure_157 : decode b_Model_measure 157 = .ok (.iinc 3 1, 3) := by decide +kernel
theorem d_Model_measure_160 : decode b_Model_measure 160 = .ok (.goto (-109), 3) := by decide +kernel
theorem d_Model_measure_163 : decode b_Model_measure 163 = .ok (.iinc 2 1, 3) := by decide +kernel
theorem d_Model_measure_166 : decode b_Model_measure 166 = .ok (.goto (-123), 3) := by decide +kernel
theorem d_Model_measure_169 : decode b_Model_measure 169 = .ok (.return_, 1) := by decide +kernel
def f_Model_measure_73 (n : Nat) (k43 : Int32 → Int32 → St → Option (Unit × St)) (k51 : Int32 → Int32 → Int32 → St → Option (Unit × St)) : Nat → Int32 → Int32 → Int32 → Int32 → St → Option (Unit × St)
  | 0, _, _, _, _, _ => none
  | j + 1, y1, y2, y3, y4, σ => if 4 ≤ y4 then (bnd (y3 + 1) (fun v14 => k51 y1 y2 v14 σ)) else (bd (f_Model_dx n y4 σ) (fun r15 σ16 => bnd ((y3 - y3 / 12 * 12) + r15) (fun v18 => bd (f_Model_dy n y4 σ16) (fun r19 σ20 => bnd ((y3 / 12) + r19) (fun v22 => bd (f_Model_isFloor n v18 v22 σ20) (fun r23 σ24 => if r23 = 0 then (bnd (y4 + 1) (fun v27 => f_Model_measure_73 n k43 k51 j y1 y2 y3 v27 σ24)) else (gd (inb ((12 * v22) + v18) 120) (if (σ24.2.2 2 ((12 * v22) + v18).toNatClampNeg) < 0 then (gd (inb ((12 * v22) + v18) 120) (bnd (sA σ24 2 ((12 * v22) + v18).toNatClampNeg (y2 + 1)) (fun σ31 => bnd (y4 + 1) (fun v32 => f_Model_measure_73 n k43 k51 j 1 y2 y3 v32 σ31)))) else (bnd (y4 + 1) (fun v33 => f_Model_measure_73 n k43 k51 j y1 y2 y3 v33 σ24))))))))))
theorem f_Model_measure_73_s (n : Nat) (k43 : Int32 → Int32 → St → Option (Unit × St)) (k51 : Int32 → Int32 → Int32 → St → Option (Unit × St)) (j : Nat) (y1 : Int32) (y2 : Int32) (y3 : Int32) (y4 : Int32) (σ : St) : f_Model_measure_73 n k43 k51 (j + 1) y1 y2 y3 y4 σ = (if 4 ≤ y4 then (bnd (y3 + 1) (fun v14 => k51 y1 y2 v14 σ)) else (bd (f_Model_dx n y4 σ) (fun r15 σ16 => bnd ((y3 - y3 / 12 * 12) + r15) (fun v18 => bd (f_Model_dy n y4 σ16) (fun r19 σ20 => bnd ((y3 / 12) + r19) (fun v22 => bd (f_Model_isFloor n v18 v22 σ20) (fun r23 σ24 => if r23 = 0 then (bnd (y4 + 1) (fun v27 => f_Model_measure_73 n k43 k51 j y1 y2 y3 v27 σ24)) else (gd (inb ((12 * v22) + v18) 120) (if (σ24.2.2 2 ((12 * v22) + v18).toNatClampNeg) < 0 then (gd (inb ((12 * v22) + v18) 120) (bnd (sA σ24 2 ((12 * v22) + v18).toNatClampNeg (y2 + 1)) (fun σ31 => bnd (y4 + 1) (fun v32 => f_Model_measure_73 n k43 k51 j 1 y2 y3 v32 σ31)))) else (bnd (y4 + 1) (fun v33 => f_Model_measure_73 n k43 k51 j y1 y2 y3 v33 σ24))))))))))) := rfl
def f_Model_measure_51 (n : Nat) (k43 : Int32 → Int32 → St → Option (Unit × St)) : Nat → Int32 → Int32 → Int32 → St → Option (Unit × St)
  | 0, _, _, _, _ => none
  | j + 1, y1, y2, y3, σ => if 120 ≤ y3 then (bnd (y2 + 1) (fun v9 => k43 y1 v9 σ)) else (gd (inb y3 120) (if (σ.2.2 2 y3.toNatClampNeg) = y2 then (f_Model_measure_73 n k43 (fun y1 y2 y3 σ => f_Model_measure_51 n k43 j y1 y2 y3 σ) n y1 y2 y3 0 σ) else (bnd (y3 + 1) (fun v12 => f_Model_measure_51 n k43 j y1 y2 v12 σ))))
theorem f_Model_measure_51_s (n : Nat) (k43 : Int32 → Int32 → St → Option (Unit × St)) (j : Nat) (y1 : Int32) (y2 : Int32) (y3 : Int32) (σ : St) : f_Model_measure_51 n k43 (j + 1) y1 y2 y3 σ = (if 120 ≤ y3 then (bnd (y2 + 1) (fun v9 => k43 y1 v9 σ)) else (gd (inb y3 120) (if (σ.2.2 2 y3.toNatClampNeg) = y2 then (f_Model_measure_73 n k43 (fun y1 y2 y3 σ => f_Model_measure_51 n k43 j y1 y2 y3 σ) n y1 y2 y3 0 σ) else (bnd (y3 + 1) (fun v12 => f_Model_measure_51 n k43 j y1 y2 v12 σ))))) := rfl
def f_Model_measure_43 (n : Nat) : Nat → Int32 → Int32 → St → Option (Unit × St)
  | 0, _, _, _ => none
  | j + 1, y1, y2, σ => if y1 = 0 then (some ((), σ)) else (f_Model_measure_51 n (fun y1 y2 σ => f_Model_measure_43 n j y1 y2 σ) n 0 y2 0 σ)
theorem f_Model_measure_43_s (n : Nat) (j : Nat) (y1 : Int32) (y2 : Int32) (σ : St) : f_Model_measure_43 n (j + 1) y1 y2 σ = (if y1 = 0 then (some ((), σ)) else (f_Model_measure_51 n (fun y1 y2 σ => f_Model_measure_43 n j y1 y2 σ) n 0 y2 0 σ)) := rfl
def f_Model_measure_2 (n : Nat) : Nat → Int32 → St → Option (Unit × St)
  | 0, _, _ => none
  | j + 1, y1, σ => if 120 ≤ y1 then (gd (inb ((12 * (σ.1 3)) + (σ.1 2)) 120) (bnd (sA σ 2 ((12 * (σ.1 3)) + (σ.1 2)).toNatClampNeg 0) (fun σ3 => f_Model_measure_43 n n 1 0 σ3))) else (gd (inb y1 120) (bnd (sA σ 2 y1.toNatClampNeg (-1)) (fun σ5 => bnd (y1 + 1) (fun v6 => f_Model_measure_2 n j v6 σ5))))
theorem f_Model_measure_2_s (n : Nat) (j : Nat) (y1 : Int32) (σ : St) : f_Model_measure_2 n (j + 1) y1 σ = (if 120 ≤ y1 then (gd (inb ((12 * (σ.1 3)) + (σ.1 2)) 120) (bnd (sA σ 2 ((12 * (σ.1 3)) + (σ.1 2)).toNatClampNeg 0) (fun σ3 => f_Model_measure_43 n n 1 0 σ3))) else (gd (inb y1 120) (bnd (sA σ 2 y1.toNatClampNeg (-1)) (fun σ5 => bnd (y1 + 1) (fun v6 => f_Model_measure_2 n j v6 σ5))))) := rfl
def f_Model_measure (n : Nat) (σ : St) : Option (Unit × St) := f_Model_measure_2 n n 0 σ
set_option maxHeartbeats 4000000 in
set_option maxRecDepth 100000 in
theorem c_Model_measure (l : Launch) (D : va_G) (ad : Nat → Nat) (cA : Nat → ClassId) (tz : Nat → Nat) (n : Nat) (σ : St) (r : Unit) (σr : St) (hf : f_Model_measure n σ = some (r, σr)) : Kv l D cA tz (wm ad cA) y_Model_measure (.code y_Model_measure b_Model_measure 7 none :: TB) ({ frames := 2, cells := 0, slots := 0, locals := 44 }) [.ref (ad 0)] σ σr := by
  refine x_openv (r := r) (own := R_Model) rfl (by decide) (fun p e s m args below meth c A Q X hml hZ hA H locs ls h hl rt => ?_)
  have hx := X.1
  have hb := X.2.1
  have hl : lv_has ls 7 [(0, .ref (ad 0))] := hl
  have L73 : ∀ (k43 : Int32 → Int32 → St → Option (Unit × St)), (∀ (y1 : Int32) (y2 : Int32) (σ : St), k43 y1 y2 σ = some (r, σr) → ∀ (H : Heap) (locs : List Loc) (ls : Array Slot), WD D A s (wm ad cA σ) H locs → lv_has ls 7 [(0, .ref (ad 0)), (1, .int y1), (2, .int y2)] → W p l e ({ frames := 2, cells := 0, slots := 0, locals := 44 }) s m args below meth c H locs 0 0 Q (F0 m 43 ls [])) → ∀ (k51 : Int32 → Int32 → Int32 → St → Option (Unit × St)), (∀ (y1 : Int32) (y2 : Int32) (y3 : Int32) (σ : St), k51 y1 y2 y3 σ = some (r, σr) → ∀ (H : Heap) (locs : List Loc) (ls : Array Slot), WD D A s (wm ad cA σ) H locs → lv_has ls 7 [(0, .ref (ad 0)), (1, .int y1), (2, .int y2), (3, .int y3)] → W p l e ({ frames := 2, cells := 0, slots := 0, locals := 44 }) s m args below meth c H locs 0 0 Q (F0 m 51 ls [])) → ∀ j : Nat, ∀ (y1 : Int32) (y2 : Int32) (y3 : Int32) (y4 : Int32) (σ : St), f_Model_measure_73 n k43 k51 j y1 y2 y3 y4 σ = some (r, σr) → ∀ (H : Heap) (locs : List Loc) (ls : Array Slot), WD D A s (wm ad cA σ) H locs → lv_has ls 7 [(0, .ref (ad 0)), (1, .int y1), (2, .int y2), (3, .int y3), (4, .int y4)] → W p l e ({ frames := 2, cells := 0, slots := 0, locals := 44 }) s m args below meth c H locs 0 0 Q (F0 m 73 ls []) := by
    intro k43 K43 k51 K51
    intro j
    induction j with
    | zero => intro y1 y2 y3 y4 σ hf; exact absurd hf (fun z => by cases z)
    | succ j ih =>
      intro y1 y2 y3 y4 σ hf H locs ls h hl
      have hf := us (f_Model_measure_73_s n k43 k51 j y1 y2 y3 y4 σ) hf
      refine lv_iload hx hb d_Model_measure_73 (lv_at hl 4 rfl) ?_
      refine lv_iconst (v := 4) hx hb d_Model_measure_75 (by decide) ?_
      refine lv_icmp_ge (tgt := 157) hx hb d_Model_measure_76 (by decide) (fun c13 => ?_) (fun c13 => ?_)
      · have hf := it c13 hf
        obtain ⟨v14, ev14⟩ : ∃ y : Int32, y = y3 + 1 := ⟨_, rfl⟩
        have hf := nm_b hf ev14
        refine lv_iinc (v := v14) (lv' := [(3, .int v14), (0, .ref (ad 0)), (1, .int y1), (2, .int y2), (4, .int y4)]) hx hb d_Model_measure_157 hl (k := 3) rfl (by rw [ev14]; rfl) (by decide) rfl (fun ls hl => ?_)
        refine lv_goto (tgt := 51) hx hb d_Model_measure_160 (by decide) ?_
        exact K51 y1 y2 v14 σ hf H locs ls h (lv_sub hl [1, 2, 3, 0] rfl)
      · have hf := ie c13 hf
        refine lv_iload_n hx hb d_Model_measure_79 rfl (lv_at hl 3 rfl) ?_
        refine lv_bipush (v := 12) hx hb d_Model_measure_80 (by decide) ?_
        refine lv_irem hx hb d_Model_measure_82 (by decide) ?_
        refine lv_iload hx hb d_Model_measure_83 (lv_at hl 4 rfl) ?_
        obtain ⟨r15, σ16, h17, hf⟩ := bd_s hf
        refine x_Si (As := [.int y4]) (rest := [.int (y3 - y3 / 12 * 12)]) X hml hl.1 hZ hA h (c_Model_dx l D ad cA tz n y4 σ r15 σ16 h17) k_Model_dx m_m_Model_169 kd_Model_dx ⟨rfl, rfl, Nat.le_of_ble_eq_true rfl, Nat.le_of_ble_eq_true rfl⟩ rfl rfl (Nat.le_of_ble_eq_true rfl) d_Model_measure_85 (fun H locs h => ?_)
        refine lv_iadd hx hb d_Model_measure_88 ?_
        refine lv_topi (fun v18 ev18 => ?_)
        have hf := nm_b hf ev18
        refine lv_istore (lv' := [(5, .int v18), (0, .ref (ad 0)), (1, .int y1), (2, .int y2), (3, .int y3), (4, .int y4)]) hx hb d_Model_measure_89 hl (by decide) rfl (fun ls hl => ?_)
        refine lv_iload_n hx hb d_Model_measure_91 rfl (lv_at hl 4 rfl) ?_
        refine lv_bipush (v := 12) hx hb d_Model_measure_92 (by decide) ?_
        refine lv_idiv hx hb d_Model_measure_94 (by decide) ?_
        refine lv_iload hx hb d_Model_measure_95 (lv_at hl 5 rfl) ?_
        obtain ⟨r19, σ20, h21, hf⟩ := bd_s hf
        refine x_Si (As := [.int y4]) (rest := [.int (y3 / 12)]) X hml hl.1 hZ hA h (c_Model_dy l D ad cA tz n y4 σ16 r19 σ20 h21) k_Model_dy m_m_Model_172 kd_Model_dy ⟨rfl, rfl, Nat.le_of_ble_eq_true rfl, Nat.le_of_ble_eq_true rfl⟩ rfl rfl (Nat.le_of_ble_eq_true rfl) d_Model_measure_97 (fun H locs h => ?_)
        refine lv_iadd hx hb d_Model_measure_100 ?_
        refine lv_topi (fun v22 ev22 => ?_)
        have hf := nm_b hf ev22
        refine lv_istore (lv' := [(6, .int v22), (5, .int v18), (0, .ref (ad 0)), (1, .int y1), (2, .int y2), (3, .int y3), (4, .int y4)]) hx hb d_Model_measure_101 hl (by decide) rfl (fun ls hl => ?_)
        refine lv_aload_n hx hb d_Model_measure_103 rfl (lv_at hl 2 rfl) ?_
        refine lv_iload hx hb d_Model_measure_104 (lv_at hl 1 rfl) ?_
        refine lv_iload hx hb d_Model_measure_106 (lv_at hl 0 rfl) ?_
        obtain ⟨r23, σ24, h25, hf⟩ := bd_s hf
        refine x_Vi (As := [.int v18, .int v22]) (rest := []) X hml hl.1 hZ hA h (c_Model_isFloor l D ad cA tz n v18 v22 σ20 r23 σ24 h25) k_Model_isFloor m_m_Model_155 kd_Model_isFloor ⟨rfl, rfl, Nat.le_of_ble_eq_true rfl, Nat.le_of_ble_eq_true rfl⟩ 0 rfl rfl rfl rfl rfl (Nat.le_of_ble_eq_true rfl) d_Model_measure_108 (fun H locs h => ?_)
        refine lv_if_eq (tgt := 151) hx hb d_Model_measure_111 (by decide) (fun c26 => ?_) (fun c26 => ?_)
        · have hf := it c26 hf
          obtain ⟨v27, ev27⟩ : ∃ y : Int32, y = y4 + 1 := ⟨_, rfl⟩
          have hf := nm_b hf ev27
          refine lv_iinc (v := v27) (lv' := [(4, .int v27), (6, .int v22), (5, .int v18), (0, .ref (ad 0)), (1, .int y1), (2, .int y2), (3, .int y3)]) hx hb d_Model_measure_151 hl (k := 6) rfl (by rw [ev27]; rfl) (by decide) rfl (fun ls hl => ?_)
          refine lv_goto (tgt := 73) hx hb d_Model_measure_154 (by decide) ?_
          exact ih y1 y2 y3 v27 σ24 hf H locs ls h (lv_sub hl [3, 4, 5, 6, 0] rfl)
        · have hf := ie c26 hf
          refine lv_aload_n hx hb d_Model_measure_114 rfl (lv_at hl 2 rfl) ?_
          refine G_model_distance X h m_f_Model_16 d_Model_measure_115 ?_
          refine lv_bipush (v := 12) hx hb d_Model_measure_118 (by decide) ?_
          refine lv_iload hx hb d_Model_measure_120 (lv_at hl 0 rfl) ?_
          refine lv_imul hx hb d_Model_measure_122 ?_
          refine lv_iload hx hb d_Model_measure_123 (lv_at hl 1 rfl) ?_
          refine lv_iadd hx hb d_Model_measure_125 ?_
          obtain ⟨g28, hf⟩ := gd_s hf
          refine R_mdistance X h (inb_s g28) d_Model_measure_126 ?_
          refine lv_if_lt (tgt := 133) hx hb d_Model_measure_127 (by decide) (fun c29 => ?_) (fun c29 => ?_)
          · have hf := it c29 hf
            refine lv_aload_n hx hb d_Model_measure_133 rfl (lv_at hl 2 rfl) ?_
            refine G_model_distance X h m_f_Model_16 d_Model_measure_134 ?_
            refine lv_bipush (v := 12) hx hb d_Model_measure_137 (by decide) ?_
            refine lv_iload hx hb d_Model_measure_139 (lv_at hl 0 rfl) ?_
            refine lv_imul hx hb d_Model_measure_141 ?_
            refine lv_iload hx hb d_Model_measure_142 (lv_at hl 1 rfl) ?_
            refine lv_iadd hx hb d_Model_measure_144 ?_
            refine lv_iload_n hx hb d_Model_measure_145 rfl (lv_at hl 4 rfl) ?_
            refine lv_iconst (v := 1) hx hb d_Model_measure_146 (by decide) ?_
            refine lv_iadd hx hb d_Model_measure_147 ?_
            obtain ⟨g30, hf⟩ := gd_s hf
            refine S_mdistance X h (inb_s g30) d_Model_measure_148 (fun H locs σ31 eσ31 h => ?_)
            have hf := nm_b hf eσ31
            refine lv_iconst (v := 1) hx hb d_Model_measure_149 (by decide) ?_
            refine lv_istore_n (lv' := [(1, .int 1), (6, .int v22), (5, .int v18), (0, .ref (ad 0)), (2, .int y2), (3, .int y3), (4, .int y4)]) hx hb d_Model_measure_150 rfl hl (by decide) rfl (fun ls hl => ?_)
            obtain ⟨v32, ev32⟩ : ∃ y : Int32, y = y4 + 1 := ⟨_, rfl⟩
            have hf := nm_b hf ev32
            refine lv_iinc (v := v32) (lv' := [(4, .int v32), (1, .int 1), (6, .int v22), (5, .int v18), (0, .ref (ad 0)), (2, .int y2), (3, .int y3)]) hx hb d_Model_measure_151 hl (k := 6) rfl (by rw [ev32]; rfl) (by decide) rfl (fun ls hl => ?_)
            refine lv_goto (tgt := 73) hx hb d_Model_measure_154 (by decide) ?_
            exact ih 1 y2 y3 v32 σ31 hf H locs ls h (lv_sub hl [4, 1, 5, 6, 0] rfl)
          · have hf := ie c29 hf
            refine lv_goto (tgt := 151) hx hb d_Model_measure_130 (by decide) ?_
            obtain ⟨v33, ev33⟩ : ∃ y : Int32, y = y4 + 1 := ⟨_, rfl⟩
            have hf := nm_b hf ev33
            refine lv_iinc (v := v33) (lv' := [(4, .int v33), (6, .int v22), (5, .int v18), (0, .ref (ad 0)), (1, .int y1), (2, .int y2), (3, .int y3)]) hx hb d_Model_measure_151 hl (k := 6) rfl (by rw [ev33]; rfl) (by decide) rfl (fun ls hl => ?_)
            refine lv_goto (tgt := 73) hx hb d_Model_measure_154 (by decide) ?_
            exact ih y1 y2 y3 v33 σ24 hf H locs ls h (lv_sub hl [3, 4, 5, 6, 0] rfl)
  have L51 : ∀ (k43 : Int32 → Int32 → St → Option (Unit × St)), (∀ (y1 : Int32) (y2 : Int32) (σ : St), k43 y1 y2 σ = some (r, σr) → ∀ (H : Heap) (locs : List Loc) (ls : Array Slot), WD D A s (wm ad cA σ) H locs → lv_has ls 7 [(0, .ref (ad 0)), (1, .int y1), (2, .int y2)] → W p l e ({ frames := 2, cells := 0, slots := 0, locals := 44 }) s m args below meth c H locs 0 0 Q (F0 m 43 ls [])) → ∀ j : Nat, ∀ (y1 : Int32) (y2 : Int32) (y3 : Int32) (σ : St), f_Model_measure_51 n k43 j y1 y2 y3 σ = some (r, σr) → ∀ (H : Heap) (locs : List Loc) (ls : Array Slot), WD D A s (wm ad cA σ) H locs → lv_has ls 7 [(0, .ref (ad 0)), (1, .int y1), (2, .int y2), (3, .int y3)] → W p l e ({ frames := 2, cells := 0, slots := 0, locals := 44 }) s m args below meth c H locs 0 0 Q (F0 m 51 ls []) := by
    intro k43 K43
    intro j
    induction j with
    | zero => intro y1 y2 y3 σ hf; exact absurd hf (fun z => by cases z)
    | succ j ih =>
      intro y1 y2 y3 σ hf H locs ls h hl
      have hf := us (f_Model_measure_51_s n k43 j y1 y2 y3 σ) hf
      refine lv_iload_n hx hb d_Model_measure_51 rfl (lv_at hl 3 rfl) ?_
      refine lv_bipush (v := 120) hx hb d_Model_measure_52 (by decide) ?_
      refine lv_icmp_ge (tgt := 163) hx hb d_Model_measure_54 (by decide) (fun c8 => ?_) (fun c8 => ?_)
      · have hf := it c8 hf
        obtain ⟨v9, ev9⟩ : ∃ y : Int32, y = y2 + 1 := ⟨_, rfl⟩
        have hf := nm_b hf ev9
        refine lv_iinc (v := v9) (lv' := [(2, .int v9), (0, .ref (ad 0)), (1, .int y1), (3, .int y3)]) hx hb d_Model_measure_163 hl (k := 2) rfl (by rw [ev9]; rfl) (by decide) rfl (fun ls hl => ?_)
        refine lv_goto (tgt := 43) hx hb d_Model_measure_166 (by decide) ?_
        exact K43 y1 v9 σ hf H locs ls h (lv_sub hl [1, 2, 0] rfl)
      · have hf := ie c8 hf
        refine lv_aload_n hx hb d_Model_measure_57 rfl (lv_at hl 0 rfl) ?_
        refine G_model_distance X h m_f_Model_16 d_Model_measure_58 ?_
        refine lv_iload_n hx hb d_Model_measure_61 rfl (lv_at hl 3 rfl) ?_
        obtain ⟨g10, hf⟩ := gd_s hf
        refine R_mdistance X h (inb_s g10) d_Model_measure_62 ?_
        refine lv_iload_n hx hb d_Model_measure_63 rfl (lv_at hl 2 rfl) ?_
        refine lv_icmp_eq (tgt := 70) hx hb d_Model_measure_64 (by decide) (fun c11 => ?_) (fun c11 => ?_)
        · have hf := it c11 hf
          refine lv_iconst (v := 0) hx hb d_Model_measure_70 (by decide) ?_
          refine lv_istore (lv' := [(4, .int 0), (0, .ref (ad 0)), (1, .int y1), (2, .int y2), (3, .int y3)]) hx hb d_Model_measure_71 hl (by decide) rfl (fun ls hl => ?_)
          exact L73 k43 K43 (fun y1 y2 y3 σ => f_Model_measure_51 n k43 j y1 y2 y3 σ) ih n y1 y2 y3 0 σ hf H locs ls h (lv_sub hl [1, 2, 3, 4, 0] rfl)
        · have hf := ie c11 hf
          refine lv_goto (tgt := 157) hx hb d_Model_measure_67 (by decide) ?_
          obtain ⟨v12, ev12⟩ : ∃ y : Int32, y = y3 + 1 := ⟨_, rfl⟩
          have hf := nm_b hf ev12
          refine lv_iinc (v := v12) (lv' := [(3, .int v12), (0, .ref (ad 0)), (1, .int y1), (2, .int y2)]) hx hb d_Model_measure_157 hl (k := 3) rfl (by rw [ev12]; rfl) (by decide) rfl (fun ls hl => ?_)
          refine lv_goto (tgt := 51) hx hb d_Model_measure_160 (by decide) ?_
          exact ih y1 y2 v12 σ hf H locs ls h (lv_sub hl [1, 2, 3, 0] rfl)
  have L43 : ∀ j : Nat, ∀ (y1 : Int32) (y2 : Int32) (σ : St), f_Model_measure_43 n j y1 y2 σ = some (r, σr) → ∀ (H : Heap) (locs : List Loc) (ls : Array Slot), WD D A s (wm ad cA σ) H locs → lv_has ls 7 [(0, .ref (ad 0)), (1, .int y1), (2, .int y2)] → W p l e ({ frames := 2, cells := 0, slots := 0, locals := 44 }) s m args below meth c H locs 0 0 Q (F0 m 43 ls []) := by
    intro j
    induction j with
    | zero => intro y1 y2 σ hf; exact absurd hf (fun z => by cases z)
    | succ j ih =>
      intro y1 y2 σ hf H locs ls h hl
      have hf := us (f_Model_measure_43_s n j y1 y2 σ) hf
      refine lv_iload_n hx hb d_Model_measure_43 rfl (lv_at hl 1 rfl) ?_
      refine lv_if_eq (tgt := 169) hx hb d_Model_measure_44 (by decide) (fun c7 => ?_) (fun c7 => ?_)
      · have hf := it c7 hf
        exact rt _ H locs 169 ls hf h d_Model_measure_169
      · have hf := ie c7 hf
        refine lv_iconst (v := 0) hx hb d_Model_measure_47 (by decide) ?_
        refine lv_istore_n (lv' := [(1, .int 0), (0, .ref (ad 0)), (2, .int y2)]) hx hb d_Model_measure_48 rfl hl (by decide) rfl (fun ls hl => ?_)
        refine lv_iconst (v := 0) hx hb d_Model_measure_49 (by decide) ?_
        refine lv_istore_n (lv' := [(3, .int 0), (1, .int 0), (0, .ref (ad 0)), (2, .int y2)]) hx hb d_Model_measure_50 rfl hl (by decide) rfl (fun ls hl => ?_)
        exact L51 (fun y1 y2 σ => f_Model_measure_43 n j y1 y2 σ) ih n 0 y2 0 σ hf H locs ls h (lv_sub hl [2, 1, 3, 0] rfl)
  have L2 : ∀ j : Nat, ∀ (y1 : Int32) (σ : St), f_Model_measure_2 n j y1 σ = some (r, σr) → ∀ (H : Heap) (locs : List Loc) (ls : Array Slot), WD D A s (wm ad cA σ) H locs → lv_has ls 7 [(0, .ref (ad 0)), (1, .int y1)] → W p l e ({ frames := 2, cells := 0, slots := 0, locals := 44 }) s m args below meth c H locs 0 0 Q (F0 m 2 ls []) := by
    intro j
    induction j with
    | zero => intro y1 σ hf; exact absurd hf (fun z => by cases z)
    | succ j ih =>
      intro y1 σ hf H locs ls h hl
      have hf := us (f_Model_measure_2_s n j y1 σ) hf
      refine lv_iload_n hx hb d_Model_measure_2 rfl (lv_at hl 1 rfl) ?_
      refine lv_bipush (v := 120) hx hb d_Model_measure_3 (by decide) ?_
      refine lv_icmp_ge (tgt := 21) hx hb d_Model_measure_5 (by decide) (fun c1 => ?_) (fun c1 => ?_)
      · have hf := it c1 hf
        refine lv_aload_n hx hb d_Model_measure_21 rfl (lv_at hl 0 rfl) ?_
        refine G_model_distance X h m_f_Model_16 d_Model_measure_22 ?_
        refine lv_bipush (v := 12) hx hb d_Model_measure_25 (by decide) ?_
        refine lv_aload_n hx hb d_Model_measure_27 rfl (lv_at hl 0 rfl) ?_
        refine G_model_py X h m_f_Model_132 d_Model_measure_28 ?_
        refine lv_imul hx hb d_Model_measure_31 ?_
        refine lv_aload_n hx hb d_Model_measure_32 rfl (lv_at hl 0 rfl) ?_
        refine G_model_px X h m_f_Model_129 d_Model_measure_33 ?_
        refine lv_iadd hx hb d_Model_measure_36 ?_
        refine lv_iconst (v := 0) hx hb d_Model_measure_37 (by decide) ?_
        obtain ⟨g2, hf⟩ := gd_s hf
        refine S_mdistance X h (inb_s g2) d_Model_measure_38 (fun H locs σ3 eσ3 h => ?_)
        have hf := nm_b hf eσ3
        refine lv_iconst (v := 1) hx hb d_Model_measure_39 (by decide) ?_
        refine lv_istore_n (lv' := [(1, .int 1), (0, .ref (ad 0))]) hx hb d_Model_measure_40 rfl hl (by decide) rfl (fun ls hl => ?_)
        refine lv_iconst (v := 0) hx hb d_Model_measure_41 (by decide) ?_
        refine lv_istore_n (lv' := [(2, .int 0), (1, .int 1), (0, .ref (ad 0))]) hx hb d_Model_measure_42 rfl hl (by decide) rfl (fun ls hl => ?_)
        exact L43 n 1 0 σ3 hf H locs ls h (lv_sub hl [2, 1, 0] rfl)
      · have hf := ie c1 hf
        refine lv_aload_n hx hb d_Model_measure_8 rfl (lv_at hl 0 rfl) ?_
        refine G_model_distance X h m_f_Model_16 d_Model_measure_9 ?_
        refine lv_iload_n hx hb d_Model_measure_12 rfl (lv_at hl 1 rfl) ?_
        refine lv_iconst (v := (-1)) hx hb d_Model_measure_13 (by decide) ?_
        obtain ⟨g4, hf⟩ := gd_s hf
        refine S_mdistance X h (inb_s g4) d_Model_measure_14 (fun H locs σ5 eσ5 h => ?_)
        have hf := nm_b hf eσ5
        obtain ⟨v6, ev6⟩ : ∃ y : Int32, y = y1 + 1 := ⟨_, rfl⟩
        have hf := nm_b hf ev6
        refine lv_iinc (v := v6) (lv' := [(1, .int v6), (0, .ref (ad 0))]) hx hb d_Model_measure_15 hl (k := 1) rfl (by rw [ev6]; rfl) (by decide) rfl (fun ls hl => ?_)
        refine lv_goto (tgt := 2) hx hb d_Model_measure_18 (by decide) ?_
        exact ih v6 σ5 hf H locs ls h (lv_sub hl [1, 0] rfl)
  unfold f_Model_measure at hf
  refine lv_iconst (v := 0) hx hb d_Model_measure_0 (by decide) ?_
  refine lv_istore_n (lv' := [(1, .int 0), (0, .ref (ad 0))]) hx hb d_Model_measure_1 rfl hl (by decide) rfl (fun ls hl => ?_)
  exact L2 n 0 σ hf H locs ls h (lv_sub hl [1, 0] rfl)
theorem d_Model_wound_0 : decode b_Model_wound 0 = .ok (.aload_n 0, 1) := by decide +kernel
theorem d_Model_wound_1 : decode b_Model_wound 1 = .ok (.dup, 1) := by decide +kernel
theorem d_Model_wound_2 : decode b_Model_wound 2 = .ok (.getfield 84, 3) := by decide +kernel
theorem d_Model_wound_5 : decode b_Model_wound 5 = .ok (.aload_n 0, 1) := by decide +kernel
theorem d_Model_wound_6 : decode b_Model_wound 6 = .ok (.getfield 23, 3) := by decide +kernel
theorem d_Model_wound_9 : decode b_Model_wound 9 = .ok (.iload_n 1, 1) := by decide +kernel
theorem d_Model_wound_10 : decode b_Model_wound 10 = .ok (.iaload, 1) := by decide +kernel
theorem d_Model_wound_11 : decode b_Model_wound 11 = .ok (.iconst 1, 1) := by decide +kernel
theorem d_Model_wound_12 : decode b_Model_wound 12 = .ok (.if_icmp .ne 7, 3) := by decide +kernel
theorem d_Model_wound_15 : decode b_Model_wound 15 = .ok (.iconst 2, 1) := by decide +kernel
theorem d_Model_wound_16 : decode b_Model_wound 16 = .ok (.goto 4, 3) := by decide +kernel
theorem d_Model_wound_19 : decode b_Model_wound 19 = .ok (.iconst 1, 1) := by decide +kernel
theorem d_Model_wound_20 : decode b_Model_wound 20 = .ok (.isub, 1) := by decide +kernel
theorem d_Model_wound_21 : decode b_Model_wound 21 = .ok (.putfield 84, 3) := by decide +kernel
theorem d_Model_wound_24 : decode b_Model_wound 24 = .ok (.aload_n 0, 1) := by decide +kernel
theorem d_Model_wound_25 : decode b_Model_wound 25 = .ok (.getfield 84, 3) := by decide +kernel
theorem d_Model_wound_28 : decode b_Model_wound 28 = .ok (.ifCond .le 4, 3) := by decide +kernel
theorem d_Model_wound_31 : decode b_Model_wound 31 = .ok (.return_, 1) := by decide +kernel
theorem d_Model_wound_32 : decode b_Model_wound 32 = .ok (.aload_n 0, 1) := by decide +kernel
theorem d_Model_wound_33 : decode b_Model_wound 33 = .ok (.iconst 0, 1) := by decide +kernel
theorem d_Model_wound_34 : decode b_Model_wound 34 = .ok (.putfield 84, 3) := by decide +kernel
theorem d_Model_wound_37 : decode b_Model_wound 37 = .ok (.aload_n 0, 1) := by decide +kernel
theorem d_Model_wound_38 : decode b_Model_wound 38 = .ok (.iconst 1, 1) := by decide +kernel
theorem d_Model_wound_39 : decode b_Model_wound 39 = .ok (.putfield 96, 3) := by decide +kernel
theorem d_Model_wound_42 : decode b_Model_wound 42 = .ok (.return_, 1) := by decide +kernel
def f_Model_wound_20 (n : Nat) (s0 : Int32) (s1 : Int32) (σ : St) : Option (Unit × St) := bnd (sI σ 4 (s1 - s0)) (fun σ3 => if (σ3.1 4) ≤ 0 then (bnd (sI σ3 4 0) (fun σ5 => bnd (sI σ5 9 1) (fun σ6 => some ((), σ6)))) else (some ((), σ3)))
def f_Model_wound (n : Nat) (x1 : Int32) (σ : St) : Option (Unit × St) := gd (inb x1 8) (if (σ.2.2 4 x1.toNatClampNeg) = 1 then (f_Model_wound_20 n 2 (σ.1 4) σ) else (f_Model_wound_20 n 1 (σ.1 4) σ))
set_option maxHeartbeats 4000000 in
set_option maxRecDepth 100000 in
theorem c_Model_wound (l : Launch) (D : va_G) (ad : Nat → Nat) (cA : Nat → ClassId) (tz : Nat → Nat) (n : Nat) (x1 : Int32) (σ : St) (r : Unit) (σr : St) (hf : f_Model_wound n x1 σ = some (r, σr)) : Kv l D cA tz (wm ad cA) y_Model_wound (.code y_Model_wound b_Model_wound 2 none :: TB) ({ frames := 0, cells := 0, slots := 0, locals := 0 }) [.ref (ad 0), .int x1] σ σr := by
  refine x_openv (r := r) (own := R_Model) rfl (by decide) (fun p e s m args below meth c A Q X hml hZ hA H locs ls h hl rt => ?_)
  have hx := X.1
  have hb := X.2.1
  have hl : lv_has ls 2 [(0, .ref (ad 0)), (1, .int x1)] := hl
  have L20 : ∀ (s0 : Int32) (s1 : Int32) (σ : St), f_Model_wound_20 n s0 s1 σ = some (r, σr) → ∀ (H : Heap) (locs : List Loc) (ls : Array Slot), WD D A s (wm ad cA σ) H locs → lv_has ls 2 [(0, .ref (ad 0))] → W p l e ({ frames := 0, cells := 0, slots := 0, locals := 0 }) s m args below meth c H locs 0 0 Q (F0 m 20 ls [.int s0, .int s1, .ref (ad 0)]) := by
    intro s0 s1 σ hf H locs ls h hl
    unfold f_Model_wound_20 at hf
    refine lv_isub hx hb d_Model_wound_20 ?_
    refine P_model_life X h m_f_Model_84 d_Model_wound_21 (fun H locs σ3 eσ3 h => ?_)
    have hf := nm_b hf eσ3
    refine lv_aload_n hx hb d_Model_wound_24 rfl (lv_at hl 0 rfl) ?_
    refine G_model_life X h m_f_Model_84 d_Model_wound_25 ?_
    refine lv_if_le (tgt := 32) hx hb d_Model_wound_28 (by decide) (fun c4 => ?_) (fun c4 => ?_)
    · have hf := it c4 hf
      refine lv_aload_n hx hb d_Model_wound_32 rfl (lv_at hl 0 rfl) ?_
      refine lv_iconst (v := 0) hx hb d_Model_wound_33 (by decide) ?_
      refine P_model_life X h m_f_Model_84 d_Model_wound_34 (fun H locs σ5 eσ5 h => ?_)
      have hf := nm_b hf eσ5
      refine lv_aload_n hx hb d_Model_wound_37 rfl (lv_at hl 0 rfl) ?_
      refine lv_iconst (v := 1) hx hb d_Model_wound_38 (by decide) ?_
      refine P_model_state X h m_f_Model_96 d_Model_wound_39 (fun H locs σ6 eσ6 h => ?_)
      have hf := nm_b hf eσ6
      exact rt _ H locs 42 ls hf h d_Model_wound_42
    · have hf := ie c4 hf
      exact rt _ H locs 31 ls hf h d_Model_wound_31
  unfold f_Model_wound at hf
  refine lv_aload_n hx hb d_Model_wound_0 rfl (lv_at hl 0 rfl) ?_
  refine lv_dup hx hb d_Model_wound_1 rfl ?_
  refine G_model_life X h m_f_Model_84 d_Model_wound_2 ?_
  refine lv_aload_n hx hb d_Model_wound_5 rfl (lv_at hl 0 rfl) ?_
  refine G_model_kind X h m_f_Model_23 d_Model_wound_6 ?_
  refine lv_iload_n hx hb d_Model_wound_9 rfl (lv_at hl 1 rfl) ?_
  obtain ⟨g1, hf⟩ := gd_s hf
  refine R_mkind X h (inb_s g1) d_Model_wound_10 ?_
  refine lv_iconst (v := 1) hx hb d_Model_wound_11 (by decide) ?_
  refine lv_icmp_ne (tgt := 19) hx hb d_Model_wound_12 (by decide) (fun c2 => ?_) (fun c2 => ?_)
  · have hf := ie c2 hf
    refine lv_iconst (v := 1) hx hb d_Model_wound_19 (by decide) ?_
    exact L20 1 (σ.1 4) σ hf H locs ls h (lv_sub hl [0] rfl)
  · have hf := it c2 hf
    refine lv_iconst (v := 2) hx hb d_Model_wound_15 (by decide) ?_
    refine lv_goto (tgt := 20) hx hb d_Model_wound_16 (by decide) ?_
    exact L20 2 (σ.1 4) σ hf H locs ls h (lv_sub hl [0] rfl)
theorem d_Model_put_0 : decode b_Model_put 0 = .ok (.aload_n 0, 1) := by decide +kernel
theorem d_Model_put_1 : decode b_Model_put 1 = .ok (.getfield 26, 3) := by decide +kernel
theorem d_Model_put_4 : decode b_Model_put 4 = .ok (.iload_n 1, 1) := by decide +kernel
theorem d_Model_put_5 : decode b_Model_put 5 = .ok (.iload_n 2, 1) := by decide +kernel
theorem d_Model_put_6 : decode b_Model_put 6 = .ok (.iastore, 1) := by decide +kernel
theorem d_Model_put_7 : decode b_Model_put 7 = .ok (.aload_n 0, 1) := by decide +kernel
theorem d_Model_put_8 : decode b_Model_put 8 = .ok (.getfield 29, 3) := by decide +kernel
theorem d_Model_put_11 : decode b_Model_put 11 = .ok (.iload_n 1, 1) := by decide +kernel
theorem d_Model_put_12 : decode b_Model_put 12 = .ok (.iload_n 3, 1) := by decide +kernel
theorem d_Model_put_13 : decode b_Model_put 13 = .ok (.iastore, 1) := by decide +kernel
theorem d_Model_put_14 : decode b_Model_put 14 = .ok (.return_, 1) := by decide +kernel
def f_Model_put (n : Nat) (x1 : Int32) (x2 : Int32) (x3 : Int32) (σ : St) : Option (Unit × St) := gd (inb x1 8) (bnd (sA σ 5 x1.toNatClampNeg x2) (fun σ2 => gd (inb x1 8) (bnd (sA σ2 6 x1.toNatClampNeg x3) (fun σ4 => some ((), σ4)))))
set_option maxHeartbeats 4000000 in
set_option maxRecDepth 100000 in
theorem c_Model_put (l : Launch) (D : va_G) (ad : Nat → Nat) (cA : Nat → ClassId) (tz : Nat → Nat) (n : Nat) (x1 : Int32) (x2 : Int32) (x3 : Int32) (σ : St) (r : Unit) (σr : St) (hf : f_Model_put n x1 x2 x3 σ = some (r, σr)) : Kv l D cA tz (wm ad cA) y_Model_put (.code y_Model_put b_Model_put 4 none :: TB) ({ frames := 0, cells := 0, slots := 0, locals := 0 }) [.ref (ad 0), .int x1, .int x2, .int x3] σ σr := by
  refine x_openv (r := r) (own := R_Model) rfl (by decide) (fun p e s m args below meth c A Q X hml hZ hA H locs ls h hl rt => ?_)
  have hx := X.1
  have hb := X.2.1
  have hl : lv_has ls 4 [(0, .ref (ad 0)), (1, .int x1), (2, .int x2), (3, .int x3)] := hl
  unfold f_Model_put at hf
  refine lv_aload_n hx hb d_Model_put_0 rfl (lv_at hl 0 rfl) ?_
  refine G_model_mx X h m_f_Model_26 d_Model_put_1 ?_
  refine lv_iload_n hx hb d_Model_put_4 rfl (lv_at hl 1 rfl) ?_
  refine lv_iload_n hx hb d_Model_put_5 rfl (lv_at hl 2 rfl) ?_
  obtain ⟨g1, hf⟩ := gd_s hf
  refine S_mmx X h (inb_s g1) d_Model_put_6 (fun H locs σ2 eσ2 h => ?_)
  have hf := nm_b hf eσ2
  refine lv_aload_n hx hb d_Model_put_7 rfl (lv_at hl 0 rfl) ?_
  refine G_model_my X h m_f_Model_29 d_Model_put_8 ?_
  refine lv_iload_n hx hb d_Model_put_11 rfl (lv_at hl 1 rfl) ?_
  refine lv_iload_n hx hb d_Model_put_12 rfl (lv_at hl 3 rfl) ?_
  obtain ⟨g3, hf⟩ := gd_s hf
  refine S_mmy X h (inb_s g3) d_Model_put_13 (fun H locs σ4 eσ4 h => ?_)
  have hf := nm_b hf eσ4
  exact rt _ H locs 14 ls hf h d_Model_put_14

