theorem d_Model_pass_0 : decode b_Model_pass 0 = .ok (.aload_n 0, 1) := by decide +kernel
theorem d_Model_pass_1 : decode b_Model_pass 1 = .ok (.dup, 1) := by decide +kernel
theorem d_Model_pass_2 : decode b_Model_pass 2 = .ok (.getfield 135, 3) := by decide +kernel
theorem d_Model_pass_5 : decode b_Model_pass 5 = .ok (.bipush 10, 2) := by decide +kernel
theorem d_Model_pass_7 : decode b_Model_pass 7 = .ok (.isub, 1) := by decide +kernel
theorem d_Model_pass_8 : decode b_Model_pass 8 = .ok (.putfield 135, 3) := by decide +kernel
theorem d_Model_pass_11 : decode b_Model_pass 11 = .ok (.aload_n 0, 1) := by decide +kernel
theorem d_Model_pass_12 : decode b_Model_pass 12 = .ok (.getfield 135, 3) := by decide +kernel
theorem d_Model_pass_15 : decode b_Model_pass 15 = .ok (.bipush 10, 2) := by decide +kernel
theorem d_Model_pass_17 : decode b_Model_pass 17 = .ok (.if_icmp .ge 168, 3) := by decide +kernel
theorem d_Model_pass_20 : decode b_Model_pass 20 = .ok (.aload_n 0, 1) := by decide +kernel
theorem d_Model_pass_21 : decode b_Model_pass 21 = .ok (.getfield 96, 3) := by decide +kernel
theorem d_Model_pass_24 : decode b_Model_pass 24 = .ok (.ifCond .ne 161, 3) := by decide +kernel
theorem d_Model_pass_27 : decode b_Model_pass 27 = .ok (.aload_n 0, 1) := by decide +kernel
theorem d_Model_pass_28 : decode b_Model_pass 28 = .ok (.dup, 1) := by decide +kernel
theorem d_Model_pass_29 : decode b_Model_pass 29 = .ok (.getfield 99, 3) := by decide +kernel
theorem d_Model_pass_32 : decode b_Model_pass 32 = .ok (.iconst 1, 1) := by decide +kernel
theorem d_Model_pass_33 : decode b_Model_pass 33 = .ok (.iadd, 1) := by decide +kernel
theorem d_Model_pass_34 : decode b_Model_pass 34 = .ok (.putfield 99, 3) := by decide +kernel
theorem d_Model_pass_37 : decode b_Model_pass 37 = .ok (.aload_n 0, 1) := by decide +kernel
theorem d_Model_pass_38 : decode b_Model_pass 38 = .ok (.dup, 1) := by decide +kernel
theorem d_Model_pass_39 : decode b_Model_pass 39 = .ok (.getfield 135, 3) := by decide +kernel
theorem d_Model_pass_42 : decode b_Model_pass 42 = .ok (.aload_n 0, 1) := by decide +kernel
theorem d_Model_pass_43 : decode b_Model_pass 43 = .ok (.getfield 90, 3) := by decide +kernel
theorem d_Model_pass_46 : decode b_Model_pass 46 = .ok (.ifCond .le 8, 3) := by decide +kernel
theorem d_Model_pass_49 : decode b_Model_pass 49 = .ok (.bipush 20, 2) := by decide +kernel
theorem d_Model_pass_51 : decode b_Model_pass 51 = .ok (.goto 5, 3) := by decide +kernel
theorem d_Model_pass_54 : decode b_Model_pass 54 = .ok (.bipush 10, 2) := by decide +kernel
theorem d_Model_pass_56 : decode b_Model_pass 56 = .ok (.iadd, 1) := by decide +kernel
theorem d_Model_pass_57 : decode b_Model_pass 57 = .ok (.putfield 135, 3) := by decide +kernel
theorem d_Model_pass_60 : decode b_Model_pass 60 = .ok (.aload_n 0, 1) := by decide +kernel
theorem d_Model_pass_61 : decode b_Model_pass 61 = .ok (.getfield 90, 3) := by decide +kernel
theorem d_Model_pass_64 : decode b_Model_pass 64 = .ok (.ifCond .le 13, 3) := by decide +kernel
theorem d_Model_pass_67 : decode b_Model_pass 67 = .ok (.aload_n 0, 1) := by decide +kernel
theorem d_Model_pass_68 : decode b_Model_pass 68 = .ok (.dup, 1) := by decide +kernel
theorem d_Model_pass_69 : decode b_Model_pass 69 = .ok (.getfield 90, 3) := by decide +kernel
theorem d_Model_pass_72 : decode b_Model_pass 72 = .ok (.iconst 1, 1) := by decide +kernel
theorem d_Model_pass_73 : decode b_Model_pass 73 = .ok (.isub, 1) := by decide +kernel
theorem d_Model_pass_74 : decode b_Model_pass 74 = .ok (.putfield 90, 3) := by decide +kernel
theorem d_Model_pass_77 : decode b_Model_pass 77 = .ok (.iconst 0, 1) := by decide +kernel
theorem d_Model_pass_78 : decode b_Model_pass 78 = .ok (.istore_n 1, 1) := by decide +kernel
theorem d_Model_pass_79 : decode b_Model_pass 79 = .ok (.iload_n 1, 1) := by decide +kernel
theorem d_Model_pass_80 : decode b_Model_pass 80 = .ok (.aload_n 0, 1) := by decide +kernel
theorem d_Model_pass_81 : decode b_Model_pass 81 = .ok (.getfield 138, 3) := by decide +kernel
theorem d_Model_pass_84 : decode b_Model_pass 84 = .ok (.if_icmp .ge 98, 3) := by decide +kernel
theorem d_Model_pass_87 : decode b_Model_pass 87 = .ok (.aload_n 0, 1) := by decide +kernel
theorem d_Model_pass_88 : decode b_Model_pass 88 = .ok (.getfield 41, 3) := by decide +kernel
theorem d_Model_pass_91 : decode b_Model_pass 91 = .ok (.iload_n 1, 1) := by decide +kernel
theorem d_Model_pass_92 : decode b_Model_pass 92 = .ok (.baload, 1) := by decide +kernel
theorem d_Model_pass_93 : decode b_Model_pass 93 = .ok (.ifCond .eq 6, 3) := by decide +kernel
theorem d_Model_pass_96 : decode b_Model_pass 96 = .ok (.goto 80, 3) := by decide +kernel
theorem d_Model_pass_99 : decode b_Model_pass 99 = .ok (.aload_n 0, 1) := by decide +kernel
theorem d_Model_pass_100 : decode b_Model_pass 100 = .ok (.getfield 35, 3) := by decide +kernel
theorem d_Model_pass_103 : decode b_Model_pass 103 = .ok (.iload_n 1, 1) := by decide +kernel
theorem d_Model_pass_104 : decode b_Model_pass 104 = .ok (.dup2, 1) := by decide +kernel
theorem d_Model_pass_105 : decode b_Model_pass 105 = .ok (.iaload, 1) := by decide +kernel
theorem d_Model_pass_106 : decode b_Model_pass 106 = .ok (.aload_n 0, 1) := by decide +kernel
theorem d_Model_pass_107 : decode b_Model_pass 107 = .ok (.getfield 23, 3) := by decide +kernel
theorem d_Model_pass_110 : decode b_Model_pass 110 = .ok (.iload_n 1, 1) := by decide +kernel
theorem d_Model_pass_111 : decode b_Model_pass 111 = .ok (.iaload, 1) := by decide +kernel
theorem d_Model_pass_112 : decode b_Model_pass 112 = .ok (.ifCond .ne 8, 3) := by decide +kernel
theorem d_Model_pass_115 : decode b_Model_pass 115 = .ok (.bipush 8, 2) := by decide +kernel
theorem d_Model_pass_117 : decode b_Model_pass 117 = .ok (.goto 20, 3) := by decide +kernel
theorem d_Model_pass_120 : decode b_Model_pass 120 = .ok (.aload_n 0, 1) := by decide +kernel
theorem d_Model_pass_121 : decode b_Model_pass 121 = .ok (.getfield 23, 3) := by decide +kernel
theorem d_Model_pass_124 : decode b_Model_pass 124 = .ok (.iload_n 1, 1) := by decide +kernel
theorem d_Model_pass_125 : decode b_Model_pass 125 = .ok (.iaload, 1) := by decide +kernel
theorem d_Model_pass_126 : decode b_Model_pass 126 = .ok (.iconst 1, 1) := by decide +kernel
theorem d_Model_pass_127 : decode b_Model_pass 127 = .ok (.if_icmp .ne 8, 3) := by decide +kernel
theorem d_Model_pass_130 : decode b_Model_pass 130 = .ok (.bipush 6, 2) := by decide +kernel
theorem d_Model_pass_132 : decode b_Model_pass 132 = .ok (.goto 5, 3) := by decide +kernel
theorem d_Model_pass_135 : decode b_Model_pass 135 = .ok (.bipush 14, 2) := by decide +kernel
theorem d_Model_pass_137 : decode b_Model_pass 137 = .ok (.iadd, 1) := by decide +kernel
theorem d_Model_pass_138 : decode b_Model_pass 138 = .ok (.iastore, 1) := by decide +kernel
theorem d_Model_pass_139 : decode b_Model_pass 139 = .ok (.aload_n 0, 1) := by decide +kernel
theorem d_Model_pass_140 : decode b_Model_pass 140 = .ok (.getfield 35, 3) := by decide +kernel
theorem d_Model_pass_143 : decode b_Model_pass 143 = .ok (.iload_n 1, 1) := by decide +kernel
theorem d_Model_pass_144 : decode b_Model_pass 144 = .ok (.iaload, 1) := by decide +kernel
theorem d_Model_pass_145 : decode b_Model_pass 145 = .ok (.bipush 10, 2) := by decide +kernel
theorem d_Model_pass_147 : decode b_Model_pass 147 = .ok (.if_icmp .lt 29, 3) := by decide +kernel
theorem d_Model_pass_150 : decode b_Model_pass 150 = .ok (.aload_n 0, 1) := by decide +kernel
theorem d_Model_pass_151 : decode b_Model_pass 151 = .ok (.getfield 96, 3) := by decide +kernel
theorem d_Model_pass_154 : decode b_Model_pass 154 = .ok (.ifCond .ne 22, 3) := by decide +kernel
theorem d_Model_pass_157 : decode b_Model_pass 157 = .ok (.aload_n 0, 1) := by decide +kernel
theorem d_Model_pass_158 : decode b_Model_pass 158 = .ok (.getfield 35, 3) := by decide +kernel
theorem d_Model_pass_161 : decode b_Model_pass 161 = .ok (.iload_n 1, 1) := by decide +kernel
theorem d_Model_pass_162 : decode b_Model_pass 162 = .ok (.dup2, 1) := by decide +kernel
theorem d_Model_pass_163 : decode b_Model_pass 163 = .ok (.iaload, 1) := by decide +kernel
theorem d_Model_pass_164 : decode b_Model_pass 164 = .ok (.bipush 10, 2) := by decide +kernel
theorem d_Model_pass_166 : decode b_Model_pass 166 = .ok (.isub, 1) := by decide +kernel
theorem d_Model_pass_167 : decode b_Model_pass 167 = .ok (.iastore, 1) := by decide +kernel
theorem d_Model_pass_168 : decode b_Model_pass 168 = .ok (.aload_n 0, 1) := by decide +kernel
theorem d_Model_pass_169 : decode b_Model_pass 169 = .ok (.iload_n 1, 1) := by decide +kernel
theorem d_Model_pass_170 : decode b_Model_pass 170 = .ok (.invokevirtual 188, 3) := by decide +kernel
theorem d_Model_pass_173 : decode b_Model_pass 173 = .ok (.goto (-34), 3) := by decide +kernel
theorem d_Model_pass_176 : decode b_Model_pass 176 = .ok (.iinc 1 1, 3) := by decide +kernel
theorem d_Model_pass_179 : decode b_Model_pass 179 = .ok (.goto (-100), 3) := by decide +kernel
theorem d_Model_pass_182 : decode b_Model_pass 182 = .ok (.goto (-171), 3) := by decide +kernel
theorem d_Model_pass_185 : decode b_Model_pass 185 = .ok (.return_, 1) := by decide +kernel
def f_Model_pass_139 (n : Nat) (k11 : St → Option (Unit × St)) (k79 : Int32 → St → Option (Unit × St)) : Nat → Int32 → St → Option (Unit × St)
  | 0, _, _ => none
  | j + 1, y1, σ => gd (inb y1 8) (if (σ.2.2 8 y1.toNatClampNeg) < 10 then (bnd (y1 + 1) (fun v22 => k79 v22 σ)) else (if (σ.1 9) = 0 then (gd (inb y1 8) (gd (inb y1 8) (bnd (sA σ 8 y1.toNatClampNeg ((σ.2.2 8 y1.toNatClampNeg) - 10)) (fun σ27 => bd (f_Model_acts n y1 σ27) (fun _ σ29 => f_Model_pass_139 n k11 k79 j y1 σ29))))) else (bnd (y1 + 1) (fun v24 => k79 v24 σ))))
theorem f_Model_pass_139_s (n : Nat) (k11 : St → Option (Unit × St)) (k79 : Int32 → St → Option (Unit × St)) (j : Nat) (y1 : Int32) (σ : St) : f_Model_pass_139 n k11 k79 (j + 1) y1 σ = (gd (inb y1 8) (if (σ.2.2 8 y1.toNatClampNeg) < 10 then (bnd (y1 + 1) (fun v22 => k79 v22 σ)) else (if (σ.1 9) = 0 then (gd (inb y1 8) (gd (inb y1 8) (bnd (sA σ 8 y1.toNatClampNeg ((σ.2.2 8 y1.toNatClampNeg) - 10)) (fun σ27 => bd (f_Model_acts n y1 σ27) (fun _ σ29 => f_Model_pass_139 n k11 k79 j y1 σ29))))) else (bnd (y1 + 1) (fun v24 => k79 v24 σ))))) := rfl
def f_Model_pass_137 (n : Nat) (k11 : St → Option (Unit × St)) (k79 : Int32 → St → Option (Unit × St)) (y1 : Int32) (s0 : Int32) (s1 : Int32) (s2 : Int32) (σ : St) : Option (Unit × St) := gd (inb s2 8) (bnd (sA σ 8 s2.toNatClampNeg (s1 + s0)) (fun σ19 => f_Model_pass_139 n k11 k79 n y1 σ19))
def f_Model_pass_79 (n : Nat) (k11 : St → Option (Unit × St)) : Nat → Int32 → St → Option (Unit × St)
  | 0, _, _ => none
  | j + 1, y1, σ => if (σ.1 1) ≤ y1 then (k11 σ) else (gd (inb y1 8) (if (σ.2.2 10 y1.toNatClampNeg) = 0 then (gd (inb y1 8) (gd (inb y1 8) (if (σ.2.2 4 y1.toNatClampNeg) = 0 then (f_Model_pass_137 n k11 (fun y1 σ => f_Model_pass_79 n k11 j y1 σ) y1 8 (σ.2.2 8 y1.toNatClampNeg) y1 σ) else (gd (inb y1 8) (if (σ.2.2 4 y1.toNatClampNeg) = 1 then (f_Model_pass_137 n k11 (fun y1 σ => f_Model_pass_79 n k11 j y1 σ) y1 6 (σ.2.2 8 y1.toNatClampNeg) y1 σ) else (f_Model_pass_137 n k11 (fun y1 σ => f_Model_pass_79 n k11 j y1 σ) y1 14 (σ.2.2 8 y1.toNatClampNeg) y1 σ)))))) else (bnd (y1 + 1) (fun v17 => f_Model_pass_79 n k11 j v17 σ))))
theorem f_Model_pass_79_s (n : Nat) (k11 : St → Option (Unit × St)) (j : Nat) (y1 : Int32) (σ : St) : f_Model_pass_79 n k11 (j + 1) y1 σ = (if (σ.1 1) ≤ y1 then (k11 σ) else (gd (inb y1 8) (if (σ.2.2 10 y1.toNatClampNeg) = 0 then (gd (inb y1 8) (gd (inb y1 8) (if (σ.2.2 4 y1.toNatClampNeg) = 0 then (f_Model_pass_137 n k11 (fun y1 σ => f_Model_pass_79 n k11 j y1 σ) y1 8 (σ.2.2 8 y1.toNatClampNeg) y1 σ) else (gd (inb y1 8) (if (σ.2.2 4 y1.toNatClampNeg) = 1 then (f_Model_pass_137 n k11 (fun y1 σ => f_Model_pass_79 n k11 j y1 σ) y1 6 (σ.2.2 8 y1.toNatClampNeg) y1 σ) else (f_Model_pass_137 n k11 (fun y1 σ => f_Model_pass_79 n k11 j y1 σ) y1 14 (σ.2.2 8 y1.toNatClampNeg) y1 σ)))))) else (bnd (y1 + 1) (fun v17 => f_Model_pass_79 n k11 j v17 σ))))) := rfl
def f_Model_pass_56 (n : Nat) (k11 : St → Option (Unit × St)) (s0 : Int32) (s1 : Int32) (σ : St) : Option (Unit × St) := bnd (sI σ 6 (s1 + s0)) (fun σ6 => if (σ6.1 7) ≤ 0 then (f_Model_pass_79 n k11 n 0 σ6) else (bnd (sI σ6 7 ((σ6.1 7) - 1)) (fun σ8 => f_Model_pass_79 n k11 n 0 σ8)))
def f_Model_pass_11 (n : Nat) : Nat → St → Option (Unit × St)
  | 0, _ => none
  | j + 1, σ => if 10 ≤ (σ.1 6) then (some ((), σ)) else (if (σ.1 9) = 0 then (bnd (sI σ 10 ((σ.1 10) + 1)) (fun σ4 => if (σ4.1 7) ≤ 0 then (f_Model_pass_56 n (fun  σ => f_Model_pass_11 n j  σ) 10 (σ4.1 6) σ4) else (f_Model_pass_56 n (fun  σ => f_Model_pass_11 n j  σ) 20 (σ4.1 6) σ4))) else (some ((), σ)))
theorem f_Model_pass_11_s (n : Nat) (j : Nat) (σ : St) : f_Model_pass_11 n (j + 1) σ = (if 10 ≤ (σ.1 6) then (some ((), σ)) else (if (σ.1 9) = 0 then (bnd (sI σ 10 ((σ.1 10) + 1)) (fun σ4 => if (σ4.1 7) ≤ 0 then (f_Model_pass_56 n (fun  σ => f_Model_pass_11 n j  σ) 10 (σ4.1 6) σ4) else (f_Model_pass_56 n (fun  σ => f_Model_pass_11 n j  σ) 20 (σ4.1 6) σ4))) else (some ((), σ)))) := rfl
def f_Model_pass (n : Nat) (σ : St) : Option (Unit × St) := bnd (sI σ 6 ((σ.1 6) - 10)) (fun σ1 => f_Model_pass_11 n n σ1)
set_option maxHeartbeats 4000000 in
set_option maxRecDepth 100000 in
theorem c_Model_pass (l : Launch) (D : va_G) (ad : Nat → Nat) (cA : Nat → ClassId) (tz : Nat → Nat) (n : Nat) (σ : St) (r : Unit) (σr : St) (hf : f_Model_pass n σ = some (r, σr)) : Kv l D cA tz (wm ad cA) y_Model_pass (.code y_Model_pass b_Model_pass 2 none :: TB) ({ frames := 4, cells := 0, slots := 0, locals := 103 }) [.ref (ad 0)] σ σr := by
  refine x_openv (r := r) (own := R_Model) rfl (by decide) (fun p e s m args below meth c A Q X hml hZ hA H locs ls h hl rt => ?_)
  have hx := X.1
  have hb := X.2.1
  have hl : lv_has ls 2 [(0, .ref (ad 0))] := hl
  have L139 : ∀ (k11 : St → Option (Unit × St)), (∀ (σ : St), k11 σ = some (r, σr) → ∀ (H : Heap) (locs : List Loc) (ls : Array Slot), WD D A s (wm ad cA σ) H locs → lv_has ls 2 [(0, .ref (ad 0))] → W p l e ({ frames := 4, cells := 0, slots := 0, locals := 103 }) s m args below meth c H locs 0 0 Q (F0 m 11 ls [])) → ∀ (k79 : Int32 → St → Option (Unit × St)), (∀ (y1 : Int32) (σ : St), k79 y1 σ = some (r, σr) → ∀ (H : Heap) (locs : List Loc) (ls : Array Slot), WD D A s (wm ad cA σ) H locs → lv_has ls 2 [(0, .ref (ad 0)), (1, .int y1)] → W p l e ({ frames := 4, cells := 0, slots := 0, locals := 103 }) s m args below meth c H locs 0 0 Q (F0 m 79 ls [])) → ∀ j : Nat, ∀ (y1 : Int32) (σ : St), f_Model_pass_139 n k11 k79 j y1 σ = some (r, σr) → ∀ (H : Heap) (locs : List Loc) (ls : Array Slot), WD D A s (wm ad cA σ) H locs → lv_has ls 2 [(0, .ref (ad 0)), (1, .int y1)] → W p l e ({ frames := 4, cells := 0, slots := 0, locals := 103 }) s m args below meth c H locs 0 0 Q (F0 m 139 ls []) := by
    intro k11 K11 k79 K79
    intro j
    induction j with
    | zero => intro y1 σ hf; exact absurd hf (fun z => by cases z)
    | succ j ih =>
      intro y1 σ hf H locs ls h hl
      have hf := us (f_Model_pass_139_s n k11 k79 j y1 σ) hf
      refine lv_aload_n hx hb d_Model_pass_139 rfl (lv_at hl 0 rfl) ?_
      refine G_model_energy X h m_f_Model_35 d_Model_pass_140 ?_
      refine lv_iload_n hx hb d_Model_pass_143 rfl (lv_at hl 1 rfl) ?_
      obtain ⟨g20, hf⟩ := gd_s hf
      refine R_menergy X h (inb_s g20) d_Model_pass_144 ?_
      refine lv_bipush (v := 10) hx hb d_Model_pass_145 (by decide) ?_
      refine lv_icmp_lt (tgt := 176) hx hb d_Model_pass_147 (by decide) (fun c21 => ?_) (fun c21 => ?_)
      · have hf := it c21 hf
        obtain ⟨v22, ev22⟩ : ∃ y : Int32, y = y1 + 1 := ⟨_, rfl⟩
        have hf := nm_b hf ev22
        refine lv_iinc (v := v22) (lv' := [(1, .int v22), (0, .ref (ad 0))]) hx hb d_Model_pass_176 hl (k := 1) rfl (by rw [ev22]; rfl) (by decide) rfl (fun ls hl => ?_)
        refine lv_goto (tgt := 79) hx hb d_Model_pass_179 (by decide) ?_
        exact K79 v22 σ hf H locs ls h (lv_sub hl [1, 0] rfl)
      · have hf := ie c21 hf
        refine lv_aload_n hx hb d_Model_pass_150 rfl (lv_at hl 0 rfl) ?_
        refine G_model_state X h m_f_Model_96 d_Model_pass_151 ?_
        refine lv_if_ne (tgt := 176) hx hb d_Model_pass_154 (by decide) (fun c23 => ?_) (fun c23 => ?_)
        · have hf := ie c23 hf
          obtain ⟨v24, ev24⟩ : ∃ y : Int32, y = y1 + 1 := ⟨_, rfl⟩
          have hf := nm_b hf ev24
          refine lv_iinc (v := v24) (lv' := [(1, .int v24), (0, .ref (ad 0))]) hx hb d_Model_pass_176 hl (k := 1) rfl (by rw [ev24]; rfl) (by decide) rfl (fun ls hl => ?_)
          refine lv_goto (tgt := 79) hx hb d_Model_pass_179 (by decide) ?_
          exact K79 v24 σ hf H locs ls h (lv_sub hl [1, 0] rfl)
        · have hf := it c23 hf
          refine lv_aload_n hx hb d_Model_pass_157 rfl (lv_at hl 0 rfl) ?_
          refine G_model_energy X h m_f_Model_35 d_Model_pass_158 ?_
          refine lv_iload_n hx hb d_Model_pass_161 rfl (lv_at hl 1 rfl) ?_
          refine lv_dup2_11 hx hb d_Model_pass_162 rfl rfl ?_
          obtain ⟨g25, hf⟩ := gd_s hf
          refine R_menergy X h (inb_s g25) d_Model_pass_163 ?_
          refine lv_bipush (v := 10) hx hb d_Model_pass_164 (by decide) ?_
          refine lv_isub hx hb d_Model_pass_166 ?_
          obtain ⟨g26, hf⟩ := gd_s hf
          refine S_menergy X h (inb_s g26) d_Model_pass_167 (fun H locs σ27 eσ27 h => ?_)
          have hf := nm_b hf eσ27
          refine lv_aload_n hx hb d_Model_pass_168 rfl (lv_at hl 0 rfl) ?_
          refine lv_iload_n hx hb d_Model_pass_169 rfl (lv_at hl 1 rfl) ?_
          obtain ⟨r28, σ29, h30, hf⟩ := bd_s hf
          refine x_Vv (As := [.int y1]) (rest := []) X hml hl.1 hZ hA h (c_Model_acts l D ad cA tz n y1 σ27 r28 σ29 h30) k_Model_acts m_m_Model_188 kd_Model_acts ⟨rfl, rfl, Nat.le_of_ble_eq_true rfl, Nat.le_of_ble_eq_true rfl⟩ 0 rfl rfl rfl rfl rfl (Nat.le_of_ble_eq_true rfl) d_Model_pass_170 (fun H locs h => ?_)
          refine lv_goto (tgt := 139) hx hb d_Model_pass_173 (by decide) ?_
          exact ih y1 σ29 hf H locs ls h (lv_sub hl [0, 1] rfl)
  have L137 : ∀ (k11 : St → Option (Unit × St)), (∀ (σ : St), k11 σ = some (r, σr) → ∀ (H : Heap) (locs : List Loc) (ls : Array Slot), WD D A s (wm ad cA σ) H locs → lv_has ls 2 [(0, .ref (ad 0))] → W p l e ({ frames := 4, cells := 0, slots := 0, locals := 103 }) s m args below meth c H locs 0 0 Q (F0 m 11 ls [])) → ∀ (k79 : Int32 → St → Option (Unit × St)), (∀ (y1 : Int32) (σ : St), k79 y1 σ = some (r, σr) → ∀ (H : Heap) (locs : List Loc) (ls : Array Slot), WD D A s (wm ad cA σ) H locs → lv_has ls 2 [(0, .ref (ad 0)), (1, .int y1)] → W p l e ({ frames := 4, cells := 0, slots := 0, locals := 103 }) s m args below meth c H locs 0 0 Q (F0 m 79 ls [])) → ∀ (y1 : Int32) (s0 : Int32) (s1 : Int32) (s2 : Int32) (σ : St), f_Model_pass_137 n k11 k79 y1 s0 s1 s2 σ = some (r, σr) → ∀ (H : Heap) (locs : List Loc) (ls : Array Slot), WD D A s (wm ad cA σ) H locs → lv_has ls 2 [(0, .ref (ad 0)), (1, .int y1)] → W p l e ({ frames := 4, cells := 0, slots := 0, locals := 103 }) s m args below meth c H locs 0 0 Q (F0 m 137 ls [.int s0, .int s1, .int s2, .ref (ad 9)]) := by
    intro k11 K11 k79 K79
    intro y1 s0 s1 s2 σ hf H locs ls h hl
    unfold f_Model_pass_137 at hf
    refine lv_iadd hx hb d_Model_pass_137 ?_
    obtain ⟨g18, hf⟩ := gd_s hf
    refine S_menergy X h (inb_s g18) d_Model_pass_138 (fun H locs σ19 eσ19 h => ?_)
    have hf := nm_b hf eσ19
    exact L139 k11 K11 k79 K79 n y1 σ19 hf H locs ls h (lv_sub hl [0, 1] rfl)
  have L79 : ∀ (k11 : St → Option (Unit × St)), (∀ (σ : St), k11 σ = some (r, σr) → ∀ (H : Heap) (locs : List Loc) (ls : Array Slot), WD D A s (wm ad cA σ) H locs → lv_has ls 2 [(0, .ref (ad 0))] → W p l e ({ frames := 4, cells := 0, slots := 0, locals := 103 }) s m args below meth c H locs 0 0 Q (F0 m 11 ls [])) → ∀ j : Nat, ∀ (y1 : Int32) (σ : St), f_Model_pass_79 n k11 j y1 σ = some (r, σr) → ∀ (H : Heap) (locs : List Loc) (ls : Array Slot), WD D A s (wm ad cA σ) H locs → lv_has ls 2 [(0, .ref (ad 0)), (1, .int y1)] → W p l e ({ frames := 4, cells := 0, slots := 0, locals := 103 }) s m args below meth c H locs 0 0 Q (F0 m 79 ls []) := by
    intro k11 K11
    intro j
    induction j with
    | zero => intro y1 σ hf; exact absurd hf (fun z => by cases z)
    | succ j ih =>
      intro y1 σ hf H locs ls h hl
      have hf := us (f_Model_pass_79_s n k11 j y1 σ) hf
      refine lv_iload_n hx hb d_Model_pass_79 rfl (lv_at hl 1 rfl) ?_
      refine lv_aload_n hx hb d_Model_pass_80 rfl (lv_at hl 0 rfl) ?_
      refine G_model_monsters X h m_f_Model_138 d_Model_pass_81 ?_
      refine lv_icmp_ge (tgt := 182) hx hb d_Model_pass_84 (by decide) (fun c9 => ?_) (fun c9 => ?_)
      · have hf := it c9 hf
        refine lv_goto (tgt := 11) hx hb d_Model_pass_182 (by decide) ?_
        exact K11 σ hf H locs ls h (lv_sub hl [0] rfl)
      · have hf := ie c9 hf
        refine lv_aload_n hx hb d_Model_pass_87 rfl (lv_at hl 0 rfl) ?_
        refine G_model_gone X h m_f_Model_41 d_Model_pass_88 ?_
        refine lv_iload_n hx hb d_Model_pass_91 rfl (lv_at hl 1 rfl) ?_
        obtain ⟨g10, hf⟩ := gd_s hf
        refine R_mgone X h (inb_s g10) d_Model_pass_92 ?_
        refine lv_if_eq (tgt := 99) hx hb d_Model_pass_93 (by decide) (fun c11 => ?_) (fun c11 => ?_)
        · have hf := it c11 hf
          refine lv_aload_n hx hb d_Model_pass_99 rfl (lv_at hl 0 rfl) ?_
          refine G_model_energy X h m_f_Model_35 d_Model_pass_100 ?_
          refine lv_iload_n hx hb d_Model_pass_103 rfl (lv_at hl 1 rfl) ?_
          refine lv_dup2_11 hx hb d_Model_pass_104 rfl rfl ?_
          obtain ⟨g12, hf⟩ := gd_s hf
          refine R_menergy X h (inb_s g12) d_Model_pass_105 ?_
          refine lv_aload_n hx hb d_Model_pass_106 rfl (lv_at hl 0 rfl) ?_
          refine G_model_kind X h m_f_Model_23 d_Model_pass_107 ?_
          refine lv_iload_n hx hb d_Model_pass_110 rfl (lv_at hl 1 rfl) ?_
          obtain ⟨g13, hf⟩ := gd_s hf
          refine R_mkind X h (inb_s g13) d_Model_pass_111 ?_
          refine lv_if_ne (tgt := 120) hx hb d_Model_pass_112 (by decide) (fun c14 => ?_) (fun c14 => ?_)
          · have hf := ie c14 hf
            refine lv_aload_n hx hb d_Model_pass_120 rfl (lv_at hl 0 rfl) ?_
            refine G_model_kind X h m_f_Model_23 d_Model_pass_121 ?_
            refine lv_iload_n hx hb d_Model_pass_124 rfl (lv_at hl 1 rfl) ?_
            obtain ⟨g15, hf⟩ := gd_s hf
            refine R_mkind X h (inb_s g15) d_Model_pass_125 ?_
            refine lv_iconst (v := 1) hx hb d_Model_pass_126 (by decide) ?_
            refine lv_icmp_ne (tgt := 135) hx hb d_Model_pass_127 (by decide) (fun c16 => ?_) (fun c16 => ?_)
            · have hf := ie c16 hf
              refine lv_bipush (v := 14) hx hb d_Model_pass_135 (by decide) ?_
              exact L137 k11 K11 (fun y1 σ => f_Model_pass_79 n k11 j y1 σ) ih y1 14 (σ.2.2 8 y1.toNatClampNeg) y1 σ hf H locs ls h (lv_sub hl [0, 1] rfl)
            · have hf := it c16 hf
              refine lv_bipush (v := 6) hx hb d_Model_pass_130 (by decide) ?_
              refine lv_goto (tgt := 137) hx hb d_Model_pass_132 (by decide) ?_
              exact L137 k11 K11 (fun y1 σ => f_Model_pass_79 n k11 j y1 σ) ih y1 6 (σ.2.2 8 y1.toNatClampNeg) y1 σ hf H locs ls h (lv_sub hl [0, 1] rfl)
          · have hf := it c14 hf
            refine lv_bipush (v := 8) hx hb d_Model_pass_115 (by decide) ?_
            refine lv_goto (tgt := 137) hx hb d_Model_pass_117 (by decide) ?_
            exact L137 k11 K11 (fun y1 σ => f_Model_pass_79 n k11 j y1 σ) ih y1 8 (σ.2.2 8 y1.toNatClampNeg) y1 σ hf H locs ls h (lv_sub hl [0, 1] rfl)
        · have hf := ie c11 hf
          refine lv_goto (tgt := 176) hx hb d_Model_pass_96 (by decide) ?_
          obtain ⟨v17, ev17⟩ : ∃ y : Int32, y = y1 + 1 := ⟨_, rfl⟩
          have hf := nm_b hf ev17
          refine lv_iinc (v := v17) (lv' := [(1, .int v17), (0, .ref (ad 0))]) hx hb d_Model_pass_176 hl (k := 1) rfl (by rw [ev17]; rfl) (by decide) rfl (fun ls hl => ?_)
          refine lv_goto (tgt := 79) hx hb d_Model_pass_179 (by decide) ?_
          exact ih v17 σ hf H locs ls h (lv_sub hl [1, 0] rfl)
  have L56 : ∀ (k11 : St → Option (Unit × St)), (∀ (σ : St), k11 σ = some (r, σr) → ∀ (H : Heap) (locs : List Loc) (ls : Array Slot), WD D A s (wm ad cA σ) H locs → lv_has ls 2 [(0, .ref (ad 0))] → W p l e ({ frames := 4, cells := 0, slots := 0, locals := 103 }) s m args below meth c H locs 0 0 Q (F0 m 11 ls [])) → ∀ (s0 : Int32) (s1 : Int32) (σ : St), f_Model_pass_56 n k11 s0 s1 σ = some (r, σr) → ∀ (H : Heap) (locs : List Loc) (ls : Array Slot), WD D A s (wm ad cA σ) H locs → lv_has ls 2 [(0, .ref (ad 0))] → W p l e ({ frames := 4, cells := 0, slots := 0, locals := 103 }) s m args below meth c H locs 0 0 Q (F0 m 56 ls [.int s0, .int s1, .ref (ad 0)]) := by
    intro k11 K11
    intro s0 s1 σ hf H locs ls h hl
    unfold f_Model_pass_56 at hf
    refine lv_iadd hx hb d_Model_pass_56 ?_
    refine P_model_power X h m_f_Model_135 d_Model_pass_57 (fun H locs σ6 eσ6 h => ?_)
    have hf := nm_b hf eσ6
    refine lv_aload_n hx hb d_Model_pass_60 rfl (lv_at hl 0 rfl) ?_
    refine G_model_haste X h m_f_Model_90 d_Model_pass_61 ?_
    refine lv_if_le (tgt := 77) hx hb d_Model_pass_64 (by decide) (fun c7 => ?_) (fun c7 => ?_)
    · have hf := it c7 hf
      refine lv_iconst (v := 0) hx hb d_Model_pass_77 (by decide) ?_
      refine lv_istore_n (lv' := [(1, .int 0), (0, .ref (ad 0))]) hx hb d_Model_pass_78 rfl hl (by decide) rfl (fun ls hl => ?_)
      exact L79 k11 K11 n 0 σ6 hf H locs ls h (lv_sub hl [1, 0] rfl)
    · have hf := ie c7 hf
      refine lv_aload_n hx hb d_Model_pass_67 rfl (lv_at hl 0 rfl) ?_
      refine lv_dup hx hb d_Model_pass_68 rfl ?_
      refine G_model_haste X h m_f_Model_90 d_Model_pass_69 ?_
      refine lv_iconst (v := 1) hx hb d_Model_pass_72 (by decide) ?_
      refine lv_isub hx hb d_Model_pass_73 ?_
      refine P_model_haste X h m_f_Model_90 d_Model_pass_74 (fun H locs σ8 eσ8 h => ?_)
      have hf := nm_b hf eσ8
      refine lv_iconst (v := 0) hx hb d_Model_pass_77 (by decide) ?_
      refine lv_istore_n (lv' := [(1, .int 0), (0, .ref (ad 0))]) hx hb d_Model_pass_78 rfl hl (by decide) rfl (fun ls hl => ?_)
      exact L79 k11 K11 n 0 σ8 hf H locs ls h (lv_sub hl [1, 0] rfl)
  have L11 : ∀ j : Nat, ∀ (σ : St), f_Model_pass_11 n j σ = some (r, σr) → ∀ (H : Heap) (locs : List Loc) (ls : Array Slot), WD D A s (wm ad cA σ) H locs → lv_has ls 2 [(0, .ref (ad 0))] → W p l e ({ frames := 4, cells := 0, slots := 0, locals := 103 }) s m args below meth c H locs 0 0 Q (F0 m 11 ls []) := by
    intro j
    induction j with
    | zero => intro σ hf; exact absurd hf (fun z => by cases z)
    | succ j ih =>
      intro σ hf H locs ls h hl
      have hf := us (f_Model_pass_11_s n j σ) hf
      refine lv_aload_n hx hb d_Model_pass_11 rfl (lv_at hl 0 rfl) ?_
      refine G_model_power X h m_f_Model_135 d_Model_pass_12 ?_
      refine lv_bipush (v := 10) hx hb d_Model_pass_15 (by decide) ?_
      refine lv_icmp_ge (tgt := 185) hx hb d_Model_pass_17 (by decide) (fun c2 => ?_) (fun c2 => ?_)
      · have hf := it c2 hf
        exact rt _ H locs 185 ls hf h d_Model_pass_185
      · have hf := ie c2 hf
        refine lv_aload_n hx hb d_Model_pass_20 rfl (lv_at hl 0 rfl) ?_
        refine G_model_state X h m_f_Model_96 d_Model_pass_21 ?_
        refine lv_if_ne (tgt := 185) hx hb d_Model_pass_24 (by decide) (fun c3 => ?_) (fun c3 => ?_)
        · have hf := ie c3 hf
          exact rt _ H locs 185 ls hf h d_Model_pass_185
        · have hf := it c3 hf
          refine lv_aload_n hx hb d_Model_pass_27 rfl (lv_at hl 0 rfl) ?_
          refine lv_dup hx hb d_Model_pass_28 rfl ?_
          refine G_model_ticks X h m_f_Model_99 d_Model_pass_29 ?_
          refine lv_iconst (v := 1) hx hb d_Model_pass_32 (by decide) ?_
          refine lv_iadd hx hb d_Model_pass_33 ?_
          refine P_model_ticks X h m_f_Model_99 d_Model_pass_34 (fun H locs σ4 eσ4 h => ?_)
          have hf := nm_b hf eσ4
          refine lv_aload_n hx hb d_Model_pass_37 rfl (lv_at hl 0 rfl) ?_
          refine lv_dup hx hb d_Model_pass_38 rfl ?_
          refine G_model_power X h m_f_Model_135 d_Model_pass_39 ?_
          refine lv_aload_n hx hb d_Model_pass_42 rfl (lv_at hl 0 rfl) ?_
          refine G_model_haste X h m_f_Model_90 d_Model_pass_43 ?_
          refine lv_if_le (tgt := 54) hx hb d_Model_pass_46 (by decide) (fun c5 => ?_) (fun c5 => ?_)
          · have hf := it c5 hf
            refine lv_bipush (v := 10) hx hb d_Model_pass_54 (by decide) ?_
            exact L56 (fun  σ => f_Model_pass_11 n j  σ) ih 10 (σ4.1 6) σ4 hf H locs ls h (lv_sub hl [0] rfl)
          · have hf := ie c5 hf
            refine lv_bipush (v := 20) hx hb d_Model_pass_49 (by decide) ?_
            refine lv_goto (tgt := 56) hx hb d_Model_pass_51 (by decide) ?_
            exact L56 (fun  σ => f_Model_pass_11 n j  σ) ih 20 (σ4.1 6) σ4 hf H locs ls h (lv_sub hl [0] rfl)
  unfold f_Model_pass at hf
  refine lv_aload_n hx hb d_Model_pass_0 rfl (lv_at hl 0 rfl) ?_
  refine lv_dup hx hb d_Model_pass_1 rfl ?_
  refine G_model_power X h m_f_Model_135 d_Model_pass_2 ?_
  refine lv_bipush (v := 10) hx hb d_Model_pass_5 (by decide) ?_
  refine lv_isub hx hb d_Model_pass_7 ?_
  refine P_model_power X h m_f_Model_135 d_Model_pass_8 (fun H locs σ1 eσ1 h => ?_)
  have hf := nm_b hf eσ1
  exact L11 n σ1 hf H locs ls h (lv_sub hl [0] rfl)
theorem d_Model_does_0 : decode b_Model_does 0 = .ok (.iload_n 1, 1) := by decide +kernel
theorem d_Model_does_1 : decode b_Model_does 1 = .ok (.bipush 62, 2) := by decide +kernel
theorem d_Model_does_3 : decode b_Model_does 3 = .ok (.if_icmp .ne 53, 3) := by decide +kernel
theorem d_Model_does_6 : decode b_Model_does 6 = .ok (.aload_n 0, 1) := by decide +kernel
theorem d_Model_does_7 : decode b_Model_does 7 = .ok (.getfield 7, 3) := by decide +kernel
theorem d_Model_does_10 : decode b_Model_does 10 = .ok (.bipush 12, 2) := by decide +kernel
theorem d_Model_does_12 : decode b_Model_does 12 = .ok (.aload_n 0, 1) := by decide +kernel
theorem d_Model_does_13 : decode b_Model_does 13 = .ok (.getfield 132, 3) := by decide +kernel
theorem d_Model_does_16 : decode b_Model_does 16 = .ok (.imul, 1) := by decide +kernel
theorem d_Model_does_17 : decode b_Model_does 17 = .ok (.aload_n 0, 1) := by decide +kernel
theorem d_Model_does_18 : decode b_Model_does 18 = .ok (.getfield 129, 3) := by decide +kernel
theorem d_Model_does_21 : decode b_Model_does 21 = .ok (.iadd, 1) := by decide +kernel
theorem d_Model_does_22 : decode b_Model_does 22 = .ok (.iaload, 1) := by decide +kernel
theorem d_Model_does_23 : decode b_Model_does 23 = .ok (.iconst 2, 1) := by decide +kernel
theorem d_Model_does_24 : decode b_Model_does 24 = .ok (.if_icmp .eq 5, 3) := by decide +kernel
theorem d_Model_does_27 : decode b_Model_does 27 = .ok (.iconst 0, 1) := by decide +kernel
theorem d_Model_does_28 : decode b_Model_does 28 = .ok (.ireturn, 1) := by decide +kernel
theorem d_Model_does_29 : decode b_Model_does 29 = .ok (.aload_n 0, 1) := by decide +kernel
theorem d_Model_does_30 : decode b_Model_does 30 = .ok (.getfield 120, 3) := by decide +kernel
theorem d_Model_does_33 : decode b_Model_does 33 = .ok (.iconst 3, 1) := by decide +kernel
theorem d_Model_does_34 : decode b_Model_does 34 = .ok (.if_icmp .ne 10, 3) := by decide +kernel
theorem d_Model_does_37 : decode b_Model_does 37 = .ok (.aload_n 0, 1) := by decide +kernel
theorem d_Model_does_38 : decode b_Model_does 38 = .ok (.iconst 2, 1) := by decide +kernel
theorem d_Model_does_39 : decode b_Model_does 39 = .ok (.putfield 96, 3) := by decide +kernel
theorem d_Model_does_42 : decode b_Model_does 42 = .ok (.iconst 4, 1) := by decide +kernel
theorem d_Model_does_43 : decode b_Model_does 43 = .ok (.ireturn, 1) := by decide +kernel
theorem d_Model_does_44 : decode b_Model_does 44 = .ok (.aload_n 0, 1) := by decide +kernel
theorem d_Model_does_45 : decode b_Model_does 45 = .ok (.aload_n 0, 1) := by decide +kernel
theorem d_Model_does_46 : decode b_Model_does 46 = .ok (.getfield 120, 3) := by decide +kernel
theorem d_Model_does_49 : decode b_Model_does 49 = .ok (.iconst 1, 1) := by decide +kernel
theorem d_Model_does_50 : decode b_Model_does 50 = .ok (.iadd, 1) := by decide +kernel
theorem d_Model_does_51 : decode b_Model_does 51 = .ok (.invokevirtual 108, 3) := by decide +kernel
theorem d_Model_does_54 : decode b_Model_does 54 = .ok (.iconst 1, 1) := by decide +kernel
theorem d_Model_does_55 : decode b_Model_does 55 = .ok (.ireturn, 1) := by decide +kernel
theorem d_Model_does_56 : decode b_Model_does 56 = .ok (.aload_n 0, 1) := by decide +kernel
theorem d_Model_does_57 : decode b_Model_does 57 = .ok (.getfield 102, 3) := by decide +kernel
theorem d_Model_does_60 : decode b_Model_does 60 = .ok (.istore_n 2, 1) := by decide +kernel
theorem d_Model_does_61 : decode b_Model_does 61 = .ok (.iload_n 1, 1) := by decide +kernel
theorem d_Model_does_62 : decode b_Model_does 62 = .ok (.invokestatic 191, 3) := by decide +kernel
theorem d_Model_does_65 : decode b_Model_does 65 = .ok (.ifCond .lt 14, 3) := by decide +kernel
theorem d_Model_does_68 : decode b_Model_does 68 = .ok (.aload_n 0, 1) := by decide +kernel
theorem d_Model_does_69 : decode b_Model_does 69 = .ok (.iload_n 1, 1) := by decide +kernel
theorem d_Model_does_70 : decode b_Model_does 70 = .ok (.invokestatic 191, 3) := by decide +kernel
theorem d_Model_does_73 : decode b_Model_does 73 = .ok (.invokevirtual 201, 3) := by decide +kernel
theorem d_Model_does_76 : decode b_Model_does 76 = .ok (.goto 41, 3) := by decide +kernel
theorem d_Model_does_79 : decode b_Model_does 79 = .ok (.iload_n 1, 1) := by decide +kernel
theorem d_Model_does_80 : decode b_Model_does 80 = .ok (.bipush 46, 2) := by decide +kernel
theorem d_Model_does_82 : decode b_Model_does 82 = .ok (.if_icmp .eq 30, 3) := by decide +kernel
theorem d_Model_does_85 : decode b_Model_does 85 = .ok (.iload_n 1, 1) := by decide +kernel
theorem d_Model_does_86 : decode b_Model_does 86 = .ok (.bipush 103, 2) := by decide +kernel
theorem d_Model_does_88 : decode b_Model_does 88 = .ok (.if_icmp .ne 13, 3) := by decide +kernel
theorem d_Model_does_91 : decode b_Model_does 91 = .ok (.aload_n 0, 1) := by decide +kernel
theorem d_Model_does_92 : decode b_Model_does 92 = .ok (.invokevirtual 204, 3) := by decide +kernel
theorem d_Model_does_95 : decode b_Model_does 95 = .ok (.ifCond .eq 21, 3) := by decide +kernel
theorem d_Model_does_98 : decode b_Model_does 98 = .ok (.goto 14, 3) := by decide +kernel
theorem d_Model_does_101 : decode b_Model_does 101 = .ok (.aload_n 0, 1) := by decide +kernel
theorem d_Model_does_102 : decode b_Model_does 102 = .ok (.iload_n 1, 1) := by decide +kernel
theorem d_Model_does_103 : decode b_Model_does 103 = .ok (.bipush 97, 2) := by decide +kernel
theorem d_Model_does_105 : decode b_Model_does 105 = .ok (.isub, 1) := by decide +kernel
theorem d_Model_does_106 : decode b_Model_does 106 = .ok (.invokevirtual 208, 3) := by decide +kernel
theorem d_Model_does_109 : decode b_Model_does 109 = .ok (.ifCond .eq 7, 3) := by decide +kernel
theorem d_Model_does_112 : decode b_Model_does 112 = .ok (.iconst 1, 1) := by decide +kernel
theorem d_Model_does_113 : decode b_Model_does 113 = .ok (.goto 4, 3) := by decide +kernel
theorem d_Model_does_116 : decode b_Model_does 116 = .ok (.iconst 0, 1) := by decide +kernel
theorem d_Model_does_117 : decode b_Model_does 117 = .ok (.istore_n 3, 1) := by decide +kernel
theorem d_Model_does_118 : decode b_Model_does 118 = .ok (.iload_n 3, 1) := by decide +kernel
theorem d_Model_does_119 : decode b_Model_does 119 = .ok (.ifCond .ne 5, 3) := by decide +kernel
theorem d_Model_does_122 : decode b_Model_does 122 = .ok (.iconst 0, 1) := by decide +kernel
theorem d_Model_does_123 : decode b_Model_does 123 = .ok (.ireturn, 1) := by decide +kernel
theorem d_Model_does_124 : decode b_Model_does 124 = .ok (.aload_n 0, 1) := by decide +kernel
theorem d_Model_does_125 : decode b_Model_does 125 = .ok (.invokevirtual 211, 3) := by decide +kernel
theorem d_Model_does_128 : decode b_Model_does 128 = .ok (.aload_n 0, 1) := by decide +kernel
theorem d_Model_does_129 : decode b_Model_does 129 = .ok (.invokevirtual 145, 3) := by decide +kernel
theorem d_Model_does_132 : decode b_Model_does 132 = .ok (.aload_n 0, 1) := by decide +kernel
theorem d_Model_does_133 : decode b_Model_does 133 = .ok (.getfield 96, 3) := by decide +kernel
theorem d_Model_does_136 : decode b_Model_does 136 = .ok (.iconst 1, 1) := by decide +kernel
theorem d_Model_does_137 : decode b_Model_does 137 = .ok (.if_icmp .ne 7, 3) := by decide +kernel
theorem d_Model_does_140 : decode b_Model_does 140 = .ok (.iconst 3, 1) := by decide +kernel
theorem d_Model_does_141 : decode b_Model_does 141 = .ok (.goto 16, 3) := by decide +kernel
theorem d_Model_does_144 : decode b_Model_does 144 = .ok (.aload_n 0, 1) := by decide +kernel
theorem d_Model_does_145 : decode b_Model_does 145 = .ok (.getfield 102, 3) := by decide +kernel
theorem d_Model_does_148 : decode b_Model_does 148 = .ok (.iload_n 2, 1) := by decide +kernel
theorem d_Model_does_149 : decode b_Model_does 149 = .ok (.if_icmp .le 7, 3) := by decide +kernel
theorem d_Model_does_152 : decode b_Model_does 152 = .ok (.iconst 2, 1) := by decide +kernel
theorem d_Model_does_153 : decode b_Model_does 153 = .ok (.goto 4, 3) := by decide +kernel
theorem d_Model_does_156 : decode b_Model_does 156 = .ok (.iconst 1, 1) := by decide +kernel
theorem d_Model_does_157 : decode b_Model_does 157 = .ok (.ireturn, 1) := by decide +kernel
def f_Model_does_117 (n : Nat) (y2 : Int32) (s0 : Int32) (σ : St) : Option (Int32 × St) := if s0 = 0 then (some (0, σ)) else (bd (f_Model_pass n σ) (fun _ σ32 => bd (f_Model_know n σ32) (fun _ σ35 => if (σ35.1 9) = 1 then (some (3, σ35)) else (if (σ35.1 11) ≤ y2 then (some (1, σ35)) else (some (2, σ35))))))
def f_Model_does_112 (n : Nat) (y2 : Int32) (σ : St) : Option (Int32 × St) := f_Model_does_117 n y2 1 σ
def f_Model_does_116 (n : Nat) (y2 : Int32) (σ : St) : Option (Int32 × St) := f_Model_does_117 n y2 0 σ
def f_Model_does (n : Nat) (x1 : Int32) (σ : St) : Option (Int32 × St) := if x1 = 62 then (gd (inb ((12 * (σ.1 3)) + (σ.1 2)) 120) (if (σ.2.2 0 ((12 * (σ.1 3)) + (σ.1 2)).toNatClampNeg) = 2 then (if (σ.1 8) = 3 then (bnd (sI σ 9 2) (fun σ29 => some (4, σ29))) else (bd (f_Model_build n ((σ.1 8) + 1) σ) (fun _ σ27 => some (1, σ27)))) else (some (0, σ)))) else (bnd (σ.1 11) (fun v2 => bd (f_Model_turn n x1 σ) (fun r3 σ4 => if r3 < 0 then (if x1 = 46 then (f_Model_does_112 n v2 σ4) else (if x1 = 103 then (bd (f_Model_gets n σ4) (fun r13 σ14 => if r13 = 0 then (f_Model_does_116 n v2 σ14) else (f_Model_does_112 n v2 σ14))) else (bd (f_Model_uses n (x1 - 97) σ4) (fun r9 σ10 => if r9 = 0 then (f_Model_does_116 n v2 σ10) else (f_Model_does_112 n v2 σ10))))) else (bd (f_Model_turn n x1 σ4) (fun r17 σ18 => bd (f_Model_goes n r17 σ18) (fun r20 σ21 => f_Model_does_117 n v2 r20 σ21))))))
set_option maxHeartbeats 4000000 in
set_option maxRecDepth 100000 in
theorem c_Model_does (l : Launch) (D : va_G) (ad : Nat → Nat) (cA : Nat → ClassId) (tz : Nat → Nat) (n : Nat) (x1 : Int32) (σ : St) (r : Int32) (σr : St) (hf : f_Model_does n x1 σ = some (r, σr)) : Ki l D cA tz (wm ad cA) y_Model_does (.code y_Model_does b_Model_does 4 (some .int) :: TB) ({ frames := 6, cells := 0, slots := 0, locals := 145 }) [.ref (ad 0), .int x1] σ r σr := by
  refine x_openi (own := R_Model) rfl (by decide) (fun p e s m args below meth c A Q X hml hZ hA H locs ls h hl rt => ?_)
  have hx := X.1
  have hb := X.2.1
  have hl : lv_has ls 4 [(0, .ref (ad 0)), (1, .int x1)] := hl
  have L117 : ∀ (y2 : Int32) (s0 : Int32) (σ : St), f_Model_does_117 n y2 s0 σ = some (r, σr) → ∀ (H : Heap) (locs : List Loc) (ls : Array Slot), WD D A s (wm ad cA σ) H locs → lv_has ls 4 [(0, .ref (ad 0)), (2, .int y2)] → W p l e ({ frames := 6, cells := 0, slots := 0, locals := 145 }) s m args below meth c H locs 0 0 Q (F0 m 117 ls [.int s0]) := by
    intro y2 s0 σ hf H locs ls h hl
    unfold f_Model_does_117 at hf
    refine lv_istore_n (lv' := [(3, .int s0), (0, .ref (ad 0)), (2, .int y2)]) hx hb d_Model_does_117 rfl hl (by decide) rfl (fun ls hl => ?_)
    refine lv_iload_n hx hb d_Model_does_118 rfl (lv_at hl 0 rfl) ?_
    refine lv_if_ne (tgt := 124) hx hb d_Model_does_119 (by decide) (fun c30 => ?_) (fun c30 => ?_)
    · have hf := ie c30 hf
      refine lv_aload_n hx hb d_Model_does_124 rfl (lv_at hl 1 rfl) ?_
      obtain ⟨r31, σ32, h33, hf⟩ := bd_s hf
      refine x_Vv (As := []) (rest := []) X hml hl.1 hZ hA h (c_Model_pass l D ad cA tz n σ r31 σ32 h33) k_Model_pass m_m_Model_211 kd_Model_pass ⟨rfl, rfl, Nat.le_of_ble_eq_true rfl, Nat.le_of_ble_eq_true rfl⟩ 0 rfl rfl rfl rfl rfl (Nat.le_of_ble_eq_true rfl) d_Model_does_125 (fun H locs h => ?_)
      refine lv_aload_n hx hb d_Model_does_128 rfl (lv_at hl 1 rfl) ?_
      obtain ⟨r34, σ35, h36, hf⟩ := bd_s hf
      refine x_Vv (As := []) (rest := []) X hml hl.1 hZ hA h (c_Model_know l D ad cA tz n σ32 r34 σ35 h36) k_Model_know m_m_Model_145 kd_Model_know ⟨rfl, rfl, Nat.le_of_ble_eq_true rfl, Nat.le_of_ble_eq_true rfl⟩ 0 rfl rfl rfl rfl rfl (Nat.le_of_ble_eq_true rfl) d_Model_does_129 (fun H locs h => ?_)
      refine lv_aload_n hx hb d_Model_does_132 rfl (lv_at hl 1 rfl) ?_
      refine G_model_state X h m_f_Model_96 d_Model_does_133 ?_
      refine lv_iconst (v := 1) hx hb d_Model_does_136 (by decide) ?_
      refine lv_icmp_ne (tgt := 144) hx hb d_Model_does_137 (by decide) (fun c37 => ?_) (fun c37 => ?_)
      · have hf := ie c37 hf
        refine lv_aload_n hx hb d_Model_does_144 rfl (lv_at hl 1 rfl) ?_
        refine G_model_went X h m_f_Model_102 d_Model_does_145 ?_
        refine lv_iload_n hx hb d_Model_does_148 rfl (lv_at hl 2 rfl) ?_
        refine lv_icmp_le (tgt := 156) hx hb d_Model_does_149 (by decide) (fun c38 => ?_) (fun c38 => ?_)
        · have hf := it c38 hf
          refine lv_iconst (v := 1) hx hb d_Model_does_156 (by decide) ?_
          exact rt _ _ H locs 157 ls hf h d_Model_does_157
        · have hf := ie c38 hf
          refine lv_iconst (v := 2) hx hb d_Model_does_152 (by decide) ?_
          refine lv_goto (tgt := 157) hx hb d_Model_does_153 (by decide) ?_
          exact rt _ _ H locs 157 ls hf h d_Model_does_157
      · have hf := it c37 hf
        refine lv_iconst (v := 3) hx hb d_Model_does_140 (by decide) ?_
        refine lv_goto (tgt := 157) hx hb d_Model_does_141 (by decide) ?_
        exact rt _ _ H locs 157 ls hf h d_Model_does_157
    · have hf := it c30 hf
      refine lv_iconst (v := 0) hx hb d_Model_does_122 (by decide) ?_
      exact rt _ _ H locs 123 ls hf h d_Model_does_123
  have L112 : ∀ (y2 : Int32) (σ : St), f_Model_does_112 n y2 σ = some (r, σr) → ∀ (H : Heap) (locs : List Loc) (ls : Array Slot), WD D A s (wm ad cA σ) H locs → lv_has ls 4 [(0, .ref (ad 0)), (2, .int y2)] → W p l e ({ frames := 6, cells := 0, slots := 0, locals := 145 }) s m args below meth c H locs 0 0 Q (F0 m 112 ls []) := by
    intro y2 σ hf H locs ls h hl
    unfold f_Model_does_112 at hf
    refine lv_iconst (v := 1) hx hb d_Model_does_112 (by decide) ?_
    refine lv_goto (tgt := 117) hx hb d_Model_does_113 (by decide) ?_
    exact L117 y2 1 σ hf H locs ls h (lv_sub hl [0, 1] rfl)
  have L116 : ∀ (y2 : Int32) (σ : St), f_Model_does_116 n y2 σ = some (r, σr) → ∀ (H : Heap) (locs : List Loc) (ls : Array Slot), WD D A s (wm ad cA σ) H locs → lv_has ls 4 [(0, .ref (ad 0)), (2, .int y2)] → W p l e ({ frames := 6, cells := 0, slots := 0, locals := 145 }) s m args below meth c H locs 0 0 Q (F0 m 116 ls []) := by
    intro y2 σ hf H locs ls h hl
    unfold f_Model_does_116 at hf
    refine lv_iconst (v := 0) hx hb d_Model_does_116 (by decide) ?_
    exact L117 y2 0 σ hf H locs ls h (lv_sub hl [0, 1] rfl)
  unfold f_Model_does at hf
  refine lv_iload_n hx hb d_Model_does_0 rfl (lv_at hl 1 rfl) ?_
  refine lv_bipush (v := 62) hx hb d_Model_does_1 (by decide) ?_
  refine lv_icmp_ne (tgt := 56) hx hb d_Model_does_3 (by decide) (fun c1 => ?_) (fun c1 => ?_)
  · have hf := ie c1 hf
    refine lv_aload_n hx hb d_Model_does_56 rfl (lv_at hl 0 rfl) ?_
    refine G_model_went X h m_f_Model_102 d_Model_does_57 ?_
    refine lv_topi (fun v2 ev2 => ?_)
    have hf := nm_b hf ev2
    refine lv_istore_n (lv' := [(2, .int v2), (0, .ref (ad 0)), (1, .int x1)]) hx hb d_Model_does_60 rfl hl (by decide) rfl (fun ls hl => ?_)
    refine lv_iload_n hx hb d_Model_does_61 rfl (lv_at hl 2 rfl) ?_
    obtain ⟨r3, σ4, h5, hf⟩ := bd_s hf
    refine x_Si (As := [.int x1]) (rest := []) X hml hl.1 hZ hA h (c_Model_turn l D ad cA tz n x1 σ r3 σ4 h5) k_Model_turn m_m_Model_191 kd_Model_turn ⟨rfl, rfl, Nat.le_of_ble_eq_true rfl, Nat.le_of_ble_eq_true rfl⟩ rfl rfl (Nat.le_of_ble_eq_true rfl) d_Model_does_62 (fun H locs h => ?_)
    refine lv_if_lt (tgt := 79) hx hb d_Model_does_65 (by decide) (fun c6 => ?_) (fun c6 => ?_)
    · have hf := it c6 hf
      refine lv_iload_n hx hb d_Model_does_79 rfl (lv_at hl 2 rfl) ?_
      refine lv_bipush (v := 46) hx hb d_Model_does_80 (by decide) ?_
      refine lv_icmp_eq (tgt := 112) hx hb d_Model_does_82 (by decide) (fun c7 => ?_) (fun c7 => ?_)
      · have hf := it c7 hf
        exact L112 v2 σ4 hf H locs ls h (lv_sub hl [1, 0] rfl)
      · have hf := ie c7 hf
        refine lv_iload_n hx hb d_Model_does_85 rfl (lv_at hl 2 rfl) ?_
        refine lv_bipush (v := 103) hx hb d_Model_does_86 (by decide) ?_
        refine lv_icmp_ne (tgt := 101) hx hb d_Model_does_88 (by decide) (fun c8 => ?_) (fun c8 => ?_)
        · have hf := ie c8 hf
          refine lv_aload_n hx hb d_Model_does_101 rfl (lv_at hl 1 rfl) ?_
          refine lv_iload_n hx hb d_Model_does_102 rfl (lv_at hl 2 rfl) ?_
          refine lv_bipush (v := 97) hx hb d_Model_does_103 (by decide) ?_
          refine lv_isub hx hb d_Model_does_105 ?_
          obtain ⟨r9, σ10, h11, hf⟩ := bd_s hf
          refine x_Vi (As := [.int (x1 - 97)]) (rest := []) X hml hl.1 hZ hA h (c_Model_uses l D ad cA tz n (x1 - 97) σ4 r9 σ10 h11) k_Model_uses m_m_Model_208 kd_Model_uses ⟨rfl, rfl, Nat.le_of_ble_eq_true rfl, Nat.le_of_ble_eq_true rfl⟩ 0 rfl rfl rfl rfl rfl (Nat.le_of_ble_eq_true rfl) d_Model_does_106 (fun H locs h => ?_)
          refine lv_if_eq (tgt := 116) hx hb d_Model_does_109 (by decide) (fun c12 => ?_) (fun c12 => ?_)
          · have hf := it c12 hf
            exact L116 v2 σ10 hf H locs ls h (lv_sub hl [1, 0] rfl)
          · have hf := ie c12 hf
            exact L112 v2 σ10 hf H locs ls h (lv_sub hl [1, 0] rfl)
        · have hf := it c8 hf
          refine lv_aload_n hx hb d_Model_does_91 rfl (lv_at hl 1 rfl) ?_
          obtain ⟨r13, σ14, h15, hf⟩ := bd_s hf
          refine x_Vi (As := []) (rest := []) X hml hl.1 hZ hA h (c_Model_gets l D ad cA tz n σ4 r13 σ14 h15) k_Model_gets m_m_Model_204 kd_Model_gets ⟨rfl, rfl, Nat.le_of_ble_eq_true rfl, Nat.le_of_ble_eq_true rfl⟩ 0 rfl rfl rfl rfl rfl (Nat.le_of_ble_eq_true rfl) d_Model_does_92 (fun H locs h => ?_)
          refine lv_if_eq (tgt := 116) hx hb d_Model_does_95 (by decide) (fun c16 => ?_) (fun c16 => ?_)
          · have hf := it c16 hf
            exact L116 v2 σ14 hf H locs ls h (lv_sub hl [1, 0] rfl)
          · have hf := ie c16 hf
            refine lv_goto (tgt := 112) hx hb d_Model_does_98 (by decide) ?_
            exact L112 v2 σ14 hf H locs ls h (lv_sub hl [1, 0] rfl)
    · have hf := ie c6 hf
      refine lv_aload_n hx hb d_Model_does_68 rfl (lv_at hl 1 rfl) ?_
      refine lv_iload_n hx hb d_Model_does_69 rfl (lv_at hl 2 rfl) ?_
      obtain ⟨r17, σ18, h19, hf⟩ := bd_s hf
      refine x_Si (As := [.int x1]) (rest := [.ref (ad 0)]) X hml hl.1 hZ hA h (c_Model_turn l D ad cA tz n x1 σ4 r17 σ18 h19) k_Model_turn m_m_Model_191 kd_Model_turn ⟨rfl, rfl, Nat.le_of_ble_eq_true rfl, Nat.le_of_ble_eq_true rfl⟩ rfl rfl (Nat.le_of_ble_eq_true rfl) d_Model_does_70 (fun H locs h => ?_)
      obtain ⟨r20, σ21, h22, hf⟩ := bd_s hf
      refine x_Vi (As := [.int r17]) (rest := []) X hml hl.1 hZ hA h (c_Model_goes l D ad cA tz n r17 σ18 r20 σ21 h22) k_Model_goes m_m_Model_201 kd_Model_goes ⟨rfl, rfl, Nat.le_of_ble_eq_true rfl, Nat.le_of_ble_eq_true rfl⟩ 0 rfl rfl rfl rfl rfl (Nat.le_of_ble_eq_true rfl) d_Model_does_73 (fun H locs h => ?_)
      refine lv_goto (tgt := 117) hx hb d_Model_does_76 (by decide) ?_
      exact L117 v2 r20 σ21 hf H locs ls h (lv_sub hl [1, 0] rfl)
  · have hf := it c1 hf
    refine lv_aload_n hx hb d_Model_does_6 rfl (lv_at hl 0 rfl) ?_
    refine G_model_floor X h m_f_Model_7 d_Model_does_7 ?_
    refine lv_bipush (v := 12) hx hb d_Model_does_10 (by decide) ?_
    refine lv_aload_n hx hb d_Model_does_12 rfl (lv_at hl 0 rfl) ?_
    refine G_model_py X h m_f_Model_132 d_Model_does_13 ?_
    refine lv_imul hx hb d_Model_does_16 ?_
    refine lv_aload_n hx hb d_Model_does_17 rfl (lv_at hl 0 rfl) ?_
    refine G_model_px X h m_f_Model_129 d_Model_does_18 ?_
    refine lv_iadd hx hb d_Model_does_21 ?_
    obtain ⟨g23, hf⟩ := gd_s hf
    refine R_mfloor X h (inb_s g23) d_Model_does_22 ?_
    refine lv_iconst (v := 2) hx hb d_Model_does_23 (by decide) ?_
    refine lv_icmp_eq (tgt := 29) hx hb d_Model_does_24 (by decide) (fun c24 => ?_) (fun c24 => ?_)
    · have hf := it c24 hf
      refine lv_aload_n hx hb d_Model_does_29 rfl (lv_at hl 0 rfl) ?_
      refine G_model_level X h m_f_Model_120 d_Model_does_30 ?_
      refine lv_iconst (v := 3) hx hb d_Model_does_33 (by decide) ?_
      refine lv_icmp_ne (tgt := 44) hx hb d_Model_does_34 (by decide) (fun c25 => ?_) (fun c25 => ?_)
      · have hf := ie c25 hf
        refine lv_aload_n hx hb d_Model_does_44 rfl (lv_at hl 0 rfl) ?_
        refine lv_aload_n hx hb d_Model_does_45 rfl (lv_at hl 0 rfl) ?_
        refine G_model_level X h m_f_Model_120 d_Model_does_46 ?_
        refine lv_iconst (v := 1) hx hb d_Model_does_49 (by decide) ?_
        refine lv_iadd hx hb d_Model_does_50 ?_
        obtain ⟨r26, σ27, h28, hf⟩ := bd_s hf
        refine x_Vv (As := [.int ((σ.1 8) + 1)]) (rest := []) X hml hl.1 hZ hA h (c_Model_build l D ad cA tz n ((σ.1 8) + 1) σ r26 σ27 h28) k_Model_build m_m_Model_108 kd_Model_build ⟨rfl, rfl, Nat.le_of_ble_eq_true rfl, Nat.le_of_ble_eq_true rfl⟩ 0 rfl rfl rfl rfl rfl (Nat.le_of_ble_eq_true rfl) d_Model_does_51 (fun H locs h => ?_)
        refine lv_iconst (v := 1) hx hb d_Model_does_54 (by decide) ?_
        exact rt _ _ H locs 55 ls hf h d_Model_does_55
      · have hf := it c25 hf
        refine lv_aload_n hx hb d_Model_does_37 rfl (lv_at hl 0 rfl) ?_
        refine lv_iconst (v := 2) hx hb d_Model_does_38 (by decide) ?_
        refine P_model_state X h m_f_Model_96 d_Model_does_39 (fun H locs σ29 eσ29 h => ?_)
        have hf := nm_b hf eσ29
        refine lv_iconst (v := 4) hx hb d_Model_does_42 (by decide) ?_
        exact rt _ _ H locs 43 ls hf h d_Model_does_43
    · have hf := ie c24 hf
      refine lv_iconst (v := 0) hx hb d_Model_does_27 (by decide) ?_
      exact rt _ _ H locs 28 ls hf h d_Model_does_28
theorem d_Model_key_0 : decode b_Model_key 0 = .ok (.iload_n 1, 1) := by decide +kernel
theorem d_Model_key_1 : decode b_Model_key 1 = .ok (.invokestatic 194, 3) := by decide +kernel
theorem d_Model_key_4 : decode b_Model_key 4 = .ok (.ifCond .eq 10, 3) := by decide +kernel
theorem d_Model_key_7 : decode b_Model_key 7 = .ok (.aload_n 0, 1) := by decide +kernel
theorem d_Model_key_8 : decode b_Model_key 8 = .ok (.getfield 96, 3) := by decide +kernel
theorem d_Model_key_11 : decode b_Model_key 11 = .ok (.ifCond .eq 5, 3) := by decide +kernel
theorem d_Model_key_14 : decode b_Model_key 14 = .ok (.iconst (-1), 1) := by decide +kernel
theorem d_Model_key_15 : decode b_Model_key 15 = .ok (.ireturn, 1) := by decide +kernel
theorem d_Model_key_16 : decode b_Model_key 16 = .ok (.aload_n 0, 1) := by decide +kernel
theorem d_Model_key_17 : decode b_Model_key 17 = .ok (.getfield 59, 3) := by decide +kernel
theorem d_Model_key_20 : decode b_Model_key 20 = .ok (.aload_n 0, 1) := by decide +kernel
theorem d_Model_key_21 : decode b_Model_key 21 = .ok (.getfield 105, 3) := by decide +kernel
theorem d_Model_key_24 : decode b_Model_key 24 = .ok (.iload_n 1, 1) := by decide +kernel
theorem d_Model_key_25 : decode b_Model_key 25 = .ok (.iastore, 1) := by decide +kernel
theorem d_Model_key_26 : decode b_Model_key 26 = .ok (.aload_n 0, 1) := by decide +kernel
theorem d_Model_key_27 : decode b_Model_key 27 = .ok (.dup, 1) := by decide +kernel
theorem d_Model_key_28 : decode b_Model_key 28 = .ok (.getfield 105, 3) := by decide +kernel
theorem d_Model_key_31 : decode b_Model_key 31 = .ok (.iconst 1, 1) := by decide +kernel
theorem d_Model_key_32 : decode b_Model_key 32 = .ok (.iadd, 1) := by decide +kernel
theorem d_Model_key_33 : decode b_Model_key 33 = .ok (.putfield 105, 3) := by decide +kernel
theorem d_Model_key_36 : decode b_Model_key 36 = .ok (.aload_n 0, 1) := by decide +kernel
theorem d_Model_key_37 : decode b_Model_key 37 = .ok (.iload_n 1, 1) := by decide +kernel
theorem d_Model_key_38 : decode b_Model_key 38 = .ok (.invokevirtual 198, 3) := by decide +kernel
theorem d_Model_key_41 : decode b_Model_key 41 = .ok (.ireturn, 1) := by decide +kernel
def f_Model_key (n : Nat) (x1 : Int32) (σ : St) : Option (Int32 × St) := bd (f_Model_isKey n x1 σ) (fun r1 σ2 => if r1 = 0 then (some ((-1), σ2)) else (if (σ2.1 9) = 0 then (gd (inb (σ2.1 13) 520) (bnd (sA σ2 16 (σ2.1 13).toNatClampNeg x1) (fun σ7 => bnd (sI σ7 13 ((σ7.1 13) + 1)) (fun σ8 => bd (f_Model_does n x1 σ8) (fun r9 σ10 => some (r9, σ10)))))) else (some ((-1), σ2))))
set_option maxHeartbeats 4000000 in
set_option maxRecDepth 100000 in
theorem c_Model_key (l : Launch) (D : va_G) (ad : Nat → Nat) (cA : Nat → ClassId) (tz : Nat → Nat) (n : Nat) (x1 : Int32) (σ : St) (r : Int32) (σr : St) (hf : f_Model_key n x1 σ = some (r, σr)) : Ki l D cA tz (wm ad cA) y_Model_key (.code y_Model_key b_Model_key 2 (some .int) :: TB) ({ frames := 7, cells := 0, slots := 0, locals := 168 }) [.ref (ad 0), .int x1] σ r σr := by
  refine x_openi (own := R_Model) rfl (by decide) (fun p e s m args below meth c A Q X hml hZ hA H locs ls h hl rt => ?_)
  have hx := X.1
  have hb := X.2.1
  have hl : lv_has ls 2 [(0, .ref (ad 0)), (1, .int x1)] := hl
  unfold f_Model_key at hf
  refine lv_iload_n hx hb d_Model_key_0 rfl (lv_at hl 1 rfl) ?_
  obtain ⟨r1, σ2, h3, hf⟩ := bd_s hf
  refine x_Si (As := [.int x1]) (rest := []) X hml hl.1 hZ hA h (c_Model_isKey l D ad cA tz n x1 σ r1 σ2 h3) k_Model_isKey m_m_Model_194 kd_Model_isKey ⟨rfl, rfl, Nat.le_of_ble_eq_true rfl, Nat.le_of_ble_eq_true rfl⟩ rfl rfl (Nat.le_of_ble_eq_true rfl) d_Model_key_1 (fun H locs h => ?_)
  refine lv_if_eq (tgt := 14) hx hb d_Model_key_4 (by decide) (fun c4 => ?_) (fun c4 => ?_)
  · have hf := it c4 hf
    refine lv_iconst (v := (-1)) hx hb d_Model_key_14 (by decide) ?_
    exact rt _ _ H locs 15 ls hf h d_Model_key_15
  · have hf := ie c4 hf
    refine lv_aload_n hx hb d_Model_key_7 rfl (lv_at hl 0 rfl) ?_
    refine G_model_state X h m_f_Model_96 d_Model_key_8 ?_
    refine lv_if_eq (tgt := 16) hx hb d_Model_key_11 (by decide) (fun c5 => ?_) (fun c5 => ?_)
    · have hf := it c5 hf
      refine lv_aload_n hx hb d_Model_key_16 rfl (lv_at hl 0 rfl) ?_
      refine G_model_keys X h m_f_Model_59 d_Model_key_17 ?_
      refine lv_aload_n hx hb d_Model_key_20 rfl (lv_at hl 0 rfl) ?_
      refine G_model_recorded X h m_f_Model_105 d_Model_key_21 ?_
      refine lv_iload_n hx hb d_Model_key_24 rfl (lv_at hl 1 rfl) ?_
      obtain ⟨g6, hf⟩ := gd_s hf
      refine S_mkeys X h (inb_s g6) d_Model_key_25 (fun H locs σ7 eσ7 h => ?_)
      have hf := nm_b hf eσ7
      refine lv_aload_n hx hb d_Model_key_26 rfl (lv_at hl 0 rfl) ?_
      refine lv_dup hx hb d_Model_key_27 rfl ?_
      refine G_model_recorded X h m_f_Model_105 d_Model_key_28 ?_
      refine lv_iconst (v := 1) hx hb d_Model_key_31 (by decide) ?_
      refine lv_iadd hx hb d_Model_key_32 ?_
      refine P_model_recorded X h m_f_Model_105 d_Model_key_33 (fun H locs σ8 eσ8 h => ?_)
      have hf := nm_b hf eσ8
      refine lv_aload_n hx hb d_Model_key_36 rfl (lv_at hl 0 rfl) ?_
      refine lv_iload_n hx hb d_Model_key_37 rfl (lv_at hl 1 rfl) ?_
      obtain ⟨r9, σ10, h11, hf⟩ := bd_s hf
      refine x_Vi (As := [.int x1]) (rest := []) X hml hl.1 hZ hA h (c_Model_does l D ad cA tz n x1 σ8 r9 σ10 h11) k_Model_does m_m_Model_198 kd_Model_does ⟨rfl, rfl, Nat.le_of_ble_eq_true rfl, Nat.le_of_ble_eq_true rfl⟩ 0 rfl rfl rfl rfl rfl (Nat.le_of_ble_eq_true rfl) d_Model_key_38 (fun H locs h => ?_)
      exact rt _ _ H locs 41 ls hf h d_Model_key_41
    · have hf := ie c5 hf
      refine lv_iconst (v := (-1)) hx hb d_Model_key_14 (by decide) ?_
      exact rt _ _ H locs 15 ls hf h d_Model_key_15

