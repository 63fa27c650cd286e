theorem d_Model_uses_0 : decode b_Model_uses 0 = .ok (.iload_n 1, 1) := by decide +kernel
theorem d_Model_uses_1 : decode b_Model_uses 1 = .ok (.aload_n 0, 1) := by decide +kernel
theorem d_Model_uses_2 : decode b_Model_uses 2 = .ok (.getfield 93, 3) := by decide +kernel
theorem d_Model_uses_5 : decode b_Model_uses 5 = .ok (.if_icmp .lt 5, 3) := by decide +kernel
theorem d_Model_uses_8 : decode b_Model_uses 8 = .ok (.iconst 0, 1) := by decide +kernel
theorem d_Model_uses_9 : decode b_Model_uses 9 = .ok (.ireturn, 1) := by decide +kernel
theorem d_Model_uses_10 : decode b_Model_uses 10 = .ok (.aload_n 0, 1) := by decide +kernel
theorem d_Model_uses_11 : decode b_Model_uses 11 = .ok (.getfield 56, 3) := by decide +kernel
theorem d_Model_uses_14 : decode b_Model_uses 14 = .ok (.iload_n 1, 1) := by decide +kernel
theorem d_Model_uses_15 : decode b_Model_uses 15 = .ok (.iaload, 1) := by decide +kernel
theorem d_Model_uses_16 : decode b_Model_uses 16 = .ok (.istore_n 2, 1) := by decide +kernel
theorem d_Model_uses_17 : decode b_Model_uses 17 = .ok (.aload_n 0, 1) := by decide +kernel
theorem d_Model_uses_18 : decode b_Model_uses 18 = .ok (.dup, 1) := by decide +kernel
theorem d_Model_uses_19 : decode b_Model_uses 19 = .ok (.getfield 93, 3) := by decide +kernel
theorem d_Model_uses_22 : decode b_Model_uses 22 = .ok (.iconst 1, 1) := by decide +kernel
theorem d_Model_uses_23 : decode b_Model_uses 23 = .ok (.isub, 1) := by decide +kernel
theorem d_Model_uses_24 : decode b_Model_uses 24 = .ok (.putfield 93, 3) := by decide +kernel
theorem d_Model_uses_27 : decode b_Model_uses 27 = .ok (.iload_n 1, 1) := by decide +kernel
theorem d_Model_uses_28 : decode b_Model_uses 28 = .ok (.istore_n 3, 1) := by decide +kernel
theorem d_Model_uses_29 : decode b_Model_uses 29 = .ok (.iload_n 3, 1) := by decide +kernel
theorem d_Model_uses_30 : decode b_Model_uses 30 = .ok (.aload_n 0, 1) := by decide +kernel
theorem d_Model_uses_31 : decode b_Model_uses 31 = .ok (.getfield 93, 3) := by decide +kernel
theorem d_Model_uses_34 : decode b_Model_uses 34 = .ok (.if_icmp .ge 23, 3) := by decide +kernel
theorem d_Model_uses_37 : decode b_Model_uses 37 = .ok (.aload_n 0, 1) := by decide +kernel
theorem d_Model_uses_38 : decode b_Model_uses 38 = .ok (.getfield 56, 3) := by decide +kernel
theorem d_Model_uses_41 : decode b_Model_uses 41 = .ok (.iload_n 3, 1) := by decide +kernel
theorem d_Model_uses_42 : decode b_Model_uses 42 = .ok (.aload_n 0, 1) := by decide +kernel
theorem d_Model_uses_43 : decode b_Model_uses 43 = .ok (.getfield 56, 3) := by decide +kernel
theorem d_Model_uses_46 : decode b_Model_uses 46 = .ok (.iload_n 3, 1) := by decide +kernel
theorem d_Model_uses_47 : decode b_Model_uses 47 = .ok (.iconst 1, 1) := by decide +kernel
theorem d_Model_uses_48 : decode b_Model_uses 48 = .ok (.iadd, 1) := by decide +kernel
theorem d_Model_uses_49 : decode b_Model_uses 49 = .ok (.iaload, 1) := by decide +kernel
theorem d_Model_uses_50 : decode b_Model_uses 50 = .ok (.iastore, 1) := by decide +kernel
theorem d_Model_uses_51 : decode b_Model_uses 51 = .ok (.iinc 3 1, 3) := by decide +kernel
theorem d_Model_uses_54 : decode b_Model_uses 54 = .ok (.goto (-25), 3) := by decide +kernel
theorem d_Model_uses_57 : decode b_Model_uses 57 = .ok (.iload_n 2, 1) := by decide +kernel
theorem d_Model_uses_58 : decode b_Model_uses 58 = .ok (.ifCond .ne 26, 3) := by decide +kernel
theorem d_Model_uses_61 : decode b_Model_uses 61 = .ok (.aload_n 0, 1) := by decide +kernel
theorem d_Model_uses_62 : decode b_Model_uses 62 = .ok (.aload_n 0, 1) := by decide +kernel
theorem d_Model_uses_63 : decode b_Model_uses 63 = .ok (.getfield 84, 3) := by decide +kernel
theorem d_Model_uses_66 : decode b_Model_uses 66 = .ok (.iconst 5, 1) := by decide +kernel
theorem d_Model_uses_67 : decode b_Model_uses 67 = .ok (.if_icmp .le 8, 3) := by decide +kernel
theorem d_Model_uses_70 : decode b_Model_uses 70 = .ok (.bipush 10, 2) := by decide +kernel
theorem d_Model_uses_72 : decode b_Model_uses 72 = .ok (.goto 9, 3) := by decide +kernel
theorem d_Model_uses_75 : decode b_Model_uses 75 = .ok (.aload_n 0, 1) := by decide +kernel
theorem d_Model_uses_76 : decode b_Model_uses 76 = .ok (.getfield 84, 3) := by decide +kernel
theorem d_Model_uses_79 : decode b_Model_uses 79 = .ok (.iconst 5, 1) := by decide +kernel
theorem d_Model_uses_80 : decode b_Model_uses 80 = .ok (.iadd, 1) := by decide +kernel
theorem d_Model_uses_81 : decode b_Model_uses 81 = .ok (.putfield 84, 3) := by decide +kernel
theorem d_Model_uses_84 : decode b_Model_uses 84 = .ok (.iload_n 2, 1) := by decide +kernel
theorem d_Model_uses_85 : decode b_Model_uses 85 = .ok (.iconst 1, 1) := by decide +kernel
theorem d_Model_uses_86 : decode b_Model_uses 86 = .ok (.if_icmp .ne 13, 3) := by decide +kernel
theorem d_Model_uses_89 : decode b_Model_uses 89 = .ok (.aload_n 0, 1) := by decide +kernel
theorem d_Model_uses_90 : decode b_Model_uses 90 = .ok (.dup, 1) := by decide +kernel
theorem d_Model_uses_91 : decode b_Model_uses 91 = .ok (.getfield 87, 3) := by decide +kernel
theorem d_Model_uses_94 : decode b_Model_uses 94 = .ok (.iconst 1, 1) := by decide +kernel
theorem d_Model_uses_95 : decode b_Model_uses 95 = .ok (.iadd, 1) := by decide +kernel
theorem d_Model_uses_96 : decode b_Model_uses 96 = .ok (.putfield 87, 3) := by decide +kernel
theorem d_Model_uses_99 : decode b_Model_uses 99 = .ok (.iload_n 2, 1) := by decide +kernel
theorem d_Model_uses_100 : decode b_Model_uses 100 = .ok (.iconst 3, 1) := by decide +kernel
theorem d_Model_uses_101 : decode b_Model_uses 101 = .ok (.if_icmp .ne 9, 3) := by decide +kernel
theorem d_Model_uses_104 : decode b_Model_uses 104 = .ok (.aload_n 0, 1) := by decide +kernel
theorem d_Model_uses_105 : decode b_Model_uses 105 = .ok (.bipush 6, 2) := by decide +kernel
theorem d_Model_uses_107 : decode b_Model_uses 107 = .ok (.putfield 90, 3) := by decide +kernel
theorem d_Model_uses_110 : decode b_Model_uses 110 = .ok (.iload_n 2, 1) := by decide +kernel
theorem d_Model_uses_111 : decode b_Model_uses 111 = .ok (.iconst 2, 1) := by decide +kernel
theorem d_Model_uses_112 : decode b_Model_uses 112 = .ok (.if_icmp .eq 5, 3) := by decide +kernel
theorem d_Model_uses_115 : decode b_Model_uses 115 = .ok (.iconst 1, 1) := by decide +kernel
theorem d_Model_uses_116 : decode b_Model_uses 116 = .ok (.ireturn, 1) := by decide +kernel
theorem d_Model_uses_117 : decode b_Model_uses 117 = .ok (.iconst 0, 1) := by decide +kernel
theorem d_Model_uses_118 : decode b_Model_uses 118 = .ok (.istore_n 3, 1) := by decide +kernel
theorem d_Model_uses_119 : decode b_Model_uses 119 = .ok (.iconst 0, 1) := by decide +kernel
theorem d_Model_uses_120 : decode b_Model_uses 120 = .ok (.istore 4, 2) := by decide +kernel
theorem d_Model_uses_122 : decode b_Model_uses 122 = .ok (.iload 4, 2) := by decide +kernel
theorem d_Model_uses_124 : decode b_Model_uses 124 = .ok (.bipush 120, 2) := by decide +kernel
theorem d_Model_uses_126 : decode b_Model_uses 126 = .ok (.if_icmp .ge 39, 3) := by decide +kernel
theorem d_Model_uses_129 : decode b_Model_uses 129 = .ok (.aload_n 0, 1) := by decide +kernel
theorem d_Model_uses_130 : decode b_Model_uses 130 = .ok (.getfield 7, 3) := by decide +kernel
theorem d_Model_uses_133 : decode b_Model_uses 133 = .ok (.iload 4, 2) := by decide +kernel
theorem d_Model_uses_135 : decode b_Model_uses 135 = .ok (.iaload, 1) := by decide +kernel
theorem d_Model_uses_136 : decode b_Model_uses 136 = .ok (.ifCond .eq 23, 3) := by decide +kernel
theorem d_Model_uses_139 : decode b_Model_uses 139 = .ok (.aload_n 0, 1) := by decide +kernel
theorem d_Model_uses_140 : decode b_Model_uses 140 = .ok (.iload 4, 2) := by decide +kernel
theorem d_Model_uses_142 : decode b_Model_uses 142 = .ok (.bipush 12, 2) := by decide +kernel
theorem d_Model_uses_144 : decode b_Model_uses 144 = .ok (.irem, 1) := by decide +kernel
theorem d_Model_uses_145 : decode b_Model_uses 145 = .ok (.iload 4, 2) := by decide +kernel
theorem d_Model_uses_147 : decode b_Model_uses 147 = .ok (.bipush 12, 2) := by decide +kernel
theorem d_Model_uses_149 : decode b_Model_uses 149 = .ok (.idiv, 1) := by decide +kernel
theorem d_Model_uses_150 : decode b_Model_uses 150 = .ok (.invokevirtual 141, 3) := by decide +kernel
theorem d_Model_uses_153 : decode b_Model_uses 153 = .ok (.ifCond .ge 6, 3) := by decide +kernel
theorem d_Model_uses_156 : decode b_Model_uses 156 = .ok (.iinc 3 1, 3) := by decide +kernel
theorem d_Model_uses_159 : decode b_Model_uses 159 = .ok (.iinc 4 1, 3) := by decide +kernel
theorem d_Model_uses_162 : decode b_Model_uses 162 = .ok (.goto (-40), 3) := by decide +kernel
theorem d_Model_uses_165 : decode b_Model_uses 165 = .ok (.aload_n 0, 1) := by decide +kernel
theorem d_Model_uses_166 : decode b_Model_uses 166 = .ok (.iload_n 3, 1) := by decide +kernel
theorem d_Model_uses_167 : decode b_Model_uses 167 = .ok (.invokevirtual 175, 3) := by decide +kernel
theorem d_Model_uses_170 : decode b_Model_uses 170 = .ok (.istore 4, 2) := by decide +kernel
theorem d_Model_uses_172 : decode b_Model_uses 172 = .ok (.iconst 0, 1) := by decide +kernel
theorem d_Model_uses_173 : decode b_Model_uses 173 = .ok (.istore 5, 2) := by decide +kernel
theorem d_Model_uses_175 : decode b_Model_uses 175 = .ok (.iload 5, 2) := by decide +kernel
theorem d_Model_uses_177 : decode b_Model_uses 177 = .ok (.bipush 120, 2) := by decide +kernel
theorem d_Model_uses_179 : decode b_Model_uses 179 = .ok (.if_icmp .ge 65, 3) := by decide +kernel
theorem d_Model_uses_182 : decode b_Model_uses 182 = .ok (.aload_n 0, 1) := by decide +kernel
theorem d_Model_uses_183 : decode b_Model_uses 183 = .ok (.getfield 7, 3) := by decide +kernel
theorem d_Model_uses_186 : decode b_Model_uses 186 = .ok (.iload 5, 2) := by decide +kernel
theorem d_Model_uses_188 : decode b_Model_uses 188 = .ok (.iaload, 1) := by decide +kernel
theorem d_Model_uses_189 : decode b_Model_uses 189 = .ok (.ifCond .eq 49, 3) := by decide +kernel
theorem d_Model_uses_192 : decode b_Model_uses 192 = .ok (.aload_n 0, 1) := by decide +kernel
theorem d_Model_uses_193 : decode b_Model_uses 193 = .ok (.iload 5, 2) := by decide +kernel
theorem d_Model_uses_195 : decode b_Model_uses 195 = .ok (.bipush 12, 2) := by decide +kernel
theorem d_Model_uses_197 : decode b_Model_uses 197 = .ok (.irem, 1) := by decide +kernel
theorem d_Model_uses_198 : decode b_Model_uses 198 = .ok (.iload 5, 2) := by decide +kernel
theorem d_Model_uses_200 : decode b_Model_uses 200 = .ok (.bipush 12, 2) := by decide +kernel
theorem d_Model_uses_202 : decode b_Model_uses 202 = .ok (.idiv, 1) := by decide +kernel
theorem d_Model_uses_203 : decode b_Model_uses 203 = .ok (.invokevirtual 141, 3) := by decide +kernel
theorem d_Model_uses_206 : decode b_Model_uses 206 = .ok (.ifCond .lt 6, 3) := by decide +kernel
theorem d_Model_uses_209 : decode b_Model_uses 209 = .ok (.goto 29, 3) := by decide +kernel
theorem d_Model_uses_212 : decode b_Model_uses 212 = .ok (.iload 4, 2) := by decide +kernel
theorem d_Model_uses_214 : decode b_Model_uses 214 = .ok (.ifCond .ne 21, 3) := by decide +kernel
theorem d_Model_uses_217 : decode b_Model_uses 217 = .ok (.aload_n 0, 1) := by decide +kernel
theorem d_Model_uses_218 : decode b_Model_uses 218 = .ok (.iload 5, 2) := by decide +kernel
theorem d_Model_uses_220 : decode b_Model_uses 220 = .ok (.bipush 12, 2) := by decide +kernel
theorem d_Model_uses_222 : decode b_Model_uses 222 = .ok (.irem, 1) := by decide +kernel
theorem d_Model_uses_223 : decode b_Model_uses 223 = .ok (.putfield 129, 3) := by decide +kernel
theorem d_Model_uses_226 : decode b_Model_uses 226 = .ok (.aload_n 0, 1) := by decide +kernel
theorem d_Model_uses_227 : decode b_Model_uses 227 = .ok (.iload 5, 2) := by decide +kernel
theorem d_Model_uses_229 : decode b_Model_uses 229 = .ok (.bipush 12, 2) := by decide +kernel
theorem d_Model_uses_231 : decode b_Model_uses 231 = .ok (.idiv, 1) := by decide +kernel
theorem d_Model_uses_232 : decode b_Model_uses 232 = .ok (.putfield 132, 3) := by decide +kernel
theorem d_Model_uses_235 : decode b_Model_uses 235 = .ok (.iinc 4 (-1), 3) := by decide +kernel
theorem d_Model_uses_238 : decode b_Model_uses 238 = .ok (.iinc 5 1, 3) := by decide +kernel
theorem d_Model_uses_241 : decode b_Model_uses 241 = .ok (.goto (-66), 3) := by decide +kernel
theorem d_Model_uses_244 : decode b_Model_uses 244 = .ok (.iconst 1, 1) := by decide +kernel
theorem d_Model_uses_245 : decode b_Model_uses 245 = .ok (.ireturn, 1) := by decide +kernel
def f_Model_uses_175 (n : Nat) : Nat → Int32 → Int32 → St → Option (Int32 × St)
  | 0, _, _, _ => none
  | j + 1, y4, y5, σ => if 120 ≤ y5 then (some (1, σ)) else (gd (inb y5 120) (if (σ.2.2 0 y5.toNatClampNeg) = 0 then (bnd (y5 + 1) (fun v35 => f_Model_uses_175 n j y4 v35 σ)) else (bd (f_Model_monsterAt n (y5 - y5 / 12 * 12) (y5 / 12) σ) (fun r36 σ37 => if r36 < 0 then (if y4 = 0 then (bnd (sI σ37 2 (y5 - y5 / 12 * 12)) (fun σ43 => bnd (sI σ43 3 (y5 / 12)) (fun σ44 => bnd (y4 + (-1)) (fun v45 => bnd (y5 + 1) (fun v46 => f_Model_uses_175 n j v45 v46 σ44))))) else (bnd (y4 + (-1)) (fun v41 => bnd (y5 + 1) (fun v42 => f_Model_uses_175 n j v41 v42 σ37)))) else (bnd (y5 + 1) (fun v47 => f_Model_uses_175 n j y4 v47 σ37))))))
theorem f_Model_uses_175_s (n : Nat) (j : Nat) (y4 : Int32) (y5 : Int32) (σ : St) : f_Model_uses_175 n (j + 1) y4 y5 σ = (if 120 ≤ y5 then (some (1, σ)) else (gd (inb y5 120) (if (σ.2.2 0 y5.toNatClampNeg) = 0 then (bnd (y5 + 1) (fun v35 => f_Model_uses_175 n j y4 v35 σ)) else (bd (f_Model_monsterAt n (y5 - y5 / 12 * 12) (y5 / 12) σ) (fun r36 σ37 => if r36 < 0 then (if y4 = 0 then (bnd (sI σ37 2 (y5 - y5 / 12 * 12)) (fun σ43 => bnd (sI σ43 3 (y5 / 12)) (fun σ44 => bnd (y4 + (-1)) (fun v45 => bnd (y5 + 1) (fun v46 => f_Model_uses_175 n j v45 v46 σ44))))) else (bnd (y4 + (-1)) (fun v41 => bnd (y5 + 1) (fun v42 => f_Model_uses_175 n j v41 v42 σ37)))) else (bnd (y5 + 1) (fun v47 => f_Model_uses_175 n j y4 v47 σ37))))))) := rfl
def f_Model_uses_122 (n : Nat) : Nat → Int32 → Int32 → St → Option (Int32 × St)
  | 0, _, _, _ => none
  | j + 1, y3, y4, σ => if 120 ≤ y4 then (bd (f_Model_draw n y3 σ) (fun r19 σ20 => f_Model_uses_175 n n r19 0 σ20)) else (gd (inb y4 120) (if (σ.2.2 0 y4.toNatClampNeg) = 0 then (bnd (y4 + 1) (fun v24 => f_Model_uses_122 n j y3 v24 σ)) else (bd (f_Model_monsterAt n (y4 - y4 / 12 * 12) (y4 / 12) σ) (fun r25 σ26 => if 0 ≤ r25 then (bnd (y4 + 1) (fun v29 => f_Model_uses_122 n j y3 v29 σ26)) else (bnd (y3 + 1) (fun v30 => bnd (y4 + 1) (fun v31 => f_Model_uses_122 n j v30 v31 σ26)))))))
theorem f_Model_uses_122_s (n : Nat) (j : Nat) (y3 : Int32) (y4 : Int32) (σ : St) : f_Model_uses_122 n (j + 1) y3 y4 σ = (if 120 ≤ y4 then (bd (f_Model_draw n y3 σ) (fun r19 σ20 => f_Model_uses_175 n n r19 0 σ20)) else (gd (inb y4 120) (if (σ.2.2 0 y4.toNatClampNeg) = 0 then (bnd (y4 + 1) (fun v24 => f_Model_uses_122 n j y3 v24 σ)) else (bd (f_Model_monsterAt n (y4 - y4 / 12 * 12) (y4 / 12) σ) (fun r25 σ26 => if 0 ≤ r25 then (bnd (y4 + 1) (fun v29 => f_Model_uses_122 n j y3 v29 σ26)) else (bnd (y3 + 1) (fun v30 => bnd (y4 + 1) (fun v31 => f_Model_uses_122 n j v30 v31 σ26)))))))) := rfl
def f_Model_uses_110 (n : Nat) (y2 : Int32) (σ : St) : Option (Int32 × St) := if y2 = 2 then (f_Model_uses_122 n n 0 0 σ) else (some (1, σ))
def f_Model_uses_99 (n : Nat) (y2 : Int32) (σ : St) : Option (Int32 × St) := if y2 = 3 then (bnd (sI σ 7 6) (fun σ16 => f_Model_uses_110 n y2 σ16)) else (f_Model_uses_110 n y2 σ)
def f_Model_uses_84 (n : Nat) (y2 : Int32) (σ : St) : Option (Int32 × St) := if y2 = 1 then (bnd (sI σ 5 ((σ.1 5) + 1)) (fun σ14 => f_Model_uses_99 n y2 σ14)) else (f_Model_uses_99 n y2 σ)
def f_Model_uses_81 (n : Nat) (y2 : Int32) (s0 : Int32) (σ : St) : Option (Int32 × St) := bnd (sI σ 4 s0) (fun σ12 => f_Model_uses_84 n y2 σ12)
def f_Model_uses_29 (n : Nat) : Nat → Int32 → Int32 → St → Option (Int32 × St)
  | 0, _, _, _ => none
  | j + 1, y2, y3, σ => if (σ.1 12) ≤ y3 then (if y2 = 0 then (if (σ.1 4) ≤ 5 then (f_Model_uses_81 n y2 ((σ.1 4) + 5) σ) else (f_Model_uses_81 n y2 10 σ)) else (f_Model_uses_84 n y2 σ)) else (gd (inb (y3 + 1) 5) (gd (inb y3 5) (bnd (sA σ 15 y3.toNatClampNeg (σ.2.2 15 (y3 + 1).toNatClampNeg)) (fun σ10 => bnd (y3 + 1) (fun v11 => f_Model_uses_29 n j y2 v11 σ10)))))
theorem f_Model_uses_29_s (n : Nat) (j : Nat) (y2 : Int32) (y3 : Int32) (σ : St) : f_Model_uses_29 n (j + 1) y2 y3 σ = (if (σ.1 12) ≤ y3 then (if y2 = 0 then (if (σ.1 4) ≤ 5 then (f_Model_uses_81 n y2 ((σ.1 4) + 5) σ) else (f_Model_uses_81 n y2 10 σ)) else (f_Model_uses_84 n y2 σ)) else (gd (inb (y3 + 1) 5) (gd (inb y3 5) (bnd (sA σ 15 y3.toNatClampNeg (σ.2.2 15 (y3 + 1).toNatClampNeg)) (fun σ10 => bnd (y3 + 1) (fun v11 => f_Model_uses_29 n j y2 v11 σ10)))))) := rfl
def f_Model_uses (n : Nat) (x1 : Int32) (σ : St) : Option (Int32 × St) := if x1 < (σ.1 12) then (gd (inb x1 5) (bnd (σ.2.2 15 x1.toNatClampNeg) (fun v3 => bnd (sI σ 12 ((σ.1 12) - 1)) (fun σ4 => f_Model_uses_29 n n v3 x1 σ4)))) else (some (0, σ))
set_option maxHeartbeats 4000000 in
set_option maxRecDepth 100000 in
theorem c_Model_uses (l : Launch) (D : va_G) (ad : Nat → Nat) (cA : Nat → ClassId) (tz : Nat → Nat) (n : Nat) (x1 : Int32) (σ : St) (r : Int32) (σr : St) (hf : f_Model_uses n x1 σ = some (r, σr)) : Ki l D cA tz (wm ad cA) y_Model_uses (.code y_Model_uses b_Model_uses 6 (some .boolean) :: TB) ({ frames := 2, cells := 0, slots := 0, locals := 42 }) [.ref (ad 0), .int x1] σ r σr := by
  refine x_openz (own := R_Model) rfl (by decide) (fun p e s m args below meth c A Q X hml hZ hA H locs ls h hl rt => ?_)
  have hx := X.1
  have hb := X.2.1
  have hl : lv_has ls 6 [(0, .ref (ad 0)), (1, .int x1)] := hl
  have L175 : ∀ j : Nat, ∀ (y4 : Int32) (y5 : Int32) (σ : St), f_Model_uses_175 n j y4 y5 σ = some (r, σr) → ∀ (H : Heap) (locs : List Loc) (ls : Array Slot), WD D A s (wm ad cA σ) H locs → lv_has ls 6 [(0, .ref (ad 0)), (4, .int y4), (5, .int y5)] → W p l e ({ frames := 2, cells := 0, slots := 0, locals := 42 }) s m args below meth c H locs 0 0 Q (F0 m 175 ls []) := by
    intro j
    induction j with
    | zero => intro y4 y5 σ hf; exact absurd hf (fun z => by cases z)
    | succ j ih =>
      intro y4 y5 σ hf H locs ls h hl
      have hf := us (f_Model_uses_175_s n j y4 y5 σ) hf
      refine lv_iload hx hb d_Model_uses_175 (lv_at hl 2 rfl) ?_
      refine lv_bipush (v := 120) hx hb d_Model_uses_177 (by decide) ?_
      refine lv_icmp_ge (tgt := 244) hx hb d_Model_uses_179 (by decide) (fun c32 => ?_) (fun c32 => ?_)
      · have hf := it c32 hf
        refine lv_iconst (v := 1) hx hb d_Model_uses_244 (by decide) ?_
        exact rt _ _ H locs 245 ls rfl hf h d_Model_uses_245
      · have hf := ie c32 hf
        refine lv_aload_n hx hb d_Model_uses_182 rfl (lv_at hl 0 rfl) ?_
        refine G_model_floor X h m_f_Model_7 d_Model_uses_183 ?_
        refine lv_iload hx hb d_Model_uses_186 (lv_at hl 2 rfl) ?_
        obtain ⟨g33, hf⟩ := gd_s hf
        refine R_mfloor X h (inb_s g33) d_Model_uses_188 ?_
        refine lv_if_eq (tgt := 238) hx hb d_Model_uses_189 (by decide) (fun c34 => ?_) (fun c34 => ?_)
        · have hf := it c34 hf
          obtain ⟨v35, ev35⟩ : ∃ y : Int32, y = y5 + 1 := ⟨_, rfl⟩
          have hf := nm_b hf ev35
          refine lv_iinc (v := v35) (lv' := [(5, .int v35), (0, .ref (ad 0)), (4, .int y4)]) hx hb d_Model_uses_238 hl (k := 2) rfl (by rw [ev35]; rfl) (by decide) rfl (fun ls hl => ?_)
          refine lv_goto (tgt := 175) hx hb d_Model_uses_241 (by decide) ?_
          exact ih y4 v35 σ hf H locs ls h (lv_sub hl [1, 2, 0] rfl)
        · have hf := ie c34 hf
          refine lv_aload_n hx hb d_Model_uses_192 rfl (lv_at hl 0 rfl) ?_
          refine lv_iload hx hb d_Model_uses_193 (lv_at hl 2 rfl) ?_
          refine lv_bipush (v := 12) hx hb d_Model_uses_195 (by decide) ?_
          refine lv_irem hx hb d_Model_uses_197 (by decide) ?_
          refine lv_iload hx hb d_Model_uses_198 (lv_at hl 2 rfl) ?_
          refine lv_bipush (v := 12) hx hb d_Model_uses_200 (by decide) ?_
          refine lv_idiv hx hb d_Model_uses_202 (by decide) ?_
          obtain ⟨r36, σ37, h38, hf⟩ := bd_s hf
          refine x_Vi (As := [.int (y5 - y5 / 12 * 12), .int (y5 / 12)]) (rest := []) X hml hl.1 hZ hA h (c_Model_monsterAt l D ad cA tz n (y5 - y5 / 12 * 12) (y5 / 12) σ r36 σ37 h38) k_Model_monsterAt m_m_Model_141 kd_Model_monsterAt ⟨rfl, rfl, Nat.le_of_ble_eq_true rfl, Nat.le_of_ble_eq_true rfl⟩ 0 rfl rfl rfl rfl rfl (Nat.le_of_ble_eq_true rfl) d_Model_uses_203 (fun H locs h => ?_)
          refine lv_if_lt (tgt := 212) hx hb d_Model_uses_206 (by decide) (fun c39 => ?_) (fun c39 => ?_)
          · have hf := it c39 hf
            refine lv_iload hx hb d_Model_uses_212 (lv_at hl 1 rfl) ?_
            refine lv_if_ne (tgt := 235) hx hb d_Model_uses_214 (by decide) (fun c40 => ?_) (fun c40 => ?_)
            · have hf := ie c40 hf
              obtain ⟨v41, ev41⟩ : ∃ y : Int32, y = y4 + (-1) := ⟨_, rfl⟩
              have hf := nm_b hf ev41
              refine lv_iinc (v := v41) (lv' := [(4, .int v41), (0, .ref (ad 0)), (5, .int y5)]) hx hb d_Model_uses_235 hl (k := 1) rfl (by rw [ev41]; rfl) (by decide) rfl (fun ls hl => ?_)
              obtain ⟨v42, ev42⟩ : ∃ y : Int32, y = y5 + 1 := ⟨_, rfl⟩
              have hf := nm_b hf ev42
              refine lv_iinc (v := v42) (lv' := [(5, .int v42), (4, .int v41), (0, .ref (ad 0))]) hx hb d_Model_uses_238 hl (k := 2) rfl (by rw [ev42]; rfl) (by decide) rfl (fun ls hl => ?_)
              refine lv_goto (tgt := 175) hx hb d_Model_uses_241 (by decide) ?_
              exact ih v41 v42 σ37 hf H locs ls h (lv_sub hl [2, 1, 0] rfl)
            · have hf := it c40 hf
              refine lv_aload_n hx hb d_Model_uses_217 rfl (lv_at hl 0 rfl) ?_
              refine lv_iload hx hb d_Model_uses_218 (lv_at hl 2 rfl) ?_
              refine lv_bipush (v := 12) hx hb d_Model_uses_220 (by decide) ?_
              refine lv_irem hx hb d_Model_uses_222 (by decide) ?_
              refine P_model_px X h m_f_Model_129 d_Model_uses_223 (fun H locs σ43 eσ43 h => ?_)
              have hf := nm_b hf eσ43
              refine lv_aload_n hx hb d_Model_uses_226 rfl (lv_at hl 0 rfl) ?_
              refine lv_iload hx hb d_Model_uses_227 (lv_at hl 2 rfl) ?_
              refine lv_bipush (v := 12) hx hb d_Model_uses_229 (by decide) ?_
              refine lv_idiv hx hb d_Model_uses_231 (by decide) ?_
              refine P_model_py X h m_f_Model_132 d_Model_uses_232 (fun H locs σ44 eσ44 h => ?_)
              have hf := nm_b hf eσ44
              obtain ⟨v45, ev45⟩ : ∃ y : Int32, y = y4 + (-1) := ⟨_, rfl⟩
              have hf := nm_b hf ev45
              refine lv_iinc (v := v45) (lv' := [(4, .int v45), (0, .ref (ad 0)), (5, .int y5)]) hx hb d_Model_uses_235 hl (k := 1) rfl (by rw [ev45]; rfl) (by decide) rfl (fun ls hl => ?_)
              obtain ⟨v46, ev46⟩ : ∃ y : Int32, y = y5 + 1 := ⟨_, rfl⟩
              have hf := nm_b hf ev46
              refine lv_iinc (v := v46) (lv' := [(5, .int v46), (4, .int v45), (0, .ref (ad 0))]) hx hb d_Model_uses_238 hl (k := 2) rfl (by rw [ev46]; rfl) (by decide) rfl (fun ls hl => ?_)
              refine lv_goto (tgt := 175) hx hb d_Model_uses_241 (by decide) ?_
              exact ih v45 v46 σ44 hf H locs ls h (lv_sub hl [2, 1, 0] rfl)
          · have hf := ie c39 hf
            refine lv_goto (tgt := 238) hx hb d_Model_uses_209 (by decide) ?_
            obtain ⟨v47, ev47⟩ : ∃ y : Int32, y = y5 + 1 := ⟨_, rfl⟩
            have hf := nm_b hf ev47
            refine lv_iinc (v := v47) (lv' := [(5, .int v47), (0, .ref (ad 0)), (4, .int y4)]) hx hb d_Model_uses_238 hl (k := 2) rfl (by rw [ev47]; rfl) (by decide) rfl (fun ls hl => ?_)
            refine lv_goto (tgt := 175) hx hb d_Model_uses_241 (by decide) ?_
            exact ih y4 v47 σ37 hf H locs ls h (lv_sub hl [1, 2, 0] rfl)
  have L122 : ∀ j : Nat, ∀ (y3 : Int32) (y4 : Int32) (σ : St), f_Model_uses_122 n j y3 y4 σ = some (r, σr) → ∀ (H : Heap) (locs : List Loc) (ls : Array Slot), WD D A s (wm ad cA σ) H locs → lv_has ls 6 [(0, .ref (ad 0)), (3, .int y3), (4, .int y4)] → W p l e ({ frames := 2, cells := 0, slots := 0, locals := 42 }) s m args below meth c H locs 0 0 Q (F0 m 122 ls []) := by
    intro j
    induction j with
    | zero => intro y3 y4 σ hf; exact absurd hf (fun z => by cases z)
    | succ j ih =>
      intro y3 y4 σ hf H locs ls h hl
      have hf := us (f_Model_uses_122_s n j y3 y4 σ) hf
      refine lv_iload hx hb d_Model_uses_122 (lv_at hl 2 rfl) ?_
      refine lv_bipush (v := 120) hx hb d_Model_uses_124 (by decide) ?_
      refine lv_icmp_ge (tgt := 165) hx hb d_Model_uses_126 (by decide) (fun c18 => ?_) (fun c18 => ?_)
      · have hf := it c18 hf
        refine lv_aload_n hx hb d_Model_uses_165 rfl (lv_at hl 0 rfl) ?_
        refine lv_iload_n hx hb d_Model_uses_166 rfl (lv_at hl 1 rfl) ?_
        obtain ⟨r19, σ20, h21, hf⟩ := bd_s hf
        refine x_Vi (As := [.int y3]) (rest := []) X hml hl.1 hZ hA h (c_Model_draw l D ad cA tz n y3 σ r19 σ20 h21) k_Model_draw m_m_Model_175 kd_Model_draw ⟨rfl, rfl, Nat.le_of_ble_eq_true rfl, Nat.le_of_ble_eq_true rfl⟩ 0 rfl rfl rfl rfl rfl (Nat.le_of_ble_eq_true rfl) d_Model_uses_167 (fun H locs h => ?_)
        refine lv_istore (lv' := [(4, .int r19), (0, .ref (ad 0)), (3, .int y3)]) hx hb d_Model_uses_170 hl (by decide) rfl (fun ls hl => ?_)
        refine lv_iconst (v := 0) hx hb d_Model_uses_172 (by decide) ?_
        refine lv_istore (lv' := [(5, .int 0), (4, .int r19), (0, .ref (ad 0)), (3, .int y3)]) hx hb d_Model_uses_173 hl (by decide) rfl (fun ls hl => ?_)
        exact L175 n r19 0 σ20 hf H locs ls h (lv_sub hl [2, 1, 0] rfl)
      · have hf := ie c18 hf
        refine lv_aload_n hx hb d_Model_uses_129 rfl (lv_at hl 0 rfl) ?_
        refine G_model_floor X h m_f_Model_7 d_Model_uses_130 ?_
        refine lv_iload hx hb d_Model_uses_133 (lv_at hl 2 rfl) ?_
        obtain ⟨g22, hf⟩ := gd_s hf
        refine R_mfloor X h (inb_s g22) d_Model_uses_135 ?_
        refine lv_if_eq (tgt := 159) hx hb d_Model_uses_136 (by decide) (fun c23 => ?_) (fun c23 => ?_)
        · have hf := it c23 hf
          obtain ⟨v24, ev24⟩ : ∃ y : Int32, y = y4 + 1 := ⟨_, rfl⟩
          have hf := nm_b hf ev24
          refine lv_iinc (v := v24) (lv' := [(4, .int v24), (0, .ref (ad 0)), (3, .int y3)]) hx hb d_Model_uses_159 hl (k := 2) rfl (by rw [ev24]; rfl) (by decide) rfl (fun ls hl => ?_)
          refine lv_goto (tgt := 122) hx hb d_Model_uses_162 (by decide) ?_
          exact ih y3 v24 σ hf H locs ls h (lv_sub hl [1, 2, 0] rfl)
        · have hf := ie c23 hf
          refine lv_aload_n hx hb d_Model_uses_139 rfl (lv_at hl 0 rfl) ?_
          refine lv_iload hx hb d_Model_uses_140 (lv_at hl 2 rfl) ?_
          refine lv_bipush (v := 12) hx hb d_Model_uses_142 (by decide) ?_
          refine lv_irem hx hb d_Model_uses_144 (by decide) ?_
          refine lv_iload hx hb d_Model_uses_145 (lv_at hl 2 rfl) ?_
          refine lv_bipush (v := 12) hx hb d_Model_uses_147 (by decide) ?_
          refine lv_idiv hx hb d_Model_uses_149 (by decide) ?_
          obtain ⟨r25, σ26, h27, hf⟩ := bd_s hf
          refine x_Vi (As := [.int (y4 - y4 / 12 * 12), .int (y4 / 12)]) (rest := []) X hml hl.1 hZ hA h (c_Model_monsterAt l D ad cA tz n (y4 - y4 / 12 * 12) (y4 / 12) σ r25 σ26 h27) k_Model_monsterAt m_m_Model_141 kd_Model_monsterAt ⟨rfl, rfl, Nat.le_of_ble_eq_true rfl, Nat.le_of_ble_eq_true rfl⟩ 0 rfl rfl rfl rfl rfl (Nat.le_of_ble_eq_true rfl) d_Model_uses_150 (fun H locs h => ?_)
          refine lv_if_ge (tgt := 159) hx hb d_Model_uses_153 (by decide) (fun c28 => ?_) (fun c28 => ?_)
          · have hf := it c28 hf
            obtain ⟨v29, ev29⟩ : ∃ y : Int32, y = y4 + 1 := ⟨_, rfl⟩
            have hf := nm_b hf ev29
            refine lv_iinc (v := v29) (lv' := [(4, .int v29), (0, .ref (ad 0)), (3, .int y3)]) hx hb d_Model_uses_159 hl (k := 2) rfl (by rw [ev29]; rfl) (by decide) rfl (fun ls hl => ?_)
            refine lv_goto (tgt := 122) hx hb d_Model_uses_162 (by decide) ?_
            exact ih y3 v29 σ26 hf H locs ls h (lv_sub hl [1, 2, 0] rfl)
          · have hf := ie c28 hf
            obtain ⟨v30, ev30⟩ : ∃ y : Int32, y = y3 + 1 := ⟨_, rfl⟩
            have hf := nm_b hf ev30
            refine lv_iinc (v := v30) (lv' := [(3, .int v30), (0, .ref (ad 0)), (4, .int y4)]) hx hb d_Model_uses_156 hl (k := 1) rfl (by rw [ev30]; rfl) (by decide) rfl (fun ls hl => ?_)
            obtain ⟨v31, ev31⟩ : ∃ y : Int32, y = y4 + 1 := ⟨_, rfl⟩
            have hf := nm_b hf ev31
            refine lv_iinc (v := v31) (lv' := [(4, .int v31), (3, .int v30), (0, .ref (ad 0))]) hx hb d_Model_uses_159 hl (k := 2) rfl (by rw [ev31]; rfl) (by decide) rfl (fun ls hl => ?_)
            refine lv_goto (tgt := 122) hx hb d_Model_uses_162 (by decide) ?_
            exact ih v30 v31 σ26 hf H locs ls h (lv_sub hl [2, 1, 0] rfl)
  have L110 : ∀ (y2 : Int32) (σ : St), f_Model_uses_110 n y2 σ = some (r, σr) → ∀ (H : Heap) (locs : List Loc) (ls : Array Slot), WD D A s (wm ad cA σ) H locs → lv_has ls 6 [(0, .ref (ad 0)), (2, .int y2)] → W p l e ({ frames := 2, cells := 0, slots := 0, locals := 42 }) s m args below meth c H locs 0 0 Q (F0 m 110 ls []) := by
    intro y2 σ hf H locs ls h hl
    unfold f_Model_uses_110 at hf
    refine lv_iload_n hx hb d_Model_uses_110 rfl (lv_at hl 1 rfl) ?_
    refine lv_iconst (v := 2) hx hb d_Model_uses_111 (by decide) ?_
    refine lv_icmp_eq (tgt := 117) hx hb d_Model_uses_112 (by decide) (fun c17 => ?_) (fun c17 => ?_)
    · have hf := it c17 hf
      refine lv_iconst (v := 0) hx hb d_Model_uses_117 (by decide) ?_
      refine lv_istore_n (lv' := [(3, .int 0), (0, .ref (ad 0)), (2, .int y2)]) hx hb d_Model_uses_118 rfl hl (by decide) rfl (fun ls hl => ?_)
      refine lv_iconst (v := 0) hx hb d_Model_uses_119 (by decide) ?_
      refine lv_istore (lv' := [(4, .int 0), (3, .int 0), (0, .ref (ad 0)), (2, .int y2)]) hx hb d_Model_uses_120 hl (by decide) rfl (fun ls hl => ?_)
      exact L122 n 0 0 σ hf H locs ls h (lv_sub hl [2, 1, 0] rfl)
    · have hf := ie c17 hf
      refine lv_iconst (v := 1) hx hb d_Model_uses_115 (by decide) ?_
      exact rt _ _ H locs 116 ls rfl hf h d_Model_uses_116
  have L99 : ∀ (y2 : Int32) (σ : St), f_Model_uses_99 n y2 σ = some (r, σr) → ∀ (H : Heap) (locs : List Loc) (ls : Array Slot), WD D A s (wm ad cA σ) H locs → lv_has ls 6 [(0, .ref (ad 0)), (2, .int y2)] → W p l e ({ frames := 2, cells := 0, slots := 0, locals := 42 }) s m args below meth c H locs 0 0 Q (F0 m 99 ls []) := by
    intro y2 σ hf H locs ls h hl
    unfold f_Model_uses_99 at hf
    refine lv_iload_n hx hb d_Model_uses_99 rfl (lv_at hl 1 rfl) ?_
    refine lv_iconst (v := 3) hx hb d_Model_uses_100 (by decide) ?_
    refine lv_icmp_ne (tgt := 110) hx hb d_Model_uses_101 (by decide) (fun c15 => ?_) (fun c15 => ?_)
    · have hf := ie c15 hf
      exact L110 y2 σ hf H locs ls h (lv_sub hl [0, 1] rfl)
    · have hf := it c15 hf
      refine lv_aload_n hx hb d_Model_uses_104 rfl (lv_at hl 0 rfl) ?_
      refine lv_bipush (v := 6) hx hb d_Model_uses_105 (by decide) ?_
      refine P_model_haste X h m_f_Model_90 d_Model_uses_107 (fun H locs σ16 eσ16 h => ?_)
      have hf := nm_b hf eσ16
      exact L110 y2 σ16 hf H locs ls h (lv_sub hl [0, 1] rfl)
  have L84 : ∀ (y2 : Int32) (σ : St), f_Model_uses_84 n y2 σ = some (r, σr) → ∀ (H : Heap) (locs : List Loc) (ls : Array Slot), WD D A s (wm ad cA σ) H locs → lv_has ls 6 [(0, .ref (ad 0)), (2, .int y2)] → W p l e ({ frames := 2, cells := 0, slots := 0, locals := 42 }) s m args below meth c H locs 0 0 Q (F0 m 84 ls []) := by
    intro y2 σ hf H locs ls h hl
    unfold f_Model_uses_84 at hf
    refine lv_iload_n hx hb d_Model_uses_84 rfl (lv_at hl 1 rfl) ?_
    refine lv_iconst (v := 1) hx hb d_Model_uses_85 (by decide) ?_
    refine lv_icmp_ne (tgt := 99) hx hb d_Model_uses_86 (by decide) (fun c13 => ?_) (fun c13 => ?_)
    · have hf := ie c13 hf
      exact L99 y2 σ hf H locs ls h (lv_sub hl [0, 1] rfl)
    · have hf := it c13 hf
      refine lv_aload_n hx hb d_Model_uses_89 rfl (lv_at hl 0 rfl) ?_
      refine lv_dup hx hb d_Model_uses_90 rfl ?_
      refine G_model_hit X h m_f_Model_87 d_Model_uses_91 ?_
      refine lv_iconst (v := 1) hx hb d_Model_uses_94 (by decide) ?_
      refine lv_iadd hx hb d_Model_uses_95 ?_
      refine P_model_hit X h m_f_Model_87 d_Model_uses_96 (fun H locs σ14 eσ14 h => ?_)
      have hf := nm_b hf eσ14
      exact L99 y2 σ14 hf H locs ls h (lv_sub hl [0, 1] rfl)
  have L81 : ∀ (y2 : Int32) (s0 : Int32) (σ : St), f_Model_uses_81 n y2 s0 σ = some (r, σr) → ∀ (H : Heap) (locs : List Loc) (ls : Array Slot), WD D A s (wm ad cA σ) H locs → lv_has ls 6 [(0, .ref (ad 0)), (2, .int y2)] → W p l e ({ frames := 2, cells := 0, slots := 0, locals := 42 }) s m args below meth c H locs 0 0 Q (F0 m 81 ls [.int s0, .ref (ad 0)]) := by
    intro y2 s0 σ hf H locs ls h hl
    unfold f_Model_uses_81 at hf
    refine P_model_life X h m_f_Model_84 d_Model_uses_81 (fun H locs σ12 eσ12 h => ?_)
    have hf := nm_b hf eσ12
    exact L84 y2 σ12 hf H locs ls h (lv_sub hl [0, 1] rfl)
  have L29 : ∀ j : Nat, ∀ (y2 : Int32) (y3 : Int32) (σ : St), f_Model_uses_29 n j y2 y3 σ = some (r, σr) → ∀ (H : Heap) (locs : List Loc) (ls : Array Slot), WD D A s (wm ad cA σ) H locs → lv_has ls 6 [(0, .ref (ad 0)), (2, .int y2), (3, .int y3)] → W p l e ({ frames := 2, cells := 0, slots := 0, locals := 42 }) s m args below meth c H locs 0 0 Q (F0 m 29 ls []) := by
    intro j
    induction j with
    | zero => intro y2 y3 σ hf; exact absurd hf (fun z => by cases z)
    | succ j ih =>
      intro y2 y3 σ hf H locs ls h hl
      have hf := us (f_Model_uses_29_s n j y2 y3 σ) hf
      refine lv_iload_n hx hb d_Model_uses_29 rfl (lv_at hl 2 rfl) ?_
      refine lv_aload_n hx hb d_Model_uses_30 rfl (lv_at hl 0 rfl) ?_
      refine G_model_things X h m_f_Model_93 d_Model_uses_31 ?_
      refine lv_icmp_ge (tgt := 57) hx hb d_Model_uses_34 (by decide) (fun c5 => ?_) (fun c5 => ?_)
      · have hf := it c5 hf
        refine lv_iload_n hx hb d_Model_uses_57 rfl (lv_at hl 1 rfl) ?_
        refine lv_if_ne (tgt := 84) hx hb d_Model_uses_58 (by decide) (fun c6 => ?_) (fun c6 => ?_)
        · have hf := ie c6 hf
          exact L84 y2 σ hf H locs ls h (lv_sub hl [0, 1] rfl)
        · have hf := it c6 hf
          refine lv_aload_n hx hb d_Model_uses_61 rfl (lv_at hl 0 rfl) ?_
          refine lv_aload_n hx hb d_Model_uses_62 rfl (lv_at hl 0 rfl) ?_
          refine G_model_life X h m_f_Model_84 d_Model_uses_63 ?_
          refine lv_iconst (v := 5) hx hb d_Model_uses_66 (by decide) ?_
          refine lv_icmp_le (tgt := 75) hx hb d_Model_uses_67 (by decide) (fun c7 => ?_) (fun c7 => ?_)
          · have hf := it c7 hf
            refine lv_aload_n hx hb d_Model_uses_75 rfl (lv_at hl 0 rfl) ?_
            refine G_model_life X h m_f_Model_84 d_Model_uses_76 ?_
            refine lv_iconst (v := 5) hx hb d_Model_uses_79 (by decide) ?_
            refine lv_iadd hx hb d_Model_uses_80 ?_
            exact L81 y2 ((σ.1 4) + 5) σ hf H locs ls h (lv_sub hl [0, 1] rfl)
          · have hf := ie c7 hf
            refine lv_bipush (v := 10) hx hb d_Model_uses_70 (by decide) ?_
            refine lv_goto (tgt := 81) hx hb d_Model_uses_72 (by decide) ?_
            exact L81 y2 10 σ hf H locs ls h (lv_sub hl [0, 1] rfl)
      · have hf := ie c5 hf
        refine lv_aload_n hx hb d_Model_uses_37 rfl (lv_at hl 0 rfl) ?_
        refine G_model_bag X h m_f_Model_56 d_Model_uses_38 ?_
        refine lv_iload_n hx hb d_Model_uses_41 rfl (lv_at hl 2 rfl) ?_
        refine lv_aload_n hx hb d_Model_uses_42 rfl (lv_at hl 0 rfl) ?_
        refine G_model_bag X h m_f_Model_56 d_Model_uses_43 ?_
        refine lv_iload_n hx hb d_Model_uses_46 rfl (lv_at hl 2 rfl) ?_
        refine lv_iconst (v := 1) hx hb d_Model_uses_47 (by decide) ?_
        refine lv_iadd hx hb d_Model_uses_48 ?_
        obtain ⟨g8, hf⟩ := gd_s hf
        refine R_mbag X h (inb_s g8) d_Model_uses_49 ?_
        obtain ⟨g9, hf⟩ := gd_s hf
        refine S_mbag X h (inb_s g9) d_Model_uses_50 (fun H locs σ10 eσ10 h => ?_)
        have hf := nm_b hf eσ10
        obtain ⟨v11, ev11⟩ : ∃ y : Int32, y = y3 + 1 := ⟨_, rfl⟩
        have hf := nm_b hf ev11
        refine lv_iinc (v := v11) (lv' := [(3, .int v11), (0, .ref (ad 0)), (2, .int y2)]) hx hb d_Model_uses_51 hl (k := 2) rfl (by rw [ev11]; rfl) (by decide) rfl (fun ls hl => ?_)
        refine lv_goto (tgt := 29) hx hb d_Model_uses_54 (by decide) ?_
        exact ih y2 v11 σ10 hf H locs ls h (lv_sub hl [1, 2, 0] rfl)
  unfold f_Model_uses at hf
  refine lv_iload_n hx hb d_Model_uses_0 rfl (lv_at hl 1 rfl) ?_
  refine lv_aload_n hx hb d_Model_uses_1 rfl (lv_at hl 0 rfl) ?_
  refine G_model_things X h m_f_Model_93 d_Model_uses_2 ?_
  refine lv_icmp_lt (tgt := 10) hx hb d_Model_uses_5 (by decide) (fun c1 => ?_) (fun c1 => ?_)
  · have hf := it c1 hf
    refine lv_aload_n hx hb d_Model_uses_10 rfl (lv_at hl 0 rfl) ?_
    refine G_model_bag X h m_f_Model_56 d_Model_uses_11 ?_
    refine lv_iload_n hx hb d_Model_uses_14 rfl (lv_at hl 1 rfl) ?_
    obtain ⟨g2, hf⟩ := gd_s hf
    refine R_mbag X h (inb_s g2) d_Model_uses_15 ?_
    refine lv_topi (fun v3 ev3 => ?_)
    have hf := nm_b hf ev3
    refine lv_istore_n (lv' := [(2, .int v3), (0, .ref (ad 0)), (1, .int x1)]) hx hb d_Model_uses_16 rfl hl (by decide) rfl (fun ls hl => ?_)
    refine lv_aload_n hx hb d_Model_uses_17 rfl (lv_at hl 1 rfl) ?_
    refine lv_dup hx hb d_Model_uses_18 rfl ?_
    refine G_model_things X h m_f_Model_93 d_Model_uses_19 ?_
    refine lv_iconst (v := 1) hx hb d_Model_uses_22 (by decide) ?_
    refine lv_isub hx hb d_Model_uses_23 ?_
    refine P_model_things X h m_f_Model_93 d_Model_uses_24 (fun H locs σ4 eσ4 h => ?_)
    have hf := nm_b hf eσ4
    refine lv_iload_n hx hb d_Model_uses_27 rfl (lv_at hl 2 rfl) ?_
    refine lv_istore_n (lv' := [(3, .int x1), (2, .int v3), (0, .ref (ad 0)), (1, .int x1)]) hx hb d_Model_uses_28 rfl hl (by decide) rfl (fun ls hl => ?_)
    exact L29 n v3 x1 σ4 hf H locs ls h (lv_sub hl [2, 1, 0] rfl)
  · have hf := ie c1 hf
    refine lv_iconst (v := 0) hx hb d_Model_uses_8 (by decide) ?_
    exact rt _ _ H locs 9 ls rfl hf h d_Model_uses_9
theorem d_Model_gets_0 : decode b_Model_gets 0 = .ok (.bipush 12, 2) := by decide +kernel
theorem d_Model_gets_2 : decode b_Model_gets 2 = .ok (.aload_n 0, 1) := by decide +kernel
theorem d_Model_gets_3 : decode b_Model_gets 3 = .ok (.getfield 132, 3) := by decide +kernel
theorem d_Model_gets_6 : decode b_Model_gets 6 = .ok (.imul, 1) := by decide +kernel
theorem d_Model_gets_7 : decode b_Model_gets 7 = .ok (.aload_n 0, 1) := by decide +kernel
theorem d_Model_gets_8 : decode b_Model_gets 8 = .ok (.getfield 129, 3) := by decide +kernel
theorem d_Model_gets_11 : decode b_Model_gets 11 = .ok (.iadd, 1) := by decide +kernel
theorem d_Model_gets_12 : decode b_Model_gets 12 = .ok (.istore_n 1, 1) := by decide +kernel
theorem d_Model_gets_13 : decode b_Model_gets 13 = .ok (.aload_n 0, 1) := by decide +kernel
theorem d_Model_gets_14 : decode b_Model_gets 14 = .ok (.getfield 13, 3) := by decide +kernel
theorem d_Model_gets_17 : decode b_Model_gets 17 = .ok (.iload_n 1, 1) := by decide +kernel
theorem d_Model_gets_18 : decode b_Model_gets 18 = .ok (.iaload, 1) := by decide +kernel
theorem d_Model_gets_19 : decode b_Model_gets 19 = .ok (.ifCond .lt 11, 3) := by decide +kernel
theorem d_Model_gets_22 : decode b_Model_gets 22 = .ok (.aload_n 0, 1) := by decide +kernel
theorem d_Model_gets_23 : decode b_Model_gets 23 = .ok (.getfield 93, 3) := by decide +kernel
theorem d_Model_gets_26 : decode b_Model_gets 26 = .ok (.iconst 4, 1) := by decide +kernel
theorem d_Model_gets_27 : decode b_Model_gets 27 = .ok (.if_icmp .ne 5, 3) := by decide +kernel
theorem d_Model_gets_30 : decode b_Model_gets 30 = .ok (.iconst 0, 1) := by decide +kernel
theorem d_Model_gets_31 : decode b_Model_gets 31 = .ok (.ireturn, 1) := by decide +kernel
theorem d_Model_gets_32 : decode b_Model_gets 32 = .ok (.aload_n 0, 1) := by decide +kernel
theorem d_Model_gets_33 : decode b_Model_gets 33 = .ok (.getfield 56, 3) := by decide +kernel
theorem d_Model_gets_36 : decode b_Model_gets 36 = .ok (.aload_n 0, 1) := by decide +kernel
theorem d_Model_gets_37 : decode b_Model_gets 37 = .ok (.getfield 93, 3) := by decide +kernel
theorem d_Model_gets_40 : decode b_Model_gets 40 = .ok (.aload_n 0, 1) := by decide +kernel
theorem d_Model_gets_41 : decode b_Model_gets 41 = .ok (.getfield 13, 3) := by decide +kernel
theorem d_Model_gets_44 : decode b_Model_gets 44 = .ok (.iload_n 1, 1) := by decide +kernel
theorem d_Model_gets_45 : decode b_Model_gets 45 = .ok (.iaload, 1) := by decide +kernel
theorem d_Model_gets_46 : decode b_Model_gets 46 = .ok (.iastore, 1) := by decide +kernel
theorem d_Model_gets_47 : decode b_Model_gets 47 = .ok (.aload_n 0, 1) := by decide +kernel
theorem d_Model_gets_48 : decode b_Model_gets 48 = .ok (.dup, 1) := by decide +kernel
theorem d_Model_gets_49 : decode b_Model_gets 49 = .ok (.getfield 93, 3) := by decide +kernel
theorem d_Model_gets_52 : decode b_Model_gets 52 = .ok (.iconst 1, 1) := by decide +kernel
theorem d_Model_gets_53 : decode b_Model_gets 53 = .ok (.iadd, 1) := by decide +kernel
theorem d_Model_gets_54 : decode b_Model_gets 54 = .ok (.putfield 93, 3) := by decide +kernel
theorem d_Model_gets_57 : decode b_Model_gets 57 = .ok (.aload_n 0, 1) := by decide +kernel
theorem d_Model_gets_58 : decode b_Model_gets 58 = .ok (.getfield 13, 3) := by decide +kernel
theorem d_Model_gets_61 : decode b_Model_gets 61 = .ok (.iload_n 1, 1) := by decide +kernel
theorem d_Model_gets_62 : decode b_Model_gets 62 = .ok (.iconst (-1), 1) := by decide +kernel
theorem d_Model_gets_63 : decode b_Model_gets 63 = .ok (.iastore, 1) := by decide +kernel
theorem d_Model_gets_64 : decode b_Model_gets 64 = .ok (.iconst 1, 1) := by decide +kernel
theorem d_Model_gets_65 : decode b_Model_gets 65 = .ok (.ireturn, 1) := by decide +kernel
def f_Model_gets (n : Nat) (σ : St) : Option (Int32 × St) := bnd ((12 * (σ.1 3)) + (σ.1 2)) (fun v1 => gd (inb v1 120) (if (σ.2.2 1 v1.toNatClampNeg) < 0 then (some (0, σ)) else (if (σ.1 12) = 4 then (some (0, σ)) else (gd (inb v1 120) (gd (inb (σ.1 12) 5) (bnd (sA σ 15 (σ.1 12).toNatClampNeg (σ.2.2 1 v1.toNatClampNeg)) (fun σ7 => bnd (sI σ7 12 ((σ7.1 12) + 1)) (fun σ8 => gd (inb v1 120) (bnd (sA σ8 1 v1.toNatClampNeg (-1)) (fun σ10 => some (1, σ10)))))))))))
set_option maxHeartbeats 4000000 in
set_option maxRecDepth 100000 in
theorem c_Model_gets (l : Launch) (D : va_G) (ad : Nat → Nat) (cA : Nat → ClassId) (tz : Nat → Nat) (n : Nat) (σ : St) (r : Int32) (σr : St) (hf : f_Model_gets n σ = some (r, σr)) : Ki l D cA tz (wm ad cA) y_Model_gets (.code y_Model_gets b_Model_gets 2 (some .boolean) :: TB) ({ frames := 0, cells := 0, slots := 0, locals := 0 }) [.ref (ad 0)] σ r σr := by
  refine x_openz (own := R_Model) rfl (by decide) (fun p e s m args below meth c A Q X hml hZ hA H locs ls h hl rt => ?_)
  have hx := X.1
  have hb := X.2.1
  have hl : lv_has ls 2 [(0, .ref (ad 0))] := hl
  unfold f_Model_gets at hf
  refine lv_bipush (v := 12) hx hb d_Model_gets_0 (by decide) ?_
  refine lv_aload_n hx hb d_Model_gets_2 rfl (lv_at hl 0 rfl) ?_
  refine G_model_py X h m_f_Model_132 d_Model_gets_3 ?_
  refine lv_imul hx hb d_Model_gets_6 ?_
  refine lv_aload_n hx hb d_Model_gets_7 rfl (lv_at hl 0 rfl) ?_
  refine G_model_px X h m_f_Model_129 d_Model_gets_8 ?_
  refine lv_iadd hx hb d_Model_gets_11 ?_
  refine lv_topi (fun v1 ev1 => ?_)
  have hf := nm_b hf ev1
  refine lv_istore_n (lv' := [(1, .int v1), (0, .ref (ad 0))]) hx hb d_Model_gets_12 rfl hl (by decide) rfl (fun ls hl => ?_)
  refine lv_aload_n hx hb d_Model_gets_13 rfl (lv_at hl 1 rfl) ?_
  refine G_model_thing X h m_f_Model_13 d_Model_gets_14 ?_
  refine lv_iload_n hx hb d_Model_gets_17 rfl (lv_at hl 0 rfl) ?_
  obtain ⟨g2, hf⟩ := gd_s hf
  refine R_mthing X h (inb_s g2) d_Model_gets_18 ?_
  refine lv_if_lt (tgt := 30) hx hb d_Model_gets_19 (by decide) (fun c3 => ?_) (fun c3 => ?_)
  · have hf := it c3 hf
    refine lv_iconst (v := 0) hx hb d_Model_gets_30 (by decide) ?_
    exact rt _ _ H locs 31 ls rfl hf h d_Model_gets_31
  · have hf := ie c3 hf
    refine lv_aload_n hx hb d_Model_gets_22 rfl (lv_at hl 1 rfl) ?_
    refine G_model_things X h m_f_Model_93 d_Model_gets_23 ?_
    refine lv_iconst (v := 4) hx hb d_Model_gets_26 (by decide) ?_
    refine lv_icmp_ne (tgt := 32) hx hb d_Model_gets_27 (by decide) (fun c4 => ?_) (fun c4 => ?_)
    · have hf := ie c4 hf
      refine lv_aload_n hx hb d_Model_gets_32 rfl (lv_at hl 1 rfl) ?_
      refine G_model_bag X h m_f_Model_56 d_Model_gets_33 ?_
      refine lv_aload_n hx hb d_Model_gets_36 rfl (lv_at hl 1 rfl) ?_
      refine G_model_things X h m_f_Model_93 d_Model_gets_37 ?_
      refine lv_aload_n hx hb d_Model_gets_40 rfl (lv_at hl 1 rfl) ?_
      refine G_model_thing X h m_f_Model_13 d_Model_gets_41 ?_
      refine lv_iload_n hx hb d_Model_gets_44 rfl (lv_at hl 0 rfl) ?_
      obtain ⟨g5, hf⟩ := gd_s hf
      refine R_mthing X h (inb_s g5) d_Model_gets_45 ?_
      obtain ⟨g6, hf⟩ := gd_s hf
      refine S_mbag X h (inb_s g6) d_Model_gets_46 (fun H locs σ7 eσ7 h => ?_)
      have hf := nm_b hf eσ7
      refine lv_aload_n hx hb d_Model_gets_47 rfl (lv_at hl 1 rfl) ?_
      refine lv_dup hx hb d_Model_gets_48 rfl ?_
      refine G_model_things X h m_f_Model_93 d_Model_gets_49 ?_
      refine lv_iconst (v := 1) hx hb d_Model_gets_52 (by decide) ?_
      refine lv_iadd hx hb d_Model_gets_53 ?_
      refine P_model_things X h m_f_Model_93 d_Model_gets_54 (fun H locs σ8 eσ8 h => ?_)
      have hf := nm_b hf eσ8
      refine lv_aload_n hx hb d_Model_gets_57 rfl (lv_at hl 1 rfl) ?_
      refine G_model_thing X h m_f_Model_13 d_Model_gets_58 ?_
      refine lv_iload_n hx hb d_Model_gets_61 rfl (lv_at hl 0 rfl) ?_
      refine lv_iconst (v := (-1)) hx hb d_Model_gets_62 (by decide) ?_
      obtain ⟨g9, hf⟩ := gd_s hf
      refine S_mthing X h (inb_s g9) d_Model_gets_63 (fun H locs σ10 eσ10 h => ?_)
      have hf := nm_b hf eσ10
      refine lv_iconst (v := 1) hx hb d_Model_gets_64 (by decide) ?_
      exact rt _ _ H locs 65 ls rfl hf h d_Model_gets_65
    · have hf := it c4 hf
      refine lv_iconst (v := 0) hx hb d_Model_gets_30 (by decide) ?_
      exact rt _ _ H locs 31 ls rfl hf h d_Model_gets_31
theorem d_Model_dx_0 : decode b_Model_dx 0 = .ok (.iload_n 0, 1) := by decide +kernel
theorem d_Model_dx_1 : decode b_Model_dx 1 = .ok (.iconst 1, 1) := by decide +kernel
theorem d_Model_dx_2 : decode b_Model_dx 2 = .ok (.if_icmp .ne 7, 3) := by decide +kernel
theorem d_Model_dx_5 : decode b_Model_dx 5 = .ok (.iconst 1, 1) := by decide +kernel
theorem d_Model_dx_6 : decode b_Model_dx 6 = .ok (.goto 13, 3) := by decide +kernel
theorem d_Model_dx_9 : decode b_Model_dx 9 = .ok (.iload_n 0, 1) := by decide +kernel
theorem d_Model_dx_10 : decode b_Model_dx 10 = .ok (.iconst 3, 1) := by decide +kernel
theorem d_Model_dx_11 : decode b_Model_dx 11 = .ok (.if_icmp .ne 7, 3) := by decide +kernel
theorem d_Model_dx_14 : decode b_Model_dx 14 = .ok (.iconst (-1), 1) := by decide +kernel
theorem d_Model_dx_15 : decode b_Model_dx 15 = .ok (.goto 4, 3) := by decide +kernel
theorem d_Model_dx_18 : decode b_Model_dx 18 = .ok (.iconst 0, 1) := by decide +kernel
theorem d_Model_dx_19 : decode b_Model_dx 19 = .ok (.ireturn, 1) := by decide +kernel
def f_Model_dx (n : Nat) (x0 : Int32) (σ : St) : Option (Int32 × St) := if x0 = 1 then (some (1, σ)) else (if x0 = 3 then (some ((-1), σ)) else (some (0, σ)))
set_option maxHeartbeats 4000000 in
set_option maxRecDepth 100000 in
theorem c_Model_dx (l : Launch) (D : va_G) (ad : Nat → Nat) (cA : Nat → ClassId) (tz : Nat → Nat) (n : Nat) (x0 : Int32) (σ : St) (r : Int32) (σr : St) (hf : f_Model_dx n x0 σ = some (r, σr)) : Ki l D cA tz (wm ad cA) y_Model_dx (.code y_Model_dx b_Model_dx 1 (some .int) :: TB) ({ frames := 0, cells := 0, slots := 0, locals := 0 }) [.int x0] σ r σr := by
  refine x_openi (own := R_Model) rfl (by decide) (fun p e s m args below meth c A Q X hml hZ hA H locs ls h hl rt => ?_)
  have hx := X.1
  have hb := X.2.1
  have hl : lv_has ls 1 [(0, .int x0)] := hl
  unfold f_Model_dx at hf
  refine lv_iload_n hx hb d_Model_dx_0 rfl (lv_at hl 0 rfl) ?_
  refine lv_iconst (v := 1) hx hb d_Model_dx_1 (by decide) ?_
  refine lv_icmp_ne (tgt := 9) hx hb d_Model_dx_2 (by decide) (fun c1 => ?_) (fun c1 => ?_)
  · have hf := ie c1 hf
    refine lv_iload_n hx hb d_Model_dx_9 rfl (lv_at hl 0 rfl) ?_
    refine lv_iconst (v := 3) hx hb d_Model_dx_10 (by decide) ?_
    refine lv_icmp_ne (tgt := 18) hx hb d_Model_dx_11 (by decide) (fun c2 => ?_) (fun c2 => ?_)
    · have hf := ie c2 hf
      refine lv_iconst (v := 0) hx hb d_Model_dx_18 (by decide) ?_
      exact rt _ _ H locs 19 ls hf h d_Model_dx_19
    · have hf := it c2 hf
      refine lv_iconst (v := (-1)) hx hb d_Model_dx_14 (by decide) ?_
      refine lv_goto (tgt := 19) hx hb d_Model_dx_15 (by decide) ?_
      exact rt _ _ H locs 19 ls hf h d_Model_dx_19
  · have hf := it c1 hf
    refine lv_iconst (v := 1) hx hb d_Model_dx_5 (by decide) ?_
    refine lv_goto (tgt := 19) hx hb d_Model_dx_6 (by decide) ?_
    exact rt _ _ H locs 19 ls hf h d_Model_dx_19
theorem d_Model_dy_0 : decode b_Model_dy 0 = .ok (.iload_n 0, 1) := by decide +kernel
theorem d_Model_dy_1 : decode b_Model_dy 1 = .ok (.ifCond .ne 7, 3) := by decide +kernel
theorem d_Model_dy_4 : decode b_Model_dy 4 = .ok (.iconst (-1), 1) := by decide +kernel
theorem d_Model_dy_5 : decode b_Model_dy 5 = .ok (.goto 13, 3) := by decide +kernel
theorem d_Model_dy_8 : decode b_Model_dy 8 = .ok (.iload_n 0, 1) := by decide +kernel
theorem d_Model_dy_9 : decode b_Model_dy 9 = .ok (.iconst 2, 1) := by decide +kernel
theorem d_Model_dy_10 : decode b_Model_dy 10 = .ok (.if_icmp .ne 7, 3) := by decide +kernel
theorem d_Model_dy_13 : decode b_Model_dy 13 = .ok (.iconst 1, 1) := by decide +kernel
theorem d_Model_dy_14 : decode b_Model_dy 14 = .ok (.goto 4, 3) := by decide +kernel
theorem d_Model_dy_17 : decode b_Model_dy 17 = .ok (.iconst 0, 1) := by decide +kernel
theorem d_Model_dy_18 : decode b_Model_dy 18 = .ok (.ireturn, 1) := by decide +kernel
def f_Model_dy (n : Nat) (x0 : Int32) (σ : St) : Option (Int32 × St) := if x0 = 0 then (some ((-1), σ)) else (if x0 = 2 then (some (1, σ)) else (some (0, σ)))
set_option maxHeartbeats 4000000 in
set_option maxRecDepth 100000 in
theorem c_Model_dy (l : Launch) (D : va_G) (ad : Nat → Nat) (cA : Nat → ClassId) (tz : Nat → Nat) (n : Nat) (x0 : Int32) (σ : St) (r : Int32) (σr : St) (hf : f_Model_dy n x0 σ = some (r, σr)) : Ki l D cA tz (wm ad cA) y_Model_dy (.code y_Model_dy b_Model_dy 1 (some .int) :: TB) ({ frames := 0, cells := 0, slots := 0, locals := 0 }) [.int x0] σ r σr := by
  refine x_openi (own := R_Model) rfl (by decide) (fun p e s m args below meth c A Q X hml hZ hA H locs ls h hl rt => ?_)
  have hx := X.1
  have hb := X.2.1
  have hl : lv_has ls 1 [(0, .int x0)] := hl
  unfold f_Model_dy at hf
  refine lv_iload_n hx hb d_Model_dy_0 rfl (lv_at hl 0 rfl) ?_
  refine lv_if_ne (tgt := 8) hx hb d_Model_dy_1 (by decide) (fun c1 => ?_) (fun c1 => ?_)
  · have hf := ie c1 hf
    refine lv_iload_n hx hb d_Model_dy_8 rfl (lv_at hl 0 rfl) ?_
    refine lv_iconst (v := 2) hx hb d_Model_dy_9 (by decide) ?_
    refine lv_icmp_ne (tgt := 17) hx hb d_Model_dy_10 (by decide) (fun c2 => ?_) (fun c2 => ?_)
    · have hf := ie c2 hf
      refine lv_iconst (v := 0) hx hb d_Model_dy_17 (by decide) ?_
      exact rt _ _ H locs 18 ls hf h d_Model_dy_18
    · have hf := it c2 hf
      refine lv_iconst (v := 1) hx hb d_Model_dy_13 (by decide) ?_
      refine lv_goto (tgt := 18) hx hb d_Model_dy_14 (by decide) ?_
      exact rt _ _ H locs 18 ls hf h d_Model_dy_18
  · have hf := it c1 hf
    refine lv_iconst (v := (-1)) hx hb d_Model_dy_4 (by decide) ?_
    refine lv_goto (tgt := 18) hx hb d_Model_dy_5 (by decide) ?_
    exact rt _ _ H locs 18 ls hf h d_Model_dy_18
theorem d_Model_isFloor_0 : decode b_Model_isFloor 0 = .ok (.iload_n 1, 1) := by decide +kernel
theorem d_Model_isFloor_1 : decode b_Model_isFloor 1 = .ok (.iconst 0, 1) := by decide +kernel
theorem d_Model_isFloor_2 : decode b_Model_isFloor 2 = .ok (.bipush 11, 2) := by decide +kernel
theorem d_Model_isFloor_4 : decode b_Model_isFloor 4 = .ok (.invokestatic 148, 3) := by decide +kernel
theorem d_Model_isFloor_7 : decode b_Model_isFloor 7 = .ok (.ifCond .eq 31, 3) := by decide +kernel
theorem d_Model_isFloor_10 : decode b_Model_isFloor 10 = .ok (.iload_n 2, 1) := by decide +kernel
theorem d_Model_isFloor_11 : decode b_Model_isFloor 11 = .ok (.iconst 0, 1) := by decide +kernel
theorem d_Model_isFloor_12 : decode b_Model_isFloor 12 = .ok (.bipush 9, 2) := by decide +kernel
theorem d_Model_isFloor_14 : decode b_Model_isFloor 14 = .ok (.invokestatic 148, 3) := by decide +kernel
theorem d_Model_isFloor_17 : decode b_Model_isFloor 17 = .ok (.ifCond .eq 21, 3) := by decide +kernel
theorem d_Model_isFloor_20 : decode b_Model_isFloor 20 = .ok (.aload_n 0, 1) := by decide +kernel
theorem d_Model_isFloor_21 : decode b_Model_isFloor 21 = .ok (.getfield 7, 3) := by decide +kernel
theorem d_Model_isFloor_24 : decode b_Model_isFloor 24 = .ok (.bipush 12, 2) := by decide +kernel
theorem d_Model_isFloor_26 : decode b_Model_isFloor 26 = .ok (.iload_n 2, 1) := by decide +kernel
theorem d_Model_isFloor_27 : decode b_Model_isFloor 27 = .ok (.imul, 1) := by decide +kernel
theorem d_Model_isFloor_28 : decode b_Model_isFloor 28 = .ok (.iload_n 1, 1) := by decide +kernel
theorem d_Model_isFloor_29 : decode b_Model_isFloor 29 = .ok (.iadd, 1) := by decide +kernel
theorem d_Model_isFloor_30 : decode b_Model_isFloor 30 = .ok (.iaload, 1) := by decide +kernel
theorem d_Model_isFloor_31 : decode b_Model_isFloor 31 = .ok (.ifCond .eq 7, 3) := by decide +kernel
theorem d_Model_isFloor_34 : decode b_Model_isFloor 34 = .ok (.iconst 1, 1) := by decide +kernel
theorem d_Model_isFloor_35 : decode b_Model_isFloor 35 = .ok (.goto 4, 3) := by decide +kernel
theorem d_Model_isFloor_38 : decode b_Model_isFloor 38 = .ok (.iconst 0, 1) := by decide +kernel
theorem d_Model_isFloor_39 : decode b_Model_isFloor 39 = .ok (.ireturn, 1) := by decide +kernel
def f_Model_isFloor (n : Nat) (x1 : Int32) (x2 : Int32) (σ : St) : Option (Int32 × St) := bd (f_Model_in n x1 0 11 σ) (fun r1 σ2 => if r1 = 0 then (some (0, σ2)) else (bd (f_Model_in n x2 0 9 σ2) (fun r5 σ6 => if r5 = 0 then (some (0, σ6)) else (gd (inb ((12 * x2) + x1) 120) (if (σ6.2.2 0 ((12 * x2) + x1).toNatClampNeg) = 0 then (some (0, σ6)) else (some (1, σ6)))))))
set_option maxHeartbeats 4000000 in
set_option maxRecDepth 100000 in
theorem c_Model_isFloor (l : Launch) (D : va_G) (ad : Nat → Nat) (cA : Nat → ClassId) (tz : Nat → Nat) (n : Nat) (x1 : Int32) (x2 : Int32) (σ : St) (r : Int32) (σr : St) (hf : f_Model_isFloor n x1 x2 σ = some (r, σr)) : Ki l D cA tz (wm ad cA) y_Model_isFloor (.code y_Model_isFloor b_Model_isFloor 3 (some .boolean) :: TB) ({ frames := 1, cells := 0, slots := 0, locals := 22 }) [.ref (ad 0), .int x1, .int x2] σ r σr := by
  refine x_openz (own := R_Model) rfl (by decide) (fun p e s m args below meth c A Q X hml hZ hA H locs ls h hl rt => ?_)
  have hx := X.1
  have hb := X.2.1
  have hl : lv_has ls 3 [(0, .ref (ad 0)), (1, .int x1), (2, .int x2)] := hl
  unfold f_Model_isFloor at hf
  refine lv_iload_n hx hb d_Model_isFloor_0 rfl (lv_at hl 1 rfl) ?_
  refine lv_iconst (v := 0) hx hb d_Model_isFloor_1 (by decide) ?_
  refine lv_bipush (v := 11) hx hb d_Model_isFloor_2 (by decide) ?_
  obtain ⟨r1, σ2, h3, hf⟩ := bd_s hf
  refine x_Si (As := [.int x1, .int 0, .int 11]) (rest := []) X hml hl.1 hZ hA h (c_Model_in l D ad cA tz n x1 0 11 σ r1 σ2 h3) k_Model_in m_m_Model_148 kd_Model_in ⟨rfl, rfl, Nat.le_of_ble_eq_true rfl, Nat.le_of_ble_eq_true rfl⟩ rfl rfl (Nat.le_of_ble_eq_true rfl) d_Model_isFloor_4 (fun H locs h => ?_)
  refine lv_if_eq (tgt := 38) hx hb d_Model_isFloor_7 (by decide) (fun c4 => ?_) (fun c4 => ?_)
  · have hf := it c4 hf
    refine lv_iconst (v := 0) hx hb d_Model_isFloor_38 (by decide) ?_
    exact rt _ _ H locs 39 ls rfl hf h d_Model_isFloor_39
  · have hf := ie c4 hf
    refine lv_iload_n hx hb d_Model_isFloor_10 rfl (lv_at hl 2 rfl) ?_
    refine lv_iconst (v := 0) hx hb d_Model_isFloor_11 (by decide) ?_
    refine lv_bipush (v := 9) hx hb d_Model_isFloor_12 (by decide) ?_
    obtain ⟨r5, σ6, h7, hf⟩ := bd_s hf
    refine x_Si (As := [.int x2, .int 0, .int 9]) (rest := []) X hml hl.1 hZ hA h (c_Model_in l D ad cA tz n x2 0 9 σ2 r5 σ6 h7) k_Model_in m_m_Model_148 kd_Model_in ⟨rfl, rfl, Nat.le_of_ble_eq_true rfl, Nat.le_of_ble_eq_true rfl⟩ rfl rfl (Nat.le_of_ble_eq_true rfl) d_Model_isFloor_14 (fun H locs h => ?_)
    refine lv_if_eq (tgt := 38) hx hb d_Model_isFloor_17 (by decide) (fun c8 => ?_) (fun c8 => ?_)
    · have hf := it c8 hf
      refine lv_iconst (v := 0) hx hb d_Model_isFloor_38 (by decide) ?_
      exact rt _ _ H locs 39 ls rfl hf h d_Model_isFloor_39
    · have hf := ie c8 hf
      refine lv_aload_n hx hb d_Model_isFloor_20 rfl (lv_at hl 0 rfl) ?_
      refine G_model_floor X h m_f_Model_7 d_Model_isFloor_21 ?_
      refine lv_bipush (v := 12) hx hb d_Model_isFloor_24 (by decide) ?_
      refine lv_iload_n hx hb d_Model_isFloor_26 rfl (lv_at hl 2 rfl) ?_
      refine lv_imul hx hb d_Model_isFloor_27 ?_
      refine lv_iload_n hx hb d_Model_isFloor_28 rfl (lv_at hl 1 rfl) ?_
      refine lv_iadd hx hb d_Model_isFloor_29 ?_
      obtain ⟨g9, hf⟩ := gd_s hf
      refine R_mfloor X h (inb_s g9) d_Model_isFloor_30 ?_
      refine lv_if_eq (tgt := 38) hx hb d_Model_isFloor_31 (by decide) (fun c10 => ?_) (fun c10 => ?_)
      · have hf := it c10 hf
        refine lv_iconst (v := 0) hx hb d_Model_isFloor_38 (by decide) ?_
        exact rt _ _ H locs 39 ls rfl hf h d_Model_isFloor_39
      · have hf := ie c10 hf
        refine lv_iconst (v := 1) hx hb d_Model_isFloor_34 (by decide) ?_
        refine lv_goto (tgt := 39) hx hb d_Model_isFloor_35 (by decide) ?_
        exact rt _ _ H locs 39 ls rfl hf h d_Model_isFloor_39

