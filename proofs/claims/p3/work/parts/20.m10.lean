theorem d_Model_count_0 : decode b_Model_count 0 = .ok (.iconst 0, 1) := by decide +kernel
theorem d_Model_count_1 : decode b_Model_count 1 = .ok (.istore_n 2, 1) := by decide +kernel
theorem d_Model_count_2 : decode b_Model_count 2 = .ok (.iload_n 1, 1) := by decide +kernel
theorem d_Model_count_3 : decode b_Model_count 3 = .ok (.tableswitch 251 0 10 #[57, 62, 67, 72, 72, 121, 121, 121, 121, 116, 214], 57) := by decide +kernel
theorem d_Model_count_60 : decode b_Model_count 60 = .ok (.aload_n 0, 1) := by decide +kernel
theorem d_Model_count_61 : decode b_Model_count 61 = .ok (.getfield 99, 3) := by decide +kernel
theorem d_Model_count_64 : decode b_Model_count 64 = .ok (.ireturn, 1) := by decide +kernel
theorem d_Model_count_65 : decode b_Model_count 65 = .ok (.aload_n 0, 1) := by decide +kernel
theorem d_Model_count_66 : decode b_Model_count 66 = .ok (.getfield 105, 3) := by decide +kernel
theorem d_Model_count_69 : decode b_Model_count 69 = .ok (.ireturn, 1) := by decide +kernel
theorem d_Model_count_70 : decode b_Model_count 70 = .ok (.aload_n 0, 1) := by decide +kernel
theorem d_Model_count_71 : decode b_Model_count 71 = .ok (.getfield 102, 3) := by decide +kernel
theorem d_Model_count_74 : decode b_Model_count 74 = .ok (.ireturn, 1) := by decide +kernel
theorem d_Model_count_75 : decode b_Model_count 75 = .ok (.iconst 0, 1) := by decide +kernel
theorem d_Model_count_76 : decode b_Model_count 76 = .ok (.istore_n 3, 1) := by decide +kernel
theorem d_Model_count_77 : decode b_Model_count 77 = .ok (.iload_n 3, 1) := by decide +kernel
theorem d_Model_count_78 : decode b_Model_count 78 = .ok (.aload_n 0, 1) := by decide +kernel
theorem d_Model_count_79 : decode b_Model_count 79 = .ok (.getfield 138, 3) := by decide +kernel
theorem d_Model_count_82 : decode b_Model_count 82 = .ok (.if_icmp .ge 35, 3) := by decide +kernel
theorem d_Model_count_85 : decode b_Model_count 85 = .ok (.aload_n 0, 1) := by decide +kernel
theorem d_Model_count_86 : decode b_Model_count 86 = .ok (.getfield 41, 3) := by decide +kernel
theorem d_Model_count_89 : decode b_Model_count 89 = .ok (.iload_n 3, 1) := by decide +kernel
theorem d_Model_count_90 : decode b_Model_count 90 = .ok (.baload, 1) := by decide +kernel
theorem d_Model_count_91 : decode b_Model_count 91 = .ok (.ifCond .ne 20, 3) := by decide +kernel
theorem d_Model_count_94 : decode b_Model_count 94 = .ok (.iload_n 1, 1) := by decide +kernel
theorem d_Model_count_95 : decode b_Model_count 95 = .ok (.iconst 3, 1) := by decide +kernel
theorem d_Model_count_96 : decode b_Model_count 96 = .ok (.if_icmp .eq 12, 3) := by decide +kernel
theorem d_Model_count_99 : decode b_Model_count 99 = .ok (.aload_n 0, 1) := by decide +kernel
theorem d_Model_count_100 : decode b_Model_count 100 = .ok (.getfield 38, 3) := by decide +kernel
theorem d_Model_count_103 : decode b_Model_count 103 = .ok (.iload_n 3, 1) := by decide +kernel
theorem d_Model_count_104 : decode b_Model_count 104 = .ok (.baload, 1) := by decide +kernel
theorem d_Model_count_105 : decode b_Model_count 105 = .ok (.ifCond .eq 6, 3) := by decide +kernel
theorem d_Model_count_108 : decode b_Model_count 108 = .ok (.iinc 2 1, 3) := by decide +kernel
theorem d_Model_count_111 : decode b_Model_count 111 = .ok (.iinc 3 1, 3) := by decide +kernel
theorem d_Model_count_114 : decode b_Model_count 114 = .ok (.goto (-37), 3) := by decide +kernel
theorem d_Model_count_117 : decode b_Model_count 117 = .ok (.iload_n 2, 1) := by decide +kernel
theorem d_Model_count_118 : decode b_Model_count 118 = .ok (.ireturn, 1) := by decide +kernel
theorem d_Model_count_119 : decode b_Model_count 119 = .ok (.aload_n 0, 1) := by decide +kernel
theorem d_Model_count_120 : decode b_Model_count 120 = .ok (.getfield 96, 3) := by decide +kernel
theorem d_Model_count_123 : decode b_Model_count 123 = .ok (.ireturn, 1) := by decide +kernel
theorem d_Model_count_124 : decode b_Model_count 124 = .ok (.iconst 0, 1) := by decide +kernel
theorem d_Model_count_125 : decode b_Model_count 125 = .ok (.istore_n 3, 1) := by decide +kernel
theorem d_Model_count_126 : decode b_Model_count 126 = .ok (.iload_n 3, 1) := by decide +kernel
theorem d_Model_count_127 : decode b_Model_count 127 = .ok (.bipush 120, 2) := by decide +kernel
theorem d_Model_count_129 : decode b_Model_count 129 = .ok (.if_icmp .ge 86, 3) := by decide +kernel
theorem d_Model_count_132 : decode b_Model_count 132 = .ok (.iload_n 1, 1) := by decide +kernel
theorem d_Model_count_133 : decode b_Model_count 133 = .ok (.iconst 5, 1) := by decide +kernel
theorem d_Model_count_134 : decode b_Model_count 134 = .ok (.if_icmp .ne 12, 3) := by decide +kernel
theorem d_Model_count_137 : decode b_Model_count 137 = .ok (.aload_n 0, 1) := by decide +kernel
theorem d_Model_count_138 : decode b_Model_count 138 = .ok (.getfield 13, 3) := by decide +kernel
theorem d_Model_count_141 : decode b_Model_count 141 = .ok (.iload_n 3, 1) := by decide +kernel
theorem d_Model_count_142 : decode b_Model_count 142 = .ok (.iaload, 1) := by decide +kernel
theorem d_Model_count_143 : decode b_Model_count 143 = .ok (.ifCond .ge 63, 3) := by decide +kernel
theorem d_Model_count_146 : decode b_Model_count 146 = .ok (.iload_n 1, 1) := by decide +kernel
theorem d_Model_count_147 : decode b_Model_count 147 = .ok (.bipush 6, 2) := by decide +kernel
theorem d_Model_count_149 : decode b_Model_count 149 = .ok (.if_icmp .ne 12, 3) := by decide +kernel
theorem d_Model_count_152 : decode b_Model_count 152 = .ok (.aload_n 0, 1) := by decide +kernel
theorem d_Model_count_153 : decode b_Model_count 153 = .ok (.getfield 7, 3) := by decide +kernel
theorem d_Model_count_156 : decode b_Model_count 156 = .ok (.iload_n 3, 1) := by decide +kernel
theorem d_Model_count_157 : decode b_Model_count 157 = .ok (.iaload, 1) := by decide +kernel
theorem d_Model_count_158 : decode b_Model_count 158 = .ok (.ifCond .ne 48, 3) := by decide +kernel
theorem d_Model_count_161 : decode b_Model_count 161 = .ok (.iload_n 1, 1) := by decide +kernel
theorem d_Model_count_162 : decode b_Model_count 162 = .ok (.bipush 7, 2) := by decide +kernel
theorem d_Model_count_164 : decode b_Model_count 164 = .ok (.if_icmp .ne 27, 3) := by decide +kernel
theorem d_Model_count_167 : decode b_Model_count 167 = .ok (.aload_n 0, 1) := by decide +kernel
theorem d_Model_count_168 : decode b_Model_count 168 = .ok (.getfield 7, 3) := by decide +kernel
theorem d_Model_count_171 : decode b_Model_count 171 = .ok (.iload_n 3, 1) := by decide +kernel
theorem d_Model_count_172 : decode b_Model_count 172 = .ok (.iaload, 1) := by decide +kernel
theorem d_Model_count_173 : decode b_Model_count 173 = .ok (.ifCond .eq 18, 3) := by decide +kernel
theorem d_Model_count_176 : decode b_Model_count 176 = .ok (.aload_n 0, 1) := by decide +kernel
theorem d_Model_count_177 : decode b_Model_count 177 = .ok (.iload_n 3, 1) := by decide +kernel
theorem d_Model_count_178 : decode b_Model_count 178 = .ok (.bipush 12, 2) := by decide +kernel
theorem d_Model_count_180 : decode b_Model_count 180 = .ok (.irem, 1) := by decide +kernel
theorem d_Model_count_181 : decode b_Model_count 181 = .ok (.iload_n 3, 1) := by decide +kernel
theorem d_Model_count_182 : decode b_Model_count 182 = .ok (.bipush 12, 2) := by decide +kernel
theorem d_Model_count_184 : decode b_Model_count 184 = .ok (.idiv, 1) := by decide +kernel
theorem d_Model_count_185 : decode b_Model_count 185 = .ok (.invokevirtual 166, 3) := by decide +kernel
theorem d_Model_count_188 : decode b_Model_count 188 = .ok (.ifCond .ne 18, 3) := by decide +kernel
theorem d_Model_count_191 : decode b_Model_count 191 = .ok (.iload_n 1, 1) := by decide +kernel
theorem d_Model_count_192 : decode b_Model_count 192 = .ok (.bipush 8, 2) := by decide +kernel
theorem d_Model_count_194 : decode b_Model_count 194 = .ok (.if_icmp .ne 15, 3) := by decide +kernel
theorem d_Model_count_197 : decode b_Model_count 197 = .ok (.aload_n 0, 1) := by decide +kernel
theorem d_Model_count_198 : decode b_Model_count 198 = .ok (.getfield 19, 3) := by decide +kernel
theorem d_Model_count_201 : decode b_Model_count 201 = .ok (.iload_n 3, 1) := by decide +kernel
theorem d_Model_count_202 : decode b_Model_count 202 = .ok (.baload, 1) := by decide +kernel
theorem d_Model_count_203 : decode b_Model_count 203 = .ok (.ifCond .eq 6, 3) := by decide +kernel
theorem d_Model_count_206 : decode b_Model_count 206 = .ok (.iinc 2 1, 3) := by decide +kernel
theorem d_Model_count_209 : decode b_Model_count 209 = .ok (.iinc 3 1, 3) := by decide +kernel
theorem d_Model_count_212 : decode b_Model_count 212 = .ok (.goto (-86), 3) := by decide +kernel
theorem d_Model_count_215 : decode b_Model_count 215 = .ok (.iload_n 2, 1) := by decide +kernel
theorem d_Model_count_216 : decode b_Model_count 216 = .ok (.ireturn, 1) := by decide +kernel
theorem d_Model_count_217 : decode b_Model_count 217 = .ok (.aload_n 0, 1) := by decide +kernel
theorem d_Model_count_218 : decode b_Model_count 218 = .ok (.invokevirtual 185, 3) := by decide +kernel
theorem d_Model_count_221 : decode b_Model_count 221 = .ok (.iconst 0, 1) := by decide +kernel
theorem d_Model_count_222 : decode b_Model_count 222 = .ok (.istore_n 3, 1) := by decide +kernel
theorem d_Model_count_223 : decode b_Model_count 223 = .ok (.iload_n 3, 1) := by decide +kernel
theorem d_Model_count_224 : decode b_Model_count 224 = .ok (.bipush 120, 2) := by decide +kernel
theorem d_Model_count_226 : decode b_Model_count 226 = .ok (.if_icmp .ge 26, 3) := by decide +kernel
theorem d_Model_count_229 : decode b_Model_count 229 = .ok (.aload_n 0, 1) := by decide +kernel
theorem d_Model_count_230 : decode b_Model_count 230 = .ok (.getfield 16, 3) := by decide +kernel
theorem d_Model_count_233 : decode b_Model_count 233 = .ok (.iload_n 3, 1) := by decide +kernel
theorem d_Model_count_234 : decode b_Model_count 234 = .ok (.iaload, 1) := by decide +kernel
theorem d_Model_count_235 : decode b_Model_count 235 = .ok (.iload_n 2, 1) := by decide +kernel
theorem d_Model_count_236 : decode b_Model_count 236 = .ok (.if_icmp .le 10, 3) := by decide +kernel
theorem d_Model_count_239 : decode b_Model_count 239 = .ok (.aload_n 0, 1) := by decide +kernel
theorem d_Model_count_240 : decode b_Model_count 240 = .ok (.getfield 16, 3) := by decide +kernel
theorem d_Model_count_243 : decode b_Model_count 243 = .ok (.iload_n 3, 1) := by decide +kernel
theorem d_Model_count_244 : decode b_Model_count 244 = .ok (.iaload, 1) := by decide +kernel
theorem d_Model_count_245 : decode b_Model_count 245 = .ok (.istore_n 2, 1) := by decide +kernel
theorem d_Model_count_246 : decode b_Model_count 246 = .ok (.iinc 3 1, 3) := by decide +kernel
theorem d_Model_count_249 : decode b_Model_count 249 = .ok (.goto (-26), 3) := by decide +kernel
theorem d_Model_count_252 : decode b_Model_count 252 = .ok (.iload_n 2, 1) := by decide +kernel
theorem d_Model_count_253 : decode b_Model_count 253 = .ok (.ireturn, 1) := by decide +kernel
theorem d_Model_count_254 : decode b_Model_count 254 = .ok (.iconst (-1), 1) := by decide +kernel
theorem d_Model_count_255 : decode b_Model_count 255 = .ok (.ireturn, 1) := by decide +kernel
def f_Model_count_77 (n : Nat) : Nat → Int32 → Int32 → Int32 → St → Option (Int32 × St)
  | 0, _, _, _, _ => none
  | j + 1, y1, y2, y3, σ => if (σ.1 1) ≤ y3 then (some (y2, σ)) else (gd (inb y3 8) (if (σ.2.2 10 y3.toNatClampNeg) = 0 then (if y1 = 3 then (bnd (y2 + 1) (fun v54 => bnd (y3 + 1) (fun v55 => f_Model_count_77 n j y1 v54 v55 σ))) else (gd (inb y3 8) (if (σ.2.2 9 y3.toNatClampNeg) = 0 then (bnd (y3 + 1) (fun v58 => f_Model_count_77 n j y1 y2 v58 σ)) else (bnd (y2 + 1) (fun v59 => bnd (y3 + 1) (fun v60 => f_Model_count_77 n j y1 v59 v60 σ)))))) else (bnd (y3 + 1) (fun v52 => f_Model_count_77 n j y1 y2 v52 σ))))
theorem f_Model_count_77_s (n : Nat) (j : Nat) (y1 : Int32) (y2 : Int32) (y3 : Int32) (σ : St) : f_Model_count_77 n (j + 1) y1 y2 y3 σ = (if (σ.1 1) ≤ y3 then (some (y2, σ)) else (gd (inb y3 8) (if (σ.2.2 10 y3.toNatClampNeg) = 0 then (if y1 = 3 then (bnd (y2 + 1) (fun v54 => bnd (y3 + 1) (fun v55 => f_Model_count_77 n j y1 v54 v55 σ))) else (gd (inb y3 8) (if (σ.2.2 9 y3.toNatClampNeg) = 0 then (bnd (y3 + 1) (fun v58 => f_Model_count_77 n j y1 y2 v58 σ)) else (bnd (y2 + 1) (fun v59 => bnd (y3 + 1) (fun v60 => f_Model_count_77 n j y1 v59 v60 σ)))))) else (bnd (y3 + 1) (fun v52 => f_Model_count_77 n j y1 y2 v52 σ))))) := rfl
def f_Model_count_191 (n : Nat) (k126 : Int32 → Int32 → Int32 → St → Option (Int32 × St)) (y1 : Int32) (y2 : Int32) (y3 : Int32) (σ : St) : Option (Int32 × St) := if y1 = 8 then (gd (inb y3 120) (if (σ.2.2 3 y3.toNatClampNeg) = 0 then (bnd (y3 + 1) (fun v46 => k126 y1 y2 v46 σ)) else (bnd (y2 + 1) (fun v47 => bnd (y3 + 1) (fun v48 => k126 y1 v47 v48 σ))))) else (bnd (y3 + 1) (fun v43 => k126 y1 y2 v43 σ))
def f_Model_count_161 (n : Nat) (k126 : Int32 → Int32 → Int32 → St → Option (Int32 × St)) (y1 : Int32) (y2 : Int32) (y3 : Int32) (σ : St) : Option (Int32 × St) := if y1 = 7 then (gd (inb y3 120) (if (σ.2.2 0 y3.toNatClampNeg) = 0 then (f_Model_count_191 n k126 y1 y2 y3 σ) else (bd (f_Model_isSeen n (y3 - y3 / 12 * 12) (y3 / 12) σ) (fun r36 σ37 => if r36 = 0 then (f_Model_count_191 n k126 y1 y2 y3 σ37) else (bnd (y2 + 1) (fun v40 => bnd (y3 + 1) (fun v41 => k126 y1 v40 v41 σ37))))))) else (f_Model_count_191 n k126 y1 y2 y3 σ)
def f_Model_count_146 (n : Nat) (k126 : Int32 → Int32 → Int32 → St → Option (Int32 × St)) (y1 : Int32) (y2 : Int32) (y3 : Int32) (σ : St) : Option (Int32 × St) := if y1 = 6 then (gd (inb y3 120) (if (σ.2.2 0 y3.toNatClampNeg) = 0 then (f_Model_count_161 n k126 y1 y2 y3 σ) else (bnd (y2 + 1) (fun v31 => bnd (y3 + 1) (fun v32 => k126 y1 v31 v32 σ))))) else (f_Model_count_161 n k126 y1 y2 y3 σ)
def f_Model_count_126 (n : Nat) : Nat → Int32 → Int32 → Int32 → St → Option (Int32 × St)
  | 0, _, _, _, _ => none
  | j + 1, y1, y2, y3, σ => if 120 ≤ y3 then (some (y2, σ)) else (if y1 = 5 then (gd (inb y3 120) (if 0 ≤ (σ.2.2 1 y3.toNatClampNeg) then (bnd (y2 + 1) (fun v26 => bnd (y3 + 1) (fun v27 => f_Model_count_126 n j y1 v26 v27 σ))) else (f_Model_count_146 n (fun y1 y2 y3 σ => f_Model_count_126 n j y1 y2 y3 σ) y1 y2 y3 σ))) else (f_Model_count_146 n (fun y1 y2 y3 σ => f_Model_count_126 n j y1 y2 y3 σ) y1 y2 y3 σ))
theorem f_Model_count_126_s (n : Nat) (j : Nat) (y1 : Int32) (y2 : Int32) (y3 : Int32) (σ : St) : f_Model_count_126 n (j + 1) y1 y2 y3 σ = (if 120 ≤ y3 then (some (y2, σ)) else (if y1 = 5 then (gd (inb y3 120) (if 0 ≤ (σ.2.2 1 y3.toNatClampNeg) then (bnd (y2 + 1) (fun v26 => bnd (y3 + 1) (fun v27 => f_Model_count_126 n j y1 v26 v27 σ))) else (f_Model_count_146 n (fun y1 y2 y3 σ => f_Model_count_126 n j y1 y2 y3 σ) y1 y2 y3 σ))) else (f_Model_count_146 n (fun y1 y2 y3 σ => f_Model_count_126 n j y1 y2 y3 σ) y1 y2 y3 σ))) := rfl
def f_Model_count_223 (n : Nat) : Nat → Int32 → Int32 → St → Option (Int32 × St)
  | 0, _, _, _ => none
  | j + 1, y2, y3, σ => if 120 ≤ y3 then (some (y2, σ)) else (gd (inb y3 120) (if (σ.2.2 2 y3.toNatClampNeg) ≤ y2 then (bnd (y3 + 1) (fun v18 => f_Model_count_223 n j y2 v18 σ)) else (gd (inb y3 120) (bnd (σ.2.2 2 y3.toNatClampNeg) (fun v20 => bnd (y3 + 1) (fun v21 => f_Model_count_223 n j v20 v21 σ))))))
theorem f_Model_count_223_s (n : Nat) (j : Nat) (y2 : Int32) (y3 : Int32) (σ : St) : f_Model_count_223 n (j + 1) y2 y3 σ = (if 120 ≤ y3 then (some (y2, σ)) else (gd (inb y3 120) (if (σ.2.2 2 y3.toNatClampNeg) ≤ y2 then (bnd (y3 + 1) (fun v18 => f_Model_count_223 n j y2 v18 σ)) else (gd (inb y3 120) (bnd (σ.2.2 2 y3.toNatClampNeg) (fun v20 => bnd (y3 + 1) (fun v21 => f_Model_count_223 n j v20 v21 σ))))))) := rfl
def f_Model_count (n : Nat) (x1 : Int32) (σ : St) : Option (Int32 × St) := if x1 = 0 then (some (σ.1 10, σ)) else (if x1 = 1 then (some (σ.1 13, σ)) else (if x1 = 2 then (some (σ.1 11, σ)) else (if x1 = 3 then (f_Model_count_77 n n x1 0 0 σ) else (if x1 = 4 then (f_Model_count_77 n n x1 0 0 σ) else (if x1 = 5 then (f_Model_count_126 n n x1 0 0 σ) else (if x1 = 6 then (f_Model_count_126 n n x1 0 0 σ) else (if x1 = 7 then (f_Model_count_126 n n x1 0 0 σ) else (if x1 = 8 then (f_Model_count_126 n n x1 0 0 σ) else (if x1 = 9 then (some (σ.1 9, σ)) else (if x1 = 10 then (bd (f_Model_measure n σ) (fun _ σ13 => f_Model_count_223 n n 0 0 σ13)) else (some ((-1), σ))))))))))))
set_option maxHeartbeats 4000000 in
set_option maxRecDepth 100000 in
theorem c_Model_count (l : Launch) (D : va_G) (ad : Nat → Nat) (cA : Nat → ClassId) (tz : Nat → Nat) (n : Nat) (x1 : Int32) (σ : St) (r : Int32) (σr : St) (hf : f_Model_count n x1 σ = some (r, σr)) : Ki l D cA tz (wm ad cA) y_Model_count (.code y_Model_count b_Model_count 4 (some .int) :: TB) ({ frames := 4, cells := 0, slots := 0, locals := 96 }) [.ref (ad 0), .int x1] σ r σr := by
  refine x_openi (own := R_Model) rfl (by decide) (fun p e s m args below meth c A Q X hml hZ hA H locs ls h hl rt => ?_)
  have hx := X.1
  have hb := X.2.1
  have hl : lv_has ls 4 [(0, .ref (ad 0)), (1, .int x1)] := hl
  have L77 : ∀ j : Nat, ∀ (y1 : Int32) (y2 : Int32) (y3 : Int32) (σ : St), f_Model_count_77 n j y1 y2 y3 σ = some (r, σr) → ∀ (H : Heap) (locs : List Loc) (ls : Array Slot), WD D A s (wm ad cA σ) H locs → lv_has ls 4 [(0, .ref (ad 0)), (1, .int y1), (2, .int y2), (3, .int y3)] → W p l e ({ frames := 4, cells := 0, slots := 0, locals := 96 }) s m args below meth c H locs 0 0 Q (F0 m 77 ls []) := by
    intro j
    induction j with
    | zero => intro y1 y2 y3 σ hf; exact absurd hf (fun z => by cases z)
    | succ j ih =>
      intro y1 y2 y3 σ hf H locs ls h hl
      have hf := us (f_Model_count_77_s n j y1 y2 y3 σ) hf
      refine lv_iload_n hx hb d_Model_count_77 rfl (lv_at hl 3 rfl) ?_
      refine lv_aload_n hx hb d_Model_count_78 rfl (lv_at hl 0 rfl) ?_
      refine G_model_monsters X h m_f_Model_138 d_Model_count_79 ?_
      refine lv_icmp_ge (tgt := 117) hx hb d_Model_count_82 (by decide) (fun c49 => ?_) (fun c49 => ?_)
      · have hf := it c49 hf
        refine lv_iload_n hx hb d_Model_count_117 rfl (lv_at hl 2 rfl) ?_
        exact rt _ _ H locs 118 ls hf h d_Model_count_118
      · have hf := ie c49 hf
        refine lv_aload_n hx hb d_Model_count_85 rfl (lv_at hl 0 rfl) ?_
        refine G_model_gone X h m_f_Model_41 d_Model_count_86 ?_
        refine lv_iload_n hx hb d_Model_count_89 rfl (lv_at hl 3 rfl) ?_
        obtain ⟨g50, hf⟩ := gd_s hf
        refine R_mgone X h (inb_s g50) d_Model_count_90 ?_
        refine lv_if_ne (tgt := 111) hx hb d_Model_count_91 (by decide) (fun c51 => ?_) (fun c51 => ?_)
        · have hf := ie c51 hf
          obtain ⟨v52, ev52⟩ : ∃ y : Int32, y = y3 + 1 := ⟨_, rfl⟩
          have hf := nm_b hf ev52
          refine lv_iinc (v := v52) (lv' := [(3, .int v52), (0, .ref (ad 0)), (1, .int y1), (2, .int y2)]) hx hb d_Model_count_111 hl (k := 3) rfl (by rw [ev52]; rfl) (by decide) rfl (fun ls hl => ?_)
          refine lv_goto (tgt := 77) hx hb d_Model_count_114 (by decide) ?_
          exact ih y1 y2 v52 σ hf H locs ls h (lv_sub hl [1, 2, 3, 0] rfl)
        · have hf := it c51 hf
          refine lv_iload_n hx hb d_Model_count_94 rfl (lv_at hl 1 rfl) ?_
          refine lv_iconst (v := 3) hx hb d_Model_count_95 (by decide) ?_
          refine lv_icmp_eq (tgt := 108) hx hb d_Model_count_96 (by decide) (fun c53 => ?_) (fun c53 => ?_)
          · have hf := it c53 hf
            obtain ⟨v54, ev54⟩ : ∃ y : Int32, y = y2 + 1 := ⟨_, rfl⟩
            have hf := nm_b hf ev54
            refine lv_iinc (v := v54) (lv' := [(2, .int v54), (0, .ref (ad 0)), (1, .int y1), (3, .int y3)]) hx hb d_Model_count_108 hl (k := 2) rfl (by rw [ev54]; rfl) (by decide) rfl (fun ls hl => ?_)
            obtain ⟨v55, ev55⟩ : ∃ y : Int32, y = y3 + 1 := ⟨_, rfl⟩
            have hf := nm_b hf ev55
            refine lv_iinc (v := v55) (lv' := [(3, .int v55), (2, .int v54), (0, .ref (ad 0)), (1, .int y1)]) hx hb d_Model_count_111 hl (k := 3) rfl (by rw [ev55]; rfl) (by decide) rfl (fun ls hl => ?_)
            refine lv_goto (tgt := 77) hx hb d_Model_count_114 (by decide) ?_
            exact ih y1 v54 v55 σ hf H locs ls h (lv_sub hl [2, 3, 1, 0] rfl)
          · have hf := ie c53 hf
            refine lv_aload_n hx hb d_Model_count_99 rfl (lv_at hl 0 rfl) ?_
            refine G_model_awake X h m_f_Model_38 d_Model_count_100 ?_
            refine lv_iload_n hx hb d_Model_count_103 rfl (lv_at hl 3 rfl) ?_
            obtain ⟨g56, hf⟩ := gd_s hf
            refine R_mawake X h (inb_s g56) d_Model_count_104 ?_
            refine lv_if_eq (tgt := 111) hx hb d_Model_count_105 (by decide) (fun c57 => ?_) (fun c57 => ?_)
            · have hf := it c57 hf
              obtain ⟨v58, ev58⟩ : ∃ y : Int32, y = y3 + 1 := ⟨_, rfl⟩
              have hf := nm_b hf ev58
              refine lv_iinc (v := v58) (lv' := [(3, .int v58), (0, .ref (ad 0)), (1, .int y1), (2, .int y2)]) hx hb d_Model_count_111 hl (k := 3) rfl (by rw [ev58]; rfl) (by decide) rfl (fun ls hl => ?_)
              refine lv_goto (tgt := 77) hx hb d_Model_count_114 (by decide) ?_
              exact ih y1 y2 v58 σ hf H locs ls h (lv_sub hl [1, 2, 3, 0] rfl)
            · have hf := ie c57 hf
              obtain ⟨v59, ev59⟩ : ∃ y : Int32, y = y2 + 1 := ⟨_, rfl⟩
              have hf := nm_b hf ev59
              refine lv_iinc (v := v59) (lv' := [(2, .int v59), (0, .ref (ad 0)), (1, .int y1), (3, .int y3)]) hx hb d_Model_count_108 hl (k := 2) rfl (by rw [ev59]; rfl) (by decide) rfl (fun ls hl => ?_)
              obtain ⟨v60, ev60⟩ : ∃ y : Int32, y = y3 + 1 := ⟨_, rfl⟩
              have hf := nm_b hf ev60
              refine lv_iinc (v := v60) (lv' := [(3, .int v60), (2, .int v59), (0, .ref (ad 0)), (1, .int y1)]) hx hb d_Model_count_111 hl (k := 3) rfl (by rw [ev60]; rfl) (by decide) rfl (fun ls hl => ?_)
              refine lv_goto (tgt := 77) hx hb d_Model_count_114 (by decide) ?_
              exact ih y1 v59 v60 σ hf H locs ls h (lv_sub hl [2, 3, 1, 0] rfl)
  have L191 : ∀ (k126 : Int32 → Int32 → Int32 → St → Option (Int32 × St)), (∀ (y1 : Int32) (y2 : Int32) (y3 : Int32) (σ : St), k126 y1 y2 y3 σ = some (r, σr) → ∀ (H : Heap) (locs : List Loc) (ls : Array Slot), WD D A s (wm ad cA σ) H locs → lv_has ls 4 [(0, .ref (ad 0)), (1, .int y1), (2, .int y2), (3, .int y3)] → W p l e ({ frames := 4, cells := 0, slots := 0, locals := 96 }) s m args below meth c H locs 0 0 Q (F0 m 126 ls [])) → ∀ (y1 : Int32) (y2 : Int32) (y3 : Int32) (σ : St), f_Model_count_191 n k126 y1 y2 y3 σ = some (r, σr) → ∀ (H : Heap) (locs : List Loc) (ls : Array Slot), WD D A s (wm ad cA σ) H locs → lv_has ls 4 [(0, .ref (ad 0)), (1, .int y1), (2, .int y2), (3, .int y3)] → W p l e ({ frames := 4, cells := 0, slots := 0, locals := 96 }) s m args below meth c H locs 0 0 Q (F0 m 191 ls []) := by
    intro k126 K126
    intro y1 y2 y3 σ hf H locs ls h hl
    unfold f_Model_count_191 at hf
    refine lv_iload_n hx hb d_Model_count_191 rfl (lv_at hl 1 rfl) ?_
    refine lv_bipush (v := 8) hx hb d_Model_count_192 (by decide) ?_
    refine lv_icmp_ne (tgt := 209) hx hb d_Model_count_194 (by decide) (fun c42 => ?_) (fun c42 => ?_)
    · have hf := ie c42 hf
      obtain ⟨v43, ev43⟩ : ∃ y : Int32, y = y3 + 1 := ⟨_, rfl⟩
      have hf := nm_b hf ev43
      refine lv_iinc (v := v43) (lv' := [(3, .int v43), (0, .ref (ad 0)), (1, .int y1), (2, .int y2)]) hx hb d_Model_count_209 hl (k := 3) rfl (by rw [ev43]; rfl) (by decide) rfl (fun ls hl => ?_)
      refine lv_goto (tgt := 126) hx hb d_Model_count_212 (by decide) ?_
      exact K126 y1 y2 v43 σ hf H locs ls h (lv_sub hl [1, 2, 3, 0] rfl)
    · have hf := it c42 hf
      refine lv_aload_n hx hb d_Model_count_197 rfl (lv_at hl 0 rfl) ?_
      refine G_model_known X h m_f_Model_19 d_Model_count_198 ?_
      refine lv_iload_n hx hb d_Model_count_201 rfl (lv_at hl 3 rfl) ?_
      obtain ⟨g44, hf⟩ := gd_s hf
      refine R_mknown X h (inb_s g44) d_Model_count_202 ?_
      refine lv_if_eq (tgt := 209) hx hb d_Model_count_203 (by decide) (fun c45 => ?_) (fun c45 => ?_)
      · have hf := it c45 hf
        obtain ⟨v46, ev46⟩ : ∃ y : Int32, y = y3 + 1 := ⟨_, rfl⟩
        have hf := nm_b hf ev46
        refine lv_iinc (v := v46) (lv' := [(3, .int v46), (0, .ref (ad 0)), (1, .int y1), (2, .int y2)]) hx hb d_Model_count_209 hl (k := 3) rfl (by rw [ev46]; rfl) (by decide) rfl (fun ls hl => ?_)
        refine lv_goto (tgt := 126) hx hb d_Model_count_212 (by decide) ?_
        exact K126 y1 y2 v46 σ hf H locs ls h (lv_sub hl [1, 2, 3, 0] rfl)
      · have hf := ie c45 hf
        obtain ⟨v47, ev47⟩ : ∃ y : Int32, y = y2 + 1 := ⟨_, rfl⟩
        have hf := nm_b hf ev47
        refine lv_iinc (v := v47) (lv' := [(2, .int v47), (0, .ref (ad 0)), (1, .int y1), (3, .int y3)]) hx hb d_Model_count_206 hl (k := 2) rfl (by rw [ev47]; rfl) (by decide) rfl (fun ls hl => ?_)
        obtain ⟨v48, ev48⟩ : ∃ y : Int32, y = y3 + 1 := ⟨_, rfl⟩
        have hf := nm_b hf ev48
        refine lv_iinc (v := v48) (lv' := [(3, .int v48), (2, .int v47), (0, .ref (ad 0)), (1, .int y1)]) hx hb d_Model_count_209 hl (k := 3) rfl (by rw [ev48]; rfl) (by decide) rfl (fun ls hl => ?_)
        refine lv_goto (tgt := 126) hx hb d_Model_count_212 (by decide) ?_
        exact K126 y1 v47 v48 σ hf H locs ls h (lv_sub hl [2, 3, 1, 0] rfl)
  have L161 : ∀ (k126 : Int32 → Int32 → Int32 → St → Option (Int32 × St)), (∀ (y1 : Int32) (y2 : Int32) (y3 : Int32) (σ : St), k126 y1 y2 y3 σ = some (r, σr) → ∀ (H : Heap) (locs : List Loc) (ls : Array Slot), WD D A s (wm ad cA σ) H locs → lv_has ls 4 [(0, .ref (ad 0)), (1, .int y1), (2, .int y2), (3, .int y3)] → W p l e ({ frames := 4, cells := 0, slots := 0, locals := 96 }) s m args below meth c H locs 0 0 Q (F0 m 126 ls [])) → ∀ (y1 : Int32) (y2 : Int32) (y3 : Int32) (σ : St), f_Model_count_161 n k126 y1 y2 y3 σ = some (r, σr) → ∀ (H : Heap) (locs : List Loc) (ls : Array Slot), WD D A s (wm ad cA σ) H locs → lv_has ls 4 [(0, .ref (ad 0)), (1, .int y1), (2, .int y2), (3, .int y3)] → W p l e ({ frames := 4, cells := 0, slots := 0, locals := 96 }) s m args below meth c H locs 0 0 Q (F0 m 161 ls []) := by
    intro k126 K126
    intro y1 y2 y3 σ hf H locs ls h hl
    unfold f_Model_count_161 at hf
    refine lv_iload_n hx hb d_Model_count_161 rfl (lv_at hl 1 rfl) ?_
    refine lv_bipush (v := 7) hx hb d_Model_count_162 (by decide) ?_
    refine lv_icmp_ne (tgt := 191) hx hb d_Model_count_164 (by decide) (fun c33 => ?_) (fun c33 => ?_)
    · have hf := ie c33 hf
      exact L191 k126 K126 y1 y2 y3 σ hf H locs ls h (lv_sub hl [0, 1, 2, 3] rfl)
    · have hf := it c33 hf
      refine lv_aload_n hx hb d_Model_count_167 rfl (lv_at hl 0 rfl) ?_
      refine G_model_floor X h m_f_Model_7 d_Model_count_168 ?_
      refine lv_iload_n hx hb d_Model_count_171 rfl (lv_at hl 3 rfl) ?_
      obtain ⟨g34, hf⟩ := gd_s hf
      refine R_mfloor X h (inb_s g34) d_Model_count_172 ?_
      refine lv_if_eq (tgt := 191) hx hb d_Model_count_173 (by decide) (fun c35 => ?_) (fun c35 => ?_)
      · have hf := it c35 hf
        exact L191 k126 K126 y1 y2 y3 σ hf H locs ls h (lv_sub hl [0, 1, 2, 3] rfl)
      · have hf := ie c35 hf
        refine lv_aload_n hx hb d_Model_count_176 rfl (lv_at hl 0 rfl) ?_
        refine lv_iload_n hx hb d_Model_count_177 rfl (lv_at hl 3 rfl) ?_
        refine lv_bipush (v := 12) hx hb d_Model_count_178 (by decide) ?_
        refine lv_irem hx hb d_Model_count_180 (by decide) ?_
        refine lv_iload_n hx hb d_Model_count_181 rfl (lv_at hl 3 rfl) ?_
        refine lv_bipush (v := 12) hx hb d_Model_count_182 (by decide) ?_
        refine lv_idiv hx hb d_Model_count_184 (by decide) ?_
        obtain ⟨r36, σ37, h38, hf⟩ := bd_s hf
        refine x_Vi (As := [.int (y3 - y3 / 12 * 12), .int (y3 / 12)]) (rest := []) X hml hl.1 hZ hA h (c_Model_isSeen l D ad cA tz n (y3 - y3 / 12 * 12) (y3 / 12) σ r36 σ37 h38) k_Model_isSeen m_m_Model_166 kd_Model_isSeen ⟨rfl, rfl, Nat.le_of_ble_eq_true rfl, Nat.le_of_ble_eq_true rfl⟩ 0 rfl rfl rfl rfl rfl (Nat.le_of_ble_eq_true rfl) d_Model_count_185 (fun H locs h => ?_)
        refine lv_if_ne (tgt := 206) hx hb d_Model_count_188 (by decide) (fun c39 => ?_) (fun c39 => ?_)
        · have hf := ie c39 hf
          obtain ⟨v40, ev40⟩ : ∃ y : Int32, y = y2 + 1 := ⟨_, rfl⟩
          have hf := nm_b hf ev40
          refine lv_iinc (v := v40) (lv' := [(2, .int v40), (0, .ref (ad 0)), (1, .int y1), (3, .int y3)]) hx hb d_Model_count_206 hl (k := 2) rfl (by rw [ev40]; rfl) (by decide) rfl (fun ls hl => ?_)
          obtain ⟨v41, ev41⟩ : ∃ y : Int32, y = y3 + 1 := ⟨_, rfl⟩
          have hf := nm_b hf ev41
          refine lv_iinc (v := v41) (lv' := [(3, .int v41), (2, .int v40), (0, .ref (ad 0)), (1, .int y1)]) hx hb d_Model_count_209 hl (k := 3) rfl (by rw [ev41]; rfl) (by decide) rfl (fun ls hl => ?_)
          refine lv_goto (tgt := 126) hx hb d_Model_count_212 (by decide) ?_
          exact K126 y1 v40 v41 σ37 hf H locs ls h (lv_sub hl [2, 3, 1, 0] rfl)
        · have hf := it c39 hf
          exact L191 k126 K126 y1 y2 y3 σ37 hf H locs ls h (lv_sub hl [0, 1, 2, 3] rfl)
  have L146 : ∀ (k126 : Int32 → Int32 → Int32 → St → Option (Int32 × St)), (∀ (y1 : Int32) (y2 : Int32) (y3 : Int32) (σ : St), k126 y1 y2 y3 σ = some (r, σr) → ∀ (H : Heap) (locs : List Loc) (ls : Array Slot), WD D A s (wm ad cA σ) H locs → lv_has ls 4 [(0, .ref (ad 0)), (1, .int y1), (2, .int y2), (3, .int y3)] → W p l e ({ frames := 4, cells := 0, slots := 0, locals := 96 }) s m args below meth c H locs 0 0 Q (F0 m 126 ls [])) → ∀ (y1 : Int32) (y2 : Int32) (y3 : Int32) (σ : St), f_Model_count_146 n k126 y1 y2 y3 σ = some (r, σr) → ∀ (H : Heap) (locs : List Loc) (ls : Array Slot), WD D A s (wm ad cA σ) H locs → lv_has ls 4 [(0, .ref (ad 0)), (1, .int y1), (2, .int y2), (3, .int y3)] → W p l e ({ frames := 4, cells := 0, slots := 0, locals := 96 }) s m args below meth c H locs 0 0 Q (F0 m 146 ls []) := by
    intro k126 K126
    intro y1 y2 y3 σ hf H locs ls h hl
    unfold f_Model_count_146 at hf
    refine lv_iload_n hx hb d_Model_count_146 rfl (lv_at hl 1 rfl) ?_
    refine lv_bipush (v := 6) hx hb d_Model_count_147 (by decide) ?_
    refine lv_icmp_ne (tgt := 161) hx hb d_Model_count_149 (by decide) (fun c28 => ?_) (fun c28 => ?_)
    · have hf := ie c28 hf
      exact L161 k126 K126 y1 y2 y3 σ hf H locs ls h (lv_sub hl [0, 1, 2, 3] rfl)
    · have hf := it c28 hf
      refine lv_aload_n hx hb d_Model_count_152 rfl (lv_at hl 0 rfl) ?_
      refine G_model_floor X h m_f_Model_7 d_Model_count_153 ?_
      refine lv_iload_n hx hb d_Model_count_156 rfl (lv_at hl 3 rfl) ?_
      obtain ⟨g29, hf⟩ := gd_s hf
      refine R_mfloor X h (inb_s g29) d_Model_count_157 ?_
      refine lv_if_ne (tgt := 206) hx hb d_Model_count_158 (by decide) (fun c30 => ?_) (fun c30 => ?_)
      · have hf := ie c30 hf
        obtain ⟨v31, ev31⟩ : ∃ y : Int32, y = y2 + 1 := ⟨_, rfl⟩
        have hf := nm_b hf ev31
        refine lv_iinc (v := v31) (lv' := [(2, .int v31), (0, .ref (ad 0)), (1, .int y1), (3, .int y3)]) hx hb d_Model_count_206 hl (k := 2) rfl (by rw [ev31]; rfl) (by decide) rfl (fun ls hl => ?_)
        obtain ⟨v32, ev32⟩ : ∃ y : Int32, y = y3 + 1 := ⟨_, rfl⟩
        have hf := nm_b hf ev32
        refine lv_iinc (v := v32) (lv' := [(3, .int v32), (2, .int v31), (0, .ref (ad 0)), (1, .int y1)]) hx hb d_Model_count_209 hl (k := 3) rfl (by rw [ev32]; rfl) (by decide) rfl (fun ls hl => ?_)
        refine lv_goto (tgt := 126) hx hb d_Model_count_212 (by decide) ?_
        exact K126 y1 v31 v32 σ hf H locs ls h (lv_sub hl [2, 3, 1, 0] rfl)
      · have hf := it c30 hf
        exact L161 k126 K126 y1 y2 y3 σ hf H locs ls h (lv_sub hl [0, 1, 2, 3] rfl)
  have L126 : ∀ j : Nat, ∀ (y1 : Int32) (y2 : Int32) (y3 : Int32) (σ : St), f_Model_count_126 n j y1 y2 y3 σ = some (r, σr) → ∀ (H : Heap) (locs : List Loc) (ls : Array Slot), WD D A s (wm ad cA σ) H locs → lv_has ls 4 [(0, .ref (ad 0)), (1, .int y1), (2, .int y2), (3, .int y3)] → W p l e ({ frames := 4, cells := 0, slots := 0, locals := 96 }) s m args below meth c H locs 0 0 Q (F0 m 126 ls []) := by
    intro j
    induction j with
    | zero => intro y1 y2 y3 σ hf; exact absurd hf (fun z => by cases z)
    | succ j ih =>
      intro y1 y2 y3 σ hf H locs ls h hl
      have hf := us (f_Model_count_126_s n j y1 y2 y3 σ) hf
      refine lv_iload_n hx hb d_Model_count_126 rfl (lv_at hl 3 rfl) ?_
      refine lv_bipush (v := 120) hx hb d_Model_count_127 (by decide) ?_
      refine lv_icmp_ge (tgt := 215) hx hb d_Model_count_129 (by decide) (fun c22 => ?_) (fun c22 => ?_)
      · have hf := it c22 hf
        refine lv_iload_n hx hb d_Model_count_215 rfl (lv_at hl 2 rfl) ?_
        exact rt _ _ H locs 216 ls hf h d_Model_count_216
      · have hf := ie c22 hf
        refine lv_iload_n hx hb d_Model_count_132 rfl (lv_at hl 1 rfl) ?_
        refine lv_iconst (v := 5) hx hb d_Model_count_133 (by decide) ?_
        refine lv_icmp_ne (tgt := 146) hx hb d_Model_count_134 (by decide) (fun c23 => ?_) (fun c23 => ?_)
        · have hf := ie c23 hf
          exact L146 (fun y1 y2 y3 σ => f_Model_count_126 n j y1 y2 y3 σ) ih y1 y2 y3 σ hf H locs ls h (lv_sub hl [0, 1, 2, 3] rfl)
        · have hf := it c23 hf
          refine lv_aload_n hx hb d_Model_count_137 rfl (lv_at hl 0 rfl) ?_
          refine G_model_thing X h m_f_Model_13 d_Model_count_138 ?_
          refine lv_iload_n hx hb d_Model_count_141 rfl (lv_at hl 3 rfl) ?_
          obtain ⟨g24, hf⟩ := gd_s hf
          refine R_mthing X h (inb_s g24) d_Model_count_142 ?_
          refine lv_if_ge (tgt := 206) hx hb d_Model_count_143 (by decide) (fun c25 => ?_) (fun c25 => ?_)
          · have hf := it c25 hf
            obtain ⟨v26, ev26⟩ : ∃ y : Int32, y = y2 + 1 := ⟨_, rfl⟩
            have hf := nm_b hf ev26
            refine lv_iinc (v := v26) (lv' := [(2, .int v26), (0, .ref (ad 0)), (1, .int y1), (3, .int y3)]) hx hb d_Model_count_206 hl (k := 2) rfl (by rw [ev26]; rfl) (by decide) rfl (fun ls hl => ?_)
            obtain ⟨v27, ev27⟩ : ∃ y : Int32, y = y3 + 1 := ⟨_, rfl⟩
            have hf := nm_b hf ev27
            refine lv_iinc (v := v27) (lv' := [(3, .int v27), (2, .int v26), (0, .ref (ad 0)), (1, .int y1)]) hx hb d_Model_count_209 hl (k := 3) rfl (by rw [ev27]; rfl) (by decide) rfl (fun ls hl => ?_)
            refine lv_goto (tgt := 126) hx hb d_Model_count_212 (by decide) ?_
            exact ih y1 v26 v27 σ hf H locs ls h (lv_sub hl [2, 3, 1, 0] rfl)
          · have hf := ie c25 hf
            exact L146 (fun y1 y2 y3 σ => f_Model_count_126 n j y1 y2 y3 σ) ih y1 y2 y3 σ hf H locs ls h (lv_sub hl [0, 1, 2, 3] rfl)
  have L223 : ∀ j : Nat, ∀ (y2 : Int32) (y3 : Int32) (σ : St), f_Model_count_223 n j y2 y3 σ = some (r, σr) → ∀ (H : Heap) (locs : List Loc) (ls : Array Slot), WD D A s (wm ad cA σ) H locs → lv_has ls 4 [(0, .ref (ad 0)), (2, .int y2), (3, .int y3)] → W p l e ({ frames := 4, cells := 0, slots := 0, locals := 96 }) s m args below meth c H locs 0 0 Q (F0 m 223 ls []) := by
    intro j
    induction j with
    | zero => intro y2 y3 σ hf; exact absurd hf (fun z => by cases z)
    | succ j ih =>
      intro y2 y3 σ hf H locs ls h hl
      have hf := us (f_Model_count_223_s n j y2 y3 σ) hf
      refine lv_iload_n hx hb d_Model_count_223 rfl (lv_at hl 2 rfl) ?_
      refine lv_bipush (v := 120) hx hb d_Model_count_224 (by decide) ?_
      refine lv_icmp_ge (tgt := 252) hx hb d_Model_count_226 (by decide) (fun c15 => ?_) (fun c15 => ?_)
      · have hf := it c15 hf
        refine lv_iload_n hx hb d_Model_count_252 rfl (lv_at hl 1 rfl) ?_
        exact rt _ _ H locs 253 ls hf h d_Model_count_253
      · have hf := ie c15 hf
        refine lv_aload_n hx hb d_Model_count_229 rfl (lv_at hl 0 rfl) ?_
        refine G_model_distance X h m_f_Model_16 d_Model_count_230 ?_
        refine lv_iload_n hx hb d_Model_count_233 rfl (lv_at hl 2 rfl) ?_
        obtain ⟨g16, hf⟩ := gd_s hf
        refine R_mdistance X h (inb_s g16) d_Model_count_234 ?_
        refine lv_iload_n hx hb d_Model_count_235 rfl (lv_at hl 1 rfl) ?_
        refine lv_icmp_le (tgt := 246) hx hb d_Model_count_236 (by decide) (fun c17 => ?_) (fun c17 => ?_)
        · have hf := it c17 hf
          obtain ⟨v18, ev18⟩ : ∃ y : Int32, y = y3 + 1 := ⟨_, rfl⟩
          have hf := nm_b hf ev18
          refine lv_iinc (v := v18) (lv' := [(3, .int v18), (0, .ref (ad 0)), (2, .int y2)]) hx hb d_Model_count_246 hl (k := 2) rfl (by rw [ev18]; rfl) (by decide) rfl (fun ls hl => ?_)
          refine lv_goto (tgt := 223) hx hb d_Model_count_249 (by decide) ?_
          exact ih y2 v18 σ hf H locs ls h (lv_sub hl [1, 2, 0] rfl)
        · have hf := ie c17 hf
          refine lv_aload_n hx hb d_Model_count_239 rfl (lv_at hl 0 rfl) ?_
          refine G_model_distance X h m_f_Model_16 d_Model_count_240 ?_
          refine lv_iload_n hx hb d_Model_count_243 rfl (lv_at hl 2 rfl) ?_
          obtain ⟨g19, hf⟩ := gd_s hf
          refine R_mdistance X h (inb_s g19) d_Model_count_244 ?_
          refine lv_topi (fun v20 ev20 => ?_)
          have hf := nm_b hf ev20
          refine lv_istore_n (lv' := [(2, .int v20), (0, .ref (ad 0)), (3, .int y3)]) hx hb d_Model_count_245 rfl hl (by decide) rfl (fun ls hl => ?_)
          obtain ⟨v21, ev21⟩ : ∃ y : Int32, y = y3 + 1 := ⟨_, rfl⟩
          have hf := nm_b hf ev21
          refine lv_iinc (v := v21) (lv' := [(3, .int v21), (2, .int v20), (0, .ref (ad 0))]) hx hb d_Model_count_246 hl (k := 2) rfl (by rw [ev21]; rfl) (by decide) rfl (fun ls hl => ?_)
          refine lv_goto (tgt := 223) hx hb d_Model_count_249 (by decide) ?_
          exact ih v20 v21 σ hf H locs ls h (lv_sub hl [2, 1, 0] rfl)
  unfold f_Model_count at hf
  refine lv_iconst (v := 0) hx hb d_Model_count_0 (by decide) ?_
  refine lv_istore_n (lv' := [(2, .int 0), (0, .ref (ad 0)), (1, .int x1)]) hx hb d_Model_count_1 rfl hl (by decide) rfl (fun ls hl => ?_)
  refine lv_iload_n hx hb d_Model_count_2 rfl (lv_at hl 2 rfl) ?_
  by_cases c1 : x1 = 0
  · have hf := it c1 hf
    refine lv_tableIn (off := 57) (tgt := 60) hx hb d_Model_count_3 (by rw [c1]; decide) (by rw [c1]; decide) (by rw [c1]; decide) (by decide) ?_
    refine lv_aload_n hx hb d_Model_count_60 rfl (lv_at hl 1 rfl) ?_
    refine G_model_ticks X h m_f_Model_99 d_Model_count_61 ?_
    exact rt _ _ H locs 64 ls hf h d_Model_count_64
  · have hf := ie c1 hf
    by_cases c2 : x1 = 1
    · have hf := it c2 hf
      refine lv_tableIn (off := 62) (tgt := 65) hx hb d_Model_count_3 (by rw [c2]; decide) (by rw [c2]; decide) (by rw [c2]; decide) (by decide) ?_
      refine lv_aload_n hx hb d_Model_count_65 rfl (lv_at hl 1 rfl) ?_
      refine G_model_recorded X h m_f_Model_105 d_Model_count_66 ?_
      exact rt _ _ H locs 69 ls hf h d_Model_count_69
    · have hf := ie c2 hf
      by_cases c3 : x1 = 2
      · have hf := it c3 hf
        refine lv_tableIn (off := 67) (tgt := 70) hx hb d_Model_count_3 (by rw [c3]; decide) (by rw [c3]; decide) (by rw [c3]; decide) (by decide) ?_
        refine lv_aload_n hx hb d_Model_count_70 rfl (lv_at hl 1 rfl) ?_
        refine G_model_went X h m_f_Model_102 d_Model_count_71 ?_
        exact rt _ _ H locs 74 ls hf h d_Model_count_74
      · have hf := ie c3 hf
        by_cases c4 : x1 = 3
        · have hf := it c4 hf
          refine lv_tableIn (off := 72) (tgt := 75) hx hb d_Model_count_3 (by rw [c4]; decide) (by rw [c4]; decide) (by rw [c4]; decide) (by decide) ?_
          refine lv_iconst (v := 0) hx hb d_Model_count_75 (by decide) ?_
          refine lv_istore_n (lv' := [(3, .int 0), (2, .int 0), (0, .ref (ad 0)), (1, .int x1)]) hx hb d_Model_count_76 rfl hl (by decide) rfl (fun ls hl => ?_)
          exact L77 n x1 0 0 σ hf H locs ls h (lv_sub hl [2, 3, 1, 0] rfl)
        · have hf := ie c4 hf
          by_cases c5 : x1 = 4
          · have hf := it c5 hf
            refine lv_tableIn (off := 72) (tgt := 75) hx hb d_Model_count_3 (by rw [c5]; decide) (by rw [c5]; decide) (by rw [c5]; decide) (by decide) ?_
            refine lv_iconst (v := 0) hx hb d_Model_count_75 (by decide) ?_
            refine lv_istore_n (lv' := [(3, .int 0), (2, .int 0), (0, .ref (ad 0)), (1, .int x1)]) hx hb d_Model_count_76 rfl hl (by decide) rfl (fun ls hl => ?_)
            exact L77 n x1 0 0 σ hf H locs ls h (lv_sub hl [2, 3, 1, 0] rfl)
          · have hf := ie c5 hf
            by_cases c6 : x1 = 5
            · have hf := it c6 hf
              refine lv_tableIn (off := 121) (tgt := 124) hx hb d_Model_count_3 (by rw [c6]; decide) (by rw [c6]; decide) (by rw [c6]; decide) (by decide) ?_
              refine lv_iconst (v := 0) hx hb d_Model_count_124 (by decide) ?_
              refine lv_istore_n (lv' := [(3, .int 0), (2, .int 0), (0, .ref (ad 0)), (1, .int x1)]) hx hb d_Model_count_125 rfl hl (by decide) rfl (fun ls hl => ?_)
              exact L126 n x1 0 0 σ hf H locs ls h (lv_sub hl [2, 3, 1, 0] rfl)
            · have hf := ie c6 hf
              by_cases c7 : x1 = 6
              · have hf := it c7 hf
                refine lv_tableIn (off := 121) (tgt := 124) hx hb d_Model_count_3 (by rw [c7]; decide) (by rw [c7]; decide) (by rw [c7]; decide) (by decide) ?_
                refine lv_iconst (v := 0) hx hb d_Model_count_124 (by decide) ?_
                refine lv_istore_n (lv' := [(3, .int 0), (2, .int 0), (0, .ref (ad 0)), (1, .int x1)]) hx hb d_Model_count_125 rfl hl (by decide) rfl (fun ls hl => ?_)
                exact L126 n x1 0 0 σ hf H locs ls h (lv_sub hl [2, 3, 1, 0] rfl)
              · have hf := ie c7 hf
                by_cases c8 : x1 = 7
                · have hf := it c8 hf
                  refine lv_tableIn (off := 121) (tgt := 124) hx hb d_Model_count_3 (by rw [c8]; decide) (by rw [c8]; decide) (by rw [c8]; decide) (by decide) ?_
                  refine lv_iconst (v := 0) hx hb d_Model_count_124 (by decide) ?_
                  refine lv_istore_n (lv' := [(3, .int 0), (2, .int 0), (0, .ref (ad 0)), (1, .int x1)]) hx hb d_Model_count_125 rfl hl (by decide) rfl (fun ls hl => ?_)
                  exact L126 n x1 0 0 σ hf H locs ls h (lv_sub hl [2, 3, 1, 0] rfl)
                · have hf := ie c8 hf
                  by_cases c9 : x1 = 8
                  · have hf := it c9 hf
                    refine lv_tableIn (off := 121) (tgt := 124) hx hb d_Model_count_3 (by rw [c9]; decide) (by rw [c9]; decide) (by rw [c9]; decide) (by decide) ?_
                    refine lv_iconst (v := 0) hx hb d_Model_count_124 (by decide) ?_
                    refine lv_istore_n (lv' := [(3, .int 0), (2, .int 0), (0, .ref (ad 0)), (1, .int x1)]) hx hb d_Model_count_125 rfl hl (by decide) rfl (fun ls hl => ?_)
                    exact L126 n x1 0 0 σ hf H locs ls h (lv_sub hl [2, 3, 1, 0] rfl)
                  · have hf := ie c9 hf
                    by_cases c10 : x1 = 9
                    · have hf := it c10 hf
                      refine lv_tableIn (off := 116) (tgt := 119) hx hb d_Model_count_3 (by rw [c10]; decide) (by rw [c10]; decide) (by rw [c10]; decide) (by decide) ?_
                      refine lv_aload_n hx hb d_Model_count_119 rfl (lv_at hl 1 rfl) ?_
                      refine G_model_state X h m_f_Model_96 d_Model_count_120 ?_
                      exact rt _ _ H locs 123 ls hf h d_Model_count_123
                    · have hf := ie c10 hf
                      by_cases c11 : x1 = 10
                      · have hf := it c11 hf
                        refine lv_tableIn (off := 214) (tgt := 217) hx hb d_Model_count_3 (by rw [c11]; decide) (by rw [c11]; decide) (by rw [c11]; decide) (by decide) ?_
                        refine lv_aload_n hx hb d_Model_count_217 rfl (lv_at hl 1 rfl) ?_
                        obtain ⟨r12, σ13, h14, hf⟩ := bd_s hf
                        refine x_Vv (As := []) (rest := []) X hml hl.1 hZ hA h (c_Model_measure l D ad cA tz n σ r12 σ13 h14) k_Model_measure m_m_Model_185 kd_Model_measure ⟨rfl, rfl, Nat.le_of_ble_eq_true rfl, Nat.le_of_ble_eq_true rfl⟩ 0 rfl rfl rfl rfl rfl (Nat.le_of_ble_eq_true rfl) d_Model_count_218 (fun H locs h => ?_)
                        refine lv_iconst (v := 0) hx hb d_Model_count_221 (by decide) ?_
                        refine lv_istore_n (lv' := [(3, .int 0), (2, .int 0), (0, .ref (ad 0)), (1, .int x1)]) hx hb d_Model_count_222 rfl hl (by decide) rfl (fun ls hl => ?_)
                        exact L223 n 0 0 σ13 hf H locs ls h (lv_sub hl [2, 1, 0] rfl)
                      · have hf := ie c11 hf
                        refine lv_tableOut (tgt := 254) hx hb d_Model_count_3 (by have zc1 := lv_neT c1 (show (0 : Int32).toInt = 0 by decide); have zc2 := lv_neT c2 (show (1 : Int32).toInt = 1 by decide); have zc3 := lv_neT c3 (show (2 : Int32).toInt = 2 by decide); have zc4 := lv_neT c4 (show (3 : Int32).toInt = 3 by decide); have zc5 := lv_neT c5 (show (4 : Int32).toInt = 4 by decide); have zc6 := lv_neT c6 (show (5 : Int32).toInt = 5 by decide); have zc7 := lv_neT c7 (show (6 : Int32).toInt = 6 by decide); have zc8 := lv_neT c8 (show (7 : Int32).toInt = 7 by decide); have zc9 := lv_neT c9 (show (8 : Int32).toInt = 8 by decide); have zc10 := lv_neT c10 (show (9 : Int32).toInt = 9 by decide); have zc11 := lv_neT c11 (show (10 : Int32).toInt = 10 by decide); omega) (by decide) ?_
                        refine lv_iconst (v := (-1)) hx hb d_Model_count_254 (by decide) ?_
                        exact rt _ _ H locs 255 ls hf h d_Model_count_255

