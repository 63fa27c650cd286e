/-! THE CLAIM OUT OF ONE WALK OF THE LAW'S BODY. Your part is whole_start (and what it stands on); all else here is the same for every law, but numbers. -/
def R_law : String := "DungeonDeskLaw"
def lw_P (b : Addr) (xs : List Int32) (args : Array Value) (s : State) : Prop := args = #[.ref b] ∧ s.IntsAt b xs ∧ xs.length ≤ 2049 ∧ (Jvm.Cond.and given_1 narrow_1).before args s = true
def lw_Q (_ : Array Value) (s : State) (o : Outcome) (t : State) : Prop := o = .returned (some (.int 1)) ∧ Framed s o t [] 43 2308
def lw_Z (below : List Frame) (a : Array Value) (s : State) : State → Prop := fun t => ∃ o, t.status = .running ∧ Ended t below o ∧ lw_Q a s o t
/-- the law's own end, with 1 on the stack, nothing written that was there before, its room as the claim has it -/
theorem lw_ret {p : Program} {l : Launch} {e : Env} {s : State} {m : MethodId} {below : List Frame} {meth : Method} {c : Code} {b : Nat} (hx : p.tables.exec = Jvm.exec) (hb : c.code = code) (hr : meth.sig.returnType = ret) (hlocks : meth.locks = false) {pc : Nat} {H : Heap} {ls : Array Slot} (hdg : decode code pc = .ok (.ireturn, 1)) : W p l e room_1 s m #[Value.ref b] below meth c H [] 43 2308 (lw_Z below #[Value.ref b] s) (F0 m pc ls [.int 1]) := by
  intro T hT X
  obtain ⟨fs, hret, hrun, hended, hW, hframe⟩ := X.leave (v := some (.int 1)) (hlocks := hlocks) (fun h => by rw [hr] at h; cases h)
  have hmeth' : T.vm.method? m = some meth := X.method'
  refine ⟨T.setFrames fs, ?_, .returned (some (.int 1)), hrun, hended, rfl, ⟨_, rfl⟩, hW, hframe⟩
  jvm_step X.here [X.here.top, hx, hb, hdg, hmeth', hr, ret, narrow_b1]
  (try refine ⟨rfl, ?_⟩); (try refine ⟨rfl, ?_⟩)
  first | (intro acts; rw [hret _ acts rfl rfl rfl]) | rw [hret _ _ rfl rfl rfl]
  exact Steps.refl _
/-- what holds at the law's entry: the machine, the code, the tables' words (any of lw_tbl by 'hts w (by decide +kernel)'), the script of L ints xs at the cell b, what the Statement gives of the start (any of its parts by flat_of_before) -/
def lw_At (p : Program) (s : State) (m : MethodId) (meth : Method) (c : Code) (b L : Nat) (xs : Nat → Int32) : Prop :=
  p.tables.exec = Jvm.exec ∧ c.code = code ∧ meth.sig.returnType = ret ∧ c.maxLocals = 4 ∧ s.vm.findClass R_law = some m.cls ∧ (∀ w ∈ lw_tbl, w.before #[Value.ref b] s = true) ∧ va_X b L xs s s.heap ∧ b < s.heap.size ∧ meth.locks = false ∧ (Jvm.Cond.and given_1 narrow_1).before #[Value.ref b] s = true
def y_Law_cell : MethodName := ⟨R_law, "cell", "([II)I"⟩
abbrev b_Law_cell : ByteArray := method_2_code
set_option maxRecDepth 20000 in
theorem m_c_Law_18 : Cond.classLink R_law 18 R_Model ∈ TB := mem_tables_1_3 51 rfl rfl
set_option maxRecDepth 20000 in
theorem m_c_Law_7 : Cond.classLink R_law 7 R_Desk ∈ TB := mem_tables_1_1 12 rfl rfl
set_option maxRecDepth 20000 in
theorem m_m_Law_15 : Cond.methodLink R_law 15 y_Desk_init ∈ TB := mem_tables_1_1 14 rfl rfl
set_option maxRecDepth 20000 in
theorem m_m_Law_20 : Cond.methodLink R_law 20 y_Model_init ∈ TB := mem_tables_1_3 53 rfl rfl
set_option maxRecDepth 20000 in
theorem m_m_Law_21 : Cond.methodLink R_law 21 y_Desk_key ∈ TB := mem_tables_1_2 114 rfl rfl
set_option maxRecDepth 20000 in
theorem m_m_Law_25 : Cond.methodLink R_law 25 y_Model_key ∈ TB := mem_tables_1_3 214 rfl rfl
set_option maxRecDepth 20000 in
theorem m_m_Law_26 : Cond.methodLink R_law 26 y_Desk_rewind ∈ TB := mem_tables_1_2 222 rfl rfl
set_option maxRecDepth 20000 in
theorem m_m_Law_29 : Cond.methodLink R_law 29 y_Model_rewind ∈ TB := mem_tables_1_4 30 rfl rfl
set_option maxRecDepth 20000 in
theorem m_m_Law_30 : Cond.methodLink R_law 30 y_Desk_cell ∈ TB := mem_tables_1_2 226 rfl rfl
set_option maxRecDepth 20000 in
theorem m_m_Law_33 : Cond.methodLink R_law 33 y_Model_cell ∈ TB := mem_tables_1_4 34 rfl rfl
set_option maxRecDepth 20000 in
theorem m_m_Law_34 : Cond.methodLink R_law 34 y_Desk_monster ∈ TB := mem_tables_1_2 238 rfl rfl
set_option maxRecDepth 20000 in
theorem m_m_Law_38 : Cond.methodLink R_law 38 y_Model_monster ∈ TB := mem_tables_1_4 38 rfl rfl
set_option maxRecDepth 20000 in
theorem m_m_Law_39 : Cond.methodLink R_law 39 y_Desk_player ∈ TB := mem_tables_1_3 2 rfl rfl
set_option maxRecDepth 20000 in
theorem m_m_Law_42 : Cond.methodLink R_law 42 y_Model_player ∈ TB := mem_tables_1_4 42 rfl rfl
set_option maxRecDepth 20000 in
theorem m_m_Law_43 : Cond.methodLink R_law 43 y_Desk_recorded ∈ TB := mem_tables_1_3 8 rfl rfl
set_option maxRecDepth 20000 in
theorem m_m_Law_46 : Cond.methodLink R_law 46 y_Model_recorded ∈ TB := mem_tables_1_4 46 rfl rfl
set_option maxRecDepth 20000 in
theorem m_m_Law_47 : Cond.methodLink R_law 47 y_Desk_hash ∈ TB := mem_tables_1_3 12 rfl rfl
set_option maxRecDepth 20000 in
theorem m_m_Law_51 : Cond.methodLink R_law 51 y_Model_hash ∈ TB := mem_tables_1_4 50 rfl rfl
set_option maxRecDepth 20000 in
theorem m_m_Law_52 : Cond.methodLink R_law 52 y_Desk_count ∈ TB := mem_tables_1_3 33 rfl rfl
set_option maxRecDepth 20000 in
theorem m_m_Law_55 : Cond.methodLink R_law 55 y_Model_count ∈ TB := mem_tables_1_4 57 rfl rfl
set_option maxRecDepth 20000 in
theorem m_m_Law_9 : Cond.methodLink R_law 9 y_Law_cell ∈ TB := mem_tables_1_3 48 rfl rfl
set_option maxRecDepth 20000 in
theorem k_Law_cell : KS y_Law_cell b_Law_cell 2 (some .int) := ⟨mem_tables_1_3 50 rfl rfl, mem_tables_1_3 49 rfl rfl, mem_tables_1_1 0 rfl rfl⟩
theorem kd_Law_cell : KD y_Law_cell 2 := ⟨by decide, by decide, by decide +kernel⟩
theorem d_Law_cell_0 : decode b_Law_cell 0 = .ok (.iload_n 1, 1) := by decide +kernel
theorem d_Law_cell_1 : decode b_Law_cell 1 = .ok (.aload_n 0, 1) := by decide +kernel
theorem d_Law_cell_2 : decode b_Law_cell 2 = .ok (.arraylength, 1) := by decide +kernel
theorem d_Law_cell_3 : decode b_Law_cell 3 = .ok (.if_icmp .ge 9, 3) := by decide +kernel
theorem d_Law_cell_6 : decode b_Law_cell 6 = .ok (.aload_n 0, 1) := by decide +kernel
theorem d_Law_cell_7 : decode b_Law_cell 7 = .ok (.iload_n 1, 1) := by decide +kernel
theorem d_Law_cell_8 : decode b_Law_cell 8 = .ok (.iaload, 1) := by decide +kernel
theorem d_Law_cell_9 : decode b_Law_cell 9 = .ok (.goto 4, 3) := by decide +kernel
theorem d_Law_cell_12 : decode b_Law_cell 12 = .ok (.iconst 0, 1) := by decide +kernel
theorem d_Law_cell_13 : decode b_Law_cell 13 = .ok (.ireturn, 1) := by decide +kernel
theorem na_and (a b : Nat) : nI a &&& nI b = nI (a &&& b) := by
  apply Int32.toBitVec_inj.1
  rw [Int32.toBitVec_and]
  show BitVec.ofNat 32 a &&& BitVec.ofNat 32 b = BitVec.ofNat 32 (a &&& b)
  simp
theorem and7 (x : Int32) : ∃ k : Nat, k < 8 ∧ x &&& 7 = nI k := by
  have e : x = nI x.toBitVec.toNat := by
    apply Int32.toBitVec_inj.1
    show x.toBitVec = BitVec.ofNat 32 x.toBitVec.toNat
    simp
  refine ⟨x.toBitVec.toNat % 8, Nat.mod_lt _ (by omega), ?_⟩
  have h : nI x.toBitVec.toNat &&& 7 = nI (x.toBitVec.toNat % 8) := by
    show nI x.toBitVec.toNat &&& nI 7 = _
    rw [na_and, show (7 : Nat) = 2 ^ 3 - 1 from rfl, Nat.and_two_pow_sub_one_eq_mod]
  rw [← h, ← e]
theorem ka_of {s : State} {args : Array Value} {ty : FieldType} (h : (Cond.arrayClass ty).before args s = true) : ∃ c : ClassId, ArrOfT s c ty ∧ s.vm.findClass ("[" ++ ty.toString) = some c := by
  obtain ⟨c, k, comp, h1, h2, h3⟩ := Cond.arrayClass_spec h
  exact ⟨c, fun n z => ⟨fun k h => (by cases h), k, h2, comp, h3⟩, h1⟩
set_option maxHeartbeats 4000000 in
set_option maxRecDepth 100000 in
theorem c_Law_cell (l : Launch) (b L sz : Nat) (xs : Nat → Int32) (hL : L < 2147483648) : Met l y_Law_cell (.code y_Law_cell b_Law_cell 2 (some .int) :: TB) ({ frames := 0, cells := 0, slots := 0, locals := 0 }) (va_Pc [.ref b, .int 0] (fun U => U.heap.size = sz ∧ va_X b L xs U U.heap ∧ b < sz)) (va_Qi (fun (r : Int32) (_ : Unit) => r = (if L = 0 then 0 else xs 0)) (fun _ _ => True) (va_A [] sz)) 0 0 (va_A [] sz) := by
  refine Met.ofW (cc := b_Law_cell) (maxL := 2) (ret := some .int) (by decide) rfl ?_
  intro p e s m args below meth c s₁ B hml hv
  obtain ⟨rfl, hsz, hX, hbl⟩ := hv
  subst hsz
  have hx := B.exec
  have hb := B.bytes
  have hr := B.returns
  have hlocks := B.notSynchronized
  have hS : va_S (va_A [] s.heap.size) s.heap s.heap [] := va_S.rf
  have hbA : ¬ va_A [] s.heap.size b := fun q => by
    rcases q with ⟨k, e, hk⟩ | q
    · simp at hk
    · omega
  have hl := lv_entry ([.ref b, .int 0]) (n := 2) (Nat.le_of_ble_eq_true rfl)
  rw [lg_entry_eq]
  generalize (lg_sl ([.ref b, .int 0]) ++ List.replicate (2 - (lg_sl ([.ref b, .int 0])).length) Slot.unset).toArray = ls at hl ⊢
  have hl : lv_has ls 2 [(0, .ref b), (1, .int 0)] := hl
  refine lv_iload_n hx hb d_Law_cell_0 rfl (lv_at hl 1 rfl) ?_
  refine lv_aload_n hx hb d_Law_cell_1 rfl (lv_at hl 0 rfl) ?_
  refine va_slen hx hb hX hbl hbA hS d_Law_cell_2 ?_
  refine lv_icmp_ge (tgt := 12) hx hb d_Law_cell_3 (by decide) (fun c1 => ?_) (fun c1 => ?_)
  · have h0 : L = 0 := by
      have := (le_n (a := L) (b := 0) hL (by omega)).mp c1
      omega
    refine lv_iconst (v := 0) hx hb d_Law_cell_12 (by decide) ?_
    exact W.iret hx hb hr (fun t ht hW => ⟨⟨_, (), rfl, by rw [if_pos h0], trivial⟩, hS.F ht⟩) hS.2.2 d_Law_cell_13
  · have h0 : ¬ L = 0 := fun z => c1 ((le_n (a := L) (b := 0) hL (by omega)).mpr (by omega))
    refine lv_aload_n hx hb d_Law_cell_6 rfl (lv_at hl 0 rfl) ?_
    refine lv_iload_n hx hb d_Law_cell_7 rfl (lv_at hl 1 rfl) ?_
    refine va_sld hx hb hX hbl hbA hS (show vp_in (nI 0) L from vp_in_nI (by omega) (by omega)) d_Law_cell_8 ?_
    refine lv_goto (tgt := 13) hx hb d_Law_cell_9 (by decide) ?_
    exact W.iret hx hb hr (fun t ht hW => ⟨⟨_, (), rfl, by rw [if_neg h0]; rfl, trivial⟩, hS.F ht⟩) hS.2.2 d_Law_cell_13
set_option maxRecDepth 20000 in
theorem ls_STEPS : Cond.laysStatic "DungeonDesk$Level" "STEPS" "[I" ∈ lw_tbl := List.mem_append_right _ (List.mem_append_right _ (List.mem_append_left _ (List.mem_of_getElem? (i := 103) (show tables_1_2[103]? = _ from rfl))))
set_option maxRecDepth 20000 in
theorem ls_HEALTH_OF : Cond.laysStatic "DungeonDesk$Monsters" "HEALTH_OF" "[I" ∈ lw_tbl := List.mem_append_right _ (List.mem_append_right _ (List.mem_append_left _ (List.mem_of_getElem? (i := 58) (show tables_1_2[58]? = _ from rfl))))
set_option maxRecDepth 20000 in
theorem ls_SPEED_OF : Cond.laysStatic "DungeonDesk$Monsters" "SPEED_OF" "[I" ∈ lw_tbl := List.mem_append_right _ (List.mem_append_right _ (List.mem_append_left _ (List.mem_of_getElem? (i := 202) (show tables_1_2[202]? = _ from rfl))))
set_option maxRecDepth 20000 in
theorem ls_HIT_OF : Cond.laysStatic "DungeonDesk$Monsters" "HIT_OF" "[I" ∈ lw_tbl := List.mem_append_right _ (List.mem_append_right _ (List.mem_append_left _ (List.mem_of_getElem? (i := 213) (show tables_1_2[213]? = _ from rfl))))
set_option maxHeartbeats 4000000 in
set_option maxRecDepth 100000 in
theorem tz_of {s : State} {args : Array Value} {A : Nat → Prop} (hgv : (Jvm.Cond.and given_1 narrow_1).before args s = true) (hts0 : ∀ w ∈ lw_tbl, w.before args s = true) (hA : ∀ a : Nat, a < s.heap.size → ¬ A a) : ∃ tz : Nat → Nat, SZ stb tz A s s.heap := by
  have hs := flat_of_before _ hgv
  have hts : ∀ w ∈ TB, w.before args s = true := fun w hw => hts0 w (tb_tbl hw)
  have hr0 : (Cond.arrayOf (Term.static "DungeonDesk$Level" "STEPS" "[I") .int).before args s = true := hs _ (by decide +kernel)
  have hl0 := va_eqt (hs (Cond.eq (.length (Term.static "DungeonDesk$Level" "STEPS" "[I")) (.int 4)) (by decide +kernel))
  have he0_0 := va_eqt (hs (Cond.eq (.elem (Term.static "DungeonDesk$Level" "STEPS" "[I") (.int 0)) (.int (-12))) (by decide +kernel))
  have he0_1 := va_eqt (hs (Cond.eq (.elem (Term.static "DungeonDesk$Level" "STEPS" "[I") (.int 1)) (.int 1)) (by decide +kernel))
  have he0_2 := va_eqt (hs (Cond.eq (.elem (Term.static "DungeonDesk$Level" "STEPS" "[I") (.int 2)) (.int 12)) (by decide +kernel))
  have he0_3 := va_eqt (hs (Cond.eq (.elem (Term.static "DungeonDesk$Level" "STEPS" "[I") (.int 3)) (.int (-1))) (by decide +kernel))
  obtain ⟨t0, ht0, hT0⟩ := va_Tof (tm := (Term.static "DungeonDesk$Level" "STEPS" "[I")) (ty := .int) (N := 4) (f := fun j => .int (tb_STEPS j)) (A := A) (by decide) hr0 hl0 (fun j hj => by
    rcases (show j = 0 ∨ j = 1 ∨ j = 2 ∨ j = 3 by omega) with rfl | rfl | rfl | rfl
    · exact he0_0
    · exact he0_1
    · exact he0_2
    · exact he0_3) hA
  have hZ0 := va_Zref (hts0 _ ls_STEPS) (show (Cond.initialized "DungeonDesk$Level").before args s = true from hts _ ini_Level) ht0 hA
  have hr1 : (Cond.arrayOf (Term.static "DungeonDesk$Monsters" "HEALTH_OF" "[I") .int).before args s = true := hs _ (by decide +kernel)
  have hl1 := va_eqt (hs (Cond.eq (.length (Term.static "DungeonDesk$Monsters" "HEALTH_OF" "[I")) (.int 3)) (by decide +kernel))
  have he1_0 := va_eqt (hs (Cond.eq (.elem (Term.static "DungeonDesk$Monsters" "HEALTH_OF" "[I") (.int 0)) (.int 3)) (by decide +kernel))
  have he1_1 := va_eqt (hs (Cond.eq (.elem (Term.static "DungeonDesk$Monsters" "HEALTH_OF" "[I") (.int 1)) (.int 6)) (by decide +kernel))
  have he1_2 := va_eqt (hs (Cond.eq (.elem (Term.static "DungeonDesk$Monsters" "HEALTH_OF" "[I") (.int 2)) (.int 2)) (by decide +kernel))
  obtain ⟨t1, ht1, hT1⟩ := va_Tof (tm := (Term.static "DungeonDesk$Monsters" "HEALTH_OF" "[I")) (ty := .int) (N := 3) (f := fun j => .int (tb_HEALTH_OF j)) (A := A) (by decide) hr1 hl1 (fun j hj => by
    rcases (show j = 0 ∨ j = 1 ∨ j = 2 by omega) with rfl | rfl | rfl
    · exact he1_0
    · exact he1_1
    · exact he1_2) hA
  have hZ1 := va_Zref (hts0 _ ls_HEALTH_OF) (show (Cond.initialized "DungeonDesk$Monsters").before args s = true from hts _ ini_Monsters) ht1 hA
  have hr2 : (Cond.arrayOf (Term.static "DungeonDesk$Monsters" "SPEED_OF" "[I") .int).before args s = true := hs _ (by decide +kernel)
  have hl2 := va_eqt (hs (Cond.eq (.length (Term.static "DungeonDesk$Monsters" "SPEED_OF" "[I")) (.int 3)) (by decide +kernel))
  have he2_0 := va_eqt (hs (Cond.eq (.elem (Term.static "DungeonDesk$Monsters" "SPEED_OF" "[I") (.int 0)) (.int 8)) (by decide +kernel))
  have he2_1 := va_eqt (hs (Cond.eq (.elem (Term.static "DungeonDesk$Monsters" "SPEED_OF" "[I") (.int 1)) (.int 6)) (by decide +kernel))
  have he2_2 := va_eqt (hs (Cond.eq (.elem (Term.static "DungeonDesk$Monsters" "SPEED_OF" "[I") (.int 2)) (.int 14)) (by decide +kernel))
  obtain ⟨t2, ht2, hT2⟩ := va_Tof (tm := (Term.static "DungeonDesk$Monsters" "SPEED_OF" "[I")) (ty := .int) (N := 3) (f := fun j => .int (tb_SPEED_OF j)) (A := A) (by decide) hr2 hl2 (fun j hj => by
    rcases (show j = 0 ∨ j = 1 ∨ j = 2 by omega) with rfl | rfl | rfl
    · exact he2_0
    · exact he2_1
    · exact he2_2) hA
  have hZ2 := va_Zref (hts0 _ ls_SPEED_OF) (show (Cond.initialized "DungeonDesk$Monsters").before args s = true from hts _ ini_Monsters) ht2 hA
  have hr3 : (Cond.arrayOf (Term.static "DungeonDesk$Monsters" "HIT_OF" "[I") .int).before args s = true := hs _ (by decide +kernel)
  have hl3 := va_eqt (hs (Cond.eq (.length (Term.static "DungeonDesk$Monsters" "HIT_OF" "[I")) (.int 3)) (by decide +kernel))
  have he3_0 := va_eqt (hs (Cond.eq (.elem (Term.static "DungeonDesk$Monsters" "HIT_OF" "[I") (.int 0)) (.int 1)) (by decide +kernel))
  have he3_1 := va_eqt (hs (Cond.eq (.elem (Term.static "DungeonDesk$Monsters" "HIT_OF" "[I") (.int 1)) (.int 2)) (by decide +kernel))
  have he3_2 := va_eqt (hs (Cond.eq (.elem (Term.static "DungeonDesk$Monsters" "HIT_OF" "[I") (.int 2)) (.int 1)) (by decide +kernel))
  obtain ⟨t3, ht3, hT3⟩ := va_Tof (tm := (Term.static "DungeonDesk$Monsters" "HIT_OF" "[I")) (ty := .int) (N := 3) (f := fun j => .int (tb_HIT_OF j)) (A := A) (by decide) hr3 hl3 (fun j hj => by
    rcases (show j = 0 ∨ j = 1 ∨ j = 2 by omega) with rfl | rfl | rfl
    · exact he3_0
    · exact he3_1
    · exact he3_2) hA
  have hZ3 := va_Zref (hts0 _ ls_HIT_OF) (show (Cond.initialized "DungeonDesk$Monsters").before args s = true from hts _ ini_Monsters) ht3 hA
  refine ⟨fun k => match k with | 0 => t0 | 1 => t1 | 2 => t2 | _ => t3, ?_⟩
  intro k q hq
  match k, hq with
  | 0, hq => cases hq; exact ⟨hZ0, hT0⟩
  | 1, hq => cases hq; exact ⟨hZ1, hT1⟩
  | 2, hq => cases hq; exact ⟨hZ2, hT2⟩
  | 3, hq => cases hq; exact ⟨hZ3, hT3⟩
  | k + 4, hq => simp [stb] at hq
