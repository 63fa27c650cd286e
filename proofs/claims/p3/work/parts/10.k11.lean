theorem d_Monsters_countThere_0 : decode b_Monsters_countThere 0 = .ok (.iconst 0, 1) := by decide +kernel
theorem d_Monsters_countThere_1 : decode b_Monsters_countThere 1 = .ok (.istore_n 2, 1) := by decide +kernel
theorem d_Monsters_countThere_2 : decode b_Monsters_countThere 2 = .ok (.iconst 0, 1) := by decide +kernel
theorem d_Monsters_countThere_3 : decode b_Monsters_countThere 3 = .ok (.istore_n 3, 1) := by decide +kernel
theorem d_Monsters_countThere_4 : decode b_Monsters_countThere 4 = .ok (.iload_n 3, 1) := by decide +kernel
theorem d_Monsters_countThere_5 : decode b_Monsters_countThere 5 = .ok (.aload_n 0, 1) := by decide +kernel
theorem d_Monsters_countThere_6 : decode b_Monsters_countThere 6 = .ok (.getfield 27, 3) := by decide +kernel
theorem d_Monsters_countThere_9 : decode b_Monsters_countThere 9 = .ok (.if_icmp .ge 34, 3) := by decide +kernel
theorem d_Monsters_countThere_12 : decode b_Monsters_countThere 12 = .ok (.aload_n 0, 1) := by decide +kernel
theorem d_Monsters_countThere_13 : decode b_Monsters_countThere 13 = .ok (.iload_n 3, 1) := by decide +kernel
theorem d_Monsters_countThere_14 : decode b_Monsters_countThere 14 = .ok (.invokevirtual 38, 3) := by decide +kernel
theorem d_Monsters_countThere_17 : decode b_Monsters_countThere 17 = .ok (.ifCond .eq 20, 3) := by decide +kernel
theorem d_Monsters_countThere_20 : decode b_Monsters_countThere 20 = .ok (.iload_n 1, 1) := by decide +kernel
theorem d_Monsters_countThere_21 : decode b_Monsters_countThere 21 = .ok (.ifCond .eq 13, 3) := by decide +kernel
theorem d_Monsters_countThere_24 : decode b_Monsters_countThere 24 = .ok (.aload_n 0, 1) := by decide +kernel
theorem d_Monsters_countThere_25 : decode b_Monsters_countThere 25 = .ok (.getfield 24, 3) := by decide +kernel
theorem d_Monsters_countThere_28 : decode b_Monsters_countThere 28 = .ok (.iload_n 3, 1) := by decide +kernel
theorem d_Monsters_countThere_29 : decode b_Monsters_countThere 29 = .ok (.iaload, 1) := by decide +kernel
theorem d_Monsters_countThere_30 : decode b_Monsters_countThere 30 = .ok (.iconst 1, 1) := by decide +kernel
theorem d_Monsters_countThere_31 : decode b_Monsters_countThere 31 = .ok (.if_icmp .ne 6, 3) := by decide +kernel
theorem d_Monsters_countThere_34 : decode b_Monsters_countThere 34 = .ok (.iinc 2 1, 3) := by decide +kernel
theorem d_Monsters_countThere_37 : decode b_Monsters_countThere 37 = .ok (.iinc 3 1, 3) := by decide +kernel
theorem d_Monsters_countThere_40 : decode b_Monsters_countThere 40 = .ok (.goto (-36), 3) := by decide +kernel
theorem d_Monsters_countThere_43 : decode b_Monsters_countThere 43 = .ok (.iload_n 2, 1) := by decide +kernel
theorem d_Monsters_countThere_44 : decode b_Monsters_countThere 44 = .ok (.ireturn, 1) := by decide +kernel
def f_Monsters_countThere_4 (n : Nat) : Nat → Int32 → Int32 → Int32 → St → Option (Int32 × St)
  | 0, _, _, _, _ => none
  | j + 1, y1, y2, y3, σ => if (σ.1 7) ≤ y3 then (some (y2, σ)) else (bd (f_Monsters_isThere n y3 σ) (fun r2 σ3 => if r2 = 0 then (bnd (y3 + 1) (fun v6 => f_Monsters_countThere_4 n j y1 y2 v6 σ3)) else (if y1 = 0 then (bnd (y2 + 1) (fun v8 => bnd (y3 + 1) (fun v9 => f_Monsters_countThere_4 n j y1 v8 v9 σ3))) else (gd (inb y3 5) (if (σ3.2.2 8 y3.toNatClampNeg) = 1 then (bnd (y2 + 1) (fun v13 => bnd (y3 + 1) (fun v14 => f_Monsters_countThere_4 n j y1 v13 v14 σ3))) else (bnd (y3 + 1) (fun v12 => f_Monsters_countThere_4 n j y1 y2 v12 σ3)))))))
theorem f_Monsters_countThere_4_s (n : Nat) (j : Nat) (y1 : Int32) (y2 : Int32) (y3 : Int32) (σ : St) : f_Monsters_countThere_4 n (j + 1) y1 y2 y3 σ = (if (σ.1 7) ≤ y3 then (some (y2, σ)) else (bd (f_Monsters_isThere n y3 σ) (fun r2 σ3 => if r2 = 0 then (bnd (y3 + 1) (fun v6 => f_Monsters_countThere_4 n j y1 y2 v6 σ3)) else (if y1 = 0 then (bnd (y2 + 1) (fun v8 => bnd (y3 + 1) (fun v9 => f_Monsters_countThere_4 n j y1 v8 v9 σ3))) else (gd (inb y3 5) (if (σ3.2.2 8 y3.toNatClampNeg) = 1 then (bnd (y2 + 1) (fun v13 => bnd (y3 + 1) (fun v14 => f_Monsters_countThere_4 n j y1 v13 v14 σ3))) else (bnd (y3 + 1) (fun v12 => f_Monsters_countThere_4 n j y1 y2 v12 σ3)))))))) := rfl
def f_Monsters_countThere (n : Nat) (x1 : Int32) (σ : St) : Option (Int32 × St) := f_Monsters_countThere_4 n n x1 0 0 σ
set_option maxHeartbeats 4000000 in
set_option maxRecDepth 100000 in
theorem c_Monsters_countThere (l : Launch) (D : va_G) (ad : Nat → Nat) (cA : Nat → ClassId) (tz : Nat → Nat) (n : Nat) (x1 : Int32) (σ : St) (r : Int32) (σr : St) (hf : f_Monsters_countThere n x1 σ = some (r, σr)) : Ki l D cA tz (wl ad cA) y_Monsters_countThere (.code y_Monsters_countThere b_Monsters_countThere 4 (some .int) :: TB) ({ frames := 1, cells := 0, slots := 0, locals := 21 }) [.ref (ad 6), .int x1] σ r σr := by
  refine x_openi (own := R_Monsters) rfl (by decide) (fun p e s m args below meth c A Q X hml hZ hA H locs ls h hl rt => ?_)
  have hx := X.1
  have hb := X.2.1
  have hl : lv_has ls 4 [(0, .ref (ad 6)), (1, .int x1)] := hl
  have L4 : ∀ j : Nat, ∀ (y1 : Int32) (y2 : Int32) (y3 : Int32) (σ : St), f_Monsters_countThere_4 n j y1 y2 y3 σ = some (r, σr) → ∀ (H : Heap) (locs : List Loc) (ls : Array Slot), WD D A s (wl ad cA σ) H locs → lv_has ls 4 [(0, .ref (ad 6)), (1, .int y1), (2, .int y2), (3, .int y3)] → W p l e ({ frames := 1, cells := 0, slots := 0, locals := 21 }) s m args below meth c H locs 0 0 Q (F0 m 4 ls []) := by
    intro j
    induction j with
    | zero => intro y1 y2 y3 σ hf; exact absurd hf (fun z => by cases z)
    | succ j ih =>
      intro y1 y2 y3 σ hf H locs ls h hl
      have hf := us (f_Monsters_countThere_4_s n j y1 y2 y3 σ) hf
      refine lv_iload_n hx hb d_Monsters_countThere_4 rfl (lv_at hl 3 rfl) ?_
      refine lv_aload_n hx hb d_Monsters_countThere_5 rfl (lv_at hl 0 rfl) ?_
      refine G_monsters_made X h m_f_Monsters_27 d_Monsters_countThere_6 ?_
      refine lv_icmp_ge (tgt := 43) hx hb d_Monsters_countThere_9 (by decide) (fun c1 => ?_) (fun c1 => ?_)
      · have hf := it c1 hf
        refine lv_iload_n hx hb d_Monsters_countThere_43 rfl (lv_at hl 2 rfl) ?_
        exact rt _ _ H locs 44 ls hf h d_Monsters_countThere_44
      · have hf := ie c1 hf
        refine lv_aload_n hx hb d_Monsters_countThere_12 rfl (lv_at hl 0 rfl) ?_
        refine lv_iload_n hx hb d_Monsters_countThere_13 rfl (lv_at hl 3 rfl) ?_
        obtain ⟨r2, σ3, h4, hf⟩ := bd_s hf
        refine x_Vi (As := [.int y3]) (rest := []) X hml hl.1 hZ hA h (c_Monsters_isThere l D ad cA tz n y3 σ r2 σ3 h4) k_Monsters_isThere m_m_Monsters_38 kd_Monsters_isThere ⟨rfl, rfl, Nat.le_of_ble_eq_true rfl, Nat.le_of_ble_eq_true rfl⟩ 6 rfl rfl rfl rfl rfl (Nat.le_of_ble_eq_true rfl) d_Monsters_countThere_14 (fun H locs h => ?_)
        refine lv_if_eq (tgt := 37) hx hb d_Monsters_countThere_17 (by decide) (fun c5 => ?_) (fun c5 => ?_)
        · have hf := it c5 hf
          obtain ⟨v6, ev6⟩ : ∃ y : Int32, y = y3 + 1 := ⟨_, rfl⟩
          have hf := nm_b hf ev6
          refine lv_iinc (v := v6) (lv' := [(3, .int v6), (0, .ref (ad 6)), (1, .int y1), (2, .int y2)]) hx hb d_Monsters_countThere_37 hl (k := 3) rfl (by rw [ev6]; rfl) (by decide) rfl (fun ls hl => ?_)
          refine lv_goto (tgt := 4) hx hb d_Monsters_countThere_40 (by decide) ?_
          exact ih y1 y2 v6 σ3 hf H locs ls h (lv_sub hl [1, 2, 3, 0] rfl)
        · have hf := ie c5 hf
          refine lv_iload_n hx hb d_Monsters_countThere_20 rfl (lv_at hl 1 rfl) ?_
          refine lv_if_eq (tgt := 34) hx hb d_Monsters_countThere_21 (by decide) (fun c7 => ?_) (fun c7 => ?_)
          · have hf := it c7 hf
            obtain ⟨v8, ev8⟩ : ∃ y : Int32, y = y2 + 1 := ⟨_, rfl⟩
            have hf := nm_b hf ev8
            refine lv_iinc (v := v8) (lv' := [(2, .int v8), (0, .ref (ad 6)), (1, .int y1), (3, .int y3)]) hx hb d_Monsters_countThere_34 hl (k := 2) rfl (by rw [ev8]; rfl) (by decide) rfl (fun ls hl => ?_)
            obtain ⟨v9, ev9⟩ : ∃ y : Int32, y = y3 + 1 := ⟨_, rfl⟩
            have hf := nm_b hf ev9
            refine lv_iinc (v := v9) (lv' := [(3, .int v9), (2, .int v8), (0, .ref (ad 6)), (1, .int y1)]) hx hb d_Monsters_countThere_37 hl (k := 3) rfl (by rw [ev9]; rfl) (by decide) rfl (fun ls hl => ?_)
            refine lv_goto (tgt := 4) hx hb d_Monsters_countThere_40 (by decide) ?_
            exact ih y1 v8 v9 σ3 hf H locs ls h (lv_sub hl [2, 3, 1, 0] rfl)
          · have hf := ie c7 hf
            refine lv_aload_n hx hb d_Monsters_countThere_24 rfl (lv_at hl 0 rfl) ?_
            refine G_monsters_awake X h m_f_Monsters_24 d_Monsters_countThere_25 ?_
            refine lv_iload_n hx hb d_Monsters_countThere_28 rfl (lv_at hl 3 rfl) ?_
            obtain ⟨g10, hf⟩ := gd_s hf
            refine R_awake X h (inb_s g10) d_Monsters_countThere_29 ?_
            refine lv_iconst (v := 1) hx hb d_Monsters_countThere_30 (by decide) ?_
            refine lv_icmp_ne (tgt := 37) hx hb d_Monsters_countThere_31 (by decide) (fun c11 => ?_) (fun c11 => ?_)
            · have hf := ie c11 hf
              obtain ⟨v12, ev12⟩ : ∃ y : Int32, y = y3 + 1 := ⟨_, rfl⟩
              have hf := nm_b hf ev12
              refine lv_iinc (v := v12) (lv' := [(3, .int v12), (0, .ref (ad 6)), (1, .int y1), (2, .int y2)]) hx hb d_Monsters_countThere_37 hl (k := 3) rfl (by rw [ev12]; rfl) (by decide) rfl (fun ls hl => ?_)
              refine lv_goto (tgt := 4) hx hb d_Monsters_countThere_40 (by decide) ?_
              exact ih y1 y2 v12 σ3 hf H locs ls h (lv_sub hl [1, 2, 3, 0] rfl)
            · have hf := it c11 hf
              obtain ⟨v13, ev13⟩ : ∃ y : Int32, y = y2 + 1 := ⟨_, rfl⟩
              have hf := nm_b hf ev13
              refine lv_iinc (v := v13) (lv' := [(2, .int v13), (0, .ref (ad 6)), (1, .int y1), (3, .int y3)]) hx hb d_Monsters_countThere_34 hl (k := 2) rfl (by rw [ev13]; rfl) (by decide) rfl (fun ls hl => ?_)
              obtain ⟨v14, ev14⟩ : ∃ y : Int32, y = y3 + 1 := ⟨_, rfl⟩
              have hf := nm_b hf ev14
              refine lv_iinc (v := v14) (lv' := [(3, .int v14), (2, .int v13), (0, .ref (ad 6)), (1, .int y1)]) hx hb d_Monsters_countThere_37 hl (k := 3) rfl (by rw [ev14]; rfl) (by decide) rfl (fun ls hl => ?_)
              refine lv_goto (tgt := 4) hx hb d_Monsters_countThere_40 (by decide) ?_
              exact ih y1 v13 v14 σ3 hf H locs ls h (lv_sub hl [2, 3, 1, 0] rfl)
  unfold f_Monsters_countThere at hf
  refine lv_iconst (v := 0) hx hb d_Monsters_countThere_0 (by decide) ?_
  refine lv_istore_n (lv' := [(2, .int 0), (0, .ref (ad 6)), (1, .int x1)]) hx hb d_Monsters_countThere_1 rfl hl (by decide) rfl (fun ls hl => ?_)
  refine lv_iconst (v := 0) hx hb d_Monsters_countThere_2 (by decide) ?_
  refine lv_istore_n (lv' := [(3, .int 0), (2, .int 0), (0, .ref (ad 6)), (1, .int x1)]) hx hb d_Monsters_countThere_3 rfl hl (by decide) rfl (fun ls hl => ?_)
  exact L4 n x1 0 0 σ hf H locs ls h (lv_sub hl [2, 3, 1, 0] rfl)
theorem d_Desk_countFilled_0 : decode b_Desk_countFilled 0 = .ok (.iconst 0, 1) := by decide +kernel
theorem d_Desk_countFilled_1 : decode b_Desk_countFilled 1 = .ok (.istore_n 1, 1) := by decide +kernel
theorem d_Desk_countFilled_2 : decode b_Desk_countFilled 2 = .ok (.aload_n 0, 1) := by decide +kernel
theorem d_Desk_countFilled_3 : decode b_Desk_countFilled 3 = .ok (.astore_n 2, 1) := by decide +kernel
theorem d_Desk_countFilled_4 : decode b_Desk_countFilled 4 = .ok (.aload_n 2, 1) := by decide +kernel
theorem d_Desk_countFilled_5 : decode b_Desk_countFilled 5 = .ok (.arraylength, 1) := by decide +kernel
theorem d_Desk_countFilled_6 : decode b_Desk_countFilled 6 = .ok (.istore_n 3, 1) := by decide +kernel
theorem d_Desk_countFilled_7 : decode b_Desk_countFilled 7 = .ok (.iconst 0, 1) := by decide +kernel
theorem d_Desk_countFilled_8 : decode b_Desk_countFilled 8 = .ok (.istore 4, 2) := by decide +kernel
theorem d_Desk_countFilled_10 : decode b_Desk_countFilled 10 = .ok (.iload 4, 2) := by decide +kernel
theorem d_Desk_countFilled_12 : decode b_Desk_countFilled 12 = .ok (.iload_n 3, 1) := by decide +kernel
theorem d_Desk_countFilled_13 : decode b_Desk_countFilled 13 = .ok (.if_icmp .ge 23, 3) := by decide +kernel
theorem d_Desk_countFilled_16 : decode b_Desk_countFilled 16 = .ok (.aload_n 2, 1) := by decide +kernel
theorem d_Desk_countFilled_17 : decode b_Desk_countFilled 17 = .ok (.iload 4, 2) := by decide +kernel
theorem d_Desk_countFilled_19 : decode b_Desk_countFilled 19 = .ok (.iaload, 1) := by decide +kernel
theorem d_Desk_countFilled_20 : decode b_Desk_countFilled 20 = .ok (.istore 5, 2) := by decide +kernel
theorem d_Desk_countFilled_22 : decode b_Desk_countFilled 22 = .ok (.iload 5, 2) := by decide +kernel
theorem d_Desk_countFilled_24 : decode b_Desk_countFilled 24 = .ok (.ifCond .eq 6, 3) := by decide +kernel
theorem d_Desk_countFilled_27 : decode b_Desk_countFilled 27 = .ok (.iinc 1 1, 3) := by decide +kernel
theorem d_Desk_countFilled_30 : decode b_Desk_countFilled 30 = .ok (.iinc 4 1, 3) := by decide +kernel
theorem d_Desk_countFilled_33 : decode b_Desk_countFilled 33 = .ok (.goto (-23), 3) := by decide +kernel
theorem d_Desk_countFilled_36 : decode b_Desk_countFilled 36 = .ok (.iload_n 1, 1) := by decide +kernel
theorem d_Desk_countFilled_37 : decode b_Desk_countFilled 37 = .ok (.ireturn, 1) := by decide +kernel
def f_Desk_countFilled_things_10 (n : Nat) : Nat → Int32 → Int32 → Int32 → St → Option (Int32 × St)
  | 0, _, _, _, _ => none
  | j + 1, y1, y3, y4, σ => if y3 ≤ y4 then (some (y1, σ)) else (gd (inb y4 120) (bnd (σ.2.2 2 y4.toNatClampNeg) (fun v3 => if v3 = 0 then (bnd (y4 + 1) (fun v5 => f_Desk_countFilled_things_10 n j y1 y3 v5 σ)) else (bnd (y1 + 1) (fun v6 => bnd (y4 + 1) (fun v7 => f_Desk_countFilled_things_10 n j v6 y3 v7 σ))))))
theorem f_Desk_countFilled_things_10_s (n : Nat) (j : Nat) (y1 : Int32) (y3 : Int32) (y4 : Int32) (σ : St) : f_Desk_countFilled_things_10 n (j + 1) y1 y3 y4 σ = (if y3 ≤ y4 then (some (y1, σ)) else (gd (inb y4 120) (bnd (σ.2.2 2 y4.toNatClampNeg) (fun v3 => if v3 = 0 then (bnd (y4 + 1) (fun v5 => f_Desk_countFilled_things_10 n j y1 y3 v5 σ)) else (bnd (y1 + 1) (fun v6 => bnd (y4 + 1) (fun v7 => f_Desk_countFilled_things_10 n j v6 y3 v7 σ))))))) := rfl
def f_Desk_countFilled_things (n : Nat) (σ : St) : Option (Int32 × St) := f_Desk_countFilled_things_10 n n 0 120 0 σ
set_option maxHeartbeats 4000000 in
set_option maxRecDepth 100000 in
theorem c_Desk_countFilled_things (l : Launch) (D : va_G) (ad : Nat → Nat) (cA : Nat → ClassId) (tz : Nat → Nat) (n : Nat) (σ : St) (r : Int32) (σr : St) (hf : f_Desk_countFilled_things n σ = some (r, σr)) : Ki l D cA tz (wl ad cA) y_Desk_countFilled (.code y_Desk_countFilled b_Desk_countFilled 6 (some .int) :: TB) ({ frames := 0, cells := 0, slots := 0, locals := 0 }) [.ref (ad 11)] σ r σr := by
  refine x_openi (own := R_Desk) rfl (by decide) (fun p e s m args below meth c A Q X hml hZ hA H locs ls h hl rt => ?_)
  have hx := X.1
  have hb := X.2.1
  have hl : lv_has ls 6 [(0, .ref (ad 11))] := hl
  have L10 : ∀ j : Nat, ∀ (y1 : Int32) (y3 : Int32) (y4 : Int32) (σ : St), f_Desk_countFilled_things_10 n j y1 y3 y4 σ = some (r, σr) → ∀ (H : Heap) (locs : List Loc) (ls : Array Slot), WD D A s (wl ad cA σ) H locs → lv_has ls 6 [(1, .int y1), (2, .ref (ad 11)), (3, .int y3), (4, .int y4)] → W p l e ({ frames := 0, cells := 0, slots := 0, locals := 0 }) s m args below meth c H locs 0 0 Q (F0 m 10 ls []) := by
    intro j
    induction j with
    | zero => intro y1 y3 y4 σ hf; exact absurd hf (fun z => by cases z)
    | succ j ih =>
      intro y1 y3 y4 σ hf H locs ls h hl
      have hf := us (f_Desk_countFilled_things_10_s n j y1 y3 y4 σ) hf
      refine lv_iload hx hb d_Desk_countFilled_10 (lv_at hl 3 rfl) ?_
      refine lv_iload_n hx hb d_Desk_countFilled_12 rfl (lv_at hl 2 rfl) ?_
      refine lv_icmp_ge (tgt := 36) hx hb d_Desk_countFilled_13 (by decide) (fun c1 => ?_) (fun c1 => ?_)
      · have hf := it c1 hf
        refine lv_iload_n hx hb d_Desk_countFilled_36 rfl (lv_at hl 0 rfl) ?_
        exact rt _ _ H locs 37 ls hf h d_Desk_countFilled_37
      · have hf := ie c1 hf
        refine lv_aload_n hx hb d_Desk_countFilled_16 rfl (lv_at hl 1 rfl) ?_
        refine lv_iload hx hb d_Desk_countFilled_17 (lv_at hl 3 rfl) ?_
        obtain ⟨g2, hf⟩ := gd_s hf
        refine R_things X h (inb_s g2) d_Desk_countFilled_19 ?_
        refine lv_topi (fun v3 ev3 => ?_)
        have hf := nm_b hf ev3
        refine lv_istore (lv' := [(5, .int v3), (1, .int y1), (2, .ref (ad 11)), (3, .int y3), (4, .int y4)]) hx hb d_Desk_countFilled_20 hl (by decide) rfl (fun ls hl => ?_)
        refine lv_iload hx hb d_Desk_countFilled_22 (lv_at hl 0 rfl) ?_
        refine lv_if_eq (tgt := 30) hx hb d_Desk_countFilled_24 (by decide) (fun c4 => ?_) (fun c4 => ?_)
        · have hf := it c4 hf
          obtain ⟨v5, ev5⟩ : ∃ y : Int32, y = y4 + 1 := ⟨_, rfl⟩
          have hf := nm_b hf ev5
          refine lv_iinc (v := v5) (lv' := [(4, .int v5), (5, .int v3), (1, .int y1), (2, .ref (ad 11)), (3, .int y3)]) hx hb d_Desk_countFilled_30 hl (k := 4) rfl (by rw [ev5]; rfl) (by decide) rfl (fun ls hl => ?_)
          refine lv_goto (tgt := 10) hx hb d_Desk_countFilled_33 (by decide) ?_
          exact ih y1 y3 v5 σ hf H locs ls h (lv_sub hl [2, 3, 4, 0] rfl)
        · have hf := ie c4 hf
          obtain ⟨v6, ev6⟩ : ∃ y : Int32, y = y1 + 1 := ⟨_, rfl⟩
          have hf := nm_b hf ev6
          refine lv_iinc (v := v6) (lv' := [(1, .int v6), (5, .int v3), (2, .ref (ad 11)), (3, .int y3), (4, .int y4)]) hx hb d_Desk_countFilled_27 hl (k := 1) rfl (by rw [ev6]; rfl) (by decide) rfl (fun ls hl => ?_)
          obtain ⟨v7, ev7⟩ : ∃ y : Int32, y = y4 + 1 := ⟨_, rfl⟩
          have hf := nm_b hf ev7
          refine lv_iinc (v := v7) (lv' := [(4, .int v7), (1, .int v6), (5, .int v3), (2, .ref (ad 11)), (3, .int y3)]) hx hb d_Desk_countFilled_30 hl (k := 4) rfl (by rw [ev7]; rfl) (by decide) rfl (fun ls hl => ?_)
          refine lv_goto (tgt := 10) hx hb d_Desk_countFilled_33 (by decide) ?_
          exact ih v6 y3 v7 σ hf H locs ls h (lv_sub hl [1, 3, 4, 0] rfl)
  unfold f_Desk_countFilled_things at hf
  refine lv_iconst (v := 0) hx hb d_Desk_countFilled_0 (by decide) ?_
  refine lv_istore_n (lv' := [(1, .int 0), (0, .ref (ad 11))]) hx hb d_Desk_countFilled_1 rfl hl (by decide) rfl (fun ls hl => ?_)
  refine lv_aload_n hx hb d_Desk_countFilled_2 rfl (lv_at hl 1 rfl) ?_
  refine lv_astore_n (lv' := [(2, .ref (ad 11)), (1, .int 0), (0, .ref (ad 11))]) hx hb d_Desk_countFilled_3 rfl hl (by decide) rfl (fun ls hl => ?_)
  refine lv_aload_n hx hb d_Desk_countFilled_4 rfl (lv_at hl 0 rfl) ?_
  refine N_things X h d_Desk_countFilled_5 ?_
  refine lv_istore_n (lv' := [(3, .int 120), (2, .ref (ad 11)), (1, .int 0), (0, .ref (ad 11))]) hx hb d_Desk_countFilled_6 rfl hl (by decide) rfl (fun ls hl => ?_)
  refine lv_iconst (v := 0) hx hb d_Desk_countFilled_7 (by decide) ?_
  refine lv_istore (lv' := [(4, .int 0), (3, .int 120), (2, .ref (ad 11)), (1, .int 0), (0, .ref (ad 11))]) hx hb d_Desk_countFilled_8 hl (by decide) rfl (fun ls hl => ?_)
  exact L10 n 0 120 0 σ hf H locs ls h (lv_sub hl [3, 2, 1, 0] rfl)
def f_Desk_countFilled_ground_10 (n : Nat) : Nat → Int32 → Int32 → Int32 → St → Option (Int32 × St)
  | 0, _, _, _, _ => none
  | j + 1, y1, y3, y4, σ => if y3 ≤ y4 then (some (y1, σ)) else (gd (inb y4 120) (bnd (σ.2.2 1 y4.toNatClampNeg) (fun v3 => if v3 = 0 then (bnd (y4 + 1) (fun v5 => f_Desk_countFilled_ground_10 n j y1 y3 v5 σ)) else (bnd (y1 + 1) (fun v6 => bnd (y4 + 1) (fun v7 => f_Desk_countFilled_ground_10 n j v6 y3 v7 σ))))))
theorem f_Desk_countFilled_ground_10_s (n : Nat) (j : Nat) (y1 : Int32) (y3 : Int32) (y4 : Int32) (σ : St) : f_Desk_countFilled_ground_10 n (j + 1) y1 y3 y4 σ = (if y3 ≤ y4 then (some (y1, σ)) else (gd (inb y4 120) (bnd (σ.2.2 1 y4.toNatClampNeg) (fun v3 => if v3 = 0 then (bnd (y4 + 1) (fun v5 => f_Desk_countFilled_ground_10 n j y1 y3 v5 σ)) else (bnd (y1 + 1) (fun v6 => bnd (y4 + 1) (fun v7 => f_Desk_countFilled_ground_10 n j v6 y3 v7 σ))))))) := rfl
def f_Desk_countFilled_ground (n : Nat) (σ : St) : Option (Int32 × St) := f_Desk_countFilled_ground_10 n n 0 120 0 σ
set_option maxHeartbeats 4000000 in
set_option maxRecDepth 100000 in
theorem c_Desk_countFilled_ground (l : Launch) (D : va_G) (ad : Nat → Nat) (cA : Nat → ClassId) (tz : Nat → Nat) (n : Nat) (σ : St) (r : Int32) (σr : St) (hf : f_Desk_countFilled_ground n σ = some (r, σr)) : Ki l D cA tz (wl ad cA) y_Desk_countFilled (.code y_Desk_countFilled b_Desk_countFilled 6 (some .int) :: TB) ({ frames := 0, cells := 0, slots := 0, locals := 0 }) [.ref (ad 10)] σ r σr := by
  refine x_openi (own := R_Desk) rfl (by decide) (fun p e s m args below meth c A Q X hml hZ hA H locs ls h hl rt => ?_)
  have hx := X.1
  have hb := X.2.1
  have hl : lv_has ls 6 [(0, .ref (ad 10))] := hl
  have L10 : ∀ j : Nat, ∀ (y1 : Int32) (y3 : Int32) (y4 : Int32) (σ : St), f_Desk_countFilled_ground_10 n j y1 y3 y4 σ = some (r, σr) → ∀ (H : Heap) (locs : List Loc) (ls : Array Slot), WD D A s (wl ad cA σ) H locs → lv_has ls 6 [(1, .int y1), (2, .ref (ad 10)), (3, .int y3), (4, .int y4)] → W p l e ({ frames := 0, cells := 0, slots := 0, locals := 0 }) s m args below meth c H locs 0 0 Q (F0 m 10 ls []) := by
    intro j
    induction j with
    | zero => intro y1 y3 y4 σ hf; exact absurd hf (fun z => by cases z)
    | succ j ih =>
      intro y1 y3 y4 σ hf H locs ls h hl
      have hf := us (f_Desk_countFilled_ground_10_s n j y1 y3 y4 σ) hf
      refine lv_iload hx hb d_Desk_countFilled_10 (lv_at hl 3 rfl) ?_
      refine lv_iload_n hx hb d_Desk_countFilled_12 rfl (lv_at hl 2 rfl) ?_
      refine lv_icmp_ge (tgt := 36) hx hb d_Desk_countFilled_13 (by decide) (fun c1 => ?_) (fun c1 => ?_)
      · have hf := it c1 hf
        refine lv_iload_n hx hb d_Desk_countFilled_36 rfl (lv_at hl 0 rfl) ?_
        exact rt _ _ H locs 37 ls hf h d_Desk_countFilled_37
      · have hf := ie c1 hf
        refine lv_aload_n hx hb d_Desk_countFilled_16 rfl (lv_at hl 1 rfl) ?_
        refine lv_iload hx hb d_Desk_countFilled_17 (lv_at hl 3 rfl) ?_
        obtain ⟨g2, hf⟩ := gd_s hf
        refine R_ground X h (inb_s g2) d_Desk_countFilled_19 ?_
        refine lv_topi (fun v3 ev3 => ?_)
        have hf := nm_b hf ev3
        refine lv_istore (lv' := [(5, .int v3), (1, .int y1), (2, .ref (ad 10)), (3, .int y3), (4, .int y4)]) hx hb d_Desk_countFilled_20 hl (by decide) rfl (fun ls hl => ?_)
        refine lv_iload hx hb d_Desk_countFilled_22 (lv_at hl 0 rfl) ?_
        refine lv_if_eq (tgt := 30) hx hb d_Desk_countFilled_24 (by decide) (fun c4 => ?_) (fun c4 => ?_)
        · have hf := it c4 hf
          obtain ⟨v5, ev5⟩ : ∃ y : Int32, y = y4 + 1 := ⟨_, rfl⟩
          have hf := nm_b hf ev5
          refine lv_iinc (v := v5) (lv' := [(4, .int v5), (5, .int v3), (1, .int y1), (2, .ref (ad 10)), (3, .int y3)]) hx hb d_Desk_countFilled_30 hl (k := 4) rfl (by rw [ev5]; rfl) (by decide) rfl (fun ls hl => ?_)
          refine lv_goto (tgt := 10) hx hb d_Desk_countFilled_33 (by decide) ?_
          exact ih y1 y3 v5 σ hf H locs ls h (lv_sub hl [2, 3, 4, 0] rfl)
        · have hf := ie c4 hf
          obtain ⟨v6, ev6⟩ : ∃ y : Int32, y = y1 + 1 := ⟨_, rfl⟩
          have hf := nm_b hf ev6
          refine lv_iinc (v := v6) (lv' := [(1, .int v6), (5, .int v3), (2, .ref (ad 10)), (3, .int y3), (4, .int y4)]) hx hb d_Desk_countFilled_27 hl (k := 1) rfl (by rw [ev6]; rfl) (by decide) rfl (fun ls hl => ?_)
          obtain ⟨v7, ev7⟩ : ∃ y : Int32, y = y4 + 1 := ⟨_, rfl⟩
          have hf := nm_b hf ev7
          refine lv_iinc (v := v7) (lv' := [(4, .int v7), (1, .int v6), (5, .int v3), (2, .ref (ad 10)), (3, .int y3)]) hx hb d_Desk_countFilled_30 hl (k := 4) rfl (by rw [ev7]; rfl) (by decide) rfl (fun ls hl => ?_)
          refine lv_goto (tgt := 10) hx hb d_Desk_countFilled_33 (by decide) ?_
          exact ih v6 y3 v7 σ hf H locs ls h (lv_sub hl [1, 3, 4, 0] rfl)
  unfold f_Desk_countFilled_ground at hf
  refine lv_iconst (v := 0) hx hb d_Desk_countFilled_0 (by decide) ?_
  refine lv_istore_n (lv' := [(1, .int 0), (0, .ref (ad 10))]) hx hb d_Desk_countFilled_1 rfl hl (by decide) rfl (fun ls hl => ?_)
  refine lv_aload_n hx hb d_Desk_countFilled_2 rfl (lv_at hl 1 rfl) ?_
  refine lv_astore_n (lv' := [(2, .ref (ad 10)), (1, .int 0), (0, .ref (ad 10))]) hx hb d_Desk_countFilled_3 rfl hl (by decide) rfl (fun ls hl => ?_)
  refine lv_aload_n hx hb d_Desk_countFilled_4 rfl (lv_at hl 0 rfl) ?_
  refine N_ground X h d_Desk_countFilled_5 ?_
  refine lv_istore_n (lv' := [(3, .int 120), (2, .ref (ad 10)), (1, .int 0), (0, .ref (ad 10))]) hx hb d_Desk_countFilled_6 rfl hl (by decide) rfl (fun ls hl => ?_)
  refine lv_iconst (v := 0) hx hb d_Desk_countFilled_7 (by decide) ?_
  refine lv_istore (lv' := [(4, .int 0), (3, .int 120), (2, .ref (ad 10)), (1, .int 0), (0, .ref (ad 10))]) hx hb d_Desk_countFilled_8 hl (by decide) rfl (fun ls hl => ?_)
  exact L10 n 0 120 0 σ hf H locs ls h (lv_sub hl [3, 2, 1, 0] rfl)
theorem d_Level_countFloorInSight_0 : decode b_Level_countFloorInSight 0 = .ok (.iconst 0, 1) := by decide +kernel
theorem d_Level_countFloorInSight_1 : decode b_Level_countFloorInSight 1 = .ok (.istore_n 2, 1) := by decide +kernel
theorem d_Level_countFloorInSight_2 : decode b_Level_countFloorInSight 2 = .ok (.iconst 0, 1) := by decide +kernel
theorem d_Level_countFloorInSight_3 : decode b_Level_countFloorInSight 3 = .ok (.istore_n 3, 1) := by decide +kernel
theorem d_Level_countFloorInSight_4 : decode b_Level_countFloorInSight 4 = .ok (.iload_n 3, 1) := by decide +kernel
theorem d_Level_countFloorInSight_5 : decode b_Level_countFloorInSight 5 = .ok (.bipush 120, 2) := by decide +kernel
theorem d_Level_countFloorInSight_7 : decode b_Level_countFloorInSight 7 = .ok (.if_icmp .ge 30, 3) := by decide +kernel
theorem d_Level_countFloorInSight_10 : decode b_Level_countFloorInSight 10 = .ok (.aload_n 0, 1) := by decide +kernel
theorem d_Level_countFloorInSight_11 : decode b_Level_countFloorInSight 11 = .ok (.getfield 9, 3) := by decide +kernel
theorem d_Level_countFloorInSight_14 : decode b_Level_countFloorInSight 14 = .ok (.iload_n 3, 1) := by decide +kernel
theorem d_Level_countFloorInSight_15 : decode b_Level_countFloorInSight 15 = .ok (.iaload, 1) := by decide +kernel
theorem d_Level_countFloorInSight_16 : decode b_Level_countFloorInSight 16 = .ok (.ifCond .eq 15, 3) := by decide +kernel
theorem d_Level_countFloorInSight_19 : decode b_Level_countFloorInSight 19 = .ok (.aload_n 0, 1) := by decide +kernel
theorem d_Level_countFloorInSight_20 : decode b_Level_countFloorInSight 20 = .ok (.iload_n 1, 1) := by decide +kernel
theorem d_Level_countFloorInSight_21 : decode b_Level_countFloorInSight 21 = .ok (.iload_n 3, 1) := by decide +kernel
theorem d_Level_countFloorInSight_22 : decode b_Level_countFloorInSight 22 = .ok (.invokevirtual 54, 3) := by decide +kernel
theorem d_Level_countFloorInSight_25 : decode b_Level_countFloorInSight 25 = .ok (.ifCond .eq 6, 3) := by decide +kernel
theorem d_Level_countFloorInSight_28 : decode b_Level_countFloorInSight 28 = .ok (.iinc 2 1, 3) := by decide +kernel
theorem d_Level_countFloorInSight_31 : decode b_Level_countFloorInSight 31 = .ok (.iinc 3 1, 3) := by decide +kernel
theorem d_Level_countFloorInSight_34 : decode b_Level_countFloorInSight 34 = .ok (.goto (-30), 3) := by decide +kernel
theorem d_Level_countFloorInSight_37 : decode b_Level_countFloorInSight 37 = .ok (.iload_n 2, 1) := by decide +kernel
theorem d_Level_countFloorInSight_38 : decode b_Level_countFloorInSight 38 = .ok (.ireturn, 1) := by decide +kernel
def f_Level_countFloorInSight_4 (n : Nat) : Nat → Int32 → Int32 → Int32 → St → Option (Int32 × St)
  | 0, _, _, _, _ => none
  | j + 1, y1, y2, y3, σ => if 120 ≤ y3 then (some (y2, σ)) else (gd (inb y3 120) (if (σ.2.2 1 y3.toNatClampNeg) = 0 then (bnd (y3 + 1) (fun v4 => f_Level_countFloorInSight_4 n j y1 y2 v4 σ)) else (bd (f_Level_inSight n y1 y3 σ) (fun r5 σ6 => if r5 = 0 then (bnd (y3 + 1) (fun v9 => f_Level_countFloorInSight_4 n j y1 y2 v9 σ6)) else (bnd (y2 + 1) (fun v10 => bnd (y3 + 1) (fun v11 => f_Level_countFloorInSight_4 n j y1 v10 v11 σ6)))))))
theorem f_Level_countFloorInSight_4_s (n : Nat) (j : Nat) (y1 : Int32) (y2 : Int32) (y3 : Int32) (σ : St) : f_Level_countFloorInSight_4 n (j + 1) y1 y2 y3 σ = (if 120 ≤ y3 then (some (y2, σ)) else (gd (inb y3 120) (if (σ.2.2 1 y3.toNatClampNeg) = 0 then (bnd (y3 + 1) (fun v4 => f_Level_countFloorInSight_4 n j y1 y2 v4 σ)) else (bd (f_Level_inSight n y1 y3 σ) (fun r5 σ6 => if r5 = 0 then (bnd (y3 + 1) (fun v9 => f_Level_countFloorInSight_4 n j y1 y2 v9 σ6)) else (bnd (y2 + 1) (fun v10 => bnd (y3 + 1) (fun v11 => f_Level_countFloorInSight_4 n j y1 v10 v11 σ6)))))))) := rfl
def f_Level_countFloorInSight (n : Nat) (x1 : Int32) (σ : St) : Option (Int32 × St) := f_Level_countFloorInSight_4 n n x1 0 0 σ
set_option maxHeartbeats 4000000 in
set_option maxRecDepth 100000 in
theorem c_Level_countFloorInSight (l : Launch) (D : va_G) (ad : Nat → Nat) (cA : Nat → ClassId) (tz : Nat → Nat) (n : Nat) (x1 : Int32) (σ : St) (r : Int32) (σr : St) (hf : f_Level_countFloorInSight n x1 σ = some (r, σr)) : Ki l D cA tz (wl ad cA) y_Level_countFloorInSight (.code y_Level_countFloorInSight b_Level_countFloorInSight 4 (some .int) :: TB) ({ frames := 2, cells := 0, slots := 0, locals := 53 }) [.ref (ad 5), .int x1] σ r σr := by
  refine x_openi (own := R_Level) rfl (by decide) (fun p e s m args below meth c A Q X hml hZ hA H locs ls h hl rt => ?_)
  have hx := X.1
  have hb := X.2.1
  have hl : lv_has ls 4 [(0, .ref (ad 5)), (1, .int x1)] := hl
  have L4 : ∀ j : Nat, ∀ (y1 : Int32) (y2 : Int32) (y3 : Int32) (σ : St), f_Level_countFloorInSight_4 n j y1 y2 y3 σ = some (r, σr) → ∀ (H : Heap) (locs : List Loc) (ls : Array Slot), WD D A s (wl ad cA σ) H locs → lv_has ls 4 [(0, .ref (ad 5)), (1, .int y1), (2, .int y2), (3, .int y3)] → W p l e ({ frames := 2, cells := 0, slots := 0, locals := 53 }) s m args below meth c H locs 0 0 Q (F0 m 4 ls []) := by
    intro j
    induction j with
    | zero => intro y1 y2 y3 σ hf; exact absurd hf (fun z => by cases z)
    | succ j ih =>
      intro y1 y2 y3 σ hf H locs ls h hl
      have hf := us (f_Level_countFloorInSight_4_s n j y1 y2 y3 σ) hf
      refine lv_iload_n hx hb d_Level_countFloorInSight_4 rfl (lv_at hl 3 rfl) ?_
      refine lv_bipush (v := 120) hx hb d_Level_countFloorInSight_5 (by decide) ?_
      refine lv_icmp_ge (tgt := 37) hx hb d_Level_countFloorInSight_7 (by decide) (fun c1 => ?_) (fun c1 => ?_)
      · have hf := it c1 hf
        refine lv_iload_n hx hb d_Level_countFloorInSight_37 rfl (lv_at hl 2 rfl) ?_
        exact rt _ _ H locs 38 ls hf h d_Level_countFloorInSight_38
      · have hf := ie c1 hf
        refine lv_aload_n hx hb d_Level_countFloorInSight_10 rfl (lv_at hl 0 rfl) ?_
        refine G_level_ground X h m_f_Level_9 d_Level_countFloorInSight_11 ?_
        refine lv_iload_n hx hb d_Level_countFloorInSight_14 rfl (lv_at hl 3 rfl) ?_
        obtain ⟨g2, hf⟩ := gd_s hf
        refine R_ground X h (inb_s g2) d_Level_countFloorInSight_15 ?_
        refine lv_if_eq (tgt := 31) hx hb d_Level_countFloorInSight_16 (by decide) (fun c3 => ?_) (fun c3 => ?_)
        · have hf := it c3 hf
          obtain ⟨v4, ev4⟩ : ∃ y : Int32, y = y3 + 1 := ⟨_, rfl⟩
          have hf := nm_b hf ev4
          refine lv_iinc (v := v4) (lv' := [(3, .int v4), (0, .ref (ad 5)), (1, .int y1), (2, .int y2)]) hx hb d_Level_countFloorInSight_31 hl (k := 3) rfl (by rw [ev4]; rfl) (by decide) rfl (fun ls hl => ?_)
          refine lv_goto (tgt := 4) hx hb d_Level_countFloorInSight_34 (by decide) ?_
          exact ih y1 y2 v4 σ hf H locs ls h (lv_sub hl [1, 2, 3, 0] rfl)
        · have hf := ie c3 hf
          refine lv_aload_n hx hb d_Level_countFloorInSight_19 rfl (lv_at hl 0 rfl) ?_
          refine lv_iload_n hx hb d_Level_countFloorInSight_20 rfl (lv_at hl 1 rfl) ?_
          refine lv_iload_n hx hb d_Level_countFloorInSight_21 rfl (lv_at hl 3 rfl) ?_
          obtain ⟨r5, σ6, h7, hf⟩ := bd_s hf
          refine x_Vi (As := [.int y1, .int y3]) (rest := []) X hml hl.1 hZ hA h (c_Level_inSight l D ad cA tz n y1 y3 σ r5 σ6 h7) k_Level_inSight m_m_Level_54 kd_Level_inSight ⟨rfl, rfl, Nat.le_of_ble_eq_true rfl, Nat.le_of_ble_eq_true rfl⟩ 5 rfl rfl rfl rfl rfl (Nat.le_of_ble_eq_true rfl) d_Level_countFloorInSight_22 (fun H locs h => ?_)
          refine lv_if_eq (tgt := 31) hx hb d_Level_countFloorInSight_25 (by decide) (fun c8 => ?_) (fun c8 => ?_)
          · have hf := it c8 hf
            obtain ⟨v9, ev9⟩ : ∃ y : Int32, y = y3 + 1 := ⟨_, rfl⟩
            have hf := nm_b hf ev9
            refine lv_iinc (v := v9) (lv' := [(3, .int v9), (0, .ref (ad 5)), (1, .int y1), (2, .int y2)]) hx hb d_Level_countFloorInSight_31 hl (k := 3) rfl (by rw [ev9]; rfl) (by decide) rfl (fun ls hl => ?_)
            refine lv_goto (tgt := 4) hx hb d_Level_countFloorInSight_34 (by decide) ?_
            exact ih y1 y2 v9 σ6 hf H locs ls h (lv_sub hl [1, 2, 3, 0] rfl)
          · have hf := ie c8 hf
            obtain ⟨v10, ev10⟩ : ∃ y : Int32, y = y2 + 1 := ⟨_, rfl⟩
            have hf := nm_b hf ev10
            refine lv_iinc (v := v10) (lv' := [(2, .int v10), (0, .ref (ad 5)), (1, .int y1), (3, .int y3)]) hx hb d_Level_countFloorInSight_28 hl (k := 2) rfl (by rw [ev10]; rfl) (by decide) rfl (fun ls hl => ?_)
            obtain ⟨v11, ev11⟩ : ∃ y : Int32, y = y3 + 1 := ⟨_, rfl⟩
            have hf := nm_b hf ev11
            refine lv_iinc (v := v11) (lv' := [(3, .int v11), (2, .int v10), (0, .ref (ad 5)), (1, .int y1)]) hx hb d_Level_countFloorInSight_31 hl (k := 3) rfl (by rw [ev11]; rfl) (by decide) rfl (fun ls hl => ?_)
            refine lv_goto (tgt := 4) hx hb d_Level_countFloorInSight_34 (by decide) ?_
            exact ih y1 v10 v11 σ6 hf H locs ls h (lv_sub hl [2, 3, 1, 0] rfl)
  unfold f_Level_countFloorInSight at hf
  refine lv_iconst (v := 0) hx hb d_Level_countFloorInSight_0 (by decide) ?_
  refine lv_istore_n (lv' := [(2, .int 0), (0, .ref (ad 5)), (1, .int x1)]) hx hb d_Level_countFloorInSight_1 rfl hl (by decide) rfl (fun ls hl => ?_)
  refine lv_iconst (v := 0) hx hb d_Level_countFloorInSight_2 (by decide) ?_
  refine lv_istore_n (lv' := [(3, .int 0), (2, .int 0), (0, .ref (ad 5)), (1, .int x1)]) hx hb d_Level_countFloorInSight_3 rfl hl (by decide) rfl (fun ls hl => ?_)
  exact L4 n x1 0 0 σ hf H locs ls h (lv_sub hl [2, 3, 1, 0] rfl)
def f_Desk_countFilled_known_10 (n : Nat) : Nat → Int32 → Int32 → Int32 → St → Option (Int32 × St)
  | 0, _, _, _, _ => none
  | j + 1, y1, y3, y4, σ => if y3 ≤ y4 then (some (y1, σ)) else (gd (inb y4 120) (bnd (σ.2.2 3 y4.toNatClampNeg) (fun v3 => if v3 = 0 then (bnd (y4 + 1) (fun v5 => f_Desk_countFilled_known_10 n j y1 y3 v5 σ)) else (bnd (y1 + 1) (fun v6 => bnd (y4 + 1) (fun v7 => f_Desk_countFilled_known_10 n j v6 y3 v7 σ))))))
theorem f_Desk_countFilled_known_10_s (n : Nat) (j : Nat) (y1 : Int32) (y3 : Int32) (y4 : Int32) (σ : St) : f_Desk_countFilled_known_10 n (j + 1) y1 y3 y4 σ = (if y3 ≤ y4 then (some (y1, σ)) else (gd (inb y4 120) (bnd (σ.2.2 3 y4.toNatClampNeg) (fun v3 => if v3 = 0 then (bnd (y4 + 1) (fun v5 => f_Desk_countFilled_known_10 n j y1 y3 v5 σ)) else (bnd (y1 + 1) (fun v6 => bnd (y4 + 1) (fun v7 => f_Desk_countFilled_known_10 n j v6 y3 v7 σ))))))) := rfl
def f_Desk_countFilled_known (n : Nat) (σ : St) : Option (Int32 × St) := f_Desk_countFilled_known_10 n n 0 120 0 σ
set_option maxHeartbeats 4000000 in
set_option maxRecDepth 100000 in
theorem c_Desk_countFilled_known (l : Launch) (D : va_G) (ad : Nat → Nat) (cA : Nat → ClassId) (tz : Nat → Nat) (n : Nat) (σ : St) (r : Int32) (σr : St) (hf : f_Desk_countFilled_known n σ = some (r, σr)) : Ki l D cA tz (wl ad cA) y_Desk_countFilled (.code y_Desk_countFilled b_Desk_countFilled 6 (some .int) :: TB) ({ frames := 0, cells := 0, slots := 0, locals := 0 }) [.ref (ad 12)] σ r σr := by
  refine x_openi (own := R_Desk) rfl (by decide) (fun p e s m args below meth c A Q X hml hZ hA H locs ls h hl rt => ?_)
  have hx := X.1
  have hb := X.2.1
  have hl : lv_has ls 6 [(0, .ref (ad 12))] := hl
  have L10 : ∀ j : Nat, ∀ (y1 : Int32) (y3 : Int32) (y4 : Int32) (σ : St), f_Desk_countFilled_known_10 n j y1 y3 y4 σ = some (r, σr) → ∀ (H : Heap) (locs : List Loc) (ls : Array Slot), WD D A s (wl ad cA σ) H locs → lv_has ls 6 [(1, .int y1), (2, .ref (ad 12)), (3, .int y3), (4, .int y4)] → W p l e ({ frames := 0, cells := 0, slots := 0, locals := 0 }) s m args below meth c H locs 0 0 Q (F0 m 10 ls []) := by
    intro j
    induction j with
    | zero => intro y1 y3 y4 σ hf; exact absurd hf (fun z => by cases z)
    | succ j ih =>
      intro y1 y3 y4 σ hf H locs ls h hl
      have hf := us (f_Desk_countFilled_known_10_s n j y1 y3 y4 σ) hf
      refine lv_iload hx hb d_Desk_countFilled_10 (lv_at hl 3 rfl) ?_
      refine lv_iload_n hx hb d_Desk_countFilled_12 rfl (lv_at hl 2 rfl) ?_
      refine lv_icmp_ge (tgt := 36) hx hb d_Desk_countFilled_13 (by decide) (fun c1 => ?_) (fun c1 => ?_)
      · have hf := it c1 hf
        refine lv_iload_n hx hb d_Desk_countFilled_36 rfl (lv_at hl 0 rfl) ?_
        exact rt _ _ H locs 37 ls hf h d_Desk_countFilled_37
      · have hf := ie c1 hf
        refine lv_aload_n hx hb d_Desk_countFilled_16 rfl (lv_at hl 1 rfl) ?_
        refine lv_iload hx hb d_Desk_countFilled_17 (lv_at hl 3 rfl) ?_
        obtain ⟨g2, hf⟩ := gd_s hf
        refine R_known X h (inb_s g2) d_Desk_countFilled_19 ?_
        refine lv_topi (fun v3 ev3 => ?_)
        have hf := nm_b hf ev3
        refine lv_istore (lv' := [(5, .int v3), (1, .int y1), (2, .ref (ad 12)), (3, .int y3), (4, .int y4)]) hx hb d_Desk_countFilled_20 hl (by decide) rfl (fun ls hl => ?_)
        refine lv_iload hx hb d_Desk_countFilled_22 (lv_at hl 0 rfl) ?_
        refine lv_if_eq (tgt := 30) hx hb d_Desk_countFilled_24 (by decide) (fun c4 => ?_) (fun c4 => ?_)
        · have hf := it c4 hf
          obtain ⟨v5, ev5⟩ : ∃ y : Int32, y = y4 + 1 := ⟨_, rfl⟩
          have hf := nm_b hf ev5
          refine lv_iinc (v := v5) (lv' := [(4, .int v5), (5, .int v3), (1, .int y1), (2, .ref (ad 12)), (3, .int y3)]) hx hb d_Desk_countFilled_30 hl (k := 4) rfl (by rw [ev5]; rfl) (by decide) rfl (fun ls hl => ?_)
          refine lv_goto (tgt := 10) hx hb d_Desk_countFilled_33 (by decide) ?_
          exact ih y1 y3 v5 σ hf H locs ls h (lv_sub hl [2, 3, 4, 0] rfl)
        · have hf := ie c4 hf
          obtain ⟨v6, ev6⟩ : ∃ y : Int32, y = y1 + 1 := ⟨_, rfl⟩
          have hf := nm_b hf ev6
          refine lv_iinc (v := v6) (lv' := [(1, .int v6), (5, .int v3), (2, .ref (ad 12)), (3, .int y3), (4, .int y4)]) hx hb d_Desk_countFilled_27 hl (k := 1) rfl (by rw [ev6]; rfl) (by decide) rfl (fun ls hl => ?_)
          obtain ⟨v7, ev7⟩ : ∃ y : Int32, y = y4 + 1 := ⟨_, rfl⟩
          have hf := nm_b hf ev7
          refine lv_iinc (v := v7) (lv' := [(4, .int v7), (1, .int v6), (5, .int v3), (2, .ref (ad 12)), (3, .int y3)]) hx hb d_Desk_countFilled_30 hl (k := 4) rfl (by rw [ev7]; rfl) (by decide) rfl (fun ls hl => ?_)
          refine lv_goto (tgt := 10) hx hb d_Desk_countFilled_33 (by decide) ?_
          exact ih v6 y3 v7 σ hf H locs ls h (lv_sub hl [1, 3, 4, 0] rfl)
  unfold f_Desk_countFilled_known at hf
  refine lv_iconst (v := 0) hx hb d_Desk_countFilled_0 (by decide) ?_
  refine lv_istore_n (lv' := [(1, .int 0), (0, .ref (ad 12))]) hx hb d_Desk_countFilled_1 rfl hl (by decide) rfl (fun ls hl => ?_)
  refine lv_aload_n hx hb d_Desk_countFilled_2 rfl (lv_at hl 1 rfl) ?_
  refine lv_astore_n (lv' := [(2, .ref (ad 12)), (1, .int 0), (0, .ref (ad 12))]) hx hb d_Desk_countFilled_3 rfl hl (by decide) rfl (fun ls hl => ?_)
  refine lv_aload_n hx hb d_Desk_countFilled_4 rfl (lv_at hl 0 rfl) ?_
  refine N_known X h d_Desk_countFilled_5 ?_
  refine lv_istore_n (lv' := [(3, .int 120), (2, .ref (ad 12)), (1, .int 0), (0, .ref (ad 12))]) hx hb d_Desk_countFilled_6 rfl hl (by decide) rfl (fun ls hl => ?_)
  refine lv_iconst (v := 0) hx hb d_Desk_countFilled_7 (by decide) ?_
  refine lv_istore (lv' := [(4, .int 0), (3, .int 120), (2, .ref (ad 12)), (1, .int 0), (0, .ref (ad 12))]) hx hb d_Desk_countFilled_8 hl (by decide) rfl (fun ls hl => ?_)
  exact L10 n 0 120 0 σ hf H locs ls h (lv_sub hl [3, 2, 1, 0] rfl)

