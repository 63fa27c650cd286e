theorem d_Hero_isDead_0 : decode b_Hero_isDead 0 = .ok (.aload_n 0, 1) := by decide +kernel
theorem d_Hero_isDead_1 : decode b_Hero_isDead 1 = .ok (.getfield 22, 3) := by decide +kernel
theorem d_Hero_isDead_4 : decode b_Hero_isDead 4 = .ok (.ifCond .gt 7, 3) := by decide +kernel
theorem d_Hero_isDead_7 : decode b_Hero_isDead 7 = .ok (.iconst 1, 1) := by decide +kernel
theorem d_Hero_isDead_8 : decode b_Hero_isDead 8 = .ok (.goto 4, 3) := by decide +kernel
theorem d_Hero_isDead_11 : decode b_Hero_isDead 11 = .ok (.iconst 0, 1) := by decide +kernel
theorem d_Hero_isDead_12 : decode b_Hero_isDead 12 = .ok (.ireturn, 1) := by decide +kernel
def f_Hero_isDead (n : Nat) (σ : St) : Option (Int32 × St) := if 0 < (σ.1 10) then (some (0, σ)) else (some (1, σ))
set_option maxHeartbeats 4000000 in
set_option maxRecDepth 100000 in
theorem c_Hero_isDead (l : Launch) (D : va_G) (ad : Nat → Nat) (cA : Nat → ClassId) (tz : Nat → Nat) (n : Nat) (σ : St) (r : Int32) (σr : St) (hf : f_Hero_isDead n σ = some (r, σr)) : Ki l D cA tz (wl ad cA) y_Hero_isDead (.code y_Hero_isDead b_Hero_isDead 1 (some .boolean) :: TB) ({ frames := 0, cells := 0, slots := 0, locals := 0 }) [.ref (ad 8)] σ r σr := by
  refine x_openz (own := R_Hero) rfl (by decide) (fun p e s m args below meth c A Q X hml hZ hA H locs ls h hl rt => ?_)
  have hx := X.1
  have hb := X.2.1
  have hl : lv_has ls 1 [(0, .ref (ad 8))] := hl
  unfold f_Hero_isDead at hf
  refine lv_aload_n hx hb d_Hero_isDead_0 rfl (lv_at hl 0 rfl) ?_
  refine G_hero_health X h m_f_Hero_22 d_Hero_isDead_1 ?_
  refine lv_if_gt (tgt := 11) hx hb d_Hero_isDead_4 (by decide) (fun c1 => ?_) (fun c1 => ?_)
  · have hf := it c1 hf
    refine lv_iconst (v := 0) hx hb d_Hero_isDead_11 (by decide) ?_
    exact rt _ _ H locs 12 ls rfl hf h d_Hero_isDead_12
  · have hf := ie c1 hf
    refine lv_iconst (v := 1) hx hb d_Hero_isDead_7 (by decide) ?_
    refine lv_goto (tgt := 12) hx hb d_Hero_isDead_8 (by decide) ?_
    exact rt _ _ H locs 12 ls rfl hf h d_Hero_isDead_12
theorem d_Level_isCell_0 : decode b_Level_isCell 0 = .ok (.iload_n 0, 1) := by decide +kernel
theorem d_Level_isCell_1 : decode b_Level_isCell 1 = .ok (.ifCond .lt 13, 3) := by decide +kernel
theorem d_Level_isCell_4 : decode b_Level_isCell 4 = .ok (.iload_n 0, 1) := by decide +kernel
theorem d_Level_isCell_5 : decode b_Level_isCell 5 = .ok (.bipush 120, 2) := by decide +kernel
theorem d_Level_isCell_7 : decode b_Level_isCell 7 = .ok (.if_icmp .ge 7, 3) := by decide +kernel
theorem d_Level_isCell_10 : decode b_Level_isCell 10 = .ok (.iconst 1, 1) := by decide +kernel
theorem d_Level_isCell_11 : decode b_Level_isCell 11 = .ok (.goto 4, 3) := by decide +kernel
theorem d_Level_isCell_14 : decode b_Level_isCell 14 = .ok (.iconst 0, 1) := by decide +kernel
theorem d_Level_isCell_15 : decode b_Level_isCell 15 = .ok (.ireturn, 1) := by decide +kernel
def f_Level_isCell (n : Nat) (x0 : Int32) (σ : St) : Option (Int32 × St) := if x0 < 0 then (some (0, σ)) else (if 120 ≤ x0 then (some (0, σ)) else (some (1, σ)))
set_option maxHeartbeats 4000000 in
set_option maxRecDepth 100000 in
theorem c_Level_isCell (l : Launch) (D : va_G) (ad : Nat → Nat) (cA : Nat → ClassId) (tz : Nat → Nat) (n : Nat) (x0 : Int32) (σ : St) (r : Int32) (σr : St) (hf : f_Level_isCell n x0 σ = some (r, σr)) : Ki l D cA tz (wl ad cA) y_Level_isCell (.code y_Level_isCell b_Level_isCell 1 (some .boolean) :: TB) ({ frames := 0, cells := 0, slots := 0, locals := 0 }) [.int x0] σ r σr := by
  refine x_openz (own := R_Level) rfl (by decide) (fun p e s m args below meth c A Q X hml hZ hA H locs ls h hl rt => ?_)
  have hx := X.1
  have hb := X.2.1
  have hl : lv_has ls 1 [(0, .int x0)] := hl
  unfold f_Level_isCell at hf
  refine lv_iload_n hx hb d_Level_isCell_0 rfl (lv_at hl 0 rfl) ?_
  refine lv_if_lt (tgt := 14) hx hb d_Level_isCell_1 (by decide) (fun c1 => ?_) (fun c1 => ?_)
  · have hf := it c1 hf
    refine lv_iconst (v := 0) hx hb d_Level_isCell_14 (by decide) ?_
    exact rt _ _ H locs 15 ls rfl hf h d_Level_isCell_15
  · have hf := ie c1 hf
    refine lv_iload_n hx hb d_Level_isCell_4 rfl (lv_at hl 0 rfl) ?_
    refine lv_bipush (v := 120) hx hb d_Level_isCell_5 (by decide) ?_
    refine lv_icmp_ge (tgt := 14) hx hb d_Level_isCell_7 (by decide) (fun c2 => ?_) (fun c2 => ?_)
    · have hf := it c2 hf
      refine lv_iconst (v := 0) hx hb d_Level_isCell_14 (by decide) ?_
      exact rt _ _ H locs 15 ls rfl hf h d_Level_isCell_15
    · have hf := ie c2 hf
      refine lv_iconst (v := 1) hx hb d_Level_isCell_10 (by decide) ?_
      refine lv_goto (tgt := 15) hx hb d_Level_isCell_11 (by decide) ?_
      exact rt _ _ H locs 15 ls rfl hf h d_Level_isCell_15
theorem d_Level_hasStairs_0 : decode b_Level_hasStairs 0 = .ok (.iload_n 1, 1) := by decide +kernel
theorem d_Level_hasStairs_1 : decode b_Level_hasStairs 1 = .ok (.invokestatic 34, 3) := by decide +kernel
theorem d_Level_hasStairs_4 : decode b_Level_hasStairs 4 = .ok (.ifCond .eq 17, 3) := by decide +kernel
theorem d_Level_hasStairs_7 : decode b_Level_hasStairs 7 = .ok (.aload_n 0, 1) := by decide +kernel
theorem d_Level_hasStairs_8 : decode b_Level_hasStairs 8 = .ok (.getfield 9, 3) := by decide +kernel
theorem d_Level_hasStairs_11 : decode b_Level_hasStairs 11 = .ok (.iload_n 1, 1) := by decide +kernel
theorem d_Level_hasStairs_12 : decode b_Level_hasStairs 12 = .ok (.iaload, 1) := by decide +kernel
theorem d_Level_hasStairs_13 : decode b_Level_hasStairs 13 = .ok (.iconst 2, 1) := by decide +kernel
theorem d_Level_hasStairs_14 : decode b_Level_hasStairs 14 = .ok (.if_icmp .ne 7, 3) := by decide +kernel
theorem d_Level_hasStairs_17 : decode b_Level_hasStairs 17 = .ok (.iconst 1, 1) := by decide +kernel
theorem d_Level_hasStairs_18 : decode b_Level_hasStairs 18 = .ok (.goto 4, 3) := by decide +kernel
theorem d_Level_hasStairs_21 : decode b_Level_hasStairs 21 = .ok (.iconst 0, 1) := by decide +kernel
theorem d_Level_hasStairs_22 : decode b_Level_hasStairs 22 = .ok (.ireturn, 1) := by decide +kernel
def f_Level_hasStairs (n : Nat) (x1 : Int32) (σ : St) : Option (Int32 × St) := bd (f_Level_isCell n x1 σ) (fun r1 σ2 => if r1 = 0 then (some (0, σ2)) else (gd (inb x1 120) (if (σ2.2.2 1 x1.toNatClampNeg) = 2 then (some (1, σ2)) else (some (0, σ2)))))
set_option maxHeartbeats 4000000 in
set_option maxRecDepth 100000 in
theorem c_Level_hasStairs (l : Launch) (D : va_G) (ad : Nat → Nat) (cA : Nat → ClassId) (tz : Nat → Nat) (n : Nat) (x1 : Int32) (σ : St) (r : Int32) (σr : St) (hf : f_Level_hasStairs n x1 σ = some (r, σr)) : Ki l D cA tz (wl ad cA) y_Level_hasStairs (.code y_Level_hasStairs b_Level_hasStairs 2 (some .boolean) :: TB) ({ frames := 1, cells := 0, slots := 0, locals := 20 }) [.ref (ad 5), .int x1] σ r σr := by
  refine x_openz (own := R_Level) rfl (by decide) (fun p e s m args below meth c A Q X hml hZ hA H locs ls h hl rt => ?_)
  have hx := X.1
  have hb := X.2.1
  have hl : lv_has ls 2 [(0, .ref (ad 5)), (1, .int x1)] := hl
  unfold f_Level_hasStairs at hf
  refine lv_iload_n hx hb d_Level_hasStairs_0 rfl (lv_at hl 1 rfl) ?_
  obtain ⟨r1, σ2, h3, hf⟩ := bd_s hf
  refine x_Si (As := [.int x1]) (rest := []) X hml hl.1 hZ hA h (c_Level_isCell l D ad cA tz n x1 σ r1 σ2 h3) k_Level_isCell m_m_Level_34 kd_Level_isCell ⟨rfl, rfl, Nat.le_of_ble_eq_true rfl, Nat.le_of_ble_eq_true rfl⟩ rfl rfl (Nat.le_of_ble_eq_true rfl) d_Level_hasStairs_1 (fun H locs h => ?_)
  refine lv_if_eq (tgt := 21) hx hb d_Level_hasStairs_4 (by decide) (fun c4 => ?_) (fun c4 => ?_)
  · have hf := it c4 hf
    refine lv_iconst (v := 0) hx hb d_Level_hasStairs_21 (by decide) ?_
    exact rt _ _ H locs 22 ls rfl hf h d_Level_hasStairs_22
  · have hf := ie c4 hf
    refine lv_aload_n hx hb d_Level_hasStairs_7 rfl (lv_at hl 0 rfl) ?_
    refine G_level_ground X h m_f_Level_9 d_Level_hasStairs_8 ?_
    refine lv_iload_n hx hb d_Level_hasStairs_11 rfl (lv_at hl 1 rfl) ?_
    obtain ⟨g5, hf⟩ := gd_s hf
    refine R_ground X h (inb_s g5) d_Level_hasStairs_12 ?_
    refine lv_iconst (v := 2) hx hb d_Level_hasStairs_13 (by decide) ?_
    refine lv_icmp_ne (tgt := 21) hx hb d_Level_hasStairs_14 (by decide) (fun c6 => ?_) (fun c6 => ?_)
    · have hf := ie c6 hf
      refine lv_iconst (v := 0) hx hb d_Level_hasStairs_21 (by decide) ?_
      exact rt _ _ H locs 22 ls rfl hf h d_Level_hasStairs_22
    · have hf := it c6 hf
      refine lv_iconst (v := 1) hx hb d_Level_hasStairs_17 (by decide) ?_
      refine lv_goto (tgt := 22) hx hb d_Level_hasStairs_18 (by decide) ?_
      exact rt _ _ H locs 22 ls rfl hf h d_Level_hasStairs_22
theorem d_Arrays_fill_0 : decode b_Arrays_fill 0 = .ok (.iconst 0, 1) := by decide +kernel
theorem d_Arrays_fill_1 : decode b_Arrays_fill 1 = .ok (.istore_n 2, 1) := by decide +kernel
theorem d_Arrays_fill_2 : decode b_Arrays_fill 2 = .ok (.aload_n 0, 1) := by decide +kernel
theorem d_Arrays_fill_3 : decode b_Arrays_fill 3 = .ok (.arraylength, 1) := by decide +kernel
theorem d_Arrays_fill_4 : decode b_Arrays_fill 4 = .ok (.istore_n 3, 1) := by decide +kernel
theorem d_Arrays_fill_5 : decode b_Arrays_fill 5 = .ok (.iload_n 2, 1) := by decide +kernel
theorem d_Arrays_fill_6 : decode b_Arrays_fill 6 = .ok (.iload_n 3, 1) := by decide +kernel
theorem d_Arrays_fill_7 : decode b_Arrays_fill 7 = .ok (.if_icmp .ge 13, 3) := by decide +kernel
theorem d_Arrays_fill_10 : decode b_Arrays_fill 10 = .ok (.aload_n 0, 1) := by decide +kernel
theorem d_Arrays_fill_11 : decode b_Arrays_fill 11 = .ok (.iload_n 2, 1) := by decide +kernel
theorem d_Arrays_fill_12 : decode b_Arrays_fill 12 = .ok (.iload_n 1, 1) := by decide +kernel
theorem d_Arrays_fill_13 : decode b_Arrays_fill 13 = .ok (.iastore, 1) := by decide +kernel
theorem d_Arrays_fill_14 : decode b_Arrays_fill 14 = .ok (.iinc 2 1, 3) := by decide +kernel
theorem d_Arrays_fill_17 : decode b_Arrays_fill 17 = .ok (.goto (-12), 3) := by decide +kernel
theorem d_Arrays_fill_20 : decode b_Arrays_fill 20 = .ok (.return_, 1) := by decide +kernel
def f_Arrays_fill_ground_5 (n : Nat) : Nat → Int32 → Int32 → Int32 → St → Option (Unit × St)
  | 0, _, _, _, _ => none
  | j + 1, y1, y2, y3, σ => if y3 ≤ y2 then (some ((), σ)) else (gd (inb y2 120) (bnd (sA σ 1 y2.toNatClampNeg y1) (fun σ3 => bnd (y2 + 1) (fun v4 => f_Arrays_fill_ground_5 n j y1 v4 y3 σ3))))
theorem f_Arrays_fill_ground_5_s (n : Nat) (j : Nat) (y1 : Int32) (y2 : Int32) (y3 : Int32) (σ : St) : f_Arrays_fill_ground_5 n (j + 1) y1 y2 y3 σ = (if y3 ≤ y2 then (some ((), σ)) else (gd (inb y2 120) (bnd (sA σ 1 y2.toNatClampNeg y1) (fun σ3 => bnd (y2 + 1) (fun v4 => f_Arrays_fill_ground_5 n j y1 v4 y3 σ3))))) := rfl
def f_Arrays_fill_ground (n : Nat) (x1 : Int32) (σ : St) : Option (Unit × St) := f_Arrays_fill_ground_5 n n x1 0 120 σ
set_option maxHeartbeats 4000000 in
set_option maxRecDepth 100000 in
theorem c_Arrays_fill_ground (l : Launch) (D : va_G) (ad : Nat → Nat) (cA : Nat → ClassId) (tz : Nat → Nat) (n : Nat) (x1 : Int32) (σ : St) (r : Unit) (σr : St) (hf : f_Arrays_fill_ground n x1 σ = some (r, σr)) : Kv l D cA tz (wl ad cA) y_Arrays_fill (.code y_Arrays_fill b_Arrays_fill 4 none :: TB) ({ frames := 0, cells := 0, slots := 0, locals := 0 }) [.ref (ad 10), .int x1] σ σr := by
  refine x_openv (r := r) (own := R_Arrays) rfl (by decide) (fun p e s m args below meth c A Q X hml hZ hA H locs ls h hl rt => ?_)
  have hx := X.1
  have hb := X.2.1
  have hl : lv_has ls 4 [(0, .ref (ad 10)), (1, .int x1)] := hl
  have L5 : ∀ j : Nat, ∀ (y1 : Int32) (y2 : Int32) (y3 : Int32) (σ : St), f_Arrays_fill_ground_5 n j y1 y2 y3 σ = some (r, σr) → ∀ (H : Heap) (locs : List Loc) (ls : Array Slot), WD D A s (wl ad cA σ) H locs → lv_has ls 4 [(0, .ref (ad 10)), (1, .int y1), (2, .int y2), (3, .int y3)] → W p l e ({ frames := 0, cells := 0, slots := 0, locals := 0 }) s m args below meth c H locs 0 0 Q (F0 m 5 ls []) := by
    intro j
    induction j with
    | zero => intro y1 y2 y3 σ hf; exact absurd hf (fun z => by cases z)
    | succ j ih =>
      intro y1 y2 y3 σ hf H locs ls h hl
      have hf := us (f_Arrays_fill_ground_5_s n j y1 y2 y3 σ) hf
      refine lv_iload_n hx hb d_Arrays_fill_5 rfl (lv_at hl 2 rfl) ?_
      refine lv_iload_n hx hb d_Arrays_fill_6 rfl (lv_at hl 3 rfl) ?_
      refine lv_icmp_ge (tgt := 20) hx hb d_Arrays_fill_7 (by decide) (fun c1 => ?_) (fun c1 => ?_)
      · have hf := it c1 hf
        exact rt _ H locs 20 ls hf h d_Arrays_fill_20
      · have hf := ie c1 hf
        refine lv_aload_n hx hb d_Arrays_fill_10 rfl (lv_at hl 0 rfl) ?_
        refine lv_iload_n hx hb d_Arrays_fill_11 rfl (lv_at hl 2 rfl) ?_
        refine lv_iload_n hx hb d_Arrays_fill_12 rfl (lv_at hl 1 rfl) ?_
        obtain ⟨g2, hf⟩ := gd_s hf
        refine S_ground X h (inb_s g2) d_Arrays_fill_13 (fun H locs σ3 eσ3 h => ?_)
        have hf := nm_b hf eσ3
        obtain ⟨v4, ev4⟩ : ∃ y : Int32, y = y2 + 1 := ⟨_, rfl⟩
        have hf := nm_b hf ev4
        refine lv_iinc (v := v4) (lv' := [(2, .int v4), (0, .ref (ad 10)), (1, .int y1), (3, .int y3)]) hx hb d_Arrays_fill_14 hl (k := 2) rfl (by rw [ev4]; rfl) (by decide) rfl (fun ls hl => ?_)
        refine lv_goto (tgt := 5) hx hb d_Arrays_fill_17 (by decide) ?_
        exact ih y1 v4 y3 σ3 hf H locs ls h (lv_sub hl [1, 2, 0, 3] rfl)
  unfold f_Arrays_fill_ground at hf
  refine lv_iconst (v := 0) hx hb d_Arrays_fill_0 (by decide) ?_
  refine lv_istore_n (lv' := [(2, .int 0), (0, .ref (ad 10)), (1, .int x1)]) hx hb d_Arrays_fill_1 rfl hl (by decide) rfl (fun ls hl => ?_)
  refine lv_aload_n hx hb d_Arrays_fill_2 rfl (lv_at hl 1 rfl) ?_
  refine N_ground X h d_Arrays_fill_3 ?_
  refine lv_istore_n (lv' := [(3, .int 120), (2, .int 0), (0, .ref (ad 10)), (1, .int x1)]) hx hb d_Arrays_fill_4 rfl hl (by decide) rfl (fun ls hl => ?_)
  exact L5 n x1 0 120 σ hf H locs ls h (lv_sub hl [2, 3, 1, 0] rfl)
def f_Arrays_fill_things_5 (n : Nat) : Nat → Int32 → Int32 → Int32 → St → Option (Unit × St)
  | 0, _, _, _, _ => none
  | j + 1, y1, y2, y3, σ => if y3 ≤ y2 then (some ((), σ)) else (gd (inb y2 120) (bnd (sA σ 2 y2.toNatClampNeg y1) (fun σ3 => bnd (y2 + 1) (fun v4 => f_Arrays_fill_things_5 n j y1 v4 y3 σ3))))
theorem f_Arrays_fill_things_5_s (n : Nat) (j : Nat) (y1 : Int32) (y2 : Int32) (y3 : Int32) (σ : St) : f_Arrays_fill_things_5 n (j + 1) y1 y2 y3 σ = (if y3 ≤ y2 then (some ((), σ)) else (gd (inb y2 120) (bnd (sA σ 2 y2.toNatClampNeg y1) (fun σ3 => bnd (y2 + 1) (fun v4 => f_Arrays_fill_things_5 n j y1 v4 y3 σ3))))) := rfl
def f_Arrays_fill_things (n : Nat) (x1 : Int32) (σ : St) : Option (Unit × St) := f_Arrays_fill_things_5 n n x1 0 120 σ
set_option maxHeartbeats 4000000 in
set_option maxRecDepth 100000 in
theorem c_Arrays_fill_things (l : Launch) (D : va_G) (ad : Nat → Nat) (cA : Nat → ClassId) (tz : Nat → Nat) (n : Nat) (x1 : Int32) (σ : St) (r : Unit) (σr : St) (hf : f_Arrays_fill_things n x1 σ = some (r, σr)) : Kv l D cA tz (wl ad cA) y_Arrays_fill (.code y_Arrays_fill b_Arrays_fill 4 none :: TB) ({ frames := 0, cells := 0, slots := 0, locals := 0 }) [.ref (ad 11), .int x1] σ σr := by
  refine x_openv (r := r) (own := R_Arrays) rfl (by decide) (fun p e s m args below meth c A Q X hml hZ hA H locs ls h hl rt => ?_)
  have hx := X.1
  have hb := X.2.1
  have hl : lv_has ls 4 [(0, .ref (ad 11)), (1, .int x1)] := hl
  have L5 : ∀ j : Nat, ∀ (y1 : Int32) (y2 : Int32) (y3 : Int32) (σ : St), f_Arrays_fill_things_5 n j y1 y2 y3 σ = some (r, σr) → ∀ (H : Heap) (locs : List Loc) (ls : Array Slot), WD D A s (wl ad cA σ) H locs → lv_has ls 4 [(0, .ref (ad 11)), (1, .int y1), (2, .int y2), (3, .int y3)] → W p l e ({ frames := 0, cells := 0, slots := 0, locals := 0 }) s m args below meth c H locs 0 0 Q (F0 m 5 ls []) := by
    intro j
    induction j with
    | zero => intro y1 y2 y3 σ hf; exact absurd hf (fun z => by cases z)
    | succ j ih =>
      intro y1 y2 y3 σ hf H locs ls h hl
      have hf := us (f_Arrays_fill_things_5_s n j y1 y2 y3 σ) hf
      refine lv_iload_n hx hb d_Arrays_fill_5 rfl (lv_at hl 2 rfl) ?_
      refine lv_iload_n hx hb d_Arrays_fill_6 rfl (lv_at hl 3 rfl) ?_
      refine lv_icmp_ge (tgt := 20) hx hb d_Arrays_fill_7 (by decide) (fun c1 => ?_) (fun c1 => ?_)
      · have hf := it c1 hf
        exact rt _ H locs 20 ls hf h d_Arrays_fill_20
      · have hf := ie c1 hf
        refine lv_aload_n hx hb d_Arrays_fill_10 rfl (lv_at hl 0 rfl) ?_
        refine lv_iload_n hx hb d_Arrays_fill_11 rfl (lv_at hl 2 rfl) ?_
        refine lv_iload_n hx hb d_Arrays_fill_12 rfl (lv_at hl 1 rfl) ?_
        obtain ⟨g2, hf⟩ := gd_s hf
        refine S_things X h (inb_s g2) d_Arrays_fill_13 (fun H locs σ3 eσ3 h => ?_)
        have hf := nm_b hf eσ3
        obtain ⟨v4, ev4⟩ : ∃ y : Int32, y = y2 + 1 := ⟨_, rfl⟩
        have hf := nm_b hf ev4
        refine lv_iinc (v := v4) (lv' := [(2, .int v4), (0, .ref (ad 11)), (1, .int y1), (3, .int y3)]) hx hb d_Arrays_fill_14 hl (k := 2) rfl (by rw [ev4]; rfl) (by decide) rfl (fun ls hl => ?_)
        refine lv_goto (tgt := 5) hx hb d_Arrays_fill_17 (by decide) ?_
        exact ih y1 v4 y3 σ3 hf H locs ls h (lv_sub hl [1, 2, 0, 3] rfl)
  unfold f_Arrays_fill_things at hf
  refine lv_iconst (v := 0) hx hb d_Arrays_fill_0 (by decide) ?_
  refine lv_istore_n (lv' := [(2, .int 0), (0, .ref (ad 11)), (1, .int x1)]) hx hb d_Arrays_fill_1 rfl hl (by decide) rfl (fun ls hl => ?_)
  refine lv_aload_n hx hb d_Arrays_fill_2 rfl (lv_at hl 1 rfl) ?_
  refine N_things X h d_Arrays_fill_3 ?_
  refine lv_istore_n (lv' := [(3, .int 120), (2, .int 0), (0, .ref (ad 11)), (1, .int x1)]) hx hb d_Arrays_fill_4 rfl hl (by decide) rfl (fun ls hl => ?_)
  exact L5 n x1 0 120 σ hf H locs ls h (lv_sub hl [2, 3, 1, 0] rfl)
def f_Arrays_fill_known_5 (n : Nat) : Nat → Int32 → Int32 → Int32 → St → Option (Unit × St)
  | 0, _, _, _, _ => none
  | j + 1, y1, y2, y3, σ => if y3 ≤ y2 then (some ((), σ)) else (gd (inb y2 120) (bnd (sA σ 3 y2.toNatClampNeg y1) (fun σ3 => bnd (y2 + 1) (fun v4 => f_Arrays_fill_known_5 n j y1 v4 y3 σ3))))
theorem f_Arrays_fill_known_5_s (n : Nat) (j : Nat) (y1 : Int32) (y2 : Int32) (y3 : Int32) (σ : St) : f_Arrays_fill_known_5 n (j + 1) y1 y2 y3 σ = (if y3 ≤ y2 then (some ((), σ)) else (gd (inb y2 120) (bnd (sA σ 3 y2.toNatClampNeg y1) (fun σ3 => bnd (y2 + 1) (fun v4 => f_Arrays_fill_known_5 n j y1 v4 y3 σ3))))) := rfl
def f_Arrays_fill_known (n : Nat) (x1 : Int32) (σ : St) : Option (Unit × St) := f_Arrays_fill_known_5 n n x1 0 120 σ
set_option maxHeartbeats 4000000 in
set_option maxRecDepth 100000 in
theorem c_Arrays_fill_known (l : Launch) (D : va_G) (ad : Nat → Nat) (cA : Nat → ClassId) (tz : Nat → Nat) (n : Nat) (x1 : Int32) (σ : St) (r : Unit) (σr : St) (hf : f_Arrays_fill_known n x1 σ = some (r, σr)) : Kv l D cA tz (wl ad cA) y_Arrays_fill (.code y_Arrays_fill b_Arrays_fill 4 none :: TB) ({ frames := 0, cells := 0, slots := 0, locals := 0 }) [.ref (ad 12), .int x1] σ σr := by
  refine x_openv (r := r) (own := R_Arrays) rfl (by decide) (fun p e s m args below meth c A Q X hml hZ hA H locs ls h hl rt => ?_)
  have hx := X.1
  have hb := X.2.1
  have hl : lv_has ls 4 [(0, .ref (ad 12)), (1, .int x1)] := hl
  have L5 : ∀ j : Nat, ∀ (y1 : Int32) (y2 : Int32) (y3 : Int32) (σ : St), f_Arrays_fill_known_5 n j y1 y2 y3 σ = some (r, σr) → ∀ (H : Heap) (locs : List Loc) (ls : Array Slot), WD D A s (wl ad cA σ) H locs → lv_has ls 4 [(0, .ref (ad 12)), (1, .int y1), (2, .int y2), (3, .int y3)] → W p l e ({ frames := 0, cells := 0, slots := 0, locals := 0 }) s m args below meth c H locs 0 0 Q (F0 m 5 ls []) := by
    intro j
    induction j with
    | zero => intro y1 y2 y3 σ hf; exact absurd hf (fun z => by cases z)
    | succ j ih =>
      intro y1 y2 y3 σ hf H locs ls h hl
      have hf := us (f_Arrays_fill_known_5_s n j y1 y2 y3 σ) hf
      refine lv_iload_n hx hb d_Arrays_fill_5 rfl (lv_at hl 2 rfl) ?_
      refine lv_iload_n hx hb d_Arrays_fill_6 rfl (lv_at hl 3 rfl) ?_
      refine lv_icmp_ge (tgt := 20) hx hb d_Arrays_fill_7 (by decide) (fun c1 => ?_) (fun c1 => ?_)
      · have hf := it c1 hf
        exact rt _ H locs 20 ls hf h d_Arrays_fill_20
      · have hf := ie c1 hf
        refine lv_aload_n hx hb d_Arrays_fill_10 rfl (lv_at hl 0 rfl) ?_
        refine lv_iload_n hx hb d_Arrays_fill_11 rfl (lv_at hl 2 rfl) ?_
        refine lv_iload_n hx hb d_Arrays_fill_12 rfl (lv_at hl 1 rfl) ?_
        obtain ⟨g2, hf⟩ := gd_s hf
        refine S_known X h (inb_s g2) d_Arrays_fill_13 (fun H locs σ3 eσ3 h => ?_)
        have hf := nm_b hf eσ3
        obtain ⟨v4, ev4⟩ : ∃ y : Int32, y = y2 + 1 := ⟨_, rfl⟩
        have hf := nm_b hf ev4
        refine lv_iinc (v := v4) (lv' := [(2, .int v4), (0, .ref (ad 12)), (1, .int y1), (3, .int y3)]) hx hb d_Arrays_fill_14 hl (k := 2) rfl (by rw [ev4]; rfl) (by decide) rfl (fun ls hl => ?_)
        refine lv_goto (tgt := 5) hx hb d_Arrays_fill_17 (by decide) ?_
        exact ih y1 v4 y3 σ3 hf H locs ls h (lv_sub hl [1, 2, 0, 3] rfl)
  unfold f_Arrays_fill_known at hf
  refine lv_iconst (v := 0) hx hb d_Arrays_fill_0 (by decide) ?_
  refine lv_istore_n (lv' := [(2, .int 0), (0, .ref (ad 12)), (1, .int x1)]) hx hb d_Arrays_fill_1 rfl hl (by decide) rfl (fun ls hl => ?_)
  refine lv_aload_n hx hb d_Arrays_fill_2 rfl (lv_at hl 1 rfl) ?_
  refine N_known X h d_Arrays_fill_3 ?_
  refine lv_istore_n (lv' := [(3, .int 120), (2, .int 0), (0, .ref (ad 12)), (1, .int x1)]) hx hb d_Arrays_fill_4 rfl hl (by decide) rfl (fun ls hl => ?_)
  exact L5 n x1 0 120 σ hf H locs ls h (lv_sub hl [2, 3, 1, 0] rfl)
theorem d_Level_clear_0 : decode b_Level_clear 0 = .ok (.aload_n 0, 1) := by decide +kernel
theorem d_Level_clear_1 : decode b_Level_clear 1 = .ok (.getfield 9, 3) := by decide +kernel
theorem d_Level_clear_4 : decode b_Level_clear 4 = .ok (.iconst 0, 1) := by decide +kernel
theorem d_Level_clear_5 : decode b_Level_clear 5 = .ok (.invokestatic 25, 3) := by decide +kernel
theorem d_Level_clear_8 : decode b_Level_clear 8 = .ok (.aload_n 0, 1) := by decide +kernel
theorem d_Level_clear_9 : decode b_Level_clear 9 = .ok (.getfield 15, 3) := by decide +kernel
theorem d_Level_clear_12 : decode b_Level_clear 12 = .ok (.iconst 0, 1) := by decide +kernel
theorem d_Level_clear_13 : decode b_Level_clear 13 = .ok (.invokestatic 25, 3) := by decide +kernel
theorem d_Level_clear_16 : decode b_Level_clear 16 = .ok (.aload_n 0, 1) := by decide +kernel
theorem d_Level_clear_17 : decode b_Level_clear 17 = .ok (.getfield 18, 3) := by decide +kernel
theorem d_Level_clear_20 : decode b_Level_clear 20 = .ok (.iconst 0, 1) := by decide +kernel
theorem d_Level_clear_21 : decode b_Level_clear 21 = .ok (.invokestatic 25, 3) := by decide +kernel
theorem d_Level_clear_24 : decode b_Level_clear 24 = .ok (.return_, 1) := by decide +kernel
def f_Level_clear (n : Nat) (σ : St) : Option (Unit × St) := bd (f_Arrays_fill_ground n 0 σ) (fun _ σ2 => bd (f_Arrays_fill_things n 0 σ2) (fun _ σ5 => bd (f_Arrays_fill_known n 0 σ5) (fun _ σ8 => some ((), σ8))))
set_option maxHeartbeats 4000000 in
set_option maxRecDepth 100000 in
theorem c_Level_clear (l : Launch) (D : va_G) (ad : Nat → Nat) (cA : Nat → ClassId) (tz : Nat → Nat) (n : Nat) (σ : St) (r : Unit) (σr : St) (hf : f_Level_clear n σ = some (r, σr)) : Kv l D cA tz (wl ad cA) y_Level_clear (.code y_Level_clear b_Level_clear 1 none :: TB) ({ frames := 1, cells := 0, slots := 0, locals := 23 }) [.ref (ad 5)] σ σr := by
  refine x_openv (r := r) (own := R_Level) rfl (by decide) (fun p e s m args below meth c A Q X hml hZ hA H locs ls h hl rt => ?_)
  have hx := X.1
  have hb := X.2.1
  have hl : lv_has ls 1 [(0, .ref (ad 5))] := hl
  unfold f_Level_clear at hf
  refine lv_aload_n hx hb d_Level_clear_0 rfl (lv_at hl 0 rfl) ?_
  refine G_level_ground X h m_f_Level_9 d_Level_clear_1 ?_
  refine lv_iconst (v := 0) hx hb d_Level_clear_4 (by decide) ?_
  obtain ⟨r1, σ2, h3, hf⟩ := bd_s hf
  refine x_Sv (As := [.ref (ad 10), .int 0]) (rest := []) X hml hl.1 hZ hA h (c_Arrays_fill_ground l D ad cA tz n 0 σ r1 σ2 h3) k_Arrays_fill m_m_Level_25 kd_Arrays_fill ⟨rfl, rfl, Nat.le_of_ble_eq_true rfl, Nat.le_of_ble_eq_true rfl⟩ rfl rfl (Nat.le_of_ble_eq_true rfl) d_Level_clear_5 (fun H locs h => ?_)
  refine lv_aload_n hx hb d_Level_clear_8 rfl (lv_at hl 0 rfl) ?_
  refine G_level_things X h m_f_Level_15 d_Level_clear_9 ?_
  refine lv_iconst (v := 0) hx hb d_Level_clear_12 (by decide) ?_
  obtain ⟨r4, σ5, h6, hf⟩ := bd_s hf
  refine x_Sv (As := [.ref (ad 11), .int 0]) (rest := []) X hml hl.1 hZ hA h (c_Arrays_fill_things l D ad cA tz n 0 σ2 r4 σ5 h6) k_Arrays_fill m_m_Level_25 kd_Arrays_fill ⟨rfl, rfl, Nat.le_of_ble_eq_true rfl, Nat.le_of_ble_eq_true rfl⟩ rfl rfl (Nat.le_of_ble_eq_true rfl) d_Level_clear_13 (fun H locs h => ?_)
  refine lv_aload_n hx hb d_Level_clear_16 rfl (lv_at hl 0 rfl) ?_
  refine G_level_known X h m_f_Level_18 d_Level_clear_17 ?_
  refine lv_iconst (v := 0) hx hb d_Level_clear_20 (by decide) ?_
  obtain ⟨r7, σ8, h9, hf⟩ := bd_s hf
  refine x_Sv (As := [.ref (ad 12), .int 0]) (rest := []) X hml hl.1 hZ hA h (c_Arrays_fill_known l D ad cA tz n 0 σ5 r7 σ8 h9) k_Arrays_fill m_m_Level_25 kd_Arrays_fill ⟨rfl, rfl, Nat.le_of_ble_eq_true rfl, Nat.le_of_ble_eq_true rfl⟩ rfl rfl (Nat.le_of_ble_eq_true rfl) d_Level_clear_21 (fun H locs h => ?_)
  exact rt _ H locs 24 ls hf h d_Level_clear_24
theorem d_Monsters_clear_0 : decode b_Monsters_clear 0 = .ok (.aload_n 0, 1) := by decide +kernel
theorem d_Monsters_clear_1 : decode b_Monsters_clear 1 = .ok (.iconst 0, 1) := by decide +kernel
theorem d_Monsters_clear_2 : decode b_Monsters_clear 2 = .ok (.putfield 27, 3) := by decide +kernel
theorem d_Monsters_clear_5 : decode b_Monsters_clear 5 = .ok (.return_, 1) := by decide +kernel
def f_Monsters_clear (n : Nat) (σ : St) : Option (Unit × St) := bnd (sI σ 7 0) (fun σ1 => some ((), σ1))
set_option maxHeartbeats 4000000 in
set_option maxRecDepth 100000 in
theorem c_Monsters_clear (l : Launch) (D : va_G) (ad : Nat → Nat) (cA : Nat → ClassId) (tz : Nat → Nat) (n : Nat) (σ : St) (r : Unit) (σr : St) (hf : f_Monsters_clear n σ = some (r, σr)) : Kv l D cA tz (wl ad cA) y_Monsters_clear (.code y_Monsters_clear b_Monsters_clear 1 none :: TB) ({ frames := 0, cells := 0, slots := 0, locals := 0 }) [.ref (ad 6)] σ σr := by
  refine x_openv (r := r) (own := R_Monsters) rfl (by decide) (fun p e s m args below meth c A Q X hml hZ hA H locs ls h hl rt => ?_)
  have hx := X.1
  have hb := X.2.1
  have hl : lv_has ls 1 [(0, .ref (ad 6))] := hl
  unfold f_Monsters_clear at hf
  refine lv_aload_n hx hb d_Monsters_clear_0 rfl (lv_at hl 0 rfl) ?_
  refine lv_iconst (v := 0) hx hb d_Monsters_clear_1 (by decide) ?_
  refine P_monsters_made X h m_f_Monsters_27 d_Monsters_clear_2 (fun H locs σ1 eσ1 h => ?_)
  have hf := nm_b hf eσ1
  exact rt _ H locs 5 ls hf h d_Monsters_clear_5
theorem d_Maker_centreColumn_0 : decode b_Maker_centreColumn 0 = .ok (.aload_n 0, 1) := by decide +kernel
theorem d_Maker_centreColumn_1 : decode b_Maker_centreColumn 1 = .ok (.getfield 18, 3) := by decide +kernel
theorem d_Maker_centreColumn_4 : decode b_Maker_centreColumn 4 = .ok (.iload_n 1, 1) := by decide +kernel
theorem d_Maker_centreColumn_5 : decode b_Maker_centreColumn 5 = .ok (.iaload, 1) := by decide +kernel
theorem d_Maker_centreColumn_6 : decode b_Maker_centreColumn 6 = .ok (.aload_n 0, 1) := by decide +kernel
theorem d_Maker_centreColumn_7 : decode b_Maker_centreColumn 7 = .ok (.getfield 25, 3) := by decide +kernel
theorem d_Maker_centreColumn_10 : decode b_Maker_centreColumn 10 = .ok (.iload_n 1, 1) := by decide +kernel
theorem d_Maker_centreColumn_11 : decode b_Maker_centreColumn 11 = .ok (.iaload, 1) := by decide +kernel
theorem d_Maker_centreColumn_12 : decode b_Maker_centreColumn 12 = .ok (.iconst 2, 1) := by decide +kernel
theorem d_Maker_centreColumn_13 : decode b_Maker_centreColumn 13 = .ok (.idiv, 1) := by decide +kernel
theorem d_Maker_centreColumn_14 : decode b_Maker_centreColumn 14 = .ok (.iadd, 1) := by decide +kernel
theorem d_Maker_centreColumn_15 : decode b_Maker_centreColumn 15 = .ok (.ireturn, 1) := by decide +kernel
def f_Maker_centreColumn (n : Nat) (x1 : Int32) (σ : St) : Option (Int32 × St) := gd (inb x1 4) (gd (inb x1 4) (some ((σ.2.2 9 x1.toNatClampNeg) + ((σ.2.2 11 x1.toNatClampNeg) / 2), σ)))
set_option maxHeartbeats 4000000 in
set_option maxRecDepth 100000 in
theorem c_Maker_centreColumn (l : Launch) (D : va_G) (ad : Nat → Nat) (cA : Nat → ClassId) (tz : Nat → Nat) (n : Nat) (x1 : Int32) (σ : St) (r : Int32) (σr : St) (hf : f_Maker_centreColumn n x1 σ = some (r, σr)) : Ki l D cA tz (wl ad cA) y_Maker_centreColumn (.code y_Maker_centreColumn b_Maker_centreColumn 2 (some .int) :: TB) ({ frames := 0, cells := 0, slots := 0, locals := 0 }) [.ref (ad 3), .int x1] σ r σr := by
  refine x_openi (own := R_Maker) rfl (by decide) (fun p e s m args below meth c A Q X hml hZ hA H locs ls h hl rt => ?_)
  have hx := X.1
  have hb := X.2.1
  have hl : lv_has ls 2 [(0, .ref (ad 3)), (1, .int x1)] := hl
  unfold f_Maker_centreColumn at hf
  refine lv_aload_n hx hb d_Maker_centreColumn_0 rfl (lv_at hl 0 rfl) ?_
  refine G_maker_left X h m_f_Maker_18 d_Maker_centreColumn_1 ?_
  refine lv_iload_n hx hb d_Maker_centreColumn_4 rfl (lv_at hl 1 rfl) ?_
  obtain ⟨g1, hf⟩ := gd_s hf
  refine R_left X h (inb_s g1) d_Maker_centreColumn_5 ?_
  refine lv_aload_n hx hb d_Maker_centreColumn_6 rfl (lv_at hl 0 rfl) ?_
  refine G_maker_width X h m_f_Maker_25 d_Maker_centreColumn_7 ?_
  refine lv_iload_n hx hb d_Maker_centreColumn_10 rfl (lv_at hl 1 rfl) ?_
  obtain ⟨g2, hf⟩ := gd_s hf
  refine R_width X h (inb_s g2) d_Maker_centreColumn_11 ?_
  refine lv_iconst (v := 2) hx hb d_Maker_centreColumn_12 (by decide) ?_
  refine lv_idiv hx hb d_Maker_centreColumn_13 (by decide) ?_
  refine lv_iadd hx hb d_Maker_centreColumn_14 ?_
  exact rt _ _ H locs 15 ls hf h d_Maker_centreColumn_15
theorem d_Maker_centreRow_0 : decode b_Maker_centreRow 0 = .ok (.aload_n 0, 1) := by decide +kernel
theorem d_Maker_centreRow_1 : decode b_Maker_centreRow 1 = .ok (.getfield 22, 3) := by decide +kernel
theorem d_Maker_centreRow_4 : decode b_Maker_centreRow 4 = .ok (.iload_n 1, 1) := by decide +kernel
theorem d_Maker_centreRow_5 : decode b_Maker_centreRow 5 = .ok (.iaload, 1) := by decide +kernel
theorem d_Maker_centreRow_6 : decode b_Maker_centreRow 6 = .ok (.aload_n 0, 1) := by decide +kernel
theorem d_Maker_centreRow_7 : decode b_Maker_centreRow 7 = .ok (.getfield 28, 3) := by decide +kernel
theorem d_Maker_centreRow_10 : decode b_Maker_centreRow 10 = .ok (.iload_n 1, 1) := by decide +kernel
theorem d_Maker_centreRow_11 : decode b_Maker_centreRow 11 = .ok (.iaload, 1) := by decide +kernel
theorem d_Maker_centreRow_12 : decode b_Maker_centreRow 12 = .ok (.iconst 2, 1) := by decide +kernel
theorem d_Maker_centreRow_13 : decode b_Maker_centreRow 13 = .ok (.idiv, 1) := by decide +kernel
theorem d_Maker_centreRow_14 : decode b_Maker_centreRow 14 = .ok (.iadd, 1) := by decide +kernel
theorem d_Maker_centreRow_15 : decode b_Maker_centreRow 15 = .ok (.ireturn, 1) := by decide +kernel
def f_Maker_centreRow (n : Nat) (x1 : Int32) (σ : St) : Option (Int32 × St) := gd (inb x1 4) (gd (inb x1 4) (some ((σ.2.2 10 x1.toNatClampNeg) + ((σ.2.2 12 x1.toNatClampNeg) / 2), σ)))
set_option maxHeartbeats 4000000 in
set_option maxRecDepth 100000 in
theorem c_Maker_centreRow (l : Launch) (D : va_G) (ad : Nat → Nat) (cA : Nat → ClassId) (tz : Nat → Nat) (n : Nat) (x1 : Int32) (σ : St) (r : Int32) (σr : St) (hf : f_Maker_centreRow n x1 σ = some (r, σr)) : Ki l D cA tz (wl ad cA) y_Maker_centreRow (.code y_Maker_centreRow b_Maker_centreRow 2 (some .int) :: TB) ({ frames := 0, cells := 0, slots := 0, locals := 0 }) [.ref (ad 3), .int x1] σ r σr := by
  refine x_openi (own := R_Maker) rfl (by decide) (fun p e s m args below meth c A Q X hml hZ hA H locs ls h hl rt => ?_)
  have hx := X.1
  have hb := X.2.1
  have hl : lv_has ls 2 [(0, .ref (ad 3)), (1, .int x1)] := hl
  unfold f_Maker_centreRow at hf
  refine lv_aload_n hx hb d_Maker_centreRow_0 rfl (lv_at hl 0 rfl) ?_
  refine G_maker_top X h m_f_Maker_22 d_Maker_centreRow_1 ?_
  refine lv_iload_n hx hb d_Maker_centreRow_4 rfl (lv_at hl 1 rfl) ?_
  obtain ⟨g1, hf⟩ := gd_s hf
  refine R_top X h (inb_s g1) d_Maker_centreRow_5 ?_
  refine lv_aload_n hx hb d_Maker_centreRow_6 rfl (lv_at hl 0 rfl) ?_
  refine G_maker_height X h m_f_Maker_28 d_Maker_centreRow_7 ?_
  refine lv_iload_n hx hb d_Maker_centreRow_10 rfl (lv_at hl 1 rfl) ?_
  obtain ⟨g2, hf⟩ := gd_s hf
  refine R_height X h (inb_s g2) d_Maker_centreRow_11 ?_
  refine lv_iconst (v := 2) hx hb d_Maker_centreRow_12 (by decide) ?_
  refine lv_idiv hx hb d_Maker_centreRow_13 (by decide) ?_
  refine lv_iadd hx hb d_Maker_centreRow_14 ?_
  exact rt _ _ H locs 15 ls hf h d_Maker_centreRow_15
theorem d_Draws_draw_0 : decode b_Draws_draw 0 = .ok (.aload_n 0, 1) := by decide +kernel
theorem d_Draws_draw_1 : decode b_Draws_draw 1 = .ok (.aload_n 0, 1) := by decide +kernel
theorem d_Draws_draw_2 : decode b_Draws_draw 2 = .ok (.getfield 7, 3) := by decide +kernel
theorem d_Draws_draw_5 : decode b_Draws_draw 5 = .ok (.ldc2_w 13, 3) := by decide +kernel
theorem d_Draws_draw_8 : decode b_Draws_draw 8 = .ok (.lmul, 1) := by decide +kernel
theorem d_Draws_draw_9 : decode b_Draws_draw 9 = .ok (.ldc2_w 15, 3) := by decide +kernel
theorem d_Draws_draw_12 : decode b_Draws_draw 12 = .ok (.ladd, 1) := by decide +kernel
theorem d_Draws_draw_13 : decode b_Draws_draw 13 = .ok (.putfield 7, 3) := by decide +kernel
theorem d_Draws_draw_16 : decode b_Draws_draw 16 = .ok (.iload_n 1, 1) := by decide +kernel
theorem d_Draws_draw_17 : decode b_Draws_draw 17 = .ok (.ifCond .le 17, 3) := by decide +kernel
theorem d_Draws_draw_20 : decode b_Draws_draw 20 = .ok (.aload_n 0, 1) := by decide +kernel
theorem d_Draws_draw_21 : decode b_Draws_draw 21 = .ok (.getfield 7, 3) := by decide +kernel
theorem d_Draws_draw_24 : decode b_Draws_draw 24 = .ok (.bipush 33, 2) := by decide +kernel
theorem d_Draws_draw_26 : decode b_Draws_draw 26 = .ok (.lushr, 1) := by decide +kernel
theorem d_Draws_draw_27 : decode b_Draws_draw 27 = .ok (.iload_n 1, 1) := by decide +kernel
theorem d_Draws_draw_28 : decode b_Draws_draw 28 = .ok (.i2l, 1) := by decide +kernel
theorem d_Draws_draw_29 : decode b_Draws_draw 29 = .ok (.lrem, 1) := by decide +kernel
theorem d_Draws_draw_30 : decode b_Draws_draw 30 = .ok (.l2i, 1) := by decide +kernel
theorem d_Draws_draw_31 : decode b_Draws_draw 31 = .ok (.goto 4, 3) := by decide +kernel
theorem d_Draws_draw_34 : decode b_Draws_draw 34 = .ok (.iconst 0, 1) := by decide +kernel
theorem d_Draws_draw_35 : decode b_Draws_draw 35 = .ok (.ireturn, 1) := by decide +kernel
def f_Draws_draw_making (n : Nat) (x1 : Int32) (σ : St) : Option (Int32 × St) := bnd (sL σ 1 (((σ.2.1 1) * 6364136223846793005) + 1442695040888963407)) (fun σ1 => if x1 ≤ 0 then (some (0, σ1)) else (gd (nzl (Int32.toInt64 x1)) (some (Int64.toInt32 ((ush (σ1.2.1 1) 33) - (ush (σ1.2.1 1) 33) / (Int32.toInt64 x1) * (Int32.toInt64 x1)), σ1))))
set_option maxHeartbeats 4000000 in
set_option maxRecDepth 100000 in
theorem c_Draws_draw_making (l : Launch) (D : va_G) (ad : Nat → Nat) (cA : Nat → ClassId) (tz : Nat → Nat) (n : Nat) (x1 : Int32) (σ : St) (r : Int32) (σr : St) (hf : f_Draws_draw_making n x1 σ = some (r, σr)) : Ki l D cA tz (wl ad cA) y_Draws_draw (.code y_Draws_draw b_Draws_draw 2 (some .int) :: TB) ({ frames := 0, cells := 0, slots := 0, locals := 0 }) [.ref (ad 4), .int x1] σ r σr := by
  refine x_openi (own := R_Draws) rfl (by decide) (fun p e s m args below meth c A Q X hml hZ hA H locs ls h hl rt => ?_)
  have hx := X.1
  have hb := X.2.1
  have hl : lv_has ls 2 [(0, .ref (ad 4)), (1, .int x1)] := hl
  unfold f_Draws_draw_making at hf
  refine lv_aload_n hx hb d_Draws_draw_0 rfl (lv_at hl 0 rfl) ?_
  refine lv_aload_n hx hb d_Draws_draw_1 rfl (lv_at hl 0 rfl) ?_
  refine G_making_state X h m_f_Draws_7 d_Draws_draw_2 ?_
  refine lv_ldc2 (v := 6364136223846793005) hx hb X.2.2.1 (X.2.2.2.1 _ m_kl_Draws_13) d_Draws_draw_5 ?_
  refine lv_lmul hx hb d_Draws_draw_8 ?_
  refine lv_ldc2 (v := 1442695040888963407) hx hb X.2.2.1 (X.2.2.2.1 _ m_kl_Draws_15) d_Draws_draw_9 ?_
  refine lv_ladd hx hb d_Draws_draw_12 ?_
  refine P_making_state X h m_f_Draws_7 d_Draws_draw_13 (fun H locs σ1 eσ1 h => ?_)
  have hf := nm_b hf eσ1
  refine lv_iload_n hx hb d_Draws_draw_16 rfl (lv_at hl 1 rfl) ?_
  refine lv_if_le (tgt := 34) hx hb d_Draws_draw_17 (by decide) (fun c2 => ?_) (fun c2 => ?_)
  · have hf := it c2 hf
    refine lv_iconst (v := 0) hx hb d_Draws_draw_34 (by decide) ?_
    exact rt _ _ H locs 35 ls hf h d_Draws_draw_35
  · have hf := ie c2 hf
    refine lv_aload_n hx hb d_Draws_draw_20 rfl (lv_at hl 0 rfl) ?_
    refine G_making_state X h m_f_Draws_7 d_Draws_draw_21 ?_
    refine lv_bipush (v := 33) hx hb d_Draws_draw_24 (by decide) ?_
    refine lv_lushr (v := ush (σ1.2.1 1) 33) hx hb d_Draws_draw_26 rfl ?_
    refine lv_iload_n hx hb d_Draws_draw_27 rfl (lv_at hl 1 rfl) ?_
    refine lv_i2l hx hb d_Draws_draw_28 rfl ?_
    obtain ⟨g3, hf⟩ := gd_s hf
    refine lv_lrem hx hb d_Draws_draw_29 (nzl_s g3) ?_
    refine lv_l2i hx hb d_Draws_draw_30 rfl ?_
    refine lv_goto (tgt := 35) hx hb d_Draws_draw_31 (by decide) ?_
    exact rt _ _ H locs 35 ls hf h d_Draws_draw_35
theorem d_Level_setGround_0 : decode b_Level_setGround 0 = .ok (.iload_n 1, 1) := by decide +kernel
theorem d_Level_setGround_1 : decode b_Level_setGround 1 = .ok (.ifCond .lt 16, 3) := by decide +kernel
theorem d_Level_setGround_4 : decode b_Level_setGround 4 = .ok (.iload_n 1, 1) := by decide +kernel
theorem d_Level_setGround_5 : decode b_Level_setGround 5 = .ok (.bipush 120, 2) := by decide +kernel
theorem d_Level_setGround_7 : decode b_Level_setGround 7 = .ok (.if_icmp .ge 10, 3) := by decide +kernel
theorem d_Level_setGround_10 : decode b_Level_setGround 10 = .ok (.aload_n 0, 1) := by decide +kernel
theorem d_Level_setGround_11 : decode b_Level_setGround 11 = .ok (.getfield 9, 3) := by decide +kernel
theorem d_Level_setGround_14 : decode b_Level_setGround 14 = .ok (.iload_n 1, 1) := by decide +kernel
theorem d_Level_setGround_15 : decode b_Level_setGround 15 = .ok (.iload_n 2, 1) := by decide +kernel
theorem d_Level_setGround_16 : decode b_Level_setGround 16 = .ok (.iastore, 1) := by decide +kernel
theorem d_Level_setGround_17 : decode b_Level_setGround 17 = .ok (.return_, 1) := by decide +kernel
def f_Level_setGround (n : Nat) (x1 : Int32) (x2 : Int32) (σ : St) : Option (Unit × St) := if x1 < 0 then (some ((), σ)) else (if 120 ≤ x1 then (some ((), σ)) else (gd (inb x1 120) (bnd (sA σ 1 x1.toNatClampNeg x2) (fun σ4 => some ((), σ4)))))
set_option maxHeartbeats 4000000 in
set_option maxRecDepth 100000 in
theorem c_Level_setGround (l : Launch) (D : va_G) (ad : Nat → Nat) (cA : Nat → ClassId) (tz : Nat → Nat) (n : Nat) (x1 : Int32) (x2 : Int32) (σ : St) (r : Unit) (σr : St) (hf : f_Level_setGround n x1 x2 σ = some (r, σr)) : Kv l D cA tz (wl ad cA) y_Level_setGround (.code y_Level_setGround b_Level_setGround 3 none :: TB) ({ frames := 0, cells := 0, slots := 0, locals := 0 }) [.ref (ad 5), .int x1, .int x2] σ σr := by
  refine x_openv (r := r) (own := R_Level) rfl (by decide) (fun p e s m args below meth c A Q X hml hZ hA H locs ls h hl rt => ?_)
  have hx := X.1
  have hb := X.2.1
  have hl : lv_has ls 3 [(0, .ref (ad 5)), (1, .int x1), (2, .int x2)] := hl
  unfold f_Level_setGround at hf
  refine lv_iload_n hx hb d_Level_setGround_0 rfl (lv_at hl 1 rfl) ?_
  refine lv_if_lt (tgt := 17) hx hb d_Level_setGround_1 (by decide) (fun c1 => ?_) (fun c1 => ?_)
  · have hf := it c1 hf
    exact rt _ H locs 17 ls hf h d_Level_setGround_17
  · have hf := ie c1 hf
    refine lv_iload_n hx hb d_Level_setGround_4 rfl (lv_at hl 1 rfl) ?_
    refine lv_bipush (v := 120) hx hb d_Level_setGround_5 (by decide) ?_
    refine lv_icmp_ge (tgt := 17) hx hb d_Level_setGround_7 (by decide) (fun c2 => ?_) (fun c2 => ?_)
    · have hf := it c2 hf
      exact rt _ H locs 17 ls hf h d_Level_setGround_17
    · have hf := ie c2 hf
      refine lv_aload_n hx hb d_Level_setGround_10 rfl (lv_at hl 0 rfl) ?_
      refine G_level_ground X h m_f_Level_9 d_Level_setGround_11 ?_
      refine lv_iload_n hx hb d_Level_setGround_14 rfl (lv_at hl 1 rfl) ?_
      refine lv_iload_n hx hb d_Level_setGround_15 rfl (lv_at hl 2 rfl) ?_
      obtain ⟨g3, hf⟩ := gd_s hf
      refine S_ground X h (inb_s g3) d_Level_setGround_16 (fun H locs σ4 eσ4 h => ?_)
      have hf := nm_b hf eσ4
      exact rt _ H locs 17 ls hf h d_Level_setGround_17
theorem d_Maker_digRow_0 : decode b_Maker_digRow 0 = .ok (.iload_n 2, 1) := by decide +kernel
theorem d_Maker_digRow_1 : decode b_Maker_digRow 1 = .ok (.iload_n 3, 1) := by decide +kernel
theorem d_Maker_digRow_2 : decode b_Maker_digRow 2 = .ok (.invokestatic 87, 3) := by decide +kernel
theorem d_Maker_digRow_5 : decode b_Maker_digRow 5 = .ok (.istore 5, 2) := by decide +kernel
theorem d_Maker_digRow_7 : decode b_Maker_digRow 7 = .ok (.iload 5, 2) := by decide +kernel
theorem d_Maker_digRow_9 : decode b_Maker_digRow 9 = .ok (.iload_n 2, 1) := by decide +kernel
theorem d_Maker_digRow_10 : decode b_Maker_digRow 10 = .ok (.iload_n 3, 1) := by decide +kernel
theorem d_Maker_digRow_11 : decode b_Maker_digRow 11 = .ok (.invokestatic 93, 3) := by decide +kernel
theorem d_Maker_digRow_14 : decode b_Maker_digRow 14 = .ok (.if_icmp .gt 22, 3) := by decide +kernel
theorem d_Maker_digRow_17 : decode b_Maker_digRow 17 = .ok (.aload 4, 2) := by decide +kernel
theorem d_Maker_digRow_19 : decode b_Maker_digRow 19 = .ok (.iload_n 1, 1) := by decide +kernel
theorem d_Maker_digRow_20 : decode b_Maker_digRow 20 = .ok (.bipush 12, 2) := by decide +kernel
theorem d_Maker_digRow_22 : decode b_Maker_digRow 22 = .ok (.imul, 1) := by decide +kernel
theorem d_Maker_digRow_23 : decode b_Maker_digRow 23 = .ok (.iload 5, 2) := by decide +kernel
theorem d_Maker_digRow_25 : decode b_Maker_digRow 25 = .ok (.iadd, 1) := by decide +kernel
theorem d_Maker_digRow_26 : decode b_Maker_digRow 26 = .ok (.iconst 1, 1) := by decide +kernel
theorem d_Maker_digRow_27 : decode b_Maker_digRow 27 = .ok (.invokevirtual 57, 3) := by decide +kernel
theorem d_Maker_digRow_30 : decode b_Maker_digRow 30 = .ok (.iinc 5 1, 3) := by decide +kernel
theorem d_Maker_digRow_33 : decode b_Maker_digRow 33 = .ok (.goto (-26), 3) := by decide +kernel
theorem d_Maker_digRow_36 : decode b_Maker_digRow 36 = .ok (.return_, 1) := by decide +kernel
def f_Maker_digRow_7 (n : Nat) : Nat → Int32 → Int32 → Int32 → Int32 → St → Option (Unit × St)
  | 0, _, _, _, _, _ => none
  | j + 1, y1, y2, y3, y5, σ => bnd (if y2 < y3 then y3 else y2) (fun v2 => if v2 < y5 then (some ((), σ)) else (bd (f_Level_setGround n ((y1 * 12) + y5) 1 σ) (fun _ σ5 => bnd (y5 + 1) (fun v7 => f_Maker_digRow_7 n j y1 y2 y3 v7 σ5))))
theorem f_Maker_digRow_7_s (n : Nat) (j : Nat) (y1 : Int32) (y2 : Int32) (y3 : Int32) (y5 : Int32) (σ : St) : f_Maker_digRow_7 n (j + 1) y1 y2 y3 y5 σ = (bnd (if y2 < y3 then y3 else y2) (fun v2 => if v2 < y5 then (some ((), σ)) else (bd (f_Level_setGround n ((y1 * 12) + y5) 1 σ) (fun _ σ5 => bnd (y5 + 1) (fun v7 => f_Maker_digRow_7 n j y1 y2 y3 v7 σ5))))) := rfl
def f_Maker_digRow (n : Nat) (x1 : Int32) (x2 : Int32) (x3 : Int32) (σ : St) : Option (Unit × St) := bnd (if x3 < x2 then x3 else x2) (fun v1 => f_Maker_digRow_7 n n x1 x2 x3 v1 σ)
set_option maxHeartbeats 4000000 in
set_option maxRecDepth 100000 in
theorem c_Maker_digRow (l : Launch) (D : va_G) (ad : Nat → Nat) (cA : Nat → ClassId) (tz : Nat → Nat) (n : Nat) (x1 : Int32) (x2 : Int32) (x3 : Int32) (σ : St) (r : Unit) (σr : St) (hf : f_Maker_digRow n x1 x2 x3 σ = some (r, σr)) : Kv l D cA tz (wl ad cA) y_Maker_digRow (.code y_Maker_digRow b_Maker_digRow 6 none :: TB) ({ frames := 1, cells := 0, slots := 0, locals := 23 }) [.ref (ad 3), .int x1, .int x2, .int x3, .ref (ad 5)] σ σr := by
  refine x_openv (r := r) (own := R_Maker) rfl (by decide) (fun p e s m args below meth c A Q X hml hZ hA H locs ls h hl rt => ?_)
  have hx := X.1
  have hb := X.2.1
  have hl : lv_has ls 6 [(0, .ref (ad 3)), (1, .int x1), (2, .int x2), (3, .int x3), (4, .ref (ad 5))] := hl
  have L7 : ∀ j : Nat, ∀ (y1 : Int32) (y2 : Int32) (y3 : Int32) (y5 : Int32) (σ : St), f_Maker_digRow_7 n j y1 y2 y3 y5 σ = some (r, σr) → ∀ (H : Heap) (locs : List Loc) (ls : Array Slot), WD D A s (wl ad cA σ) H locs → lv_has ls 6 [(1, .int y1), (2, .int y2), (3, .int y3), (4, .ref (ad 5)), (5, .int y5)] → W p l e ({ frames := 1, cells := 0, slots := 0, locals := 23 }) s m args below meth c H locs 0 0 Q (F0 m 7 ls []) := by
    intro j
    induction j with
    | zero => intro y1 y2 y3 y5 σ hf; exact absurd hf (fun z => by cases z)
    | succ j ih =>
      intro y1 y2 y3 y5 σ hf H locs ls h hl
      have hf := us (f_Maker_digRow_7_s n j y1 y2 y3 y5 σ) hf
      refine lv_iload hx hb d_Maker_digRow_7 (lv_at hl 4 rfl) ?_
      refine lv_iload_n hx hb d_Maker_digRow_9 rfl (lv_at hl 1 rfl) ?_
      refine lv_iload_n hx hb d_Maker_digRow_10 rfl (lv_at hl 2 rfl) ?_
      refine va_mmax hx hb (by rw [hml]; exact hl.1.symm) X.2.2.1 (X.2.2.2.1 _ m_m_Maker_93) (X.2.2.2.1 _ k_Math_max.1) (X.2.2.2.1 _ k_Math_max.2.1) (X.2.2.2.1 _ k_Math_max.2.2) (Nat.le_of_ble_eq_true rfl) (Nat.le_of_ble_eq_true rfl) (Nat.zero_le _) (Nat.zero_le _) d_Maker_digRow_11 ?_
      refine lv_topi (fun v2 ev2 => ?_)
      have hf := nm_b hf ev2
      refine lv_icmp_gt (tgt := 36) hx hb d_Maker_digRow_14 (by decide) (fun c3 => ?_) (fun c3 => ?_)
      · have hf := it c3 hf
        exact rt _ H locs 36 ls hf h d_Maker_digRow_36
      · have hf := ie c3 hf
        refine lv_aload hx hb d_Maker_digRow_17 (lv_at hl 3 rfl) ?_
        refine lv_iload_n hx hb d_Maker_digRow_19 rfl (lv_at hl 0 rfl) ?_
        refine lv_bipush (v := 12) hx hb d_Maker_digRow_20 (by decide) ?_
        refine lv_imul hx hb d_Maker_digRow_22 ?_
        refine lv_iload hx hb d_Maker_digRow_23 (lv_at hl 4 rfl) ?_
        refine lv_iadd hx hb d_Maker_digRow_25 ?_
        refine lv_iconst (v := 1) hx hb d_Maker_digRow_26 (by decide) ?_
        obtain ⟨r4, σ5, h6, hf⟩ := bd_s hf
        refine x_Vv (As := [.int ((y1 * 12) + y5), .int 1]) (rest := []) X hml hl.1 hZ hA h (c_Level_setGround l D ad cA tz n ((y1 * 12) + y5) 1 σ r4 σ5 h6) k_Level_setGround m_m_Maker_57 kd_Level_setGround ⟨rfl, rfl, Nat.le_of_ble_eq_true rfl, Nat.le_of_ble_eq_true rfl⟩ 5 rfl rfl rfl rfl rfl (Nat.le_of_ble_eq_true rfl) d_Maker_digRow_27 (fun H locs h => ?_)
        obtain ⟨v7, ev7⟩ : ∃ y : Int32, y = y5 + 1 := ⟨_, rfl⟩
        have hf := nm_b hf ev7
        refine lv_iinc (v := v7) (lv' := [(5, .int v7), (1, .int y1), (2, .int y2), (3, .int y3), (4, .ref (ad 5))]) hx hb d_Maker_digRow_30 hl (k := 4) rfl (by rw [ev7]; rfl) (by decide) rfl (fun ls hl => ?_)
        refine lv_goto (tgt := 7) hx hb d_Maker_digRow_33 (by decide) ?_
        exact ih y1 y2 y3 v7 σ5 hf H locs ls h (lv_sub hl [1, 2, 3, 4, 0] rfl)
  unfold f_Maker_digRow at hf
  refine lv_iload_n hx hb d_Maker_digRow_0 rfl (lv_at hl 2 rfl) ?_
  refine lv_iload_n hx hb d_Maker_digRow_1 rfl (lv_at hl 3 rfl) ?_
  refine va_mmin hx hb (by rw [hml]; exact hl.1.symm) X.2.2.1 (X.2.2.2.1 _ m_m_Maker_87) (X.2.2.2.1 _ k_Math_min.1) (X.2.2.2.1 _ k_Math_min.2.1) (X.2.2.2.1 _ k_Math_min.2.2) (Nat.le_of_ble_eq_true rfl) (Nat.le_of_ble_eq_true rfl) (Nat.zero_le _) (Nat.zero_le _) d_Maker_digRow_2 ?_
  refine lv_topi (fun v1 ev1 => ?_)
  have hf := nm_b hf ev1
  refine lv_istore (lv' := [(5, .int v1), (0, .ref (ad 3)), (1, .int x1), (2, .int x2), (3, .int x3), (4, .ref (ad 5))]) hx hb d_Maker_digRow_5 hl (by decide) rfl (fun ls hl => ?_)
  exact L7 n x1 x2 x3 v1 σ hf H locs ls h (lv_sub hl [2, 3, 4, 5, 0] rfl)
theorem d_Maker_digColumn_0 : decode b_Maker_digColumn 0 = .ok (.iload_n 2, 1) := by decide +kernel
theorem d_Maker_digColumn_1 : decode b_Maker_digColumn 1 = .ok (.iload_n 3, 1) := by decide +kernel
theorem d_Maker_digColumn_2 : decode b_Maker_digColumn 2 = .ok (.invokestatic 87, 3) := by decide +kernel
theorem d_Maker_digColumn_5 : decode b_Maker_digColumn 5 = .ok (.istore 5, 2) := by decide +kernel
theorem d_Maker_digColumn_7 : decode b_Maker_digColumn 7 = .ok (.iload 5, 2) := by decide +kernel
theorem d_Maker_digColumn_9 : decode b_Maker_digColumn 9 = .ok (.iload_n 2, 1) := by decide +kernel
theorem d_Maker_digColumn_10 : decode b_Maker_digColumn 10 = .ok (.iload_n 3, 1) := by decide +kernel
theorem d_Maker_digColumn_11 : decode b_Maker_digColumn 11 = .ok (.invokestatic 93, 3) := by decide +kernel
theorem d_Maker_digColumn_14 : decode b_Maker_digColumn 14 = .ok (.if_icmp .gt 22, 3) := by decide +kernel
theorem d_Maker_digColumn_17 : decode b_Maker_digColumn 17 = .ok (.aload 4, 2) := by decide +kernel
theorem d_Maker_digColumn_19 : decode b_Maker_digColumn 19 = .ok (.iload 5, 2) := by decide +kernel
theorem d_Maker_digColumn_21 : decode b_Maker_digColumn 21 = .ok (.bipush 12, 2) := by decide +kernel
theorem d_Maker_digColumn_23 : decode b_Maker_digColumn 23 = .ok (.imul, 1) := by decide +kernel
theorem d_Maker_digColumn_24 : decode b_Maker_digColumn 24 = .ok (.iload_n 1, 1) := by decide +kernel
theorem d_Maker_digColumn_25 : decode b_Maker_digColumn 25 = .ok (.iadd, 1) := by decide +kernel
theorem d_Maker_digColumn_26 : decode b_Maker_digColumn 26 = .ok (.iconst 1, 1) := by decide +kernel
theorem d_Maker_digColumn_27 : decode b_Maker_digColumn 27 = .ok (.invokevirtual 57, 3) := by decide +kernel
theorem d_Maker_digColumn_30 : decode b_Maker_digColumn 30 = .ok (.iinc 5 1, 3) := by decide +kernel
theorem d_Maker_digColumn_33 : decode b_Maker_digColumn 33 = .ok (.goto (-26), 3) := by decide +kernel
theorem d_Maker_digColumn_36 : decode b_Maker_digColumn 36 = .ok (.return_, 1) := by decide +kernel
def f_Maker_digColumn_7 (n : Nat) : Nat → Int32 → Int32 → Int32 → Int32 → St → Option (Unit × St)
  | 0, _, _, _, _, _ => none
  | j + 1, y1, y2, y3, y5, σ => bnd (if y2 < y3 then y3 else y2) (fun v2 => if v2 < y5 then (some ((), σ)) else (bd (f_Level_setGround n ((y5 * 12) + y1) 1 σ) (fun _ σ5 => bnd (y5 + 1) (fun v7 => f_Maker_digColumn_7 n j y1 y2 y3 v7 σ5))))
theorem f_Maker_digColumn_7_s (n : Nat) (j : Nat) (y1 : Int32) (y2 : Int32) (y3 : Int32) (y5 : Int32) (σ : St) : f_Maker_digColumn_7 n (j + 1) y1 y2 y3 y5 σ = (bnd (if y2 < y3 then y3 else y2) (fun v2 => if v2 < y5 then (some ((), σ)) else (bd (f_Level_setGround n ((y5 * 12) + y1) 1 σ) (fun _ σ5 => bnd (y5 + 1) (fun v7 => f_Maker_digColumn_7 n j y1 y2 y3 v7 σ5))))) := rfl
def f_Maker_digColumn (n : Nat) (x1 : Int32) (x2 : Int32) (x3 : Int32) (σ : St) : Option (Unit × St) := bnd (if x3 < x2 then x3 else x2) (fun v1 => f_Maker_digColumn_7 n n x1 x2 x3 v1 σ)
set_option maxHeartbeats 4000000 in
set_option maxRecDepth 100000 in
theorem c_Maker_digColumn (l : Launch) (D : va_G) (ad : Nat → Nat) (cA : Nat → ClassId) (tz : Nat → Nat) (n : Nat) (x1 : Int32) (x2 : Int32) (x3 : Int32) (σ : St) (r : Unit) (σr : St) (hf : f_Maker_digColumn n x1 x2 x3 σ = some (r, σr)) : Kv l D cA tz (wl ad cA) y_Maker_digColumn (.code y_Maker_digColumn b_Maker_digColumn 6 none :: TB) ({ frames := 1, cells := 0, slots := 0, locals := 23 }) [.ref (ad 3), .int x1, .int x2, .int x3, .ref (ad 5)] σ σr := by
  refine x_openv (r := r) (own := R_Maker) rfl (by decide) (fun p e s m args below meth c A Q X hml hZ hA H locs ls h hl rt => ?_)
  have hx := X.1
  have hb := X.2.1
  have hl : lv_has ls 6 [(0, .ref (ad 3)), (1, .int x1), (2, .int x2), (3, .int x3), (4, .ref (ad 5))] := hl
  have L7 : ∀ j : Nat, ∀ (y1 : Int32) (y2 : Int32) (y3 : Int32) (y5 : Int32) (σ : St), f_Maker_digColumn_7 n j y1 y2 y3 y5 σ = some (r, σr) → ∀ (H : Heap) (locs : List Loc) (ls : Array Slot), WD D A s (wl ad cA σ) H locs → lv_has ls 6 [(1, .int y1), (2, .int y2), (3, .int y3), (4, .ref (ad 5)), (5, .int y5)] → W p l e ({ frames := 1, cells := 0, slots := 0, locals := 23 }) s m args below meth c H locs 0 0 Q (F0 m 7 ls []) := by
    intro j
    induction j with
    | zero => intro y1 y2 y3 y5 σ hf; exact absurd hf (fun z => by cases z)
    | succ j ih =>
      intro y1 y2 y3 y5 σ hf H locs ls h hl
      have hf := us (f_Maker_digColumn_7_s n j y1 y2 y3 y5 σ) hf
      refine lv_iload hx hb d_Maker_digColumn_7 (lv_at hl 4 rfl) ?_
      refine lv_iload_n hx hb d_Maker_digColumn_9 rfl (lv_at hl 1 rfl) ?_
      refine lv_iload_n hx hb d_Maker_digColumn_10 rfl (lv_at hl 2 rfl) ?_
      refine va_mmax hx hb (by rw [hml]; exact hl.1.symm) X.2.2.1 (X.2.2.2.1 _ m_m_Maker_93) (X.2.2.2.1 _ k_Math_max.1) (X.2.2.2.1 _ k_Math_max.2.1) (X.2.2.2.1 _ k_Math_max.2.2) (Nat.le_of_ble_eq_true rfl) (Nat.le_of_ble_eq_true rfl) (Nat.zero_le _) (Nat.zero_le _) d_Maker_digColumn_11 ?_
      refine lv_topi (fun v2 ev2 => ?_)
      have hf := nm_b hf ev2
      refine lv_icmp_gt (tgt := 36) hx hb d_Maker_digColumn_14 (by decide) (fun c3 => ?_) (fun c3 => ?_)
      · have hf := it c3 hf
        exact rt _ H locs 36 ls hf h d_Maker_digColumn_36
      · have hf := ie c3 hf
        refine lv_aload hx hb d_Maker_digColumn_17 (lv_at hl 3 rfl) ?_
        refine lv_iload hx hb d_Maker_digColumn_19 (lv_at hl 4 rfl) ?_
        refine lv_bipush (v := 12) hx hb d_Maker_digColumn_21 (by decide) ?_
        refine lv_imul hx hb d_Maker_digColumn_23 ?_
        refine lv_iload_n hx hb d_Maker_digColumn_24 rfl (lv_at hl 0 rfl) ?_
        refine lv_iadd hx hb d_Maker_digColumn_25 ?_
        refine lv_iconst (v := 1) hx hb d_Maker_digColumn_26 (by decide) ?_
        obtain ⟨r4, σ5, h6, hf⟩ := bd_s hf
        refine x_Vv (As := [.int ((y5 * 12) + y1), .int 1]) (rest := []) X hml hl.1 hZ hA h (c_Level_setGround l D ad cA tz n ((y5 * 12) + y1) 1 σ r4 σ5 h6) k_Level_setGround m_m_Maker_57 kd_Level_setGround ⟨rfl, rfl, Nat.le_of_ble_eq_true rfl, Nat.le_of_ble_eq_true rfl⟩ 5 rfl rfl rfl rfl rfl (Nat.le_of_ble_eq_true rfl) d_Maker_digColumn_27 (fun H locs h => ?_)
        obtain ⟨v7, ev7⟩ : ∃ y : Int32, y = y5 + 1 := ⟨_, rfl⟩
        have hf := nm_b hf ev7
        refine lv_iinc (v := v7) (lv' := [(5, .int v7), (1, .int y1), (2, .int y2), (3, .int y3), (4, .ref (ad 5))]) hx hb d_Maker_digColumn_30 hl (k := 4) rfl (by rw [ev7]; rfl) (by decide) rfl (fun ls hl => ?_)
        refine lv_goto (tgt := 7) hx hb d_Maker_digColumn_33 (by decide) ?_
        exact ih y1 y2 y3 v7 σ5 hf H locs ls h (lv_sub hl [1, 2, 3, 4, 0] rfl)
  unfold f_Maker_digColumn at hf
  refine lv_iload_n hx hb d_Maker_digColumn_0 rfl (lv_at hl 2 rfl) ?_
  refine lv_iload_n hx hb d_Maker_digColumn_1 rfl (lv_at hl 3 rfl) ?_
  refine va_mmin hx hb (by rw [hml]; exact hl.1.symm) X.2.2.1 (X.2.2.2.1 _ m_m_Maker_87) (X.2.2.2.1 _ k_Math_min.1) (X.2.2.2.1 _ k_Math_min.2.1) (X.2.2.2.1 _ k_Math_min.2.2) (Nat.le_of_ble_eq_true rfl) (Nat.le_of_ble_eq_true rfl) (Nat.zero_le _) (Nat.zero_le _) d_Maker_digColumn_2 ?_
  refine lv_topi (fun v1 ev1 => ?_)
  have hf := nm_b hf ev1
  refine lv_istore (lv' := [(5, .int v1), (0, .ref (ad 3)), (1, .int x1), (2, .int x2), (3, .int x3), (4, .ref (ad 5))]) hx hb d_Maker_digColumn_5 hl (by decide) rfl (fun ls hl => ?_)
  exact L7 n x1 x2 x3 v1 σ hf H locs ls h (lv_sub hl [2, 3, 4, 5, 0] rfl)

