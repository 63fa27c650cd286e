theorem d_Desk_mixHero_0 : decode b_Desk_mixHero 0 = .ok (.aload_n 0, 1) := by decide +kernel
theorem d_Desk_mixHero_1 : decode b_Desk_mixHero 1 = .ok (.getfield 14, 3) := by decide +kernel
theorem d_Desk_mixHero_4 : decode b_Desk_mixHero 4 = .ok (.getfield 45, 3) := by decide +kernel
theorem d_Desk_mixHero_7 : decode b_Desk_mixHero 7 = .ok (.astore_n 3, 1) := by decide +kernel
theorem d_Desk_mixHero_8 : decode b_Desk_mixHero 8 = .ok (.lload_n 1, 1) := by decide +kernel
theorem d_Desk_mixHero_9 : decode b_Desk_mixHero 9 = .ok (.aload_n 3, 1) := by decide +kernel
theorem d_Desk_mixHero_10 : decode b_Desk_mixHero 10 = .ok (.getfield 49, 3) := by decide +kernel
theorem d_Desk_mixHero_13 : decode b_Desk_mixHero 13 = .ok (.bipush 12, 2) := by decide +kernel
theorem d_Desk_mixHero_15 : decode b_Desk_mixHero 15 = .ok (.irem, 1) := by decide +kernel
theorem d_Desk_mixHero_16 : decode b_Desk_mixHero 16 = .ok (.i2l, 1) := by decide +kernel
theorem d_Desk_mixHero_17 : decode b_Desk_mixHero 17 = .ok (.invokestatic 128, 3) := by decide +kernel
theorem d_Desk_mixHero_20 : decode b_Desk_mixHero 20 = .ok (.lstore 4, 2) := by decide +kernel
theorem d_Desk_mixHero_22 : decode b_Desk_mixHero 22 = .ok (.lload 4, 2) := by decide +kernel
theorem d_Desk_mixHero_24 : decode b_Desk_mixHero 24 = .ok (.aload_n 3, 1) := by decide +kernel
theorem d_Desk_mixHero_25 : decode b_Desk_mixHero 25 = .ok (.getfield 49, 3) := by decide +kernel
theorem d_Desk_mixHero_28 : decode b_Desk_mixHero 28 = .ok (.bipush 12, 2) := by decide +kernel
theorem d_Desk_mixHero_30 : decode b_Desk_mixHero 30 = .ok (.idiv, 1) := by decide +kernel
theorem d_Desk_mixHero_31 : decode b_Desk_mixHero 31 = .ok (.i2l, 1) := by decide +kernel
theorem d_Desk_mixHero_32 : decode b_Desk_mixHero 32 = .ok (.invokestatic 128, 3) := by decide +kernel
theorem d_Desk_mixHero_35 : decode b_Desk_mixHero 35 = .ok (.lstore 4, 2) := by decide +kernel
theorem d_Desk_mixHero_37 : decode b_Desk_mixHero 37 = .ok (.lload 4, 2) := by decide +kernel
theorem d_Desk_mixHero_39 : decode b_Desk_mixHero 39 = .ok (.aload_n 3, 1) := by decide +kernel
theorem d_Desk_mixHero_40 : decode b_Desk_mixHero 40 = .ok (.getfield 107, 3) := by decide +kernel
theorem d_Desk_mixHero_43 : decode b_Desk_mixHero 43 = .ok (.i2l, 1) := by decide +kernel
theorem d_Desk_mixHero_44 : decode b_Desk_mixHero 44 = .ok (.invokestatic 128, 3) := by decide +kernel
theorem d_Desk_mixHero_47 : decode b_Desk_mixHero 47 = .ok (.lstore 4, 2) := by decide +kernel
theorem d_Desk_mixHero_49 : decode b_Desk_mixHero 49 = .ok (.lload 4, 2) := by decide +kernel
theorem d_Desk_mixHero_51 : decode b_Desk_mixHero 51 = .ok (.aload_n 3, 1) := by decide +kernel
theorem d_Desk_mixHero_52 : decode b_Desk_mixHero 52 = .ok (.getfield 109, 3) := by decide +kernel
theorem d_Desk_mixHero_55 : decode b_Desk_mixHero 55 = .ok (.i2l, 1) := by decide +kernel
theorem d_Desk_mixHero_56 : decode b_Desk_mixHero 56 = .ok (.invokestatic 128, 3) := by decide +kernel
theorem d_Desk_mixHero_59 : decode b_Desk_mixHero 59 = .ok (.lstore 4, 2) := by decide +kernel
theorem d_Desk_mixHero_61 : decode b_Desk_mixHero 61 = .ok (.lload 4, 2) := by decide +kernel
theorem d_Desk_mixHero_63 : decode b_Desk_mixHero 63 = .ok (.aload_n 3, 1) := by decide +kernel
theorem d_Desk_mixHero_64 : decode b_Desk_mixHero 64 = .ok (.getfield 112, 3) := by decide +kernel
theorem d_Desk_mixHero_67 : decode b_Desk_mixHero 67 = .ok (.i2l, 1) := by decide +kernel
theorem d_Desk_mixHero_68 : decode b_Desk_mixHero 68 = .ok (.invokestatic 128, 3) := by decide +kernel
theorem d_Desk_mixHero_71 : decode b_Desk_mixHero 71 = .ok (.lstore 4, 2) := by decide +kernel
theorem d_Desk_mixHero_73 : decode b_Desk_mixHero 73 = .ok (.lload 4, 2) := by decide +kernel
theorem d_Desk_mixHero_75 : decode b_Desk_mixHero 75 = .ok (.aload_n 3, 1) := by decide +kernel
theorem d_Desk_mixHero_76 : decode b_Desk_mixHero 76 = .ok (.getfield 114, 3) := by decide +kernel
theorem d_Desk_mixHero_79 : decode b_Desk_mixHero 79 = .ok (.i2l, 1) := by decide +kernel
theorem d_Desk_mixHero_80 : decode b_Desk_mixHero 80 = .ok (.invokestatic 128, 3) := by decide +kernel
theorem d_Desk_mixHero_83 : decode b_Desk_mixHero 83 = .ok (.lstore 4, 2) := by decide +kernel
theorem d_Desk_mixHero_85 : decode b_Desk_mixHero 85 = .ok (.lload 4, 2) := by decide +kernel
theorem d_Desk_mixHero_87 : decode b_Desk_mixHero 87 = .ok (.aload_n 3, 1) := by decide +kernel
theorem d_Desk_mixHero_88 : decode b_Desk_mixHero 88 = .ok (.getfield 120, 3) := by decide +kernel
theorem d_Desk_mixHero_91 : decode b_Desk_mixHero 91 = .ok (.i2l, 1) := by decide +kernel
theorem d_Desk_mixHero_92 : decode b_Desk_mixHero 92 = .ok (.invokestatic 128, 3) := by decide +kernel
theorem d_Desk_mixHero_95 : decode b_Desk_mixHero 95 = .ok (.lstore 4, 2) := by decide +kernel
theorem d_Desk_mixHero_97 : decode b_Desk_mixHero 97 = .ok (.iconst 0, 1) := by decide +kernel
theorem d_Desk_mixHero_98 : decode b_Desk_mixHero 98 = .ok (.istore 6, 2) := by decide +kernel
theorem d_Desk_mixHero_100 : decode b_Desk_mixHero 100 = .ok (.iload 6, 2) := by decide +kernel
theorem d_Desk_mixHero_102 : decode b_Desk_mixHero 102 = .ok (.aload_n 3, 1) := by decide +kernel
theorem d_Desk_mixHero_103 : decode b_Desk_mixHero 103 = .ok (.getfield 120, 3) := by decide +kernel
theorem d_Desk_mixHero_106 : decode b_Desk_mixHero 106 = .ok (.if_icmp .ge 23, 3) := by decide +kernel
theorem d_Desk_mixHero_109 : decode b_Desk_mixHero 109 = .ok (.lload 4, 2) := by decide +kernel
theorem d_Desk_mixHero_111 : decode b_Desk_mixHero 111 = .ok (.aload_n 3, 1) := by decide +kernel
theorem d_Desk_mixHero_112 : decode b_Desk_mixHero 112 = .ok (.iload 6, 2) := by decide +kernel
theorem d_Desk_mixHero_114 : decode b_Desk_mixHero 114 = .ok (.invokevirtual 123, 3) := by decide +kernel
theorem d_Desk_mixHero_117 : decode b_Desk_mixHero 117 = .ok (.i2l, 1) := by decide +kernel
theorem d_Desk_mixHero_118 : decode b_Desk_mixHero 118 = .ok (.invokestatic 128, 3) := by decide +kernel
theorem d_Desk_mixHero_121 : decode b_Desk_mixHero 121 = .ok (.lstore 4, 2) := by decide +kernel
theorem d_Desk_mixHero_123 : decode b_Desk_mixHero 123 = .ok (.iinc 6 1, 3) := by decide +kernel
theorem d_Desk_mixHero_126 : decode b_Desk_mixHero 126 = .ok (.goto (-26), 3) := by decide +kernel
theorem d_Desk_mixHero_129 : decode b_Desk_mixHero 129 = .ok (.lload 4, 2) := by decide +kernel
theorem d_Desk_mixHero_131 : decode b_Desk_mixHero 131 = .ok (.lreturn, 1) := by decide +kernel
def f_Desk_mixHero_100 (n : Nat) : Nat → Int64 → Int32 → St → Option (Int64 × St)
  | 0, _, _, _ => none
  | j + 1, y4, y6, σ => if (σ.1 14) ≤ y6 then (some (y4, σ)) else (bd (f_Hero_thingInBag n y6 σ) (fun r23 σ24 => bd (f_Desk_mix n y4 (Int32.toInt64 r23) σ24) (fun r26 σ27 => bnd (y6 + 1) (fun v29 => f_Desk_mixHero_100 n j r26 v29 σ27))))
theorem f_Desk_mixHero_100_s (n : Nat) (j : Nat) (y4 : Int64) (y6 : Int32) (σ : St) : f_Desk_mixHero_100 n (j + 1) y4 y6 σ = (if (σ.1 14) ≤ y6 then (some (y4, σ)) else (bd (f_Hero_thingInBag n y6 σ) (fun r23 σ24 => bd (f_Desk_mix n y4 (Int32.toInt64 r23) σ24) (fun r26 σ27 => bnd (y6 + 1) (fun v29 => f_Desk_mixHero_100 n j r26 v29 σ27))))) := rfl
def f_Desk_mixHero (n : Nat) (x1 : Int64) (σ : St) : Option (Int64 × St) := bd (f_Desk_mix n x1 (Int32.toInt64 ((σ.1 9) - (σ.1 9) / 12 * 12)) σ) (fun r1 σ2 => bd (f_Desk_mix n r1 (Int32.toInt64 ((σ2.1 9) / 12)) σ2) (fun r4 σ5 => bd (f_Desk_mix n r4 (Int32.toInt64 (σ5.1 10)) σ5) (fun r7 σ8 => bd (f_Desk_mix n r7 (Int32.toInt64 (σ8.1 11)) σ8) (fun r10 σ11 => bd (f_Desk_mix n r10 (Int32.toInt64 (σ11.1 12)) σ11) (fun r13 σ14 => bd (f_Desk_mix n r13 (Int32.toInt64 (σ14.1 13)) σ14) (fun r16 σ17 => bd (f_Desk_mix n r16 (Int32.toInt64 (σ17.1 14)) σ17) (fun r19 σ20 => f_Desk_mixHero_100 n n r19 0 σ20)))))))
set_option maxHeartbeats 4000000 in
set_option maxRecDepth 100000 in
theorem c_Desk_mixHero (l : Launch) (D : va_G) (ad : Nat → Nat) (cA : Nat → ClassId) (tz : Nat → Nat) (n : Nat) (x1 : Int64) (σ : St) (r : Int64) (σr : St) (hf : f_Desk_mixHero n x1 σ = some (r, σr)) : Kl l D cA tz (wl ad cA) y_Desk_mixHero (.code y_Desk_mixHero b_Desk_mixHero 7 (some .long) :: TB) ({ frames := 1, cells := 0, slots := 0, locals := 23 }) [.ref (ad 0), .long x1] σ r σr := by
  refine x_openl (own := R_Desk) rfl (by decide) (fun p e s m args below meth c A Q X hml hZ hA H locs ls h hl rt => ?_)
  have hx := X.1
  have hb := X.2.1
  have hl : lv_has ls 7 [(0, .ref (ad 0)), (1, .long x1)] := hl
  have L100 : ∀ j : Nat, ∀ (y4 : Int64) (y6 : Int32) (σ : St), f_Desk_mixHero_100 n j y4 y6 σ = some (r, σr) → ∀ (H : Heap) (locs : List Loc) (ls : Array Slot), WD D A s (wl ad cA σ) H locs → lv_has ls 7 [(3, .ref (ad 8)), (4, .long y4), (6, .int y6)] → W p l e ({ frames := 1, cells := 0, slots := 0, locals := 23 }) s m args below meth c H locs 0 0 Q (F0 m 100 ls []) := by
    intro j
    induction j with
    | zero => intro y4 y6 σ hf; exact absurd hf (fun z => by cases z)
    | succ j ih =>
      intro y4 y6 σ hf H locs ls h hl
      have hf := us (f_Desk_mixHero_100_s n j y4 y6 σ) hf
      refine lv_iload hx hb d_Desk_mixHero_100 (lv_at hl 2 rfl) ?_
      refine lv_aload_n hx hb d_Desk_mixHero_102 rfl (lv_at hl 0 rfl) ?_
      refine G_hero_bagSize X h m_f_Desk_120 d_Desk_mixHero_103 ?_
      refine lv_icmp_ge (tgt := 129) hx hb d_Desk_mixHero_106 (by decide) (fun c22 => ?_) (fun c22 => ?_)
      · have hf := it c22 hf
        refine lv_lload hx hb d_Desk_mixHero_129 (lv_at hl 1 rfl) ?_
        exact rt _ _ H locs 131 ls hf h d_Desk_mixHero_131
      · have hf := ie c22 hf
        refine lv_lload hx hb d_Desk_mixHero_109 (lv_at hl 1 rfl) ?_
        refine lv_aload_n hx hb d_Desk_mixHero_111 rfl (lv_at hl 0 rfl) ?_
        refine lv_iload hx hb d_Desk_mixHero_112 (lv_at hl 2 rfl) ?_
        obtain ⟨r23, σ24, h25, hf⟩ := bd_s hf
        refine x_Vi (As := [.int y6]) (rest := [.long y4]) X hml hl.1 hZ hA h (c_Hero_thingInBag l D ad cA tz n y6 σ r23 σ24 h25) k_Hero_thingInBag m_m_Desk_123 kd_Hero_thingInBag ⟨rfl, rfl, Nat.le_of_ble_eq_true rfl, Nat.le_of_ble_eq_true rfl⟩ 8 rfl rfl rfl rfl rfl (Nat.le_of_ble_eq_true rfl) d_Desk_mixHero_114 (fun H locs h => ?_)
        refine lv_i2l hx hb d_Desk_mixHero_117 rfl ?_
        obtain ⟨r26, σ27, h28, hf⟩ := bd_s hf
        refine x_Sl (As := [.long y4, .long (Int32.toInt64 r23)]) (rest := []) X hml hl.1 hZ hA h (c_Desk_mix l D ad cA tz n y4 (Int32.toInt64 r23) σ24 r26 σ27 h28) k_Desk_mix m_m_Desk_128 kd_Desk_mix ⟨rfl, rfl, Nat.le_of_ble_eq_true rfl, Nat.le_of_ble_eq_true rfl⟩ rfl rfl (Nat.le_of_ble_eq_true rfl) d_Desk_mixHero_118 (fun H locs h => ?_)
        refine lv_lstore (lv' := [(4, .long r26), (3, .ref (ad 8)), (6, .int y6)]) hx hb d_Desk_mixHero_121 hl (by decide) rfl (fun ls hl => ?_)
        obtain ⟨v29, ev29⟩ : ∃ y : Int32, y = y6 + 1 := ⟨_, rfl⟩
        have hf := nm_b hf ev29
        refine lv_iinc (v := v29) (lv' := [(6, .int v29), (4, .long r26), (3, .ref (ad 8))]) hx hb d_Desk_mixHero_123 hl (k := 2) rfl (by rw [ev29]; rfl) (by decide) rfl (fun ls hl => ?_)
        refine lv_goto (tgt := 100) hx hb d_Desk_mixHero_126 (by decide) ?_
        exact ih r26 v29 σ27 hf H locs ls h (lv_sub hl [2, 1, 0] rfl)
  unfold f_Desk_mixHero at hf
  refine lv_aload_n hx hb d_Desk_mixHero_0 rfl (lv_at hl 0 rfl) ?_
  refine G_desk_game X h m_f_Desk_14 d_Desk_mixHero_1 ?_
  refine G_game_hero X h m_f_Desk_45 d_Desk_mixHero_4 ?_
  refine lv_astore_n (lv' := [(3, .ref (ad 8)), (0, .ref (ad 0)), (1, .long x1)]) hx hb d_Desk_mixHero_7 rfl hl (by decide) rfl (fun ls hl => ?_)
  refine lv_lload_n hx hb d_Desk_mixHero_8 rfl (lv_at hl 2 rfl) ?_
  refine lv_aload_n hx hb d_Desk_mixHero_9 rfl (lv_at hl 0 rfl) ?_
  refine G_hero_place X h m_f_Desk_49 d_Desk_mixHero_10 ?_
  refine lv_bipush (v := 12) hx hb d_Desk_mixHero_13 (by decide) ?_
  refine lv_irem hx hb d_Desk_mixHero_15 (by decide) ?_
  refine lv_i2l hx hb d_Desk_mixHero_16 rfl ?_
  obtain ⟨r1, σ2, h3, hf⟩ := bd_s hf
  refine x_Sl (As := [.long x1, .long (Int32.toInt64 ((σ.1 9) - (σ.1 9) / 12 * 12))]) (rest := []) X hml hl.1 hZ hA h (c_Desk_mix l D ad cA tz n x1 (Int32.toInt64 ((σ.1 9) - (σ.1 9) / 12 * 12)) σ r1 σ2 h3) k_Desk_mix m_m_Desk_128 kd_Desk_mix ⟨rfl, rfl, Nat.le_of_ble_eq_true rfl, Nat.le_of_ble_eq_true rfl⟩ rfl rfl (Nat.le_of_ble_eq_true rfl) d_Desk_mixHero_17 (fun H locs h => ?_)
  refine lv_lstore (lv' := [(4, .long r1), (3, .ref (ad 8)), (0, .ref (ad 0)), (1, .long x1)]) hx hb d_Desk_mixHero_20 hl (by decide) rfl (fun ls hl => ?_)
  refine lv_lload hx hb d_Desk_mixHero_22 (lv_at hl 0 rfl) ?_
  refine lv_aload_n hx hb d_Desk_mixHero_24 rfl (lv_at hl 1 rfl) ?_
  refine G_hero_place X h m_f_Desk_49 d_Desk_mixHero_25 ?_
  refine lv_bipush (v := 12) hx hb d_Desk_mixHero_28 (by decide) ?_
  refine lv_idiv hx hb d_Desk_mixHero_30 (by decide) ?_
  refine lv_i2l hx hb d_Desk_mixHero_31 rfl ?_
  obtain ⟨r4, σ5, h6, hf⟩ := bd_s hf
  refine x_Sl (As := [.long r1, .long (Int32.toInt64 ((σ2.1 9) / 12))]) (rest := []) X hml hl.1 hZ hA h (c_Desk_mix l D ad cA tz n r1 (Int32.toInt64 ((σ2.1 9) / 12)) σ2 r4 σ5 h6) k_Desk_mix m_m_Desk_128 kd_Desk_mix ⟨rfl, rfl, Nat.le_of_ble_eq_true rfl, Nat.le_of_ble_eq_true rfl⟩ rfl rfl (Nat.le_of_ble_eq_true rfl) d_Desk_mixHero_32 (fun H locs h => ?_)
  refine lv_lstore (lv' := [(4, .long r4), (3, .ref (ad 8)), (0, .ref (ad 0)), (1, .long x1)]) hx hb d_Desk_mixHero_35 hl (by decide) rfl (fun ls hl => ?_)
  refine lv_lload hx hb d_Desk_mixHero_37 (lv_at hl 0 rfl) ?_
  refine lv_aload_n hx hb d_Desk_mixHero_39 rfl (lv_at hl 1 rfl) ?_
  refine G_hero_health X h m_f_Desk_107 d_Desk_mixHero_40 ?_
  refine lv_i2l hx hb d_Desk_mixHero_43 rfl ?_
  obtain ⟨r7, σ8, h9, hf⟩ := bd_s hf
  refine x_Sl (As := [.long r4, .long (Int32.toInt64 (σ5.1 10))]) (rest := []) X hml hl.1 hZ hA h (c_Desk_mix l D ad cA tz n r4 (Int32.toInt64 (σ5.1 10)) σ5 r7 σ8 h9) k_Desk_mix m_m_Desk_128 kd_Desk_mix ⟨rfl, rfl, Nat.le_of_ble_eq_true rfl, Nat.le_of_ble_eq_true rfl⟩ rfl rfl (Nat.le_of_ble_eq_true rfl) d_Desk_mixHero_44 (fun H locs h => ?_)
  refine lv_lstore (lv' := [(4, .long r7), (3, .ref (ad 8)), (0, .ref (ad 0)), (1, .long x1)]) hx hb d_Desk_mixHero_47 hl (by decide) rfl (fun ls hl => ?_)
  refine lv_lload hx hb d_Desk_mixHero_49 (lv_at hl 0 rfl) ?_
  refine lv_aload_n hx hb d_Desk_mixHero_51 rfl (lv_at hl 1 rfl) ?_
  refine G_hero_hit X h m_f_Desk_109 d_Desk_mixHero_52 ?_
  refine lv_i2l hx hb d_Desk_mixHero_55 rfl ?_
  obtain ⟨r10, σ11, h12, hf⟩ := bd_s hf
  refine x_Sl (As := [.long r7, .long (Int32.toInt64 (σ8.1 11))]) (rest := []) X hml hl.1 hZ hA h (c_Desk_mix l D ad cA tz n r7 (Int32.toInt64 (σ8.1 11)) σ8 r10 σ11 h12) k_Desk_mix m_m_Desk_128 kd_Desk_mix ⟨rfl, rfl, Nat.le_of_ble_eq_true rfl, Nat.le_of_ble_eq_true rfl⟩ rfl rfl (Nat.le_of_ble_eq_true rfl) d_Desk_mixHero_56 (fun H locs h => ?_)
  refine lv_lstore (lv' := [(4, .long r10), (3, .ref (ad 8)), (0, .ref (ad 0)), (1, .long x1)]) hx hb d_Desk_mixHero_59 hl (by decide) rfl (fun ls hl => ?_)
  refine lv_lload hx hb d_Desk_mixHero_61 (lv_at hl 0 rfl) ?_
  refine lv_aload_n hx hb d_Desk_mixHero_63 rfl (lv_at hl 1 rfl) ?_
  refine G_hero_energy X h m_f_Desk_112 d_Desk_mixHero_64 ?_
  refine lv_i2l hx hb d_Desk_mixHero_67 rfl ?_
  obtain ⟨r13, σ14, h15, hf⟩ := bd_s hf
  refine x_Sl (As := [.long r10, .long (Int32.toInt64 (σ11.1 12))]) (rest := []) X hml hl.1 hZ hA h (c_Desk_mix l D ad cA tz n r10 (Int32.toInt64 (σ11.1 12)) σ11 r13 σ14 h15) k_Desk_mix m_m_Desk_128 kd_Desk_mix ⟨rfl, rfl, Nat.le_of_ble_eq_true rfl, Nat.le_of_ble_eq_true rfl⟩ rfl rfl (Nat.le_of_ble_eq_true rfl) d_Desk_mixHero_68 (fun H locs h => ?_)
  refine lv_lstore (lv' := [(4, .long r13), (3, .ref (ad 8)), (0, .ref (ad 0)), (1, .long x1)]) hx hb d_Desk_mixHero_71 hl (by decide) rfl (fun ls hl => ?_)
  refine lv_lload hx hb d_Desk_mixHero_73 (lv_at hl 0 rfl) ?_
  refine lv_aload_n hx hb d_Desk_mixHero_75 rfl (lv_at hl 1 rfl) ?_
  refine G_hero_haste X h m_f_Desk_114 d_Desk_mixHero_76 ?_
  refine lv_i2l hx hb d_Desk_mixHero_79 rfl ?_
  obtain ⟨r16, σ17, h18, hf⟩ := bd_s hf
  refine x_Sl (As := [.long r13, .long (Int32.toInt64 (σ14.1 13))]) (rest := []) X hml hl.1 hZ hA h (c_Desk_mix l D ad cA tz n r13 (Int32.toInt64 (σ14.1 13)) σ14 r16 σ17 h18) k_Desk_mix m_m_Desk_128 kd_Desk_mix ⟨rfl, rfl, Nat.le_of_ble_eq_true rfl, Nat.le_of_ble_eq_true rfl⟩ rfl rfl (Nat.le_of_ble_eq_true rfl) d_Desk_mixHero_80 (fun H locs h => ?_)
  refine lv_lstore (lv' := [(4, .long r16), (3, .ref (ad 8)), (0, .ref (ad 0)), (1, .long x1)]) hx hb d_Desk_mixHero_83 hl (by decide) rfl (fun ls hl => ?_)
  refine lv_lload hx hb d_Desk_mixHero_85 (lv_at hl 0 rfl) ?_
  refine lv_aload_n hx hb d_Desk_mixHero_87 rfl (lv_at hl 1 rfl) ?_
  refine G_hero_bagSize X h m_f_Desk_120 d_Desk_mixHero_88 ?_
  refine lv_i2l hx hb d_Desk_mixHero_91 rfl ?_
  obtain ⟨r19, σ20, h21, hf⟩ := bd_s hf
  refine x_Sl (As := [.long r16, .long (Int32.toInt64 (σ17.1 14))]) (rest := []) X hml hl.1 hZ hA h (c_Desk_mix l D ad cA tz n r16 (Int32.toInt64 (σ17.1 14)) σ17 r19 σ20 h21) k_Desk_mix m_m_Desk_128 kd_Desk_mix ⟨rfl, rfl, Nat.le_of_ble_eq_true rfl, Nat.le_of_ble_eq_true rfl⟩ rfl rfl (Nat.le_of_ble_eq_true rfl) d_Desk_mixHero_92 (fun H locs h => ?_)
  refine lv_lstore (lv' := [(4, .long r19), (3, .ref (ad 8)), (0, .ref (ad 0)), (1, .long x1)]) hx hb d_Desk_mixHero_95 hl (by decide) rfl (fun ls hl => ?_)
  refine lv_iconst (v := 0) hx hb d_Desk_mixHero_97 (by decide) ?_
  refine lv_istore (lv' := [(6, .int 0), (4, .long r19), (3, .ref (ad 8)), (0, .ref (ad 0)), (1, .long x1)]) hx hb d_Desk_mixHero_98 hl (by decide) rfl (fun ls hl => ?_)
  exact L100 n r19 0 σ20 hf H locs ls h (lv_sub hl [2, 1, 0] rfl)
theorem d_Desk_mixMonsters_0 : decode b_Desk_mixMonsters 0 = .ok (.aload_n 0, 1) := by decide +kernel
theorem d_Desk_mixMonsters_1 : decode b_Desk_mixMonsters 1 = .ok (.getfield 14, 3) := by decide +kernel
theorem d_Desk_mixMonsters_4 : decode b_Desk_mixMonsters 4 = .ok (.getfield 76, 3) := by decide +kernel
theorem d_Desk_mixMonsters_7 : decode b_Desk_mixMonsters 7 = .ok (.astore_n 3, 1) := by decide +kernel
theorem d_Desk_mixMonsters_8 : decode b_Desk_mixMonsters 8 = .ok (.lload_n 1, 1) := by decide +kernel
theorem d_Desk_mixMonsters_9 : decode b_Desk_mixMonsters 9 = .ok (.lstore 4, 2) := by decide +kernel
theorem d_Desk_mixMonsters_11 : decode b_Desk_mixMonsters 11 = .ok (.iconst 0, 1) := by decide +kernel
theorem d_Desk_mixMonsters_12 : decode b_Desk_mixMonsters 12 = .ok (.istore 6, 2) := by decide +kernel
theorem d_Desk_mixMonsters_14 : decode b_Desk_mixMonsters 14 = .ok (.iload 6, 2) := by decide +kernel
theorem d_Desk_mixMonsters_16 : decode b_Desk_mixMonsters 16 = .ok (.aload_n 3, 1) := by decide +kernel
theorem d_Desk_mixMonsters_17 : decode b_Desk_mixMonsters 17 = .ok (.getfield 154, 3) := by decide +kernel
theorem d_Desk_mixMonsters_20 : decode b_Desk_mixMonsters 20 = .ok (.if_icmp .ge 114, 3) := by decide +kernel
theorem d_Desk_mixMonsters_23 : decode b_Desk_mixMonsters 23 = .ok (.aload_n 3, 1) := by decide +kernel
theorem d_Desk_mixMonsters_24 : decode b_Desk_mixMonsters 24 = .ok (.iload 6, 2) := by decide +kernel
theorem d_Desk_mixMonsters_26 : decode b_Desk_mixMonsters 26 = .ok (.invokevirtual 85, 3) := by decide +kernel
theorem d_Desk_mixMonsters_29 : decode b_Desk_mixMonsters 29 = .ok (.ifCond .eq 99, 3) := by decide +kernel
theorem d_Desk_mixMonsters_32 : decode b_Desk_mixMonsters 32 = .ok (.lload 4, 2) := by decide +kernel
theorem d_Desk_mixMonsters_34 : decode b_Desk_mixMonsters 34 = .ok (.aload_n 3, 1) := by decide +kernel
theorem d_Desk_mixMonsters_35 : decode b_Desk_mixMonsters 35 = .ok (.getfield 89, 3) := by decide +kernel
theorem d_Desk_mixMonsters_38 : decode b_Desk_mixMonsters 38 = .ok (.iload 6, 2) := by decide +kernel
theorem d_Desk_mixMonsters_40 : decode b_Desk_mixMonsters 40 = .ok (.iaload, 1) := by decide +kernel
theorem d_Desk_mixMonsters_41 : decode b_Desk_mixMonsters 41 = .ok (.i2l, 1) := by decide +kernel
theorem d_Desk_mixMonsters_42 : decode b_Desk_mixMonsters 42 = .ok (.invokestatic 128, 3) := by decide +kernel
theorem d_Desk_mixMonsters_45 : decode b_Desk_mixMonsters 45 = .ok (.lstore 4, 2) := by decide +kernel
theorem d_Desk_mixMonsters_47 : decode b_Desk_mixMonsters 47 = .ok (.lload 4, 2) := by decide +kernel
theorem d_Desk_mixMonsters_49 : decode b_Desk_mixMonsters 49 = .ok (.aload_n 3, 1) := by decide +kernel
theorem d_Desk_mixMonsters_50 : decode b_Desk_mixMonsters 50 = .ok (.getfield 92, 3) := by decide +kernel
theorem d_Desk_mixMonsters_53 : decode b_Desk_mixMonsters 53 = .ok (.iload 6, 2) := by decide +kernel
theorem d_Desk_mixMonsters_55 : decode b_Desk_mixMonsters 55 = .ok (.iaload, 1) := by decide +kernel
theorem d_Desk_mixMonsters_56 : decode b_Desk_mixMonsters 56 = .ok (.bipush 12, 2) := by decide +kernel
theorem d_Desk_mixMonsters_58 : decode b_Desk_mixMonsters 58 = .ok (.irem, 1) := by decide +kernel
theorem d_Desk_mixMonsters_59 : decode b_Desk_mixMonsters 59 = .ok (.i2l, 1) := by decide +kernel
theorem d_Desk_mixMonsters_60 : decode b_Desk_mixMonsters 60 = .ok (.invokestatic 128, 3) := by decide +kernel
theorem d_Desk_mixMonsters_63 : decode b_Desk_mixMonsters 63 = .ok (.lstore 4, 2) := by decide +kernel
theorem d_Desk_mixMonsters_65 : decode b_Desk_mixMonsters 65 = .ok (.lload 4, 2) := by decide +kernel
theorem d_Desk_mixMonsters_67 : decode b_Desk_mixMonsters 67 = .ok (.aload_n 3, 1) := by decide +kernel
theorem d_Desk_mixMonsters_68 : decode b_Desk_mixMonsters 68 = .ok (.getfield 92, 3) := by decide +kernel
theorem d_Desk_mixMonsters_71 : decode b_Desk_mixMonsters 71 = .ok (.iload 6, 2) := by decide +kernel
theorem d_Desk_mixMonsters_73 : decode b_Desk_mixMonsters 73 = .ok (.iaload, 1) := by decide +kernel
theorem d_Desk_mixMonsters_74 : decode b_Desk_mixMonsters 74 = .ok (.bipush 12, 2) := by decide +kernel
theorem d_Desk_mixMonsters_76 : decode b_Desk_mixMonsters 76 = .ok (.idiv, 1) := by decide +kernel
theorem d_Desk_mixMonsters_77 : decode b_Desk_mixMonsters 77 = .ok (.i2l, 1) := by decide +kernel
theorem d_Desk_mixMonsters_78 : decode b_Desk_mixMonsters 78 = .ok (.invokestatic 128, 3) := by decide +kernel
theorem d_Desk_mixMonsters_81 : decode b_Desk_mixMonsters 81 = .ok (.lstore 4, 2) := by decide +kernel
theorem d_Desk_mixMonsters_83 : decode b_Desk_mixMonsters 83 = .ok (.lload 4, 2) := by decide +kernel
theorem d_Desk_mixMonsters_85 : decode b_Desk_mixMonsters 85 = .ok (.aload_n 3, 1) := by decide +kernel
theorem d_Desk_mixMonsters_86 : decode b_Desk_mixMonsters 86 = .ok (.getfield 94, 3) := by decide +kernel
theorem d_Desk_mixMonsters_89 : decode b_Desk_mixMonsters 89 = .ok (.iload 6, 2) := by decide +kernel
theorem d_Desk_mixMonsters_91 : decode b_Desk_mixMonsters 91 = .ok (.iaload, 1) := by decide +kernel
theorem d_Desk_mixMonsters_92 : decode b_Desk_mixMonsters 92 = .ok (.i2l, 1) := by decide +kernel
theorem d_Desk_mixMonsters_93 : decode b_Desk_mixMonsters 93 = .ok (.invokestatic 128, 3) := by decide +kernel
theorem d_Desk_mixMonsters_96 : decode b_Desk_mixMonsters 96 = .ok (.lstore 4, 2) := by decide +kernel
theorem d_Desk_mixMonsters_98 : decode b_Desk_mixMonsters 98 = .ok (.lload 4, 2) := by decide +kernel
theorem d_Desk_mixMonsters_100 : decode b_Desk_mixMonsters 100 = .ok (.aload_n 3, 1) := by decide +kernel
theorem d_Desk_mixMonsters_101 : decode b_Desk_mixMonsters 101 = .ok (.getfield 97, 3) := by decide +kernel
theorem d_Desk_mixMonsters_104 : decode b_Desk_mixMonsters 104 = .ok (.iload 6, 2) := by decide +kernel
theorem d_Desk_mixMonsters_106 : decode b_Desk_mixMonsters 106 = .ok (.iaload, 1) := by decide +kernel
theorem d_Desk_mixMonsters_107 : decode b_Desk_mixMonsters 107 = .ok (.i2l, 1) := by decide +kernel
theorem d_Desk_mixMonsters_108 : decode b_Desk_mixMonsters 108 = .ok (.invokestatic 128, 3) := by decide +kernel
theorem d_Desk_mixMonsters_111 : decode b_Desk_mixMonsters 111 = .ok (.lstore 4, 2) := by decide +kernel
theorem d_Desk_mixMonsters_113 : decode b_Desk_mixMonsters 113 = .ok (.lload 4, 2) := by decide +kernel
theorem d_Desk_mixMonsters_115 : decode b_Desk_mixMonsters 115 = .ok (.aload_n 3, 1) := by decide +kernel
theorem d_Desk_mixMonsters_116 : decode b_Desk_mixMonsters 116 = .ok (.getfield 100, 3) := by decide +kernel
theorem d_Desk_mixMonsters_119 : decode b_Desk_mixMonsters 119 = .ok (.iload 6, 2) := by decide +kernel
theorem d_Desk_mixMonsters_121 : decode b_Desk_mixMonsters 121 = .ok (.iaload, 1) := by decide +kernel
theorem d_Desk_mixMonsters_122 : decode b_Desk_mixMonsters 122 = .ok (.i2l, 1) := by decide +kernel
theorem d_Desk_mixMonsters_123 : decode b_Desk_mixMonsters 123 = .ok (.invokestatic 128, 3) := by decide +kernel
theorem d_Desk_mixMonsters_126 : decode b_Desk_mixMonsters 126 = .ok (.lstore 4, 2) := by decide +kernel
theorem d_Desk_mixMonsters_128 : decode b_Desk_mixMonsters 128 = .ok (.iinc 6 1, 3) := by decide +kernel
theorem d_Desk_mixMonsters_131 : decode b_Desk_mixMonsters 131 = .ok (.goto (-117), 3) := by decide +kernel
theorem d_Desk_mixMonsters_134 : decode b_Desk_mixMonsters 134 = .ok (.lload 4, 2) := by decide +kernel
theorem d_Desk_mixMonsters_136 : decode b_Desk_mixMonsters 136 = .ok (.lreturn, 1) := by decide +kernel
def f_Desk_mixMonsters_14 (n : Nat) : Nat → Int64 → Int32 → St → Option (Int64 × St)
  | 0, _, _, _ => none
  | j + 1, y4, y6, σ => if (σ.1 7) ≤ y6 then (some (y4, σ)) else (bd (f_Monsters_isThere n y6 σ) (fun r2 σ3 => if r2 = 0 then (bnd (y6 + 1) (fun v6 => f_Desk_mixMonsters_14 n j y4 v6 σ3)) else (gd (inb y6 5) (bd (f_Desk_mix n y4 (Int32.toInt64 (σ3.2.2 4 y6.toNatClampNeg)) σ3) (fun r8 σ9 => gd (inb y6 5) (bd (f_Desk_mix n r8 (Int32.toInt64 ((σ9.2.2 5 y6.toNatClampNeg) - (σ9.2.2 5 y6.toNatClampNeg) / 12 * 12)) σ9) (fun r12 σ13 => gd (inb y6 5) (bd (f_Desk_mix n r12 (Int32.toInt64 ((σ13.2.2 5 y6.toNatClampNeg) / 12)) σ13) (fun r16 σ17 => gd (inb y6 5) (bd (f_Desk_mix n r16 (Int32.toInt64 (σ17.2.2 6 y6.toNatClampNeg)) σ17) (fun r20 σ21 => gd (inb y6 5) (bd (f_Desk_mix n r20 (Int32.toInt64 (σ21.2.2 7 y6.toNatClampNeg)) σ21) (fun r24 σ25 => gd (inb y6 5) (bd (f_Desk_mix n r24 (Int32.toInt64 (σ25.2.2 8 y6.toNatClampNeg)) σ25) (fun r28 σ29 => bnd (y6 + 1) (fun v31 => f_Desk_mixMonsters_14 n j r28 v31 σ29))))))))))))))))
theorem f_Desk_mixMonsters_14_s (n : Nat) (j : Nat) (y4 : Int64) (y6 : Int32) (σ : St) : f_Desk_mixMonsters_14 n (j + 1) y4 y6 σ = (if (σ.1 7) ≤ y6 then (some (y4, σ)) else (bd (f_Monsters_isThere n y6 σ) (fun r2 σ3 => if r2 = 0 then (bnd (y6 + 1) (fun v6 => f_Desk_mixMonsters_14 n j y4 v6 σ3)) else (gd (inb y6 5) (bd (f_Desk_mix n y4 (Int32.toInt64 (σ3.2.2 4 y6.toNatClampNeg)) σ3) (fun r8 σ9 => gd (inb y6 5) (bd (f_Desk_mix n r8 (Int32.toInt64 ((σ9.2.2 5 y6.toNatClampNeg) - (σ9.2.2 5 y6.toNatClampNeg) / 12 * 12)) σ9) (fun r12 σ13 => gd (inb y6 5) (bd (f_Desk_mix n r12 (Int32.toInt64 ((σ13.2.2 5 y6.toNatClampNeg) / 12)) σ13) (fun r16 σ17 => gd (inb y6 5) (bd (f_Desk_mix n r16 (Int32.toInt64 (σ17.2.2 6 y6.toNatClampNeg)) σ17) (fun r20 σ21 => gd (inb y6 5) (bd (f_Desk_mix n r20 (Int32.toInt64 (σ21.2.2 7 y6.toNatClampNeg)) σ21) (fun r24 σ25 => gd (inb y6 5) (bd (f_Desk_mix n r24 (Int32.toInt64 (σ25.2.2 8 y6.toNatClampNeg)) σ25) (fun r28 σ29 => bnd (y6 + 1) (fun v31 => f_Desk_mixMonsters_14 n j r28 v31 σ29))))))))))))))))) := rfl
def f_Desk_mixMonsters (n : Nat) (x1 : Int64) (σ : St) : Option (Int64 × St) := f_Desk_mixMonsters_14 n n x1 0 σ
set_option maxHeartbeats 4000000 in
set_option maxRecDepth 100000 in
theorem c_Desk_mixMonsters (l : Launch) (D : va_G) (ad : Nat → Nat) (cA : Nat → ClassId) (tz : Nat → Nat) (n : Nat) (x1 : Int64) (σ : St) (r : Int64) (σr : St) (hf : f_Desk_mixMonsters n x1 σ = some (r, σr)) : Kl l D cA tz (wl ad cA) y_Desk_mixMonsters (.code y_Desk_mixMonsters b_Desk_mixMonsters 7 (some .long) :: TB) ({ frames := 1, cells := 0, slots := 0, locals := 23 }) [.ref (ad 0), .long x1] σ r σr := by
  refine x_openl (own := R_Desk) rfl (by decide) (fun p e s m args below meth c A Q X hml hZ hA H locs ls h hl rt => ?_)
  have hx := X.1
  have hb := X.2.1
  have hl : lv_has ls 7 [(0, .ref (ad 0)), (1, .long x1)] := hl
  have L14 : ∀ j : Nat, ∀ (y4 : Int64) (y6 : Int32) (σ : St), f_Desk_mixMonsters_14 n j y4 y6 σ = some (r, σr) → ∀ (H : Heap) (locs : List Loc) (ls : Array Slot), WD D A s (wl ad cA σ) H locs → lv_has ls 7 [(3, .ref (ad 6)), (4, .long y4), (6, .int y6)] → W p l e ({ frames := 1, cells := 0, slots := 0, locals := 23 }) s m args below meth c H locs 0 0 Q (F0 m 14 ls []) := by
    intro j
    induction j with
    | zero => intro y4 y6 σ hf; exact absurd hf (fun z => by cases z)
    | succ j ih =>
      intro y4 y6 σ hf H locs ls h hl
      have hf := us (f_Desk_mixMonsters_14_s n j y4 y6 σ) hf
      refine lv_iload hx hb d_Desk_mixMonsters_14 (lv_at hl 2 rfl) ?_
      refine lv_aload_n hx hb d_Desk_mixMonsters_16 rfl (lv_at hl 0 rfl) ?_
      refine G_monsters_made X h m_f_Desk_154 d_Desk_mixMonsters_17 ?_
      refine lv_icmp_ge (tgt := 134) hx hb d_Desk_mixMonsters_20 (by decide) (fun c1 => ?_) (fun c1 => ?_)
      · have hf := it c1 hf
        refine lv_lload hx hb d_Desk_mixMonsters_134 (lv_at hl 1 rfl) ?_
        exact rt _ _ H locs 136 ls hf h d_Desk_mixMonsters_136
      · have hf := ie c1 hf
        refine lv_aload_n hx hb d_Desk_mixMonsters_23 rfl (lv_at hl 0 rfl) ?_
        refine lv_iload hx hb d_Desk_mixMonsters_24 (lv_at hl 2 rfl) ?_
        obtain ⟨r2, σ3, h4, hf⟩ := bd_s hf
        refine x_Vi (As := [.int y6]) (rest := []) X hml hl.1 hZ hA h (c_Monsters_isThere l D ad cA tz n y6 σ r2 σ3 h4) k_Monsters_isThere m_m_Desk_85 kd_Monsters_isThere ⟨rfl, rfl, Nat.le_of_ble_eq_true rfl, Nat.le_of_ble_eq_true rfl⟩ 6 rfl rfl rfl rfl rfl (Nat.le_of_ble_eq_true rfl) d_Desk_mixMonsters_26 (fun H locs h => ?_)
        refine lv_if_eq (tgt := 128) hx hb d_Desk_mixMonsters_29 (by decide) (fun c5 => ?_) (fun c5 => ?_)
        · have hf := it c5 hf
          obtain ⟨v6, ev6⟩ : ∃ y : Int32, y = y6 + 1 := ⟨_, rfl⟩
          have hf := nm_b hf ev6
          refine lv_iinc (v := v6) (lv' := [(6, .int v6), (3, .ref (ad 6)), (4, .long y4)]) hx hb d_Desk_mixMonsters_128 hl (k := 2) rfl (by rw [ev6]; rfl) (by decide) rfl (fun ls hl => ?_)
          refine lv_goto (tgt := 14) hx hb d_Desk_mixMonsters_131 (by decide) ?_
          exact ih y4 v6 σ3 hf H locs ls h (lv_sub hl [1, 2, 0] rfl)
        · have hf := ie c5 hf
          refine lv_lload hx hb d_Desk_mixMonsters_32 (lv_at hl 1 rfl) ?_
          refine lv_aload_n hx hb d_Desk_mixMonsters_34 rfl (lv_at hl 0 rfl) ?_
          refine G_monsters_kind X h m_f_Desk_89 d_Desk_mixMonsters_35 ?_
          refine lv_iload hx hb d_Desk_mixMonsters_38 (lv_at hl 2 rfl) ?_
          obtain ⟨g7, hf⟩ := gd_s hf
          refine R_kind X h (inb_s g7) d_Desk_mixMonsters_40 ?_
          refine lv_i2l hx hb d_Desk_mixMonsters_41 rfl ?_
          obtain ⟨r8, σ9, h10, hf⟩ := bd_s hf
          refine x_Sl (As := [.long y4, .long (Int32.toInt64 (σ3.2.2 4 y6.toNatClampNeg))]) (rest := []) X hml hl.1 hZ hA h (c_Desk_mix l D ad cA tz n y4 (Int32.toInt64 (σ3.2.2 4 y6.toNatClampNeg)) σ3 r8 σ9 h10) k_Desk_mix m_m_Desk_128 kd_Desk_mix ⟨rfl, rfl, Nat.le_of_ble_eq_true rfl, Nat.le_of_ble_eq_true rfl⟩ rfl rfl (Nat.le_of_ble_eq_true rfl) d_Desk_mixMonsters_42 (fun H locs h => ?_)
          refine lv_lstore (lv' := [(4, .long r8), (3, .ref (ad 6)), (6, .int y6)]) hx hb d_Desk_mixMonsters_45 hl (by decide) rfl (fun ls hl => ?_)
          refine lv_lload hx hb d_Desk_mixMonsters_47 (lv_at hl 0 rfl) ?_
          refine lv_aload_n hx hb d_Desk_mixMonsters_49 rfl (lv_at hl 1 rfl) ?_
          refine G_monsters_place X h m_f_Desk_92 d_Desk_mixMonsters_50 ?_
          refine lv_iload hx hb d_Desk_mixMonsters_53 (lv_at hl 2 rfl) ?_
          obtain ⟨g11, hf⟩ := gd_s hf
          refine R_place X h (inb_s g11) d_Desk_mixMonsters_55 ?_
          refine lv_bipush (v := 12) hx hb d_Desk_mixMonsters_56 (by decide) ?_
          refine lv_irem hx hb d_Desk_mixMonsters_58 (by decide) ?_
          refine lv_i2l hx hb d_Desk_mixMonsters_59 rfl ?_
          obtain ⟨r12, σ13, h14, hf⟩ := bd_s hf
          refine x_Sl (As := [.long r8, .long (Int32.toInt64 ((σ9.2.2 5 y6.toNatClampNeg) - (σ9.2.2 5 y6.toNatClampNeg) / 12 * 12))]) (rest := []) X hml hl.1 hZ hA h (c_Desk_mix l D ad cA tz n r8 (Int32.toInt64 ((σ9.2.2 5 y6.toNatClampNeg) - (σ9.2.2 5 y6.toNatClampNeg) / 12 * 12)) σ9 r12 σ13 h14) k_Desk_mix m_m_Desk_128 kd_Desk_mix ⟨rfl, rfl, Nat.le_of_ble_eq_true rfl, Nat.le_of_ble_eq_true rfl⟩ rfl rfl (Nat.le_of_ble_eq_true rfl) d_Desk_mixMonsters_60 (fun H locs h => ?_)
          refine lv_lstore (lv' := [(4, .long r12), (3, .ref (ad 6)), (6, .int y6)]) hx hb d_Desk_mixMonsters_63 hl (by decide) rfl (fun ls hl => ?_)
          refine lv_lload hx hb d_Desk_mixMonsters_65 (lv_at hl 0 rfl) ?_
          refine lv_aload_n hx hb d_Desk_mixMonsters_67 rfl (lv_at hl 1 rfl) ?_
          refine G_monsters_place X h m_f_Desk_92 d_Desk_mixMonsters_68 ?_
          refine lv_iload hx hb d_Desk_mixMonsters_71 (lv_at hl 2 rfl) ?_
          obtain ⟨g15, hf⟩ := gd_s hf
          refine R_place X h (inb_s g15) d_Desk_mixMonsters_73 ?_
          refine lv_bipush (v := 12) hx hb d_Desk_mixMonsters_74 (by decide) ?_
          refine lv_idiv hx hb d_Desk_mixMonsters_76 (by decide) ?_
          refine lv_i2l hx hb d_Desk_mixMonsters_77 rfl ?_
          obtain ⟨r16, σ17, h18, hf⟩ := bd_s hf
          refine x_Sl (As := [.long r12, .long (Int32.toInt64 ((σ13.2.2 5 y6.toNatClampNeg) / 12))]) (rest := []) X hml hl.1 hZ hA h (c_Desk_mix l D ad cA tz n r12 (Int32.toInt64 ((σ13.2.2 5 y6.toNatClampNeg) / 12)) σ13 r16 σ17 h18) k_Desk_mix m_m_Desk_128 kd_Desk_mix ⟨rfl, rfl, Nat.le_of_ble_eq_true rfl, Nat.le_of_ble_eq_true rfl⟩ rfl rfl (Nat.le_of_ble_eq_true rfl) d_Desk_mixMonsters_78 (fun H locs h => ?_)
          refine lv_lstore (lv' := [(4, .long r16), (3, .ref (ad 6)), (6, .int y6)]) hx hb d_Desk_mixMonsters_81 hl (by decide) rfl (fun ls hl => ?_)
          refine lv_lload hx hb d_Desk_mixMonsters_83 (lv_at hl 0 rfl) ?_
          refine lv_aload_n hx hb d_Desk_mixMonsters_85 rfl (lv_at hl 1 rfl) ?_
          refine G_monsters_health X h m_f_Desk_94 d_Desk_mixMonsters_86 ?_
          refine lv_iload hx hb d_Desk_mixMonsters_89 (lv_at hl 2 rfl) ?_
          obtain ⟨g19, hf⟩ := gd_s hf
          refine R_health X h (inb_s g19) d_Desk_mixMonsters_91 ?_
          refine lv_i2l hx hb d_Desk_mixMonsters_92 rfl ?_
          obtain ⟨r20, σ21, h22, hf⟩ := bd_s hf
          refine x_Sl (As := [.long r16, .long (Int32.toInt64 (σ17.2.2 6 y6.toNatClampNeg))]) (rest := []) X hml hl.1 hZ hA h (c_Desk_mix l D ad cA tz n r16 (Int32.toInt64 (σ17.2.2 6 y6.toNatClampNeg)) σ17 r20 σ21 h22) k_Desk_mix m_m_Desk_128 kd_Desk_mix ⟨rfl, rfl, Nat.le_of_ble_eq_true rfl, Nat.le_of_ble_eq_true rfl⟩ rfl rfl (Nat.le_of_ble_eq_true rfl) d_Desk_mixMonsters_93 (fun H locs h => ?_)
          refine lv_lstore (lv' := [(4, .long r20), (3, .ref (ad 6)), (6, .int y6)]) hx hb d_Desk_mixMonsters_96 hl (by decide) rfl (fun ls hl => ?_)
          refine lv_lload hx hb d_Desk_mixMonsters_98 (lv_at hl 0 rfl) ?_
          refine lv_aload_n hx hb d_Desk_mixMonsters_100 rfl (lv_at hl 1 rfl) ?_
          refine G_monsters_energy X h m_f_Desk_97 d_Desk_mixMonsters_101 ?_
          refine lv_iload hx hb d_Desk_mixMonsters_104 (lv_at hl 2 rfl) ?_
          obtain ⟨g23, hf⟩ := gd_s hf
          refine R_energy X h (inb_s g23) d_Desk_mixMonsters_106 ?_
          refine lv_i2l hx hb d_Desk_mixMonsters_107 rfl ?_
          obtain ⟨r24, σ25, h26, hf⟩ := bd_s hf
          refine x_Sl (As := [.long r20, .long (Int32.toInt64 (σ21.2.2 7 y6.toNatClampNeg))]) (rest := []) X hml hl.1 hZ hA h (c_Desk_mix l D ad cA tz n r20 (Int32.toInt64 (σ21.2.2 7 y6.toNatClampNeg)) σ21 r24 σ25 h26) k_Desk_mix m_m_Desk_128 kd_Desk_mix ⟨rfl, rfl, Nat.le_of_ble_eq_true rfl, Nat.le_of_ble_eq_true rfl⟩ rfl rfl (Nat.le_of_ble_eq_true rfl) d_Desk_mixMonsters_108 (fun H locs h => ?_)
          refine lv_lstore (lv' := [(4, .long r24), (3, .ref (ad 6)), (6, .int y6)]) hx hb d_Desk_mixMonsters_111 hl (by decide) rfl (fun ls hl => ?_)
          refine lv_lload hx hb d_Desk_mixMonsters_113 (lv_at hl 0 rfl) ?_
          refine lv_aload_n hx hb d_Desk_mixMonsters_115 rfl (lv_at hl 1 rfl) ?_
          refine G_monsters_awake X h m_f_Desk_100 d_Desk_mixMonsters_116 ?_
          refine lv_iload hx hb d_Desk_mixMonsters_119 (lv_at hl 2 rfl) ?_
          obtain ⟨g27, hf⟩ := gd_s hf
          refine R_awake X h (inb_s g27) d_Desk_mixMonsters_121 ?_
          refine lv_i2l hx hb d_Desk_mixMonsters_122 rfl ?_
          obtain ⟨r28, σ29, h30, hf⟩ := bd_s hf
          refine x_Sl (As := [.long r24, .long (Int32.toInt64 (σ25.2.2 8 y6.toNatClampNeg))]) (rest := []) X hml hl.1 hZ hA h (c_Desk_mix l D ad cA tz n r24 (Int32.toInt64 (σ25.2.2 8 y6.toNatClampNeg)) σ25 r28 σ29 h30) k_Desk_mix m_m_Desk_128 kd_Desk_mix ⟨rfl, rfl, Nat.le_of_ble_eq_true rfl, Nat.le_of_ble_eq_true rfl⟩ rfl rfl (Nat.le_of_ble_eq_true rfl) d_Desk_mixMonsters_123 (fun H locs h => ?_)
          refine lv_lstore (lv' := [(4, .long r28), (3, .ref (ad 6)), (6, .int y6)]) hx hb d_Desk_mixMonsters_126 hl (by decide) rfl (fun ls hl => ?_)
          obtain ⟨v31, ev31⟩ : ∃ y : Int32, y = y6 + 1 := ⟨_, rfl⟩
          have hf := nm_b hf ev31
          refine lv_iinc (v := v31) (lv' := [(6, .int v31), (4, .long r28), (3, .ref (ad 6))]) hx hb d_Desk_mixMonsters_128 hl (k := 2) rfl (by rw [ev31]; rfl) (by decide) rfl (fun ls hl => ?_)
          refine lv_goto (tgt := 14) hx hb d_Desk_mixMonsters_131 (by decide) ?_
          exact ih r28 v31 σ29 hf H locs ls h (lv_sub hl [2, 1, 0] rfl)
  unfold f_Desk_mixMonsters at hf
  refine lv_aload_n hx hb d_Desk_mixMonsters_0 rfl (lv_at hl 0 rfl) ?_
  refine G_desk_game X h m_f_Desk_14 d_Desk_mixMonsters_1 ?_
  refine G_game_monsters X h m_f_Desk_76 d_Desk_mixMonsters_4 ?_
  refine lv_astore_n (lv' := [(3, .ref (ad 6)), (0, .ref (ad 0)), (1, .long x1)]) hx hb d_Desk_mixMonsters_7 rfl hl (by decide) rfl (fun ls hl => ?_)
  refine lv_lload_n hx hb d_Desk_mixMonsters_8 rfl (lv_at hl 2 rfl) ?_
  refine lv_lstore (lv' := [(4, .long x1), (3, .ref (ad 6)), (0, .ref (ad 0)), (1, .long x1)]) hx hb d_Desk_mixMonsters_9 hl (by decide) rfl (fun ls hl => ?_)
  refine lv_iconst (v := 0) hx hb d_Desk_mixMonsters_11 (by decide) ?_
  refine lv_istore (lv' := [(6, .int 0), (4, .long x1), (3, .ref (ad 6)), (0, .ref (ad 0)), (1, .long x1)]) hx hb d_Desk_mixMonsters_12 hl (by decide) rfl (fun ls hl => ?_)
  exact L14 n x1 0 σ hf H locs ls h (lv_sub hl [2, 1, 0] rfl)
theorem d_Desk_mixThings_0 : decode b_Desk_mixThings 0 = .ok (.aload_n 0, 1) := by decide +kernel
theorem d_Desk_mixThings_1 : decode b_Desk_mixThings 1 = .ok (.getfield 14, 3) := by decide +kernel
theorem d_Desk_mixThings_4 : decode b_Desk_mixThings 4 = .ok (.getfield 36, 3) := by decide +kernel
theorem d_Desk_mixThings_7 : decode b_Desk_mixThings 7 = .ok (.getfield 64, 3) := by decide +kernel
theorem d_Desk_mixThings_10 : decode b_Desk_mixThings 10 = .ok (.astore_n 3, 1) := by decide +kernel
theorem d_Desk_mixThings_11 : decode b_Desk_mixThings 11 = .ok (.lload_n 1, 1) := by decide +kernel
theorem d_Desk_mixThings_12 : decode b_Desk_mixThings 12 = .ok (.lstore 4, 2) := by decide +kernel
theorem d_Desk_mixThings_14 : decode b_Desk_mixThings 14 = .ok (.iconst 0, 1) := by decide +kernel
theorem d_Desk_mixThings_15 : decode b_Desk_mixThings 15 = .ok (.istore 6, 2) := by decide +kernel
theorem d_Desk_mixThings_17 : decode b_Desk_mixThings 17 = .ok (.iload 6, 2) := by decide +kernel
theorem d_Desk_mixThings_19 : decode b_Desk_mixThings 19 = .ok (.bipush 120, 2) := by decide +kernel
theorem d_Desk_mixThings_21 : decode b_Desk_mixThings 21 = .ok (.if_icmp .ge 52, 3) := by decide +kernel
theorem d_Desk_mixThings_24 : decode b_Desk_mixThings 24 = .ok (.aload_n 3, 1) := by decide +kernel
theorem d_Desk_mixThings_25 : decode b_Desk_mixThings 25 = .ok (.iload 6, 2) := by decide +kernel
theorem d_Desk_mixThings_27 : decode b_Desk_mixThings 27 = .ok (.iaload, 1) := by decide +kernel
theorem d_Desk_mixThings_28 : decode b_Desk_mixThings 28 = .ok (.ifCond .eq 39, 3) := by decide +kernel
theorem d_Desk_mixThings_31 : decode b_Desk_mixThings 31 = .ok (.lload 4, 2) := by decide +kernel
theorem d_Desk_mixThings_33 : decode b_Desk_mixThings 33 = .ok (.bipush 16, 2) := by decide +kernel
theorem d_Desk_mixThings_35 : decode b_Desk_mixThings 35 = .ok (.iload 6, 2) := by decide +kernel
theorem d_Desk_mixThings_37 : decode b_Desk_mixThings 37 = .ok (.bipush 12, 2) := by decide +kernel
theorem d_Desk_mixThings_39 : decode b_Desk_mixThings 39 = .ok (.idiv, 1) := by decide +kernel
theorem d_Desk_mixThings_40 : decode b_Desk_mixThings 40 = .ok (.imul, 1) := by decide +kernel
theorem d_Desk_mixThings_41 : decode b_Desk_mixThings 41 = .ok (.iload 6, 2) := by decide +kernel
theorem d_Desk_mixThings_43 : decode b_Desk_mixThings 43 = .ok (.bipush 12, 2) := by decide +kernel
theorem d_Desk_mixThings_45 : decode b_Desk_mixThings 45 = .ok (.irem, 1) := by decide +kernel
theorem d_Desk_mixThings_46 : decode b_Desk_mixThings 46 = .ok (.iadd, 1) := by decide +kernel
theorem d_Desk_mixThings_47 : decode b_Desk_mixThings 47 = .ok (.i2l, 1) := by decide +kernel
theorem d_Desk_mixThings_48 : decode b_Desk_mixThings 48 = .ok (.invokestatic 128, 3) := by decide +kernel
theorem d_Desk_mixThings_51 : decode b_Desk_mixThings 51 = .ok (.lstore 4, 2) := by decide +kernel
theorem d_Desk_mixThings_53 : decode b_Desk_mixThings 53 = .ok (.lload 4, 2) := by decide +kernel
theorem d_Desk_mixThings_55 : decode b_Desk_mixThings 55 = .ok (.aload_n 3, 1) := by decide +kernel
theorem d_Desk_mixThings_56 : decode b_Desk_mixThings 56 = .ok (.iload 6, 2) := by decide +kernel
theorem d_Desk_mixThings_58 : decode b_Desk_mixThings 58 = .ok (.iaload, 1) := by decide +kernel
theorem d_Desk_mixThings_59 : decode b_Desk_mixThings 59 = .ok (.iconst 1, 1) := by decide +kernel
theorem d_Desk_mixThings_60 : decode b_Desk_mixThings 60 = .ok (.isub, 1) := by decide +kernel
theorem d_Desk_mixThings_61 : decode b_Desk_mixThings 61 = .ok (.i2l, 1) := by decide +kernel
theorem d_Desk_mixThings_62 : decode b_Desk_mixThings 62 = .ok (.invokestatic 128, 3) := by decide +kernel
theorem d_Desk_mixThings_65 : decode b_Desk_mixThings 65 = .ok (.lstore 4, 2) := by decide +kernel
theorem d_Desk_mixThings_67 : decode b_Desk_mixThings 67 = .ok (.iinc 6 1, 3) := by decide +kernel
theorem d_Desk_mixThings_70 : decode b_Desk_mixThings 70 = .ok (.goto (-53), 3) := by decide +kernel
theorem d_Desk_mixThings_73 : decode b_Desk_mixThings 73 = .ok (.lload 4, 2) := by decide +kernel
theorem d_Desk_mixThings_75 : decode b_Desk_mixThings 75 = .ok (.lreturn, 1) := by decide +kernel
def f_Desk_mixThings_17 (n : Nat) : Nat → Int64 → Int32 → St → Option (Int64 × St)
  | 0, _, _, _ => none
  | j + 1, y4, y6, σ => if 120 ≤ y6 then (some (y4, σ)) else (gd (inb y6 120) (if (σ.2.2 2 y6.toNatClampNeg) = 0 then (bnd (y6 + 1) (fun v4 => f_Desk_mixThings_17 n j y4 v4 σ)) else (bd (f_Desk_mix n y4 (Int32.toInt64 ((16 * (y6 / 12)) + (y6 - y6 / 12 * 12))) σ) (fun r5 σ6 => gd (inb y6 120) (bd (f_Desk_mix n r5 (Int32.toInt64 ((σ6.2.2 2 y6.toNatClampNeg) - 1)) σ6) (fun r9 σ10 => bnd (y6 + 1) (fun v12 => f_Desk_mixThings_17 n j r9 v12 σ10)))))))
theorem f_Desk_mixThings_17_s (n : Nat) (j : Nat) (y4 : Int64) (y6 : Int32) (σ : St) : f_Desk_mixThings_17 n (j + 1) y4 y6 σ = (if 120 ≤ y6 then (some (y4, σ)) else (gd (inb y6 120) (if (σ.2.2 2 y6.toNatClampNeg) = 0 then (bnd (y6 + 1) (fun v4 => f_Desk_mixThings_17 n j y4 v4 σ)) else (bd (f_Desk_mix n y4 (Int32.toInt64 ((16 * (y6 / 12)) + (y6 - y6 / 12 * 12))) σ) (fun r5 σ6 => gd (inb y6 120) (bd (f_Desk_mix n r5 (Int32.toInt64 ((σ6.2.2 2 y6.toNatClampNeg) - 1)) σ6) (fun r9 σ10 => bnd (y6 + 1) (fun v12 => f_Desk_mixThings_17 n j r9 v12 σ10)))))))) := rfl
def f_Desk_mixThings (n : Nat) (x1 : Int64) (σ : St) : Option (Int64 × St) := f_Desk_mixThings_17 n n x1 0 σ
set_option maxHeartbeats 4000000 in
set_option maxRecDepth 100000 in
theorem c_Desk_mixThings (l : Launch) (D : va_G) (ad : Nat → Nat) (cA : Nat → ClassId) (tz : Nat → Nat) (n : Nat) (x1 : Int64) (σ : St) (r : Int64) (σr : St) (hf : f_Desk_mixThings n x1 σ = some (r, σr)) : Kl l D cA tz (wl ad cA) y_Desk_mixThings (.code y_Desk_mixThings b_Desk_mixThings 7 (some .long) :: TB) ({ frames := 1, cells := 0, slots := 0, locals := 23 }) [.ref (ad 0), .long x1] σ r σr := by
  refine x_openl (own := R_Desk) rfl (by decide) (fun p e s m args below meth c A Q X hml hZ hA H locs ls h hl rt => ?_)
  have hx := X.1
  have hb := X.2.1
  have hl : lv_has ls 7 [(0, .ref (ad 0)), (1, .long x1)] := hl
  have L17 : ∀ j : Nat, ∀ (y4 : Int64) (y6 : Int32) (σ : St), f_Desk_mixThings_17 n j y4 y6 σ = some (r, σr) → ∀ (H : Heap) (locs : List Loc) (ls : Array Slot), WD D A s (wl ad cA σ) H locs → lv_has ls 7 [(3, .ref (ad 11)), (4, .long y4), (6, .int y6)] → W p l e ({ frames := 1, cells := 0, slots := 0, locals := 23 }) s m args below meth c H locs 0 0 Q (F0 m 17 ls []) := by
    intro j
    induction j with
    | zero => intro y4 y6 σ hf; exact absurd hf (fun z => by cases z)
    | succ j ih =>
      intro y4 y6 σ hf H locs ls h hl
      have hf := us (f_Desk_mixThings_17_s n j y4 y6 σ) hf
      refine lv_iload hx hb d_Desk_mixThings_17 (lv_at hl 2 rfl) ?_
      refine lv_bipush (v := 120) hx hb d_Desk_mixThings_19 (by decide) ?_
      refine lv_icmp_ge (tgt := 73) hx hb d_Desk_mixThings_21 (by decide) (fun c1 => ?_) (fun c1 => ?_)
      · have hf := it c1 hf
        refine lv_lload hx hb d_Desk_mixThings_73 (lv_at hl 1 rfl) ?_
        exact rt _ _ H locs 75 ls hf h d_Desk_mixThings_75
      · have hf := ie c1 hf
        refine lv_aload_n hx hb d_Desk_mixThings_24 rfl (lv_at hl 0 rfl) ?_
        refine lv_iload hx hb d_Desk_mixThings_25 (lv_at hl 2 rfl) ?_
        obtain ⟨g2, hf⟩ := gd_s hf
        refine R_things X h (inb_s g2) d_Desk_mixThings_27 ?_
        refine lv_if_eq (tgt := 67) hx hb d_Desk_mixThings_28 (by decide) (fun c3 => ?_) (fun c3 => ?_)
        · have hf := it c3 hf
          obtain ⟨v4, ev4⟩ : ∃ y : Int32, y = y6 + 1 := ⟨_, rfl⟩
          have hf := nm_b hf ev4
          refine lv_iinc (v := v4) (lv' := [(6, .int v4), (3, .ref (ad 11)), (4, .long y4)]) hx hb d_Desk_mixThings_67 hl (k := 2) rfl (by rw [ev4]; rfl) (by decide) rfl (fun ls hl => ?_)
          refine lv_goto (tgt := 17) hx hb d_Desk_mixThings_70 (by decide) ?_
          exact ih y4 v4 σ hf H locs ls h (lv_sub hl [1, 2, 0] rfl)
        · have hf := ie c3 hf
          refine lv_lload hx hb d_Desk_mixThings_31 (lv_at hl 1 rfl) ?_
          refine lv_bipush (v := 16) hx hb d_Desk_mixThings_33 (by decide) ?_
          refine lv_iload hx hb d_Desk_mixThings_35 (lv_at hl 2 rfl) ?_
          refine lv_bipush (v := 12) hx hb d_Desk_mixThings_37 (by decide) ?_
          refine lv_idiv hx hb d_Desk_mixThings_39 (by decide) ?_
          refine lv_imul hx hb d_Desk_mixThings_40 ?_
          refine lv_iload hx hb d_Desk_mixThings_41 (lv_at hl 2 rfl) ?_
          refine lv_bipush (v := 12) hx hb d_Desk_mixThings_43 (by decide) ?_
          refine lv_irem hx hb d_Desk_mixThings_45 (by decide) ?_
          refine lv_iadd hx hb d_Desk_mixThings_46 ?_
          refine lv_i2l hx hb d_Desk_mixThings_47 rfl ?_
          obtain ⟨r5, σ6, h7, hf⟩ := bd_s hf
          refine x_Sl (As := [.long y4, .long (Int32.toInt64 ((16 * (y6 / 12)) + (y6 - y6 / 12 * 12)))]) (rest := []) X hml hl.1 hZ hA h (c_Desk_mix l D ad cA tz n y4 (Int32.toInt64 ((16 * (y6 / 12)) + (y6 - y6 / 12 * 12))) σ r5 σ6 h7) k_Desk_mix m_m_Desk_128 kd_Desk_mix ⟨rfl, rfl, Nat.le_of_ble_eq_true rfl, Nat.le_of_ble_eq_true rfl⟩ rfl rfl (Nat.le_of_ble_eq_true rfl) d_Desk_mixThings_48 (fun H locs h => ?_)
          refine lv_lstore (lv' := [(4, .long r5), (3, .ref (ad 11)), (6, .int y6)]) hx hb d_Desk_mixThings_51 hl (by decide) rfl (fun ls hl => ?_)
          refine lv_lload hx hb d_Desk_mixThings_53 (lv_at hl 0 rfl) ?_
          refine lv_aload_n hx hb d_Desk_mixThings_55 rfl (lv_at hl 1 rfl) ?_
          refine lv_iload hx hb d_Desk_mixThings_56 (lv_at hl 2 rfl) ?_
          obtain ⟨g8, hf⟩ := gd_s hf
          refine R_things X h (inb_s g8) d_Desk_mixThings_58 ?_
          refine lv_iconst (v := 1) hx hb d_Desk_mixThings_59 (by decide) ?_
          refine lv_isub hx hb d_Desk_mixThings_60 ?_
          refine lv_i2l hx hb d_Desk_mixThings_61 rfl ?_
          obtain ⟨r9, σ10, h11, hf⟩ := bd_s hf
          refine x_Sl (As := [.long r5, .long (Int32.toInt64 ((σ6.2.2 2 y6.toNatClampNeg) - 1))]) (rest := []) X hml hl.1 hZ hA h (c_Desk_mix l D ad cA tz n r5 (Int32.toInt64 ((σ6.2.2 2 y6.toNatClampNeg) - 1)) σ6 r9 σ10 h11) k_Desk_mix m_m_Desk_128 kd_Desk_mix ⟨rfl, rfl, Nat.le_of_ble_eq_true rfl, Nat.le_of_ble_eq_true rfl⟩ rfl rfl (Nat.le_of_ble_eq_true rfl) d_Desk_mixThings_62 (fun H locs h => ?_)
          refine lv_lstore (lv' := [(4, .long r9), (3, .ref (ad 11)), (6, .int y6)]) hx hb d_Desk_mixThings_65 hl (by decide) rfl (fun ls hl => ?_)
          obtain ⟨v12, ev12⟩ : ∃ y : Int32, y = y6 + 1 := ⟨_, rfl⟩
          have hf := nm_b hf ev12
          refine lv_iinc (v := v12) (lv' := [(6, .int v12), (4, .long r9), (3, .ref (ad 11))]) hx hb d_Desk_mixThings_67 hl (k := 2) rfl (by rw [ev12]; rfl) (by decide) rfl (fun ls hl => ?_)
          refine lv_goto (tgt := 17) hx hb d_Desk_mixThings_70 (by decide) ?_
          exact ih r9 v12 σ10 hf H locs ls h (lv_sub hl [2, 1, 0] rfl)
  unfold f_Desk_mixThings at hf
  refine lv_aload_n hx hb d_Desk_mixThings_0 rfl (lv_at hl 0 rfl) ?_
  refine G_desk_game X h m_f_Desk_14 d_Desk_mixThings_1 ?_
  refine G_game_level X h m_f_Desk_36 d_Desk_mixThings_4 ?_
  refine G_level_things X h m_f_Desk_64 d_Desk_mixThings_7 ?_
  refine lv_astore_n (lv' := [(3, .ref (ad 11)), (0, .ref (ad 0)), (1, .long x1)]) hx hb d_Desk_mixThings_10 rfl hl (by decide) rfl (fun ls hl => ?_)
  refine lv_lload_n hx hb d_Desk_mixThings_11 rfl (lv_at hl 2 rfl) ?_
  refine lv_lstore (lv' := [(4, .long x1), (3, .ref (ad 11)), (0, .ref (ad 0)), (1, .long x1)]) hx hb d_Desk_mixThings_12 hl (by decide) rfl (fun ls hl => ?_)
  refine lv_iconst (v := 0) hx hb d_Desk_mixThings_14 (by decide) ?_
  refine lv_istore (lv' := [(6, .int 0), (4, .long x1), (3, .ref (ad 11)), (0, .ref (ad 0)), (1, .long x1)]) hx hb d_Desk_mixThings_15 hl (by decide) rfl (fun ls hl => ?_)
  exact L17 n x1 0 σ hf H locs ls h (lv_sub hl [2, 1, 0] rfl)
theorem d_Desk_hash_0 : decode b_Desk_hash 0 = .ok (.ldc2_w 126, 3) := by decide +kernel
theorem d_Desk_hash_3 : decode b_Desk_hash 3 = .ok (.aload_n 0, 1) := by decide +kernel
theorem d_Desk_hash_4 : decode b_Desk_hash 4 = .ok (.getfield 14, 3) := by decide +kernel
theorem d_Desk_hash_7 : decode b_Desk_hash 7 = .ok (.getfield 117, 3) := by decide +kernel
theorem d_Desk_hash_10 : decode b_Desk_hash 10 = .ok (.i2l, 1) := by decide +kernel
theorem d_Desk_hash_11 : decode b_Desk_hash 11 = .ok (.invokestatic 128, 3) := by decide +kernel
theorem d_Desk_hash_14 : decode b_Desk_hash 14 = .ok (.lstore_n 1, 1) := by decide +kernel
theorem d_Desk_hash_15 : decode b_Desk_hash 15 = .ok (.aload_n 0, 1) := by decide +kernel
theorem d_Desk_hash_16 : decode b_Desk_hash 16 = .ok (.lload_n 1, 1) := by decide +kernel
theorem d_Desk_hash_17 : decode b_Desk_hash 17 = .ok (.invokevirtual 132, 3) := by decide +kernel
theorem d_Desk_hash_20 : decode b_Desk_hash 20 = .ok (.lstore_n 1, 1) := by decide +kernel
theorem d_Desk_hash_21 : decode b_Desk_hash 21 = .ok (.aload_n 0, 1) := by decide +kernel
theorem d_Desk_hash_22 : decode b_Desk_hash 22 = .ok (.lload_n 1, 1) := by decide +kernel
theorem d_Desk_hash_23 : decode b_Desk_hash 23 = .ok (.invokevirtual 136, 3) := by decide +kernel
theorem d_Desk_hash_26 : decode b_Desk_hash 26 = .ok (.lstore_n 1, 1) := by decide +kernel
theorem d_Desk_hash_27 : decode b_Desk_hash 27 = .ok (.aload_n 0, 1) := by decide +kernel
theorem d_Desk_hash_28 : decode b_Desk_hash 28 = .ok (.lload_n 1, 1) := by decide +kernel
theorem d_Desk_hash_29 : decode b_Desk_hash 29 = .ok (.invokevirtual 139, 3) := by decide +kernel
theorem d_Desk_hash_32 : decode b_Desk_hash 32 = .ok (.lstore_n 1, 1) := by decide +kernel
theorem d_Desk_hash_33 : decode b_Desk_hash 33 = .ok (.lload_n 1, 1) := by decide +kernel
theorem d_Desk_hash_34 : decode b_Desk_hash 34 = .ok (.aload_n 0, 1) := by decide +kernel
theorem d_Desk_hash_35 : decode b_Desk_hash 35 = .ok (.getfield 14, 3) := by decide +kernel
theorem d_Desk_hash_38 : decode b_Desk_hash 38 = .ok (.getfield 142, 3) := by decide +kernel
theorem d_Desk_hash_41 : decode b_Desk_hash 41 = .ok (.getfield 146, 3) := by decide +kernel
theorem d_Desk_hash_44 : decode b_Desk_hash 44 = .ok (.invokestatic 128, 3) := by decide +kernel
theorem d_Desk_hash_47 : decode b_Desk_hash 47 = .ok (.lreturn, 1) := by decide +kernel
def f_Desk_hash (n : Nat) (σ : St) : Option (Int64 × St) := bd (f_Desk_mix n 17 (Int32.toInt64 (σ.1 2)) σ) (fun r1 σ2 => bd (f_Desk_mixHero n r1 σ2) (fun r4 σ5 => bd (f_Desk_mixMonsters n r4 σ5) (fun r7 σ8 => bd (f_Desk_mixThings n r7 σ8) (fun r10 σ11 => bd (f_Desk_mix n r10 (σ11.2.1 0) σ11) (fun r13 σ14 => some (r13, σ14))))))
set_option maxHeartbeats 4000000 in
set_option maxRecDepth 100000 in
theorem c_Desk_hash (l : Launch) (D : va_G) (ad : Nat → Nat) (cA : Nat → ClassId) (tz : Nat → Nat) (n : Nat) (σ : St) (r : Int64) (σr : St) (hf : f_Desk_hash n σ = some (r, σr)) : Kl l D cA tz (wl ad cA) y_Desk_hash (.code y_Desk_hash b_Desk_hash 3 (some .long) :: TB) ({ frames := 2, cells := 0, slots := 0, locals := 49 }) [.ref (ad 0)] σ r σr := by
  refine x_openl (own := R_Desk) rfl (by decide) (fun p e s m args below meth c A Q X hml hZ hA H locs ls h hl rt => ?_)
  have hx := X.1
  have hb := X.2.1
  have hl : lv_has ls 3 [(0, .ref (ad 0))] := hl
  unfold f_Desk_hash at hf
  refine lv_ldc2 (v := 17) hx hb X.2.2.1 (X.2.2.2.1 _ m_kl_Desk_126) d_Desk_hash_0 ?_
  refine lv_aload_n hx hb d_Desk_hash_3 rfl (lv_at hl 0 rfl) ?_
  refine G_desk_game X h m_f_Desk_14 d_Desk_hash_4 ?_
  refine G_game_depth X h m_f_Desk_117 d_Desk_hash_7 ?_
  refine lv_i2l hx hb d_Desk_hash_10 rfl ?_
  obtain ⟨r1, σ2, h3, hf⟩ := bd_s hf
  refine x_Sl (As := [.long 17, .long (Int32.toInt64 (σ.1 2))]) (rest := []) X hml hl.1 hZ hA h (c_Desk_mix l D ad cA tz n 17 (Int32.toInt64 (σ.1 2)) σ r1 σ2 h3) k_Desk_mix m_m_Desk_128 kd_Desk_mix ⟨rfl, rfl, Nat.le_of_ble_eq_true rfl, Nat.le_of_ble_eq_true rfl⟩ rfl rfl (Nat.le_of_ble_eq_true rfl) d_Desk_hash_11 (fun H locs h => ?_)
  refine lv_lstore_n (lv' := [(1, .long r1), (0, .ref (ad 0))]) hx hb d_Desk_hash_14 rfl hl (by decide) rfl (fun ls hl => ?_)
  refine lv_aload_n hx hb d_Desk_hash_15 rfl (lv_at hl 1 rfl) ?_
  refine lv_lload_n hx hb d_Desk_hash_16 rfl (lv_at hl 0 rfl) ?_
  obtain ⟨r4, σ5, h6, hf⟩ := bd_s hf
  refine x_Vl (As := [.long r1]) (rest := []) X hml hl.1 hZ hA h (c_Desk_mixHero l D ad cA tz n r1 σ2 r4 σ5 h6) k_Desk_mixHero m_m_Desk_132 kd_Desk_mixHero ⟨rfl, rfl, Nat.le_of_ble_eq_true rfl, Nat.le_of_ble_eq_true rfl⟩ 0 rfl rfl rfl rfl rfl (Nat.le_of_ble_eq_true rfl) d_Desk_hash_17 (fun H locs h => ?_)
  refine lv_lstore_n (lv' := [(1, .long r4), (0, .ref (ad 0))]) hx hb d_Desk_hash_20 rfl hl (by decide) rfl (fun ls hl => ?_)
  refine lv_aload_n hx hb d_Desk_hash_21 rfl (lv_at hl 1 rfl) ?_
  refine lv_lload_n hx hb d_Desk_hash_22 rfl (lv_at hl 0 rfl) ?_
  obtain ⟨r7, σ8, h9, hf⟩ := bd_s hf
  refine x_Vl (As := [.long r4]) (rest := []) X hml hl.1 hZ hA h (c_Desk_mixMonsters l D ad cA tz n r4 σ5 r7 σ8 h9) k_Desk_mixMonsters m_m_Desk_136 kd_Desk_mixMonsters ⟨rfl, rfl, Nat.le_of_ble_eq_true rfl, Nat.le_of_ble_eq_true rfl⟩ 0 rfl rfl rfl rfl rfl (Nat.le_of_ble_eq_true rfl) d_Desk_hash_23 (fun H locs h => ?_)
  refine lv_lstore_n (lv' := [(1, .long r7), (0, .ref (ad 0))]) hx hb d_Desk_hash_26 rfl hl (by decide) rfl (fun ls hl => ?_)
  refine lv_aload_n hx hb d_Desk_hash_27 rfl (lv_at hl 1 rfl) ?_
  refine lv_lload_n hx hb d_Desk_hash_28 rfl (lv_at hl 0 rfl) ?_
  obtain ⟨r10, σ11, h12, hf⟩ := bd_s hf
  refine x_Vl (As := [.long r7]) (rest := []) X hml hl.1 hZ hA h (c_Desk_mixThings l D ad cA tz n r7 σ8 r10 σ11 h12) k_Desk_mixThings m_m_Desk_139 kd_Desk_mixThings ⟨rfl, rfl, Nat.le_of_ble_eq_true rfl, Nat.le_of_ble_eq_true rfl⟩ 0 rfl rfl rfl rfl rfl (Nat.le_of_ble_eq_true rfl) d_Desk_hash_29 (fun H locs h => ?_)
  refine lv_lstore_n (lv' := [(1, .long r10), (0, .ref (ad 0))]) hx hb d_Desk_hash_32 rfl hl (by decide) rfl (fun ls hl => ?_)
  refine lv_lload_n hx hb d_Desk_hash_33 rfl (lv_at hl 0 rfl) ?_
  refine lv_aload_n hx hb d_Desk_hash_34 rfl (lv_at hl 1 rfl) ?_
  refine G_desk_game X h m_f_Desk_14 d_Desk_hash_35 ?_
  refine G_game_play X h m_f_Desk_142 d_Desk_hash_38 ?_
  refine G_play_state X h m_f_Desk_146 d_Desk_hash_41 ?_
  obtain ⟨r13, σ14, h15, hf⟩ := bd_s hf
  refine x_Sl (As := [.long r10, .long (σ11.2.1 0)]) (rest := []) X hml hl.1 hZ hA h (c_Desk_mix l D ad cA tz n r10 (σ11.2.1 0) σ11 r13 σ14 h15) k_Desk_mix m_m_Desk_128 kd_Desk_mix ⟨rfl, rfl, Nat.le_of_ble_eq_true rfl, Nat.le_of_ble_eq_true rfl⟩ rfl rfl (Nat.le_of_ble_eq_true rfl) d_Desk_hash_44 (fun H locs h => ?_)
  exact rt _ _ H locs 47 ls hf h d_Desk_hash_47

