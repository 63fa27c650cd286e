set_option maxHeartbeats 8000000 in
set_option maxRecDepth 100000 in
theorem law_loop {p : Program} {l : Launch} {e : Env} {s : State} {m : MethodId} {below : List Frame} {meth : Method} {c : Code} {D : va_G} {cA : Nat → ClassId} {tz adK adM : Nat → Nat} {b L : Nat} {xs : Nat → Int32} (hL : L ≤ 2049) (C0 : lw_At p s m meth c b L xs) (X : CX p s m #[Value.ref b] c code R_law D cA) (hZ : SZ stb tz (fun q : Nat => s.heap.size ≤ q) s s.heap) {fu : Nat} (hfu : 600 ≤ fu) {r : St} {sd : Int32} :
    ∀ (n t : Nat), 1 + 4 * t ≤ L + 4 → L + 5 < 1 + 4 * t + 4 * n → ∀ (σ τ : St) (k : Nat) (T : Nat → St), IV fu r sd σ τ k T → k ≤ t → (t = 0 → τ.1 9 = 0) → ∀ (H : Heap) (locs : List Loc) (ls : Array Slot), WD D (fun q : Nat => s.heap.size ≤ q) s (wl adK cA σ ++ wm adM cA τ) H locs → lv_has ls 4 [(0, .ref b), (1, .ref (adK 0)), (2, .ref (adM 0)), (3, .int (nI (1 + 4 * t)))] → W p l e room_1 s m #[Value.ref b] below meth c H locs 43 2308 (lw_Z below #[Value.ref b] s) (F0 m 28 ls []) := by
  obtain ⟨hx, hb, hr, hml, hown, hts, hX, hbl, hlocks, hgv⟩ := id C0
  have hA : ∀ q : Nat, s.heap.size ≤ q → (fun q : Nat => s.heap.size ≤ q) q := fun _ h => h
  have hbA : ¬ (fun q : Nat => s.heap.size ≤ q) b := Nat.not_le.mpr hbl
  intro n
  induction n with
  | zero =>
    intro t h1 h2
    exact absurd h2 (by omega)
  | succ n ih =>
    intro t hb1 hb2 σ τ k T hI hk h0 H locs ls h hl
    refine lv_iload_n hx hb d_law_28 rfl (lv_at hl 3 rfl) ?_
    refine lv_aload_n hx hb d_law_29 rfl (lv_at hl 0 rfl) ?_
    refine va_slen hx hb hX hbl hbA h.2.2 d_law_30 ?_
    refine lv_iconst (v := 4) hx hb d_law_31 (by decide) ?_
    refine lv_isub hx hb d_law_32 ?_
    have ecmp : Int32.ofNat L - 4 < nI (1 + 4 * t) ↔ (L : Int) - 4 < ((1 + 4 * t : Nat) : Int) := by
      show nI L - 4 < _ ↔ _
      rw [zI_nat, zI_nat, show (4 : Int32) = zI 4 from rfl, zI_sub, zI_lt ⟨by omega, by omega⟩ ⟨by omega, by omega⟩]
    refine lv_icmp_gt (tgt := 298) hx hb d_law_33 (by decide) (fun c1 => ?_) (fun c1 => ?_)
    · refine lv_iconst (v := 1) hx hb d_law_298 (by decide) ?_
      refine va_forget (fun q hq => h.2.2.2.2 q hq) ?_
      exact lw_ret hx hb hr hlocks d_law_299
    · have hlt : 4 * t + 5 ≤ L := by
        have z : ¬ (L : Int) - 4 < ((1 + 4 * t : Nat) : Int) := fun z => c1 (ecmp.mpr z)
        omega
      have i0 : vp_in (nI (1 + 4 * t)) L := vp_in_nI (by omega) (by omega)
      have i1 : vp_in (nI (1 + 4 * t) + 1) L := by rw [nI_1]; exact vp_in_nI (by omega) (by omega)
      have i2 : vp_in (nI (1 + 4 * t) + 2) L := by rw [show nI (1 + 4 * t) + 2 = nI (1 + 4 * t + 2) from nI_add _ 2]; exact vp_in_nI (by omega) (by omega)
      have i3 : vp_in (nI (1 + 4 * t) + 3) L := by rw [show nI (1 + 4 * t) + 3 = nI (1 + 4 * t + 3) from nI_add _ 3]; exact vp_in_nI (by omega) (by omega)
      refine lv_aload_n hx hb d_law_36 rfl (lv_at hl 0 rfl) ?_
      refine lv_iload_n hx hb d_law_37 rfl (lv_at hl 3 rfl) ?_
      refine va_sld hx hb hX hbl hbA h.2.2 i0 d_law_38 ?_
      refine lv_bipush (v := 7) hx hb d_law_39 (by decide) ?_
      refine lv_iand hx hb d_law_41 ?_
      obtain ⟨kk, hkk, ek⟩ := and7 (xs (nI (1 + 4 * t)).toNatClampNeg)
      rw [ek]
      have fin : ∀ (σ' τ' : St) (k' : Nat) (T' : Nat → St), IV fu r sd σ' τ' k' T' → k' ≤ t + 1 → ∀ (H : Heap) (locs : List Loc), WD D (fun q : Nat => s.heap.size ≤ q) s (wl adK cA σ' ++ wm adM cA τ') H locs → W p l e room_1 s m #[Value.ref b] below meth c H locs 43 2308 (lw_Z below #[Value.ref b] s) (F0 m 292 ls []) := by
        intro σ' τ' k' T' hI' hk' H locs h
        refine lv_iinc (v := nI (1 + 4 * (t + 1))) (lv' := [(3, .int (nI (1 + 4 * (t + 1)))), (0, .ref b), (1, .ref (adK 0)), (2, .ref (adM 0))]) hx hb d_law_292 hl (k := 3) rfl (nI_add (1 + 4 * t) 4) (by decide) rfl (fun ls hl => ?_)
        refine lv_goto (tgt := 28) hx hb d_law_295 (by decide) ?_
        exact ih (t + 1) (by omega) (by omega) σ' τ' k' T' hI' hk' (fun z => absurd z (by omega)) H locs ls h (lv_sub hl [1, 2, 3, 0] rfl)
      rcases (show kk = 0 ∨ kk = 1 ∨ kk = 2 ∨ kk = 3 ∨ kk = 4 ∨ kk = 5 ∨ kk = 6 ∨ kk = 7 by omega) with rfl | rfl | rfl | rfl | rfl | rfl | rfl | rfl
      · obtain ⟨a, σ', τ', k', T', e1, e2, hI', hk'⟩ := key_rel (m := fu) (by omega) hI (show k < 512 by omega) (xs (nI (1 + 4 * t) + 1).toNatClampNeg)
        refine lv_tableIn (off := 46) (tgt := 88) hx hb d_law_42 (by decide) (by decide) rfl (by decide) ?_
        refine lv_aload_n hx hb d_law_88 rfl (lv_at hl 1 rfl) ?_
        refine lv_aload_n hx hb d_law_89 rfl (lv_at hl 0 rfl) ?_
        refine lv_iload_n hx hb d_law_90 rfl (lv_at hl 3 rfl) ?_
        refine lv_iconst (v := 1) hx hb d_law_91 (by decide) ?_
        refine lv_iadd hx hb d_law_92 ?_
        refine va_sld hx hb hX hbl hbA h.2.2 i1 d_law_93 ?_
        refine x_FVi (As := [.int (xs (nI (1 + 4 * t) + 1).toNatClampNeg)]) (rest := []) (w := wl adK cA) (wr := wm adM cA τ) X hml hl.1 hZ hA h (c_Desk_key l D adK cA tz fu (xs (nI (1 + 4 * t) + 1).toNatClampNeg) σ a σ' e1) k_Desk_key m_m_Law_21 kd_Desk_key ⟨rfl, rfl, Nat.le_of_ble_eq_true rfl, Nat.le_of_ble_eq_true rfl⟩ [0, 1, 2, 3, 4, 5, 6, 7, 8, 9, 10, 11, 12, 13, 14, 15, 16, 17, 18, 19, 20, 21, 22, 23, 24] [25, 26, 27, 28, 29, 30, 31, 32, 33, 34, 35, 36, 37, 38, 39, 40, 41, 42] rfl rfl (by decide) rfl (by decide) (by decide) 0 rfl rfl rfl rfl rfl (Nat.le_of_ble_eq_true rfl) (Nat.le_of_ble_eq_true rfl) (Nat.le_of_ble_eq_true rfl) d_law_94 (fun H locs h => ?_)
        refine lv_pop hx hb d_law_97 rfl ?_
        refine lv_aload_n hx hb d_law_98 rfl (lv_at hl 2 rfl) ?_
        refine lv_aload_n hx hb d_law_99 rfl (lv_at hl 0 rfl) ?_
        refine lv_iload_n hx hb d_law_100 rfl (lv_at hl 3 rfl) ?_
        refine lv_iconst (v := 1) hx hb d_law_101 (by decide) ?_
        refine lv_iadd hx hb d_law_102 ?_
        refine va_sld hx hb hX hbl hbA h.2.2 i1 d_law_103 ?_
        refine x_FVi (As := [.int (xs (nI (1 + 4 * t) + 1).toNatClampNeg)]) (rest := []) (w := wm adM cA) (wr := wl adK cA σ') X hml hl.1 hZ hA h (c_Model_key l D adM cA tz fu (xs (nI (1 + 4 * t) + 1).toNatClampNeg) τ a τ' e2) k_Model_key m_m_Law_25 kd_Model_key ⟨rfl, rfl, Nat.le_of_ble_eq_true rfl, Nat.le_of_ble_eq_true rfl⟩ [0, 1, 2, 3, 4, 5, 6, 7, 8, 9, 10, 11, 12, 13, 14, 15, 16, 17] [18, 19, 20, 21, 22, 23, 24, 25, 26, 27, 28, 29, 30, 31, 32, 33, 34, 35, 36, 37, 38, 39, 40, 41, 42] rfl rfl (by decide) rfl (by decide) (by decide) 0 rfl rfl rfl rfl rfl (Nat.le_of_ble_eq_true rfl) (Nat.le_of_ble_eq_true rfl) (Nat.le_of_ble_eq_true rfl) d_law_104 (fun H locs h => ?_)
        refine lv_pop hx hb d_law_107 rfl ?_
        refine lv_goto (tgt := 292) hx hb d_law_108 (by decide) ?_
        exact fin σ' τ' k' T' hI' (by omega) _ _ h
      · obtain ⟨a, σ', τ', k', e1, e2, hI', hk'⟩ := rewind_rel (m := fu) hfu hI (show k ≤ 512 by omega) (xs (nI (1 + 4 * t) + 1).toNatClampNeg)
        refine lv_tableIn (off := 69) (tgt := 111) hx hb d_law_42 (by decide) (by decide) rfl (by decide) ?_
        refine lv_aload_n hx hb d_law_111 rfl (lv_at hl 1 rfl) ?_
        refine lv_aload_n hx hb d_law_112 rfl (lv_at hl 0 rfl) ?_
        refine lv_iload_n hx hb d_law_113 rfl (lv_at hl 3 rfl) ?_
        refine lv_iconst (v := 1) hx hb d_law_114 (by decide) ?_
        refine lv_iadd hx hb d_law_115 ?_
        refine va_sld hx hb hX hbl hbA h.2.2 i1 d_law_116 ?_
        refine x_FVi (As := [.int (xs (nI (1 + 4 * t) + 1).toNatClampNeg)]) (rest := []) (w := wl adK cA) (wr := wm adM cA τ) X hml hl.1 hZ hA h (c_Desk_rewind l D adK cA tz fu (xs (nI (1 + 4 * t) + 1).toNatClampNeg) σ a σ' e1) k_Desk_rewind m_m_Law_26 kd_Desk_rewind ⟨rfl, rfl, Nat.le_of_ble_eq_true rfl, Nat.le_of_ble_eq_true rfl⟩ [0, 1, 2, 3, 4, 5, 6, 7, 8, 9, 10, 11, 12, 13, 14, 15, 16, 17, 18, 19, 20, 21, 22, 23, 24] [25, 26, 27, 28, 29, 30, 31, 32, 33, 34, 35, 36, 37, 38, 39, 40, 41, 42] rfl rfl (by decide) rfl (by decide) (by decide) 0 rfl rfl rfl rfl rfl (Nat.le_of_ble_eq_true rfl) (Nat.le_of_ble_eq_true rfl) (Nat.le_of_ble_eq_true rfl) d_law_117 (fun H locs h => ?_)
        refine lv_aload_n hx hb d_law_120 rfl (lv_at hl 2 rfl) ?_
        refine lv_aload_n hx hb d_law_121 rfl (lv_at hl 0 rfl) ?_
        refine lv_iload_n hx hb d_law_122 rfl (lv_at hl 3 rfl) ?_
        refine lv_iconst (v := 1) hx hb d_law_123 (by decide) ?_
        refine lv_iadd hx hb d_law_124 ?_
        refine va_sld hx hb hX hbl hbA h.2.2 i1 d_law_125 ?_
        refine x_FVi (As := [.int (xs (nI (1 + 4 * t) + 1).toNatClampNeg)]) (rest := [.int a]) (w := wm adM cA) (wr := wl adK cA σ') X hml hl.1 hZ hA h (c_Model_rewind l D adM cA tz fu (xs (nI (1 + 4 * t) + 1).toNatClampNeg) τ a τ' e2) k_Model_rewind m_m_Law_29 kd_Model_rewind ⟨rfl, rfl, Nat.le_of_ble_eq_true rfl, Nat.le_of_ble_eq_true rfl⟩ [0, 1, 2, 3, 4, 5, 6, 7, 8, 9, 10, 11, 12, 13, 14, 15, 16, 17] [18, 19, 20, 21, 22, 23, 24, 25, 26, 27, 28, 29, 30, 31, 32, 33, 34, 35, 36, 37, 38, 39, 40, 41, 42] rfl rfl (by decide) rfl (by decide) (by decide) 0 rfl rfl rfl rfl rfl (Nat.le_of_ble_eq_true rfl) (Nat.le_of_ble_eq_true rfl) (Nat.le_of_ble_eq_true rfl) d_law_126 (fun H locs h => ?_)
        refine lv_icmp_eq (tgt := 292) hx hb d_law_129 (by decide) (fun _ => ?_) (fun cq => absurd rfl cq)
        exact fin σ' τ' k' T hI' (by omega) _ _ h
      · obtain ⟨gw, -, hG⟩ := id hI.2.2.2.2.2.2.1
        obtain ⟨a, τ', e1, e2, hτ⟩ := cell_rel (m := fu) (by omega) hG (xs (nI (1 + 4 * t) + 1).toNatClampNeg) (xs (nI (1 + 4 * t) + 2).toNatClampNeg) (xs (nI (1 + 4 * t) + 3).toNatClampNeg)
        have hI' : IV fu r sd σ τ' k T := by
          rcases hτ with z | ⟨dd, z⟩
          · rw [z]; exact hI
          · rw [z]; exact IV_mst dd hI
        refine lv_tableIn (off := 92) (tgt := 134) hx hb d_law_42 (by decide) (by decide) rfl (by decide) ?_
        refine lv_aload_n hx hb d_law_134 rfl (lv_at hl 1 rfl) ?_
        refine lv_aload_n hx hb d_law_135 rfl (lv_at hl 0 rfl) ?_
        refine lv_iload_n hx hb d_law_136 rfl (lv_at hl 3 rfl) ?_
        refine lv_iconst (v := 1) hx hb d_law_137 (by decide) ?_
        refine lv_iadd hx hb d_law_138 ?_
        refine va_sld hx hb hX hbl hbA h.2.2 i1 d_law_139 ?_
        refine lv_aload_n hx hb d_law_140 rfl (lv_at hl 0 rfl) ?_
        refine lv_iload_n hx hb d_law_141 rfl (lv_at hl 3 rfl) ?_
        refine lv_iconst (v := 2) hx hb d_law_142 (by decide) ?_
        refine lv_iadd hx hb d_law_143 ?_
        refine va_sld hx hb hX hbl hbA h.2.2 i2 d_law_144 ?_
        refine lv_aload_n hx hb d_law_145 rfl (lv_at hl 0 rfl) ?_
        refine lv_iload_n hx hb d_law_146 rfl (lv_at hl 3 rfl) ?_
        refine lv_iconst (v := 3) hx hb d_law_147 (by decide) ?_
        refine lv_iadd hx hb d_law_148 ?_
        refine va_sld hx hb hX hbl hbA h.2.2 i3 d_law_149 ?_
        refine x_FVi (As := [.int (xs (nI (1 + 4 * t) + 1).toNatClampNeg), .int (xs (nI (1 + 4 * t) + 2).toNatClampNeg), .int (xs (nI (1 + 4 * t) + 3).toNatClampNeg)]) (rest := []) (w := wl adK cA) (wr := wm adM cA τ) X hml hl.1 hZ hA h (c_Desk_cell l D adK cA tz fu (xs (nI (1 + 4 * t) + 1).toNatClampNeg) (xs (nI (1 + 4 * t) + 2).toNatClampNeg) (xs (nI (1 + 4 * t) + 3).toNatClampNeg) σ a σ e1) k_Desk_cell m_m_Law_30 kd_Desk_cell ⟨rfl, rfl, Nat.le_of_ble_eq_true rfl, Nat.le_of_ble_eq_true rfl⟩ [0, 1, 2, 3, 4, 5, 6, 7, 8, 9, 10, 11, 12, 13, 14, 15, 16, 17, 18, 19, 20, 21, 22, 23, 24] [25, 26, 27, 28, 29, 30, 31, 32, 33, 34, 35, 36, 37, 38, 39, 40, 41, 42] rfl rfl (by decide) rfl (by decide) (by decide) 0 rfl rfl rfl rfl rfl (Nat.le_of_ble_eq_true rfl) (Nat.le_of_ble_eq_true rfl) (Nat.le_of_ble_eq_true rfl) d_law_150 (fun H locs h => ?_)
        refine lv_pop hx hb d_law_153 rfl ?_
        refine lv_aload_n hx hb d_law_154 rfl (lv_at hl 2 rfl) ?_
        refine lv_aload_n hx hb d_law_155 rfl (lv_at hl 0 rfl) ?_
        refine lv_iload_n hx hb d_law_156 rfl (lv_at hl 3 rfl) ?_
        refine lv_iconst (v := 1) hx hb d_law_157 (by decide) ?_
        refine lv_iadd hx hb d_law_158 ?_
        refine va_sld hx hb hX hbl hbA h.2.2 i1 d_law_159 ?_
        refine lv_aload_n hx hb d_law_160 rfl (lv_at hl 0 rfl) ?_
        refine lv_iload_n hx hb d_law_161 rfl (lv_at hl 3 rfl) ?_
        refine lv_iconst (v := 2) hx hb d_law_162 (by decide) ?_
        refine lv_iadd hx hb d_law_163 ?_
        refine va_sld hx hb hX hbl hbA h.2.2 i2 d_law_164 ?_
        refine lv_aload_n hx hb d_law_165 rfl (lv_at hl 0 rfl) ?_
        refine lv_iload_n hx hb d_law_166 rfl (lv_at hl 3 rfl) ?_
        refine lv_iconst (v := 3) hx hb d_law_167 (by decide) ?_
        refine lv_iadd hx hb d_law_168 ?_
        refine va_sld hx hb hX hbl hbA h.2.2 i3 d_law_169 ?_
        refine x_FVi (As := [.int (xs (nI (1 + 4 * t) + 1).toNatClampNeg), .int (xs (nI (1 + 4 * t) + 2).toNatClampNeg), .int (xs (nI (1 + 4 * t) + 3).toNatClampNeg)]) (rest := []) (w := wm adM cA) (wr := wl adK cA σ) X hml hl.1 hZ hA h (c_Model_cell l D adM cA tz fu (xs (nI (1 + 4 * t) + 1).toNatClampNeg) (xs (nI (1 + 4 * t) + 2).toNatClampNeg) (xs (nI (1 + 4 * t) + 3).toNatClampNeg) τ a τ' e2) k_Model_cell m_m_Law_33 kd_Model_cell ⟨rfl, rfl, Nat.le_of_ble_eq_true rfl, Nat.le_of_ble_eq_true rfl⟩ [0, 1, 2, 3, 4, 5, 6, 7, 8, 9, 10, 11, 12, 13, 14, 15, 16, 17] [18, 19, 20, 21, 22, 23, 24, 25, 26, 27, 28, 29, 30, 31, 32, 33, 34, 35, 36, 37, 38, 39, 40, 41, 42] rfl rfl (by decide) rfl (by decide) (by decide) 0 rfl rfl rfl rfl rfl (Nat.le_of_ble_eq_true rfl) (Nat.le_of_ble_eq_true rfl) (Nat.le_of_ble_eq_true rfl) d_law_170 (fun H locs h => ?_)
        refine lv_pop hx hb d_law_173 rfl ?_
        refine lv_goto (tgt := 292) hx hb d_law_174 (by decide) ?_
        exact fin σ τ' k T hI' (by omega) _ _ h
      · obtain ⟨gw, -, hG⟩ := id hI.2.2.2.2.2.2.1
        obtain ⟨a, e1, e2⟩ := monster_rel (m := fu) hG (xs (nI (1 + 4 * t) + 1).toNatClampNeg) (xs (nI (1 + 4 * t) + 2).toNatClampNeg)
        refine lv_tableIn (off := 135) (tgt := 177) hx hb d_law_42 (by decide) (by decide) rfl (by decide) ?_
        refine lv_aload_n hx hb d_law_177 rfl (lv_at hl 1 rfl) ?_
        refine lv_aload_n hx hb d_law_178 rfl (lv_at hl 0 rfl) ?_
        refine lv_iload_n hx hb d_law_179 rfl (lv_at hl 3 rfl) ?_
        refine lv_iconst (v := 1) hx hb d_law_180 (by decide) ?_
        refine lv_iadd hx hb d_law_181 ?_
        refine va_sld hx hb hX hbl hbA h.2.2 i1 d_law_182 ?_
        refine lv_aload_n hx hb d_law_183 rfl (lv_at hl 0 rfl) ?_
        refine lv_iload_n hx hb d_law_184 rfl (lv_at hl 3 rfl) ?_
        refine lv_iconst (v := 2) hx hb d_law_185 (by decide) ?_
        refine lv_iadd hx hb d_law_186 ?_
        refine va_sld hx hb hX hbl hbA h.2.2 i2 d_law_187 ?_
        refine x_FVi (As := [.int (xs (nI (1 + 4 * t) + 1).toNatClampNeg), .int (xs (nI (1 + 4 * t) + 2).toNatClampNeg)]) (rest := []) (w := wl adK cA) (wr := wm adM cA τ) X hml hl.1 hZ hA h (c_Desk_monster l D adK cA tz fu (xs (nI (1 + 4 * t) + 1).toNatClampNeg) (xs (nI (1 + 4 * t) + 2).toNatClampNeg) σ a σ e1) k_Desk_monster m_m_Law_34 kd_Desk_monster ⟨rfl, rfl, Nat.le_of_ble_eq_true rfl, Nat.le_of_ble_eq_true rfl⟩ [0, 1, 2, 3, 4, 5, 6, 7, 8, 9, 10, 11, 12, 13, 14, 15, 16, 17, 18, 19, 20, 21, 22, 23, 24] [25, 26, 27, 28, 29, 30, 31, 32, 33, 34, 35, 36, 37, 38, 39, 40, 41, 42] rfl rfl (by decide) rfl (by decide) (by decide) 0 rfl rfl rfl rfl rfl (Nat.le_of_ble_eq_true rfl) (Nat.le_of_ble_eq_true rfl) (Nat.le_of_ble_eq_true rfl) d_law_188 (fun H locs h => ?_)
        refine lv_pop hx hb d_law_191 rfl ?_
        refine lv_aload_n hx hb d_law_192 rfl (lv_at hl 2 rfl) ?_
        refine lv_aload_n hx hb d_law_193 rfl (lv_at hl 0 rfl) ?_
        refine lv_iload_n hx hb d_law_194 rfl (lv_at hl 3 rfl) ?_
        refine lv_iconst (v := 1) hx hb d_law_195 (by decide) ?_
        refine lv_iadd hx hb d_law_196 ?_
        refine va_sld hx hb hX hbl hbA h.2.2 i1 d_law_197 ?_
        refine lv_aload_n hx hb d_law_198 rfl (lv_at hl 0 rfl) ?_
        refine lv_iload_n hx hb d_law_199 rfl (lv_at hl 3 rfl) ?_
        refine lv_iconst (v := 2) hx hb d_law_200 (by decide) ?_
        refine lv_iadd hx hb d_law_201 ?_
        refine va_sld hx hb hX hbl hbA h.2.2 i2 d_law_202 ?_
        refine x_FVi (As := [.int (xs (nI (1 + 4 * t) + 1).toNatClampNeg), .int (xs (nI (1 + 4 * t) + 2).toNatClampNeg)]) (rest := []) (w := wm adM cA) (wr := wl adK cA σ) X hml hl.1 hZ hA h (c_Model_monster l D adM cA tz fu (xs (nI (1 + 4 * t) + 1).toNatClampNeg) (xs (nI (1 + 4 * t) + 2).toNatClampNeg) τ a τ e2) k_Model_monster m_m_Law_38 kd_Model_monster ⟨rfl, rfl, Nat.le_of_ble_eq_true rfl, Nat.le_of_ble_eq_true rfl⟩ [0, 1, 2, 3, 4, 5, 6, 7, 8, 9, 10, 11, 12, 13, 14, 15, 16, 17] [18, 19, 20, 21, 22, 23, 24, 25, 26, 27, 28, 29, 30, 31, 32, 33, 34, 35, 36, 37, 38, 39, 40, 41, 42] rfl rfl (by decide) rfl (by decide) (by decide) 0 rfl rfl rfl rfl rfl (Nat.le_of_ble_eq_true rfl) (Nat.le_of_ble_eq_true rfl) (Nat.le_of_ble_eq_true rfl) d_law_203 (fun H locs h => ?_)
        refine lv_pop hx hb d_law_206 rfl ?_
        refine lv_goto (tgt := 292) hx hb d_law_207 (by decide) ?_
        exact fin σ τ k T hI (by omega) _ _ h
      · obtain ⟨gw, -, hG⟩ := id hI.2.2.2.2.2.2.1
        obtain ⟨a, e1, e2⟩ := player_rel (m := fu) hG (xs (nI (1 + 4 * t) + 1).toNatClampNeg)
        refine lv_tableIn (off := 168) (tgt := 210) hx hb d_law_42 (by decide) (by decide) rfl (by decide) ?_
        refine lv_aload_n hx hb d_law_210 rfl (lv_at hl 1 rfl) ?_
        refine lv_aload_n hx hb d_law_211 rfl (lv_at hl 0 rfl) ?_
        refine lv_iload_n hx hb d_law_212 rfl (lv_at hl 3 rfl) ?_
        refine lv_iconst (v := 1) hx hb d_law_213 (by decide) ?_
        refine lv_iadd hx hb d_law_214 ?_
        refine va_sld hx hb hX hbl hbA h.2.2 i1 d_law_215 ?_
        refine x_FVi (As := [.int (xs (nI (1 + 4 * t) + 1).toNatClampNeg)]) (rest := []) (w := wl adK cA) (wr := wm adM cA τ) X hml hl.1 hZ hA h (c_Desk_player l D adK cA tz fu (xs (nI (1 + 4 * t) + 1).toNatClampNeg) σ a σ e1) k_Desk_player m_m_Law_39 kd_Desk_player ⟨rfl, rfl, Nat.le_of_ble_eq_true rfl, Nat.le_of_ble_eq_true rfl⟩ [0, 1, 2, 3, 4, 5, 6, 7, 8, 9, 10, 11, 12, 13, 14, 15, 16, 17, 18, 19, 20, 21, 22, 23, 24] [25, 26, 27, 28, 29, 30, 31, 32, 33, 34, 35, 36, 37, 38, 39, 40, 41, 42] rfl rfl (by decide) rfl (by decide) (by decide) 0 rfl rfl rfl rfl rfl (Nat.le_of_ble_eq_true rfl) (Nat.le_of_ble_eq_true rfl) (Nat.le_of_ble_eq_true rfl) d_law_216 (fun H locs h => ?_)
        refine lv_pop hx hb d_law_219 rfl ?_
        refine lv_aload_n hx hb d_law_220 rfl (lv_at hl 2 rfl) ?_
        refine lv_aload_n hx hb d_law_221 rfl (lv_at hl 0 rfl) ?_
        refine lv_iload_n hx hb d_law_222 rfl (lv_at hl 3 rfl) ?_
        refine lv_iconst (v := 1) hx hb d_law_223 (by decide) ?_
        refine lv_iadd hx hb d_law_224 ?_
        refine va_sld hx hb hX hbl hbA h.2.2 i1 d_law_225 ?_
        refine x_FVi (As := [.int (xs (nI (1 + 4 * t) + 1).toNatClampNeg)]) (rest := []) (w := wm adM cA) (wr := wl adK cA σ) X hml hl.1 hZ hA h (c_Model_player l D adM cA tz fu (xs (nI (1 + 4 * t) + 1).toNatClampNeg) τ a τ e2) k_Model_player m_m_Law_42 kd_Model_player ⟨rfl, rfl, Nat.le_of_ble_eq_true rfl, Nat.le_of_ble_eq_true rfl⟩ [0, 1, 2, 3, 4, 5, 6, 7, 8, 9, 10, 11, 12, 13, 14, 15, 16, 17] [18, 19, 20, 21, 22, 23, 24, 25, 26, 27, 28, 29, 30, 31, 32, 33, 34, 35, 36, 37, 38, 39, 40, 41, 42] rfl rfl (by decide) rfl (by decide) (by decide) 0 rfl rfl rfl rfl rfl (Nat.le_of_ble_eq_true rfl) (Nat.le_of_ble_eq_true rfl) (Nat.le_of_ble_eq_true rfl) d_law_226 (fun H locs h => ?_)
        refine lv_pop hx hb d_law_229 rfl ?_
        refine lv_goto (tgt := 292) hx hb d_law_230 (by decide) ?_
        exact fin σ τ k T hI (by omega) _ _ h
      · obtain ⟨gw, -, hG⟩ := id hI.2.2.2.2.2.2.1
        obtain ⟨a, e1, e2⟩ := recorded_rel (m := fu) hI (show k ≤ 512 by omega) (xs (nI (1 + 4 * t) + 1).toNatClampNeg)
        refine lv_tableIn (off := 191) (tgt := 233) hx hb d_law_42 (by decide) (by decide) rfl (by decide) ?_
        refine lv_aload_n hx hb d_law_233 rfl (lv_at hl 1 rfl) ?_
        refine lv_aload_n hx hb d_law_234 rfl (lv_at hl 0 rfl) ?_
        refine lv_iload_n hx hb d_law_235 rfl (lv_at hl 3 rfl) ?_
        refine lv_iconst (v := 1) hx hb d_law_236 (by decide) ?_
        refine lv_iadd hx hb d_law_237 ?_
        refine va_sld hx hb hX hbl hbA h.2.2 i1 d_law_238 ?_
        refine x_FVi (As := [.int (xs (nI (1 + 4 * t) + 1).toNatClampNeg)]) (rest := []) (w := wl adK cA) (wr := wm adM cA τ) X hml hl.1 hZ hA h (c_Desk_recorded l D adK cA tz fu (xs (nI (1 + 4 * t) + 1).toNatClampNeg) σ a σ e1) k_Desk_recorded m_m_Law_43 kd_Desk_recorded ⟨rfl, rfl, Nat.le_of_ble_eq_true rfl, Nat.le_of_ble_eq_true rfl⟩ [0, 1, 2, 3, 4, 5, 6, 7, 8, 9, 10, 11, 12, 13, 14, 15, 16, 17, 18, 19, 20, 21, 22, 23, 24] [25, 26, 27, 28, 29, 30, 31, 32, 33, 34, 35, 36, 37, 38, 39, 40, 41, 42] rfl rfl (by decide) rfl (by decide) (by decide) 0 rfl rfl rfl rfl rfl (Nat.le_of_ble_eq_true rfl) (Nat.le_of_ble_eq_true rfl) (Nat.le_of_ble_eq_true rfl) d_law_239 (fun H locs h => ?_)
        refine lv_pop hx hb d_law_242 rfl ?_
        refine lv_aload_n hx hb d_law_243 rfl (lv_at hl 2 rfl) ?_
        refine lv_aload_n hx hb d_law_244 rfl (lv_at hl 0 rfl) ?_
        refine lv_iload_n hx hb d_law_245 rfl (lv_at hl 3 rfl) ?_
        refine lv_iconst (v := 1) hx hb d_law_246 (by decide) ?_
        refine lv_iadd hx hb d_law_247 ?_
        refine va_sld hx hb hX hbl hbA h.2.2 i1 d_law_248 ?_
        refine x_FVi (As := [.int (xs (nI (1 + 4 * t) + 1).toNatClampNeg)]) (rest := []) (w := wm adM cA) (wr := wl adK cA σ) X hml hl.1 hZ hA h (c_Model_recorded l D adM cA tz fu (xs (nI (1 + 4 * t) + 1).toNatClampNeg) τ a τ e2) k_Model_recorded m_m_Law_46 kd_Model_recorded ⟨rfl, rfl, Nat.le_of_ble_eq_true rfl, Nat.le_of_ble_eq_true rfl⟩ [0, 1, 2, 3, 4, 5, 6, 7, 8, 9, 10, 11, 12, 13, 14, 15, 16, 17] [18, 19, 20, 21, 22, 23, 24, 25, 26, 27, 28, 29, 30, 31, 32, 33, 34, 35, 36, 37, 38, 39, 40, 41, 42] rfl rfl (by decide) rfl (by decide) (by decide) 0 rfl rfl rfl rfl rfl (Nat.le_of_ble_eq_true rfl) (Nat.le_of_ble_eq_true rfl) (Nat.le_of_ble_eq_true rfl) d_law_249 (fun H locs h => ?_)
        refine lv_pop hx hb d_law_252 rfl ?_
        refine lv_goto (tgt := 292) hx hb d_law_253 (by decide) ?_
        exact fin σ τ k T hI (by omega) _ _ h
      · obtain ⟨gw, -, hG⟩ := id hI.2.2.2.2.2.2.1
        obtain ⟨a, a2, e1, e2, hae0⟩ := hash_rel (m := fu) (by omega) hG
        refine lv_tableIn (off := 214) (tgt := 256) hx hb d_law_42 (by decide) (by decide) rfl (by decide) ?_
        refine lv_aload_n hx hb d_law_256 rfl (lv_at hl 1 rfl) ?_
        refine x_FVl (As := []) (rest := []) (w := wl adK cA) (wr := wm adM cA τ) X hml hl.1 hZ hA h (c_Desk_hash l D adK cA tz fu σ a σ e1) k_Desk_hash m_m_Law_47 kd_Desk_hash ⟨rfl, rfl, Nat.le_of_ble_eq_true rfl, Nat.le_of_ble_eq_true rfl⟩ [0, 1, 2, 3, 4, 5, 6, 7, 8, 9, 10, 11, 12, 13, 14, 15, 16, 17, 18, 19, 20, 21, 22, 23, 24] [25, 26, 27, 28, 29, 30, 31, 32, 33, 34, 35, 36, 37, 38, 39, 40, 41, 42] rfl rfl (by decide) rfl (by decide) (by decide) 0 rfl rfl rfl rfl rfl (Nat.le_of_ble_eq_true rfl) (Nat.le_of_ble_eq_true rfl) (Nat.le_of_ble_eq_true rfl) d_law_257 (fun H locs h => ?_)
        refine lv_pop2_2 hx hb d_law_260 rfl ?_
        refine lv_aload_n hx hb d_law_261 rfl (lv_at hl 2 rfl) ?_
        refine x_FVl (As := []) (rest := []) (w := wm adM cA) (wr := wl adK cA σ) X hml hl.1 hZ hA h (c_Model_hash l D adM cA tz fu τ a2 τ e2) k_Model_hash m_m_Law_51 kd_Model_hash ⟨rfl, rfl, Nat.le_of_ble_eq_true rfl, Nat.le_of_ble_eq_true rfl⟩ [0, 1, 2, 3, 4, 5, 6, 7, 8, 9, 10, 11, 12, 13, 14, 15, 16, 17] [18, 19, 20, 21, 22, 23, 24, 25, 26, 27, 28, 29, 30, 31, 32, 33, 34, 35, 36, 37, 38, 39, 40, 41, 42] rfl rfl (by decide) rfl (by decide) (by decide) 0 rfl rfl rfl rfl rfl (Nat.le_of_ble_eq_true rfl) (Nat.le_of_ble_eq_true rfl) (Nat.le_of_ble_eq_true rfl) d_law_262 (fun H locs h => ?_)
        refine lv_pop2_2 hx hb d_law_265 rfl ?_
        refine lv_goto (tgt := 292) hx hb d_law_266 (by decide) ?_
        exact fin σ τ k T hI (by omega) _ _ h
      · obtain ⟨gw, -, hG⟩ := id hI.2.2.2.2.2.2.1
        obtain ⟨a, τ', e1, e2, hτ⟩ := count_rel (m := fu) (by omega) hI (xs (nI (1 + 4 * t) + 1).toNatClampNeg)
        have hI' : IV fu r sd σ τ' k T := by
          rcases hτ with z | ⟨dd, z⟩
          · rw [z]; exact hI
          · rw [z]; exact IV_mst dd hI
        refine lv_tableIn (off := 227) (tgt := 269) hx hb d_law_42 (by decide) (by decide) rfl (by decide) ?_
        refine lv_aload_n hx hb d_law_269 rfl (lv_at hl 1 rfl) ?_
        refine lv_aload_n hx hb d_law_270 rfl (lv_at hl 0 rfl) ?_
        refine lv_iload_n hx hb d_law_271 rfl (lv_at hl 3 rfl) ?_
        refine lv_iconst (v := 1) hx hb d_law_272 (by decide) ?_
        refine lv_iadd hx hb d_law_273 ?_
        refine va_sld hx hb hX hbl hbA h.2.2 i1 d_law_274 ?_
        refine x_FVi (As := [.int (xs (nI (1 + 4 * t) + 1).toNatClampNeg)]) (rest := []) (w := wl adK cA) (wr := wm adM cA τ) X hml hl.1 hZ hA h (c_Desk_count l D adK cA tz fu (xs (nI (1 + 4 * t) + 1).toNatClampNeg) σ a σ e1) k_Desk_count m_m_Law_52 kd_Desk_count ⟨rfl, rfl, Nat.le_of_ble_eq_true rfl, Nat.le_of_ble_eq_true rfl⟩ [0, 1, 2, 3, 4, 5, 6, 7, 8, 9, 10, 11, 12, 13, 14, 15, 16, 17, 18, 19, 20, 21, 22, 23, 24] [25, 26, 27, 28, 29, 30, 31, 32, 33, 34, 35, 36, 37, 38, 39, 40, 41, 42] rfl rfl (by decide) rfl (by decide) (by decide) 0 rfl rfl rfl rfl rfl (Nat.le_of_ble_eq_true rfl) (Nat.le_of_ble_eq_true rfl) (Nat.le_of_ble_eq_true rfl) d_law_275 (fun H locs h => ?_)
        refine lv_pop hx hb d_law_278 rfl ?_
        refine lv_aload_n hx hb d_law_279 rfl (lv_at hl 2 rfl) ?_
        refine lv_aload_n hx hb d_law_280 rfl (lv_at hl 0 rfl) ?_
        refine lv_iload_n hx hb d_law_281 rfl (lv_at hl 3 rfl) ?_
        refine lv_iconst (v := 1) hx hb d_law_282 (by decide) ?_
        refine lv_iadd hx hb d_law_283 ?_
        refine va_sld hx hb hX hbl hbA h.2.2 i1 d_law_284 ?_
        refine x_FVi (As := [.int (xs (nI (1 + 4 * t) + 1).toNatClampNeg)]) (rest := []) (w := wm adM cA) (wr := wl adK cA σ) X hml hl.1 hZ hA h (c_Model_count l D adM cA tz fu (xs (nI (1 + 4 * t) + 1).toNatClampNeg) τ a τ' e2) k_Model_count m_m_Law_55 kd_Model_count ⟨rfl, rfl, Nat.le_of_ble_eq_true rfl, Nat.le_of_ble_eq_true rfl⟩ [0, 1, 2, 3, 4, 5, 6, 7, 8, 9, 10, 11, 12, 13, 14, 15, 16, 17] [18, 19, 20, 21, 22, 23, 24, 25, 26, 27, 28, 29, 30, 31, 32, 33, 34, 35, 36, 37, 38, 39, 40, 41, 42] rfl rfl (by decide) rfl (by decide) (by decide) 0 rfl rfl rfl rfl rfl (Nat.le_of_ble_eq_true rfl) (Nat.le_of_ble_eq_true rfl) (Nat.le_of_ble_eq_true rfl) d_law_285 (fun H locs h => ?_)
        refine lv_pop hx hb d_law_288 rfl ?_
        refine lv_goto (tgt := 292) hx hb d_law_289 (by decide) ?_
        exact fin σ τ' k T hI' (by omega) _ _ h
