/-! PURE: the ground of a level, on both sides (own work) -/
theorem K_clear {m : Nat} (hm : 121 ≤ m) (σ : St) : ∃ σ' : St, f_Level_clear m σ = some ((), σ') ∧ σ'.1 = σ.1 ∧ σ'.2.1 = σ.2.1 ∧ (∀ p, p < 120 → σ'.2.2 1 p = 0 ∧ σ'.2.2 2 p = 0 ∧ σ'.2.2 3 p = 0) ∧ ∀ k, k ≠ 1 → k ≠ 2 → k ≠ 3 → σ'.2.2 k = σ.2.2 k := by
  unfold f_Level_clear
  rw [K_fill_ground hm, bd_e, K_fill_things hm, bd_e, K_fill_known hm, bd_e]
  refine ⟨_, rfl, rfl, rfl, fun p hp => ⟨?_, ?_, ?_⟩, fun k k1 k2 k3 => ?_⟩
  · show fl_to 0 (σ.2.2 1) 120 p = 0
    exact if_pos hp
  · show fl_to 0 (σ.2.2 2) 120 p = 0
    exact if_pos hp
  · show fl_to 0 (σ.2.2 3) 120 p = 0
    exact if_pos hp
  · show (if k = 3 then _ else if k = 2 then _ else if k = 1 then _ else σ.2.2 k) = σ.2.2 k
    rw [if_neg k3, if_neg k2, if_neg k1]
theorem M_clr {m : Nat} (hm : 130 ≤ m) (y : Int32) (τ : St) : ∃ τ' : St, f_Model_build_25 m m y 0 τ = f_Model_build_60 m m y 0 τ' ∧ τ'.1 = τ.1 ∧ τ'.2.1 = τ.2.1 ∧ (∀ p, p < 120 → τ'.2.2 0 p = 0 ∧ τ'.2.2 1 p = -1 ∧ τ'.2.2 3 p = 0) ∧ ∀ k, k ≠ 0 → k ≠ 1 → k ≠ 3 → τ'.2.2 k = τ.2.2 k := by
  have h := M_clear_loop (m := m) y τ 120 0 m (by omega) (by omega)
  rw [tcl_0] at h
  refine ⟨tcl τ 120, h, rfl, rfl, fun p hp => ⟨?_, ?_, ?_⟩, fun k k0 k1 k3 => ?_⟩
  · show fl_to 0 (τ.2.2 0) 120 p = 0
    exact if_pos hp
  · show fl_to (-1) (τ.2.2 1) 120 p = -1
    exact if_pos hp
  · show fl_to 0 (τ.2.2 3) 120 p = 0
    exact if_pos hp
  · show (if k = 3 then _ else if k = 1 then _ else if k = 0 then _ else τ.2.2 k) = τ.2.2 k
    rw [if_neg k3, if_neg k1, if_neg k0]
/-- rooms and ways are dug -/
theorem dug_rel {m : Nat} (hm : 130 ≤ m) {σ τ : St} {d : Nat} (hs : σ.1 1 = τ.1 0) :
    ∃ (σ' τ' : St) (l t w h : Nat → Nat), f_Maker_make m (σ.1 1) (nI d) σ = bd (f_Maker_drawPlace m 2 σ') (fun r18 σ19 => bd (f_Level_setGround m r18 2 σ19) (fun _ σ22 => bd (f_Maker_centreRow m 0 σ22) (fun r24 σ25 => bd (f_Maker_centreColumn m 0 σ25) (fun r27 σ28 => bnd (sI σ28 6 ((r24 * 12) + r27)) (fun σ30 => f_Maker_make_101 m m (nI d) 0 σ30))))) ∧
      f_Model_build m (nI d) τ = (gd (inb 2 4) (gd (inb 2 4) (bd (f_Model_make m (τ'.2.2 13 (2 : Int32).toNatClampNeg) τ') (fun r23 σ24 => bnd ((τ'.2.2 11 (2 : Int32).toNatClampNeg) + r23) (fun v26 => gd (inb 2 4) (gd (inb 2 4) (bd (f_Model_make m (σ24.2.2 14 (2 : Int32).toNatClampNeg) σ24) (fun r29 σ30 => bnd ((σ24.2.2 12 (2 : Int32).toNatClampNeg) + r29) (fun v32 => gd (inb ((12 * v32) + v26) 120) (bnd (sA σ30 0 ((12 * v32) + v26).toNatClampNeg 2) (fun σ34 => gd (inb 0 4) (gd (inb 0 4) (bnd (sI σ34 2 ((σ34.2.2 11 (0 : Int32).toNatClampNeg) + ((σ34.2.2 13 (0 : Int32).toNatClampNeg) / 2))) (fun σ37 => gd (inb 0 4) (gd (inb 0 4) (bnd (sI σ37 3 ((σ37.2.2 12 (0 : Int32).toNatClampNeg) + ((σ37.2.2 14 (0 : Int32).toNatClampNeg) / 2))) (fun σ40 => bnd (sI σ40 6 10) (fun σ41 => bnd (sI σ41 1 0) (fun σ42 => f_Model_build_314 m m (nI d) 0 σ42))))))))))))))))))) ∧
      BG σ' τ' l t w h 4 ∧ R_t σ' τ' ∧ (∀ p, p < 120 → σ'.2.2 3 p = 0 ∧ τ'.2.2 3 p = 0) ∧ σ'.1 7 = 0 ∧ (∀ k, k ≠ 7 → σ'.1 k = σ.1 k) ∧ σ'.2.1 0 = σ.2.1 0 ∧ σ'.2.2 15 = σ.2.2 15 ∧ τ'.1 8 = nI d ∧ (∀ k, k ≠ 8 → τ'.1 k = τ.1 k) ∧ τ'.2.1 1 = τ.2.1 1 ∧ τ'.2.2 15 = τ.2.2 15 := by
  unfold f_Maker_make f_Model_build
  rw [bnd_e, bnd_e, bnd_e, show (sI τ 8 (nI d)).1 0 = τ.1 0 from rfl, ← hs]
  generalize ((Int32.toInt64 (σ.1 1) + 1) * 1000003) + Int32.toInt64 (nI d) = s0
  obtain ⟨σ1, a1, a2, a3, a4, a5⟩ := K_clear (m := m) (by omega) (sL σ 1 s0)
  obtain ⟨τ2, e1, e2, e3, e4, e5⟩ := M_clr hm (nI d) (sL (sI τ 8 (nI d)) 0 s0)
  rw [a1, bd_e]
  unfold f_Monsters_clear
  rw [bnd_e, bd_e, e1]
  generalize hσ2 : sI σ1 7 0 = σ2
  have u1 : σ2.1 7 = 0 := by subst hσ2; rfl
  have u2 : ∀ k, k ≠ 7 → σ2.1 k = σ.1 k := fun k hk => by subst hσ2; rw [sI_1, if_neg hk, a2]; rfl
  have u3 : σ2.2.1 0 = σ.2.1 0 := by subst hσ2; show σ1.2.1 0 = _; rw [a3]; rfl
  have u4 : σ2.2.1 1 = s0 := by subst hσ2; show σ1.2.1 1 = _; rw [a3]; rfl
  have u5 : ∀ p, p < 120 → σ2.2.2 1 p = 0 ∧ σ2.2.2 2 p = 0 ∧ σ2.2.2 3 p = 0 := by subst hσ2; exact a4
  have u6 : σ2.2.2 15 = σ.2.2 15 := by subst hσ2; exact a5 15 (by decide) (by decide) (by decide)
  clear hσ2 a1 a2 a3 a4 a5
  have v1 : τ2.1 8 = nI d := by rw [e2]; rfl
  have v2 : ∀ k, k ≠ 8 → τ2.1 k = τ.1 k := fun k hk => by rw [e2]; exact if_neg hk
  have v3 : τ2.2.1 1 = τ.2.1 1 := by rw [e3]; rfl
  have v4 : τ2.2.1 0 = s0 := by rw [e3]; rfl
  have v6 : τ2.2.2 15 = τ.2.2 15 := e5 15 (by decide) (by decide) (by decide)
  clear e1 e2 e3 e5
  have hB0 : BG σ2 τ2 (fun _ => 0) (fun _ => 0) (fun _ => 0) (fun _ => 0) 0 := by
    refine ⟨by rw [u4, v4], ⟨fun p hp => by rw [(u5 p hp).1, (e4 p hp).1], fun p hp hq => absurd (u5 p hp).1 hq⟩, fun i hi => absurd hi (by omega), fun i hi => absurd hi (by omega)⟩
  obtain ⟨n, rfl⟩ : ∃ z, m = z + 5 := ⟨m - 5, by omega⟩
  obtain ⟨σ3, τ3, l, t, w, h, b1, b2, b3, b4, b5⟩ := rooms_loop (m := n + 5) (by omega) (nI d) (nI d) 4 0 (n + 1) (n + 1) σ2 τ2 (fun _ => 0) (fun _ => 0) (fun _ => 0) (fun _ => 0) (by omega) hB0
  rw [show f_Maker_make_30 (n + 5) (n + 5) (nI d) 0 σ2 = _ from b1, show f_Model_build_60 (n + 5) (n + 5) (nI d) 0 τ2 = _ from b2]
  have h44 : (4 : Int32) ≤ nI 4 := (le_n (a := 4) (by omega) (by omega)).mpr (Nat.le_refl _)
  rw [f_Maker_make_30_s, if_pos h44, f_Model_build_60_s, if_pos h44]
  obtain ⟨σ4, τ4, c1, c2, c3, c4, c5⟩ := way_rel (m := n + 5) (by omega) b3 (i := 0) (k := 1) (by omega) (by omega)
  obtain ⟨σ5, τ5, d1, d2, d3, d4, d5⟩ := way_rel (m := n + 5) (by omega) c3 (i := 1) (k := 3) (by omega) (by omega)
  obtain ⟨σ6, τ6, g1, g2, g3, g4, g5⟩ := way_rel (m := n + 5) (by omega) d3 (i := 3) (k := 2) (by omega) (by omega)
  rw [show f_Maker_digWay (n + 5) 0 1 σ3 = _ from c1, bd_e, show f_Maker_digWay (n + 5) 1 3 σ4 = _ from d1, bd_e, show f_Maker_digWay (n + 5) 3 2 σ5 = _ from g1, bd_e]
  rw [show f_Model_way (n + 5) 0 1 τ3 = _ from c2, bd_e, show f_Model_way (n + 5) 1 3 τ4 = _ from d2, bd_e, show f_Model_way (n + 5) 3 2 τ5 = _ from g2, bd_e]
  have FK := fK1_t b4 (fK1_t c4 (fK1_t d4 g4))
  have FM := fM1_t b5 (fM1_t c5 (fM1_t d5 g5))
  obtain ⟨k1, k2, k3⟩ := FK
  obtain ⟨m1, m2, m3⟩ := FM
  refine ⟨σ6, τ6, l, t, w, h, rfl, rfl, g3, fun p hp => ?_, fun p hp => ⟨?_, ?_⟩, by rw [k1]; exact u1, fun k hk => by rw [k1]; exact u2 k hk, k2.trans u3, ?_, by rw [m1]; exact v1, fun k hk => by rw [m1]; exact v2 k hk, m2.trans v3, ?_⟩
  · rw [k3 2 (by decide) (by decide) (by decide) (by decide) (by decide), m3 1 (by decide) (by decide) (by decide) (by decide) (by decide), (u5 p hp).2.1, (e4 p hp).2.1]
    exact ⟨by decide, Or.inl rfl⟩
  · rw [k3 3 (by decide) (by decide) (by decide) (by decide) (by decide)]; exact (u5 p hp).2.2
  · rw [m3 3 (by decide) (by decide) (by decide) (by decide) (by decide)]; exact (e4 p hp).2.2
  · rw [k3 15 (by decide) (by decide) (by decide) (by decide) (by decide)]; exact u6
  · rw [m3 15 (by decide) (by decide) (by decide) (by decide) (by decide)]; exact v6
/-- stairs and start -/
theorem found_rel {m : Nat} (hm : 130 ≤ m) {σ τ : St} {d : Nat} (hs : σ.1 1 = τ.1 0) :
    ∃ (σ' τ' : St) (l t w h : Nat → Nat) (P : Nat), f_Maker_make m (σ.1 1) (nI d) σ = f_Maker_make_101 m m (nI d) (nI 0) σ' ∧ f_Model_build m (nI d) τ = f_Model_build_314 m m (nI d) (nI 0) τ' ∧
      BM σ' τ' l t w h P 0 (fun _ => 0) ∧ R_t σ' τ' ∧ (∀ p, p < 120 → σ'.2.2 3 p = 0 ∧ τ'.2.2 3 p = 0) ∧ (P < 120 ∧ σ'.1 6 = nI P ∧ τ'.1 2 = nI (P % 12) ∧ τ'.1 3 = nI (P / 12) ∧ (σ'.2.2 1) P ≠ 0) ∧ (∀ k, k ≠ 6 → k ≠ 7 → σ'.1 k = σ.1 k) ∧ σ'.2.1 0 = σ.2.1 0 ∧ σ'.2.2 15 = σ.2.2 15 ∧ τ'.1 6 = nI 10 ∧ τ'.1 8 = nI d ∧ (∀ k, k ≠ 1 → k ≠ 2 → k ≠ 3 → k ≠ 6 → k ≠ 8 → τ'.1 k = τ.1 k) ∧ τ'.2.1 1 = τ.2.1 1 ∧ τ'.2.2 15 = τ.2.2 15 := by
  obtain ⟨σ1, τ1, l, t, w, h, a1, a2, hB, ht, hkn, a7, a8, a9, a10, b1, b2, b3, b4⟩ := dug_rel hm (d := d) hs
  rw [a1, a2]
  clear a1 a2
  obtain ⟨hss, hg, hro, hrf⟩ := hB
  obtain ⟨x, y, s, c0, c1, c2, c3, c4, c5, c6, c7⟩ := K_place (m := m) (σ := σ1) (τ := τ1) hro (show 2 < 4 by omega)
  obtain ⟨⟨f1, f2, f3, f4, f5, f6, f7, f8⟩, bb⟩ := hro 2 (by omega)
  obtain ⟨⟨g1, g2, g3, g4, g5, g6, g7, g8⟩, bg⟩ := hro 0 (by omega)
  rw [show f_Maker_drawPlace m 2 σ1 = _ from c0, bd_e]
  have hx : x ≤ 10 := by omega
  have hy : y ≤ 8 := by omega
  rw [K_setG m (show 12 * y + x < 120 by omega), bd_e]
  have i24 : inb 2 4 = true := by decide
  have i04 : inb 0 4 = true := by decide
  rw [gd_e i24, gd_e i24, show (2 : Int32).toNatClampNeg = 2 from by decide, show (0 : Int32).toNatClampNeg = 0 from by decide, f7, f5, M_mk m (by omega) (by omega), bd_e, bnd_e, nI_add, ← hss, ← c5, gd_e i24, gd_e i24]
  rw [show (sL τ1 0 (nxS (σ1.2.1 1))).2.2 = τ1.2.2 from rfl, f8, f6, M_mk m (by omega) (by omega), bd_e, bnd_e, nI_add, show (sL τ1 0 (nxS (σ1.2.1 1))).2.1 0 = nxS (σ1.2.1 1) from rfl, ← c6, ← c7]
  rw [show (12 : Int32) * nI y + nI x = nI (12 * y + x) from by rw [show (12 : Int32) = nI 12 from rfl, pk_mul, nI_add]]
  obtain ⟨p, hp⟩ : ∃ z, z = 12 * y + x := ⟨_, rfl⟩
  have hp120 : p < 120 := by omega
  have hgp : σ1.2.2 1 p ≠ 0 := by rw [hp]; exact hrf 2 (by omega) x y c1 c2 c3 c4
  rw [← hp, gd_e (inb_n hp120 (by omega)), bnd_e, tn_n (by omega)]
  generalize hσ2 : sA (sL σ1 1 s) 1 p 2 = σ2
  generalize hτ2 : sA (sL (sL τ1 0 (nxS (σ1.2.1 1))) 0 s) 0 p 2 = τ2
  have k1 : σ2.1 = σ1.1 := by subst hσ2; rfl
  have k2 : σ2.2.1 0 = σ1.2.1 0 := by subst hσ2; rfl
  have k3 : σ2.2.1 1 = s := by subst hσ2; rfl
  have k4 : σ2.2.2 1 = upd (σ1.2.2 1) p 2 := by subst hσ2; rfl
  have k5 : ∀ k, k ≠ 1 → σ2.2.2 k = σ1.2.2 k := fun k hk => by subst hσ2; exact if_neg hk
  have m1 : τ2.1 = τ1.1 := by subst hτ2; rfl
  have m2 : τ2.2.1 1 = τ1.2.1 1 := by subst hτ2; rfl
  have m3 : τ2.2.1 0 = s := by subst hτ2; rfl
  have m4 : τ2.2.2 0 = upd (τ1.2.2 0) p 2 := by subst hτ2; rfl
  have m5 : ∀ k, k ≠ 0 → τ2.2.2 k = τ1.2.2 k := fun k hk => by subst hτ2; exact if_neg hk
  clear hσ2 hτ2 c0 c5 c6 c7
  have hro2 : RO σ2 τ2 l t w h 4 := by
    unfold RO
    rw [k5 9 (by decide), k5 10 (by decide), k5 11 (by decide), k5 12 (by decide), m5 11 (by decide), m5 12 (by decide), m5 13 (by decide), m5 14 (by decide)]
    exact hro
  have hup : ∀ r, σ1.2.2 1 r ≠ 0 → upd (σ1.2.2 1) p 2 r ≠ 0 := fun r hr => by
    by_cases e : r = p
    · rw [e, pk_us]; decide
    · rw [pk_un e]; exact hr
  have hg2 : R_g σ2 τ2 := by
    unfold R_g
    rw [k4, m4]
    refine ⟨fun r hr => ?_, fun r hr hq => ?_⟩
    · by_cases e : r = p
      · rw [e, pk_us, pk_us]
      · rw [pk_un e, pk_un e]; exact hg.1 r hr
    · by_cases e : r = p
      · rw [e]; exact hg.2 p hp120 hgp
      · rw [pk_un e] at hq; exact hg.2 r hr hq
  have hrf2 : RFl (σ2.2.2 1) l t w h 4 := by
    rw [k4]
    exact fun i hi x y z1 z2 z3 z4 => hup _ (hrf i hi x y z1 z2 z3 z4)
  rw [show f_Maker_centreRow m 0 σ2 = _ from K_cr m hro2 (i := 0) (by omega), bd_e, show f_Maker_centreColumn m 0 σ2 = _ from K_cc m hro2 (i := 0) (by omega), bd_e, bnd_e]
  rw [gd_e i04, gd_e i04, bnd_e, gd_e i04, gd_e i04, bnd_e, bnd_e, bnd_e]
  rw [m5 11 (by decide), m5 13 (by decide), g5, g7]
  obtain ⟨X, hX⟩ : ∃ z, z = l 0 + w 0 / 2 := ⟨_, rfl⟩
  obtain ⟨Y, hY⟩ : ∃ z, z = t 0 + h 0 / 2 := ⟨_, rfl⟩
  have eX : nI (l 0) + nI (w 0) / 2 = nI X := by rw [show (2 : Int32) = nI 2 from rfl, pk_div (by omega) (by omega) (by omega), nI_add, hX]
  have eY : nI (t 0) + nI (h 0) / 2 = nI Y := by rw [show (2 : Int32) = nI 2 from rfl, pk_div (by omega) (by omega) (by omega), nI_add, hY]
  rw [eX, show (sI τ2 2 (nI X)).2.2 12 0 = nI (t 0) from by show τ2.2.2 12 0 = _; rw [m5 12 (by decide)]; exact g6, show (sI τ2 2 (nI X)).2.2 14 0 = nI (h 0) from by show τ2.2.2 14 0 = _; rw [m5 14 (by decide)]; exact g8, eY, ← hX, ← hY]
  have hbX : 1 ≤ X ∧ X ≤ 4 := by omega
  have hbY : 1 ≤ Y ∧ Y ≤ 3 := by omega
  obtain ⟨P, hP⟩ : ∃ z, z = 12 * Y + X := ⟨_, rfl⟩
  have hPx : P % 12 = X := by omega
  have hPy : P / 12 = Y := by omega
  rw [show nI Y * 12 + nI X = nI P from by rw [show (12 : Int32) = nI 12 from rfl, pk_mul, nI_add, hP]; congr 1; omega]
  have hgP : (σ2.2.2 1) P ≠ 0 := by rw [hP]; exact hrf2 0 (by omega) X Y (by omega) (by omega) (by omega) (by omega)
  refine ⟨sI σ2 6 (nI P), sI (sI (sI (sI τ2 2 (nI X)) 3 (nI Y)) 6 10) 1 0, l, t, w, h, P, rfl, rfl, ⟨⟨by show σ2.2.1 1 = τ2.2.1 0; rw [k3, m3], hg2, hro2, hrf2⟩, ⟨by omega, ?_, rfl, fun i hi => absurd hi (by omega)⟩, by omega, fun i hi => absurd hi (by omega)⟩, ?_, ?_, ⟨by omega, rfl, by rw [hPx]; rfl, by rw [hPy]; rfl, hgP⟩, fun k h6 h7 => ?_, k2.trans a9, ?_, rfl, ?_, fun k z1 z2 z3 z4 z5 => ?_, m2.trans b3, ?_⟩
  · show σ2.1 7 = nI 0
    rw [k1, a7]; rfl
  · intro r hr
    show σ2.2.2 2 r = τ2.2.2 1 r + 1 ∧ (τ2.2.2 1 r = -1 ∨ ∃ v : Nat, v < 4 ∧ τ2.2.2 1 r = nI v)
    rw [k5 2 (by decide), m5 1 (by decide)]
    exact ht r hr
  · intro r hr
    show σ2.2.2 3 r = 0 ∧ τ2.2.2 3 r = 0
    rw [k5 3 (by decide), m5 3 (by decide)]
    exact hkn r hr
  · rw [sI_1, if_neg h6, k1]; exact a8 k h7
  · show σ2.2.2 15 = _
    rw [k5 15 (by decide)]; exact a10
  · show τ2.1 8 = _
    rw [m1]; exact b1
  · rw [sI_1, if_neg z1, sI_1, if_neg z4, sI_1, if_neg z3, sI_1, if_neg z2, m1]; exact b2 k z5
  · show τ2.2.2 15 = _
    rw [m5 15 (by decide)]; exact b4
