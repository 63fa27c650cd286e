/-! PURE: ways, places, the rooms' loop (own work) -/
theorem K_cc (m : Nat) {σ τ : St} {l t w h : Nat → Nat} (hB : RO σ τ l t w h 4) {i : Nat} (hi : i < 4) : f_Maker_centreColumn m (nI i) σ = some (nI (l i + w i / 2), σ) := by
  obtain ⟨⟨a1, a2, a3, a4, a5, a6, a7, a8⟩, b⟩ := hB i hi
  unfold f_Maker_centreColumn
  rw [gd_e (inb_n hi (by omega)), gd_e (inb_n hi (by omega)), tn_n (by omega), a1, a3, show (2 : Int32) = nI 2 from rfl, pk_div (by omega) (by omega) (by omega), nI_add]
theorem K_cr (m : Nat) {σ τ : St} {l t w h : Nat → Nat} (hB : RO σ τ l t w h 4) {i : Nat} (hi : i < 4) : f_Maker_centreRow m (nI i) σ = some (nI (t i + h i / 2), σ) := by
  obtain ⟨⟨a1, a2, a3, a4, a5, a6, a7, a8⟩, b⟩ := hB i hi
  unfold f_Maker_centreRow
  rw [gd_e (inb_n hi (by omega)), gd_e (inb_n hi (by omega)), tn_n (by omega), a2, a4, show (2 : Int32) = nI 2 from rfl, pk_div (by omega) (by omega) (by omega), nI_add]
theorem BG_rc {σ τ : St} {l t w h : Nat → Nat} {n : Nat} (s : Int64) {gk gm : Nat → Int32} (hB : BG σ τ l t w h n) (he : ∀ p, p < 120 → gk p = gm p) (hb : bor gk) (hne : ∀ p, (σ.2.2 1) p ≠ 0 → gk p ≠ 0) : BG (sB (sL σ 1 s) 1 gk) (sB (sL τ 0 s) 0 gm) l t w h n :=
  ⟨rfl, ⟨he, hb⟩, hB.2.2.1, fun i hi x y a b c d => hne _ (hB.2.2.2 i hi x y a b c d)⟩
theorem way_rel {m : Nat} (hm : 20 ≤ m) {σ τ : St} {l t w h : Nat → Nat} (hB : BG σ τ l t w h 4) {i k : Nat} (hi : i < 4) (hk : k < 4) :
    ∃ σ' τ' : St, f_Maker_digWay m (nI i) (nI k) σ = some ((), σ') ∧ f_Model_way m (nI i) (nI k) τ = some ((), τ') ∧ BG σ' τ' l t w h 4 ∧ fK1 σ σ' ∧ fM1 τ τ' := by
  have hro := hB.2.2.1
  obtain ⟨⟨a1, a2, a3, a4, a5, a6, a7, a8⟩, bi⟩ := hro i hi
  obtain ⟨⟨c1, c2, c3, c4, c5, c6, c7, c8⟩, bk⟩ := hro k hk
  unfold f_Maker_digWay f_Model_way
  rw [K_cc m hro hi, bd_e, K_cr m hro hi, bd_e, K_cc m hro hk, bd_e, K_cr m hro hk, bd_e]
  rw [show f_Draws_draw_making m 2 σ = _ from K_mk m (a := 2) (by omega) (by omega) σ, bd_e]
  rw [gd_e (inb_n hi (by omega)), gd_e (inb_n hi (by omega)), bnd_e, gd_e (inb_n hi (by omega)), gd_e (inb_n hi (by omega)), bnd_e, gd_e (inb_n hk (by omega)), gd_e (inb_n hk (by omega)), bnd_e, gd_e (inb_n hk (by omega)), gd_e (inb_n hk (by omega)), bnd_e, tn_n (by omega), tn_n (by omega), a5, a6, a7, a8, c5, c6, c7, c8]
  rw [show f_Model_make m 2 τ = _ from M_mk m (a := 2) (by omega) (by omega) τ, bd_e, ← hB.1]
  rw [show (2 : Int32) = nI 2 from rfl, pk_div (by omega) (by omega) (by omega), pk_div (by omega) (by omega) (by omega), pk_div (by omega) (by omega) (by omega), pk_div (by omega) (by omega) (by omega), nI_add, nI_add, nI_add, nI_add]
  have hlt := drw_lt (nxS (σ.2.1 1)) (show 0 < 2 by omega)
  generalize nxS (σ.2.1 1) = s at hlt ⊢
  generalize drw s 2 = v at hlt ⊢
  obtain ⟨a, ha⟩ : ∃ z, z = l i + w i / 2 := ⟨_, rfl⟩
  obtain ⟨b, hb⟩ : ∃ z, z = t i + h i / 2 := ⟨_, rfl⟩
  obtain ⟨c, hc⟩ : ∃ z, z = l k + w k / 2 := ⟨_, rfl⟩
  obtain ⟨d, hd⟩ : ∃ z, z = t k + h k / 2 := ⟨_, rfl⟩
  rw [← ha, ← hb, ← hc, ← hd]
  have xa : 1 ≤ a ∧ a ≤ 10 := by omega
  have xb : 1 ≤ b ∧ b ≤ 8 := by omega
  have xc : 1 ≤ c ∧ c ≤ 10 := by omega
  have xd : 1 ≤ d ∧ d ≤ 8 := by omega
  clear ha hb hc hd a1 a2 a3 a4 a5 a6 a7 a8 bi c1 c2 c3 c4 c5 c6 c7 c8 bk
  have hg := hB.2.1
  rcases (show v = 0 ∨ v = 1 by omega) with rfl | rfl
  · rw [if_pos (show nI 0 = 0 from rfl), if_pos (show nI 0 = 0 from rfl)]
    have eK : f_Maker_digWay_44 m (nI a) (nI b) (nI c) (nI d) 1 (sL σ 1 s) = some ((), sB (sL σ 1 s) 1 (rc (rc (σ.2.2 1) (min a c) (max a c + 1) b (b + 1)) c (c + 1) (min b d) (max b d + 1))) := by
      unfold f_Maker_digWay_44
      rw [if_neg (by decide)]
      unfold f_Maker_digWay_59
      rw [K_row hm _ (by omega) (by omega) (by omega), bd_e, if_neg (by decide)]
      unfold f_Maker_digWay_80
      rw [K_col hm _ (by omega) (by omega) (by omega), bd_e, sB_sB]
      rfl
    rw [eK, M_dig hm _ (by omega) (by omega) (by omega) (by omega), bd_e, M_dig hm _ (by omega) (by omega) (by omega) (by omega), bd_e, sB_sB]
    rw [show min b b = b by omega, show max b b = b by omega, show min c c = c by omega, show max c c = c by omega]
    refine ⟨_, _, rfl, rfl, BG_rc s hB ?_ ?_ ?_, ⟨rfl, rfl, fun z z1 _ _ _ _ => ?_⟩, ⟨rfl, rfl, fun z z1 _ _ _ _ => ?_⟩⟩
    · exact rc_eq (rc_eq hg.1 _ _ _ _) _ _ _ _
    · exact rc_bor (rc_bor hg.2 (by omega) (by omega) (by omega) (by omega)) (by omega) (by omega) (by omega) (by omega)
    · exact fun p q => rc_ne (rc_ne q)
    · exact if_neg z1
    · exact if_neg z1
  · rw [if_neg (show ¬ nI 1 = 0 by decide), if_neg (show ¬ nI 1 = 0 by decide)]
    have eK : f_Maker_digWay_44 m (nI a) (nI b) (nI c) (nI d) 0 (sL σ 1 s) = some ((), sB (sL σ 1 s) 1 (rc (rc (σ.2.2 1) (min a c) (max a c + 1) d (d + 1)) a (a + 1) (min b d) (max b d + 1))) := by
      unfold f_Maker_digWay_44
      rw [if_pos rfl]
      unfold f_Maker_digWay_59
      rw [K_row hm _ (by omega) (by omega) (by omega), bd_e, if_pos rfl]
      unfold f_Maker_digWay_80
      rw [K_col hm _ (by omega) (by omega) (by omega), bd_e, sB_sB]
      rfl
    rw [eK, M_dig hm _ (by omega) (by omega) (by omega) (by omega), bd_e, M_dig hm _ (by omega) (by omega) (by omega) (by omega), bd_e, sB_sB]
    rw [show min a a = a by omega, show max a a = a by omega, show min d d = d by omega, show max d d = d by omega]
    refine ⟨_, _, rfl, rfl, BG_rc s hB ?_ ?_ ?_, ⟨rfl, rfl, fun z z1 _ _ _ _ => ?_⟩, ⟨rfl, rfl, fun z z1 _ _ _ _ => ?_⟩⟩
    · rw [rc_swap]
      exact rc_eq (rc_eq hg.1 _ _ _ _) _ _ _ _
    · exact rc_bor (rc_bor hg.2 (by omega) (by omega) (by omega) (by omega)) (by omega) (by omega) (by omega) (by omega)
    · exact fun p q => rc_ne (rc_ne q)
    · exact if_neg z1
    · exact if_neg z1
theorem rooms_loop {m : Nat} (hm : 20 ≤ m) (y yd : Int32) : ∀ (r i j j' : Nat) (σ τ : St) (l t w h : Nat → Nat), i + r = 4 → BG σ τ l t w h i →
    ∃ (σ' τ' : St) (l' t' w' h' : Nat → Nat), f_Maker_make_30 m (j + r) yd (nI i) σ = f_Maker_make_30 m j yd (nI 4) σ' ∧ f_Model_build_60 m (j' + r) y (nI i) τ = f_Model_build_60 m j' y (nI 4) τ' ∧ BG σ' τ' l' t' w' h' 4 ∧ fK1 σ σ' ∧ fM1 τ τ' := by
  intro r
  induction r with
  | zero =>
    intro i j j' σ τ l t w h hi hB
    obtain rfl : i = 4 := by omega
    exact ⟨σ, τ, l, t, w, h, rfl, rfl, hB, fK1_r σ, fM1_r τ⟩
  | succ r ih =>
    intro i j j' σ τ l t w h hi hB
    obtain ⟨σ1, τ1, l1, t1, w1, h1, a1, a2, a3, a4, a5⟩ := room_rel hm (show i < 4 by omega) hB y (j' + r)
    obtain ⟨σ', τ', l', t', w', h', b1, b2, b3, b4, b5⟩ := ih (i + 1) j j' σ1 τ1 l1 t1 w1 h1 (by omega) a3
    refine ⟨σ', τ', l', t', w', h', ?_, ?_, b3, fK1_t a4 b4, fM1_t a5 b5⟩
    · rw [show j + (r + 1) = (j + r) + 1 by omega, f_Maker_make_30_s, if_neg (fun z : (4 : Int32) ≤ nI i => by have := (le_n (a := 4) (by omega) (by omega)).mp z; omega), a1, bd_e, bnd_e, nI_1]
      exact b1
    · rw [show j' + (r + 1) = (j' + r) + 1 by omega, a2]
      exact b2
/-- a place in room k is drawn -/
theorem K_place {m : Nat} {σ τ : St} {l t w h : Nat → Nat} (hro : RO σ τ l t w h 4) {k : Nat} (hk : k < 4) :
    ∃ (x y : Nat) (s : Int64), f_Maker_drawPlace m (nI k) σ = some (nI (12 * y + x), sL σ 1 s) ∧ l k ≤ x ∧ x < l k + w k ∧ t k ≤ y ∧ y < t k + h k ∧ x = l k + drw (nxS (σ.2.1 1)) (w k) ∧ y = t k + drw (nxS (nxS (σ.2.1 1))) (h k) ∧ s = nxS (nxS (σ.2.1 1)) := by
  obtain ⟨⟨a1, a2, a3, a4, a5, a6, a7, a8⟩, b⟩ := hro k hk
  have l1 := drw_lt (nxS (σ.2.1 1)) (show 0 < w k by omega)
  have l2 := drw_lt (nxS (nxS (σ.2.1 1))) (show 0 < h k by omega)
  refine ⟨l k + drw (nxS (σ.2.1 1)) (w k), t k + drw (nxS (nxS (σ.2.1 1))) (h k), _, ?_, by omega, by omega, by omega, by omega, rfl, rfl, rfl⟩
  unfold f_Maker_drawPlace
  rw [if_neg (lt0_n (by omega)), if_pos (show nI k < 4 from (lt_n (b := 4) (by omega) (by omega)).mpr hk), gd_e (inb_n hk (by omega)), gd_e (inb_n hk (by omega)), tn_n (by omega), a1, a3, K_mk m (by omega) (by omega), bd_e, bnd_e, nI_add]
  rw [gd_e (inb_n hk (by omega)), gd_e (inb_n hk (by omega)), show (sL σ 1 (nxS (σ.2.1 1))).2.2 = σ.2.2 from rfl, a2, a4, K_mk m (by omega) (by omega), bd_e, bnd_e, nI_add]
  rw [show (12 : Int32) = nI 12 from rfl, pk_mul, nI_add, show (sL σ 1 (nxS (σ.2.1 1))).2.1 1 = nxS (σ.2.1 1) from rfl]
  congr 2
  · congr 1; omega
  · exact Prod.ext rfl (Prod.ext (by funext j; show vp_updL (vp_updL σ.2.1 1 _) 1 _ j = vp_updL σ.2.1 1 _ j; unfold vp_updL; by_cases e : j = 1 <;> simp [e]) rfl)
