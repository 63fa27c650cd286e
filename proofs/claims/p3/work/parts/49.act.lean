/-! PURE: a monster acts, on both sides (own work) -/
theorem kind_tn {x : Int32} (h : x = 0 ∨ x = 1 ∨ x = 2) : inb x 3 = true ∧ tb_HIT_OF x.toNatClampNeg = (if x = 1 then 2 else 1) ∧ tb_SPEED_OF x.toNatClampNeg = (if x = 0 then 8 else if x = 1 then 6 else 14) := by
  rcases h with rfl | rfl | rfl <;> decide
theorem R_m_lt {σ τ : St} {P N : Nat} {q : Nat → Nat} (h : R_m σ τ P N q) {i : Nat} (hi : i < N) : i < 5 := Nat.lt_of_lt_of_le hi h.1
/-- the player is hit -/
theorem hit_rel {m : Nat} {σ τ : St} {P N : Nat} {q : Nat → Nat} {h : Int} {w : Bool} {e hs L i : Nat} (hR : RG σ τ P N q h w e hs L) (hi : i < N) (h1 : 1 ≤ h) (hw : w = false) :
    ∃ (τ' : St) (h' : Int), f_Model_wound m (nI i) τ = some ((), τ') ∧ RG (sI σ 10 (σ.1 10 - tb_HIT_OF (σ.2.2 4 i).toNatClampNeg)) τ' P N q h' w e hs L ∧ τ'.2.2 = τ.2.2 ∧ h' ≤ h ∧ τ'.1 11 = τ.1 11 := by
  obtain ⟨hg, hp, hm, ht, hk, hd, hb, hh, hz⟩ := hR
  have hi5 := R_m_lt hm hi
  obtain ⟨a1, a2, a3, a4, a5, a6, a7, a8, a9, a10, a11, a12, a13⟩ := hm.2.2.2 i hi
  obtain ⟨b1, b2, b3, b4, b5, b6⟩ := hh
  rw [if_neg (by omega)] at b4
  have key : ∀ k : Int, (k = 1 ∨ k = 2) → ∃ (τ' : St) (h' : Int), f_Model_wound_20 m (zI k) (τ.1 4) τ = some ((), τ') ∧ RG (sI σ 10 (σ.1 10 - zI k)) τ' P N q h' w e hs L ∧ τ'.2.2 = τ.2.2 ∧ h' ≤ h ∧ τ'.1 11 = τ.1 11 := by
    intro k hk2
    unfold f_Model_wound_20
    rw [bnd_e, b4, zI_sub, b3, zI_sub]
    rw [show (sI τ 4 (zI (h - k))).1 4 = zI (h - k) from rfl]
    have hc : zI (h - k) ≤ 0 ↔ h - k ≤ 0 := zI_le (a := h - k) (b := 0) ⟨by omega, by omega⟩ ⟨by omega, by omega⟩
    by_cases hd0 : h - k ≤ 0
    · rw [if_pos (hc.mpr hd0), bnd_e, bnd_e]
      refine ⟨_, h - k, rfl, ⟨hg, hp, hm, ht, hk, hd, hb, ⟨by omega, by omega, rfl, ?_, b5, ?_⟩, hz⟩, rfl, by omega, rfl⟩
      · rw [if_pos hd0]; rfl
      · rw [if_pos hd0]; rfl
    · rw [if_neg (fun z => hd0 (hc.mp z))]
      refine ⟨_, h - k, rfl, ⟨hg, hp, hm, ht, hk, hd, hb, ⟨by omega, by omega, rfl, ?_, b5, ?_⟩, hz⟩, rfl, by omega, rfl⟩
      · rw [if_neg hd0]; rfl
      · rw [if_neg hd0]; rw [if_neg (by omega)] at b6; exact b6
  unfold f_Model_wound
  rw [gd_e (inb_n (by omega) (by omega)), tn_n (by omega), ← a6, (kind_tn a7).2.1]
  by_cases hk1 : σ.2.2 4 i = 1
  · rw [if_pos hk1, if_pos hk1]
    exact key 2 (Or.inr rfl)
  · rw [if_neg hk1, if_neg hk1]
    exact key 1 (Or.inl rfl)
/-- a monster goes to r -/
theorem go_rel {m : Nat} {σ τ : St} {P N : Nat} {q : Nat → Nat} {h : Int} {w : Bool} {e hs L i r : Nat} (hR : RG σ τ P N q h w e hs L) (hi : i < N) (hr : r < 120) (hgr : (σ.2.2 1) r ≠ 0) (hP : r ≠ P) :
    ∃ τ' : St, f_Model_put m (nI i) (nI (r % 12)) (nI (r / 12)) τ = some ((), τ') ∧ RG (sA σ 5 i (nI r)) τ' P N (ud q i r) h w e hs L ∧ τ'.2.2 8 = τ.2.2 8 ∧ τ'.1 11 = τ.1 11 := by
  obtain ⟨hg, hp, hm, ht, hk, hd, hb, hh, hz⟩ := hR
  have hi5 := R_m_lt hm hi
  unfold f_Model_put
  rw [gd_e (inb_n (by omega) (by omega)), bnd_e, gd_e (inb_n (by omega) (by omega)), bnd_e, tn_n (by omega)]
  refine ⟨_, rfl, ⟨hg, hp, ⟨hm.1, hm.2.1, hm.2.2.1, fun k hkN => ?_⟩, ht, hk, hd, hb, hh, hz⟩, rfl, rfl⟩
  obtain ⟨a1, a2, a3, a4, a5, a6, a7, a8, a9, a10, a11, a12, a13⟩ := hm.2.2.2 k hkN
  by_cases e : k = i
  · subst e
    refine ⟨by rw [ud_s]; exact hr, by rw [ud_s]; exact hgr, ?_, ?_, ?_, a6, a7, a8, a9, a10, a11, a12, fun _ => by rw [ud_s]; exact hP⟩
    · rw [ud_s]; exact pk_us
    · rw [ud_s]; exact pk_us
    · rw [ud_s]; exact pk_us
  · refine ⟨by rw [ud_n _ _ e]; exact a1, by rw [ud_n _ _ e]; exact a2, ?_, ?_, ?_, a6, a7, a8, a9, a10, a11, a12, by rw [ud_n _ _ e]; exact a13⟩
    · rw [ud_n _ _ e]; exact (pk_un e).trans a3
    · rw [ud_n _ _ e]; exact (pk_un e).trans a4
    · rw [ud_n _ _ e]; exact (pk_un e).trans a5
/-- a monster wakes, or sleeps on -/
theorem wake_rel {σ τ : St} {P N : Nat} {q : Nat → Nat} {h : Int} {w : Bool} {e hs L i : Nat} {b : Bool} (hR : RG σ τ P N q h w e hs L) (hi : i < N) : RG (sA σ 8 i (bI b)) (sA τ 9 i (bI b)) P N q h w e hs L := by
  obtain ⟨hg, hp, hm, ht, hk, hd, hb, hh, hz⟩ := hR
  refine ⟨hg, hp, ⟨hm.1, hm.2.1, hm.2.2.1, fun k hkN => ?_⟩, ht, hk, hd, hb, hh, hz⟩
  obtain ⟨a1, a2, a3, a4, a5, a6, a7, a8, a9, a10, a11, a12, a13⟩ := hm.2.2.2 k hkN
  by_cases e : k = i
  · subst e
    refine ⟨a1, a2, a3, a4, a5, a6, a7, a8, a9, ?_, ?_, a12, a13⟩
    · exact pk_us.trans pk_us.symm
    · rw [show (sA σ 8 k (bI b)).2.2 8 k = bI b from pk_us]
      cases b
      · exact Or.inl rfl
      · exact Or.inr rfl
  · refine ⟨a1, a2, a3, a4, a5, a6, a7, a8, a9, ?_, ?_, a12, a13⟩
    · exact (pk_un e).trans (a10.trans (pk_un e).symm)
    · rw [show (sA σ 8 i (bI b)).2.2 8 k = σ.2.2 8 k from pk_un e]
      exact a11
theorem sA_same (σ : St) (k i : Nat) {v : Int32} (h : σ.2.2 k i = v) : sA σ k i v = σ := by
  rw [sA_sB]
  have : upd (σ.2.2 k) i v = σ.2.2 k := by
    funext j
    by_cases e : j = i
    · subst e; simp [upd, h]
    · simp [upd, e]
  rw [this, sB_self]
theorem tn_dxv {p i : Nat} (hp : p < 120) (hi : i < 4) (hin : intr p = true) : nbr p i < 120 := (nbr_all p hp i hi hin).2.1
/-- a class's monster steps to r (or hits): a cell next to it -/
theorem K_go {m : Nat} (hm9 : 9 ≤ m) {σ τ : St} {P N : Nat} {q : Nat → Nat} {h : Int} {w : Bool} {e hs L i r : Nat} (hR : RG σ τ P N q h w e hs L) (hi : i < N) (hr : r < 120) :
    f_Game_goOrHit m (nI i) (nI r) σ = some ((), if r = P then sI σ 10 (σ.1 10 - tb_HIT_OF (σ.2.2 4 i).toNatClampNeg) else if flr (σ.2.2 1) r = true ∧ who σ N r = none then sA σ 5 i (nI r) else σ) := by
  obtain ⟨hg, hp, hm, ht, hk, hd, hb, hh, hz⟩ := hR
  have hi5 := R_m_lt hm hi
  obtain ⟨a1, a2, a3, a4, a5, a6, a7, a8, a9, a10, a11, a12, a13⟩ := hm.2.2.2 i hi
  have hP := hp.1
  unfold f_Game_goOrHit
  rw [hp.2.1]
  by_cases e : r = P
  · rw [if_pos (by rw [e]), if_pos e, gd_e (inb_n hi5 (by omega)), tn_n (by omega), gd_e (kind_tn a7).1, bnd_e]
  · rw [if_neg (fun z => e ((eq_n (by omega) (by omega)).mp z)), if_neg e, K_isFloor m (by omega), bd_e]
    by_cases hf : flr (σ.2.2 1) r = true
    · rw [if_neg (by rw [hf]; decide), K_who hm9 hm, bd_e]
      have ho := oI_none (d := -2) (o := who σ N r) (N := N) (by decide) (fun k hk => (who_some hk).1) (by have := hm.1; omega)
      by_cases hw : who σ N r = none
      · rw [if_pos (ho.1.mpr hw), if_pos ⟨hf, hw⟩, gd_e (inb_n hi5 (by omega)), bnd_e, tn_n (by omega)]
      · rw [if_neg (fun z => hw (ho.1.mp z)), if_neg (fun z => hw z.2)]
    · rw [if_pos (by rw [Bool.not_eq_true] at hf; rw [hf]; decide), if_neg (fun z => hf z.1)]
theorem isD_congr {g g' : Nat → Int32} {P : Nat} {d : Nat → Int} (h : ∀ p, p < 120 → g p = g' p) (hd : isD g P d) : isD g' P d := by
  obtain ⟨h1, h2, h3, h4⟩ := hd
  exact ⟨h1, fun p hp q => by rw [← h p hp]; exact h2 p hp q, h3, fun p hp q t ht hn hg => h4 p hp q t ht hn (by rw [h _ hn]; exact hg)⟩
theorem bor_congr {g g' : Nat → Int32} (h : ∀ p, p < 120 → g p = g' p) (hd : bor g) : bor g' := fun p hp q => hd p hp (by rw [h p hp]; exact q)
theorem RG_mst {σ τ : St} {P N : Nat} {q : Nat → Nat} {h : Int} {w : Bool} {e hs L : Nat} (d : Nat → Int) (hR : RG σ τ P N q h w e hs L) : RG σ (mst τ d) P N q h w e hs L := hR
/-- a rat or an orc that is awake -/
theorem step_rel {m : Nat} (hm : 130 ≤ m) {σ τ : St} {P N : Nat} {q : Nat → Nat} {h : Int} {w : Bool} {en hs L i : Nat} (hR : RG σ τ P N q h w en hs L) (hi : i < N) (hal : ¬ σ.2.2 6 i ≤ 0) (h1 : 1 ≤ h) (hw0 : w = false) {e : Nat → Int} (he : isD (τ.2.2 0) P e) (he1 : ∀ p, p < 120 → e p = -1 ∨ 0 ≤ e p) (he2 : ∀ p, p < 120 → e p ≤ 200) {s : Int} {fl : Int32} (hs2 : (s = 1 ∧ fl = 0) ∨ (s = -1 ∧ fl = 1)) :
    ∃ (σ' τ' : St) (q' : Nat → Nat) (h' : Int), bd (f_Game_bestStep m (nI (q i)) (zI s) σ) (fun r σ2 => bd (f_Game_goOrHit m (nI i) r σ2) (fun _ σ3 => some ((), σ3))) = some ((), σ') ∧ f_Model_acts_187 m (nI i) fl (mst τ e) = some ((), τ') ∧ RG σ' τ' P N q' h' w en hs L ∧ σ'.2.2 7 = σ.2.2 7 ∧ σ'.2.2 6 = σ.2.2 6 ∧ h' ≤ h ∧ τ'.1 11 = τ.1 11 := by
  have hR0 := hR
  have hRm : RG σ (mst τ e) P N q h w en hs L := RG_mst e hR
  obtain ⟨hg, hp, hmm, ht, hk, hd, hb, hh, hz⟩ := hR
  have hi5 := R_m_lt hmm hi
  have hN := hmm.1
  obtain ⟨a1, a2, a3, a4, a5, a6, a7, a8, a9, a10, a11, a12, a13⟩ := hmm.2.2.2 i hi
  have hin : intr (q i) = true := hg.2 _ a1 a2
  obtain ⟨d, gr, d1, d2, d3, d4, d5, d6, d7⟩ := hd
  have heg : isD (σ.2.2 1) P e := isD_congr (fun p hp => (hg.1 p hp).symm) he
  have hone := isD_one hg.2 d1 heg
  have hsg : s = 1 ∨ s = -1 := by rcases hs2 with ⟨z, _⟩ | ⟨z, _⟩ <;> simp [z]
  have hcls : (∀ a, a < 120 → (a = q i ∨ ∃ u, u < 4 ∧ a = nbr (q i) u ∧ flr (σ.2.2 1) a = true) → d a = e a) ∨ (∀ a, a < 120 → (a = q i ∨ ∃ u, u < 4 ∧ a = nbr (q i) u ∧ flr (σ.2.2 1) a = true) → d a = -2 ∧ e a = -1) := by
    by_cases h0 : 0 ≤ d (q i)
    · left
      intro a ha hc
      rcases hc with rfl | ⟨u, hu, rfl, hf⟩
      · exact (hone _ a1).2 h0
      · exact (hone _ ha).2 (d1.2.2.2 _ a1 h0 u hu ha (flr_y hf).2).1
    · right
      have neg : ∀ a, a < 120 → ¬ 0 ≤ d a → d a = -2 ∧ e a = -1 := fun a ha hn => by
        have x1 := d2 a ha
        have x2 := he1 a ha
        have x3 := (hone a ha).1
        refine ⟨by omega, ?_⟩
        rcases x2 with x2 | x2
        · exact x2
        · exact absurd (x3.mpr x2) hn
      intro a ha hc
      rcases hc with rfl | ⟨u, hu, rfl, hf⟩
      · exact neg _ a1 h0
      · refine neg _ ha (fun hpos => h0 ?_)
        obtain ⟨v, hv, hev⟩ := (nbr_back _ a1 u hu hin).2 (hg.2 _ ha (flr_y hf).2)
        have := d1.2.2.2 _ ha hpos v hv (by rw [hev]; exact a1) (by rw [hev]; exact a2)
        rw [hev] at this
        exact this.1
  have hcmp : ∀ a b, a < 120 → b < 120 → (a = q i ∨ ∃ u, u < 4 ∧ a = nbr (q i) u ∧ flr (σ.2.2 1) a = true) → (b = q i ∨ ∃ u, u < 4 ∧ b = nbr (q i) u ∧ flr (σ.2.2 1) b = true) → (s * d a < s * d b ↔ s * e a < s * e b) := by
    intro a b ha hb2 ca cb
    rcases hcls with z | z
    · rw [z a ha ca, z b hb2 cb]
    · rw [(z a ha ca).1, (z b hb2 cb).1, (z a ha ca).2, (z b hb2 cb).2]
      constructor <;> intro y <;> omega
  have hdb : ∀ c, c < 120 → σ.2.2 13 c = zI (d c) ∧ -10 ≤ d c ∧ d c ≤ 300 := fun c hc => ⟨d3 c hc, by have := d2 c hc; omega, by have := d5 c hc; omega⟩
  have heb : ∀ c, c < 120 → (mst τ e).2.2 2 c = zI (e c) ∧ -10 ≤ e c ∧ e c ≤ 300 := fun c hc => ⟨rfl, by have := he1 c hc; omega, by have := he2 c hc; omega⟩
  obtain ⟨b', c1, c2, c3⟩ := K_best_loop (m := m) (by omega) hmm hg.2 hsg hdb a1 a2 hcmp 4 0 m (q i) none 0 (by omega) (by omega) (Or.inl rfl) ⟨rfl, fun u hu => by omega⟩
  have hb120 : b' < 120 := by
    rcases c2 with rfl | ⟨u, hu, rfl, _⟩
    · exact a1
    · exact tn_dxv a1 hu hin
  have hM := M_best_loop (m := m) (by omega) (τ := mst τ e) hRm.2.2.1 hi hRm.1 hs2 heb 4 0 m none 0 (e (q i)) (by omega) (by omega) (fun k hk => by cases hk) (by omega) (heb _ a1).2
  have eK : f_Game_bestStep m (nI (q i)) (zI s) σ = some (nI b', σ) := c3
  have hself : who σ N (q i) ≠ none := by
    intro hn
    have := ff_no hn i (by omega) (by omega)
    simp [hal, a3] at this
  have stay : f_Game_goOrHit m (nI i) (nI (q i)) σ = some ((), σ) := by
    rw [K_go (by omega) hR0 hi a1, if_neg (a13 hal), if_neg (fun z => hself z.2)]
  have eM : f_Model_acts_187 m (nI i) fl (mst τ e) = f_Model_acts_219 m m (nI i) fl (biI none) (zI 0) (zI (e (q i))) (nI 0) (mst τ e) := by
    unfold f_Model_acts_187
    rw [gd_e (inb_n (by omega) (by omega)), gd_e (inb_n (by omega) (by omega)), tn_n (by omega)]
    rw [show (mst τ e).2.2 6 i = nI (q i / 12) from a5, show (mst τ e).2.2 5 i = nI (q i % 12) from a4]
    rw [show (12 : Int32) * nI (q i / 12) + nI (q i % 12) = nI (q i) from by rw [show (12 : Int32) = nI 12 from rfl, pk_mul, nI_add]; congr 1; omega]
    rw [gd_e (inb_n a1 (by omega)), bnd_e, tn_n (by omega), mst_2]
    rfl
  rw [eK, bd_e, eM, hM]
  have nothing : b' = q i → ∃ (σ' τ' : St) (q' : Nat → Nat) (h' : Int), bd (f_Game_goOrHit m (nI i) (nI b') σ) (fun _ σ3 => some ((), σ3)) = some ((), σ') ∧ (some ((), mst τ e) : Option (Unit × St)) = some ((), τ') ∧ RG σ' τ' P N q' h' w en hs L ∧ σ'.2.2 7 = σ.2.2 7 ∧ σ'.2.2 6 = σ.2.2 6 ∧ h' ≤ h ∧ τ'.1 11 = τ.1 11 := by
    intro hbe
    rw [hbe, stay, bd_e]
    exact ⟨_, _, q, h, rfl, rfl, hRm, rfl, rfl, Int.le_refl _, rfl⟩
  revert c1
  generalize mf e s (q i) (fun c => flr (σ.2.2 1) c && decide (who σ N c = none)) 4 0 none 0 = mm
  obtain ⟨bi, far⟩ := mm
  intro c1
  cases bi with
  | none =>
    have hbe : b' = q i := c1.1
    exact nothing hbe
  | some k =>
    obtain ⟨f1, f2, f3, f4⟩ := c1
    show ∃ (σ' τ' : St) (q' : Nat → Nat) (h' : Int), _ ∧ (if s * far < s * e (q i) then f_Model_acts_360 m (nI i) (nI k) (mst τ e) else some ((), mst τ e)) = some ((), τ') ∧ _
    rcases f4 with ⟨g1, g2⟩ | ⟨g1, g2⟩
    · rw [if_pos g1]
      obtain ⟨n1, n2, n3, n4, n5⟩ := nbr_all _ a1 k f1 hin
      have hfre := f2
      simp only [Bool.and_eq_true, decide_eq_true_eq] at hfre
      unfold f_Model_acts_360
      rw [gd_e (inb_n (by omega) (by omega)), M_dx m f1, bd_e, bnd_e, gd_e (inb_n (by omega) (by omega)), M_dy m f1, bd_e, bnd_e, tn_n (by omega)]
      rw [show (mst τ e).2.2 6 i = nI (q i / 12) from a5, show (mst τ e).2.2 5 i = nI (q i % 12) from a4, n3, n4]
      rw [show (mst τ e).1 2 = nI (P % 12) from hp.2.2.1, show (mst τ e).1 3 = nI (P / 12) from hp.2.2.2.1]
      rw [g2, K_go (by omega) hR0 hi n2]
      have hP := hp.1
      by_cases hbP : nbr (q i) k = P
      · rw [if_pos hbP, bd_e, hbP, if_pos rfl, if_pos rfl]
        obtain ⟨τ', h', w1, w2, w3, w4, w5⟩ := hit_rel (m := m) hRm hi h1 hw0
        rw [w1, bd_e]
        exact ⟨_, _, q, h', rfl, rfl, w2, rfl, rfl, w4, w5⟩
      · rw [if_neg hbP, if_pos ⟨hfre.1, hfre.2⟩, bd_e]
        obtain ⟨τ', w1, w2, w3, w5⟩ := go_rel (m := m) hRm hi n2 (flr_y hfre.1).2 hbP
        have hput : f_Model_acts_412 m (nI i) (nI (nbr (q i) k % 12)) (nI (nbr (q i) k / 12)) (mst τ e) = some ((), τ') := by
          unfold f_Model_acts_412
          rw [w1, bd_e]
        rw [hput]
        refine ⟨_, τ', _, h, rfl, ?_, w2, rfl, rfl, Int.le_refl _, w5⟩
        split
        · split
          · rename_i z1 z2
            exact absurd (cell_eq _ n2 _ hP ((eq_n (by omega) (by omega)).mp z1) ((eq_n (by omega) (by omega)).mp z2)) hbP
          · rfl
        · rfl
    · rw [if_neg g1]
      exact nothing g2
theorem mxA_sym (p r : Nat) : mxA (cdx p r) (cdy p r) = mxA (cdx r p) (cdy r p) := by
  unfold mxA cdx cdy
  split <;> split <;> omega
theorem three_le (x : Int32) : 3 ≤ x ↔ 2 < x := by
  rw [Int32.le_iff_toInt_le, Int32.lt_iff_toInt_lt, show (3 : Int32).toInt = 3 from rfl, show (2 : Int32).toInt = 2 from rfl]
  omega
/-- a monster acts -/
theorem act_rel {m : Nat} (hm : 130 ≤ m) {σ τ : St} {P N : Nat} {q : Nat → Nat} {h : Int} {w : Bool} {en hs L i : Nat} (hR : RG σ τ P N q h w en hs L) (hi : i < N) (hal : ¬ σ.2.2 6 i ≤ 0) (h1 : 1 ≤ h) (hw0 : w = false) :
    ∃ (σ' τ' : St) (q' : Nat → Nat) (h' : Int), f_Game_act m (nI i) σ = some ((), σ') ∧ f_Model_acts m (nI i) τ = some ((), τ') ∧ RG σ' τ' P N q' h' w en hs L ∧ σ'.2.2 7 = σ.2.2 7 ∧ σ'.2.2 6 = σ.2.2 6 ∧ h' ≤ h ∧ τ'.1 11 = τ.1 11 := by
  have hR0 := hR
  obtain ⟨hg, hp, hmm, ht, hk, hd, hb, hh, hz⟩ := hR
  have hi5 := R_m_lt hmm hi
  have hN := hmm.1
  have hP := hp.1
  obtain ⟨a1, a2, a3, a4, a5, a6, a7, a8, a9, a10, a11, a12, a13⟩ := hmm.2.2.2 i hi
  have hin : intr (q i) = true := hg.2 _ a1 a2
  have gc : ∀ p, p < 120 → τ.2.2 0 p = σ.2.2 1 p := fun p hp => (hg.1 p hp).symm
  unfold f_Game_act f_Model_acts
  rw [gd_e (inb_n hi5 (by omega)), bnd_e, gd_e (inb_n hi5 (by omega)), bnd_e, gd_e (inb_n hi5 (by omega)), gd_e (inb_n (show i < 8 by omega) (by omega)), tn_n (by omega), a3, ← a10]
  by_cases haw : σ.2.2 8 i = 0
  · rw [if_pos haw, if_pos haw, hp.2.1, K_sight (by omega) a1 hP, bd_e]
    rw [gd_e (inb_n (show i < 8 by omega) (by omega)), gd_e (inb_n (show i < 8 by omega) (by omega)), a4, a5, M_near m hP a1 hp.2.2.1 hp.2.2.2.1, bd_e]
    have w63 : ∀ v : Int32, f_Game_act_63 m v (nI i) σ = some ((), sA σ 8 i v) := fun v => by
      unfold f_Game_act_63
      rw [gd_e (inb_n hi5 (by omega)), bnd_e, tn_n (by omega)]
    have sleep : ∃ (σ' τ' : St) (q' : Nat → Nat) (h' : Int), f_Game_act_63 m 0 (nI i) σ = some ((), σ') ∧ (some ((), τ) : Option (Unit × St)) = some ((), τ') ∧ RG σ' τ' P N q' h' w en hs L ∧ σ'.2.2 7 = σ.2.2 7 ∧ σ'.2.2 6 = σ.2.2 6 ∧ h' ≤ h ∧ τ'.1 11 = τ.1 11 := by
      rw [w63 0, sA_same σ 8 i haw]
      exact ⟨σ, τ, q, h, rfl, rfl, hR0, rfl, rfl, Int.le_refl _, rfl⟩
    by_cases hn : mxA (cdx P (q i)) (cdy P (q i)) ≤ 4
    · rw [if_neg (show ¬ bI (decide (mxA (cdx P (q i)) (cdy P (q i)) ≤ 4)) = 0 by simp [hn, bI])]
      rw [gd_e (inb_n (show i < 8 by omega) (by omega)), gd_e (inb_n (show i < 8 by omega) (by omega)), a4, a5, hp.2.2.1, hp.2.2.2.1, M_clear (by omega) a1 hP (by rw [mxA_sym]; exact hn), bd_e, clear_congr gc]
      rw [show sight (σ.2.2 1) (q i) P = clear (σ.2.2 1) (q i) P from by unfold sight; rw [mxA_sym]; simp [hn]]
      by_cases hc : clear (σ.2.2 1) (q i) P = true
      · rw [if_neg (by rw [hc]; decide), if_neg (by rw [hc]; decide), w63 1, gd_e (inb_n (show i < 8 by omega) (by omega)), bnd_e]
        exact ⟨_, _, q, h, rfl, rfl, wake_rel (b := true) hR0 hi, rfl, rfl, Int.le_refl _, rfl⟩
      · rw [Bool.not_eq_true] at hc
        rw [if_pos (by rw [hc]; decide), if_pos (by rw [hc]; decide)]
        exact sleep
    · rw [if_pos (show bI (decide (mxA (cdx P (q i)) (cdy P (q i)) ≤ 4)) = 0 by simp [hn, bI])]
      rw [show sight (σ.2.2 1) (q i) P = false from by unfold sight; rw [mxA_sym]; simp [hn]]
      rw [if_pos (by decide)]
      exact sleep
  · rw [if_neg haw, if_neg haw, gd_e (inb_n (show i < 8 by omega) (by omega)), ← a6]
    by_cases hk2 : σ.2.2 4 i = 2
    · rw [if_pos hk2, if_pos hk2, show (4 : Int32) = nI 4 from rfl, K_play m (by omega) (by omega), bd_e, M_play m (by omega) (by omega), bd_e]
      have hpl : σ.2.1 0 = τ.2.1 1 := hz.2.1
      rw [← hpl]
      have hlt := drw_lt (nxS (σ.2.1 0)) (show 0 < 4 by omega)
      generalize hve : drw (nxS (σ.2.1 0)) 4 = v at hlt ⊢
      have hR1 : RG (sL σ 0 (nxS (σ.2.1 0))) (sL τ 1 (nxS (σ.2.1 0))) P N q h w en hs L := ⟨hg, hp, hmm, ht, hk, hd, hb, hh, ⟨hz.1, rfl, hz.2.2⟩⟩
      rw [K_nbr m hin hlt, bd_e]
      obtain ⟨n1, n2, n3, n4, n5⟩ := nbr_all _ a1 v hlt hin
      rw [K_go (by omega) hR1 hi n2, bd_e]
      rw [gd_e (inb_n (show i < 8 by omega) (by omega)), M_dx m hlt, bd_e, bnd_e, gd_e (inb_n (show i < 8 by omega) (by omega)), M_dy m hlt, bd_e, bnd_e]
      rw [show (sL τ 1 (nxS (σ.2.1 0))).2.2 = τ.2.2 from rfl, a4, a5, n3, n4]
      rw [show (sL τ 1 (nxS (σ.2.1 0))).1 = τ.1 from rfl, hp.2.2.1, hp.2.2.2.1]
      by_cases hbP : nbr (q i) v = P
      · rw [if_pos hbP, hbP, if_pos rfl, if_pos rfl]
        obtain ⟨τ', h', w1, w2, w3, w4, w5⟩ := hit_rel (m := m) hR1 hi h1 hw0
        rw [w1, bd_e]
        exact ⟨_, _, q, h', rfl, rfl, w2, rfl, rfl, w4, w5⟩
      · rw [if_neg hbP]
        have h129 : f_Model_acts_129 m (nI i) (nI (nbr (q i) v % 12)) (nI (nbr (q i) v / 12)) (sL τ 1 (nxS (σ.2.1 0))) = (if flr (σ.2.2 1) (nbr (q i) v) = true ∧ who σ N (nbr (q i) v) = none then bd (f_Model_put m (nI i) (nI (nbr (q i) v % 12)) (nI (nbr (q i) v / 12)) (sL τ 1 (nxS (σ.2.1 0)))) (fun _ σ53 => some ((), σ53)) else some ((), sL τ 1 (nxS (σ.2.1 0)))) := by
          unfold f_Model_acts_129
          rw [M_isFloor m (by omega) (by omega), bd_e, show 12 * (nbr (q i) v / 12) + nbr (q i) v % 12 = nbr (q i) v by omega, show (sL τ 1 (nxS (σ.2.1 0))).2.2 0 = τ.2.2 0 from rfl, flr_congr gc]
          by_cases hf : flr (σ.2.2 1) (nbr (q i) v) = true
          · rw [if_neg (by rw [hf]; decide), M_who (by omega) hR1.2.2.1 n2, bd_e]
            have ho := oI_none (d := -1) (o := who σ N (nbr (q i) v)) (N := N) (by decide) (fun k hk => (who_some hk).1) (by omega)
            rw [show who (sL σ 0 (nxS (σ.2.1 0))) N (nbr (q i) v) = who σ N (nbr (q i) v) from rfl]
            by_cases hw : who σ N (nbr (q i) v) = none
            · rw [if_neg (fun z => (ho.2.2.mp z) hw), if_pos ⟨hf, hw⟩]
            · rw [if_pos (ho.2.2.mpr hw), if_neg (fun z => hw z.2)]
          · rw [if_pos (by rw [Bool.not_eq_true] at hf; rw [hf]; decide), if_neg (fun z => hf z.1)]
        rw [h129]
        have both : ∀ X : Option (Unit × St), (if nI (nbr (q i) v % 12) = nI (P % 12) then (if nI (nbr (q i) v / 12) = nI (P / 12) then X else (if flr (σ.2.2 1) (nbr (q i) v) = true ∧ who σ N (nbr (q i) v) = none then bd (f_Model_put m (nI i) (nI (nbr (q i) v % 12)) (nI (nbr (q i) v / 12)) (sL τ 1 (nxS (σ.2.1 0)))) (fun _ σ53 => some ((), σ53)) else some ((), sL τ 1 (nxS (σ.2.1 0))))) else (if flr (σ.2.2 1) (nbr (q i) v) = true ∧ who σ N (nbr (q i) v) = none then bd (f_Model_put m (nI i) (nI (nbr (q i) v % 12)) (nI (nbr (q i) v / 12)) (sL τ 1 (nxS (σ.2.1 0)))) (fun _ σ53 => some ((), σ53)) else some ((), sL τ 1 (nxS (σ.2.1 0))))) = (if flr (σ.2.2 1) (nbr (q i) v) = true ∧ who σ N (nbr (q i) v) = none then bd (f_Model_put m (nI i) (nI (nbr (q i) v % 12)) (nI (nbr (q i) v / 12)) (sL τ 1 (nxS (σ.2.1 0)))) (fun _ σ53 => some ((), σ53)) else some ((), sL τ 1 (nxS (σ.2.1 0)))) := by
          intro X
          by_cases z1 : nI (nbr (q i) v % 12) = nI (P % 12)
          · rw [if_pos z1]
            by_cases z2 : nI (nbr (q i) v / 12) = nI (P / 12)
            · exact absurd (cell_eq _ n2 _ hP ((eq_n (by omega) (by omega)).mp z1) ((eq_n (by omega) (by omega)).mp z2)) hbP
            · rw [if_neg z2]
          · rw [if_neg z1]
        rw [both]
        rw [show (sL σ 0 (nxS (σ.2.1 0))).2.2 1 = σ.2.2 1 from rfl, show who (sL σ 0 (nxS (σ.2.1 0))) N (nbr (q i) v) = who σ N (nbr (q i) v) from rfl]
        by_cases hfw : flr (σ.2.2 1) (nbr (q i) v) = true ∧ who σ N (nbr (q i) v) = none
        · rw [if_pos hfw, if_pos hfw]
          obtain ⟨τ', w1, w2, w3, w5⟩ := go_rel (m := m) hR1 hi n2 (flr_y hfw.1).2 hbP
          rw [w1, bd_e]
          exact ⟨_, _, _, h, rfl, rfl, w2, rfl, rfl, Int.le_refl _, w5⟩
        · rw [if_neg hfw, if_neg hfw]
          exact ⟨_, _, q, h, rfl, rfl, hR1, rfl, rfl, Int.le_refl _, rfl⟩
    · rw [if_neg hk2, if_neg hk2]
      obtain ⟨e, e1, e2, e3, e4⟩ := M_measure (m := m) hm (bor_congr hg.1 hg.2) hP (by rw [← hg.1 P hP]; exact hp.2.2.2.2) hp.2.2.1 hp.2.2.2.1
      rw [e4, bd_e, gd_e (inb_n (show i < 8 by omega) (by omega)), show (mst τ e).2.2 4 i = σ.2.2 4 i from a6.symm]
      have toward := step_rel hm hR0 hi hal h1 hw0 e1 e2 e3 (s := 1) (fl := 0) (Or.inl ⟨rfl, rfl⟩)
      have away := step_rel hm hR0 hi hal h1 hw0 e1 e2 e3 (s := -1) (fl := 1) (Or.inr ⟨rfl, rfl⟩)
      by_cases hk1 : σ.2.2 4 i = 1
      · rw [if_pos hk1, if_pos hk1, gd_e (inb_n hi5 (by omega)), gd_e (inb_n (show i < 8 by omega) (by omega)), show (mst τ e).2.2 7 i = σ.2.2 6 i from a8.symm]
        by_cases h3 : 2 < σ.2.2 6 i
        · rw [if_pos h3, if_pos ((three_le _).mpr h3)]
          exact toward
        · rw [if_neg h3, if_neg (fun z => h3 ((three_le _).mp z))]
          exact away
      · rw [if_neg hk1, if_neg hk1]
        exact toward
