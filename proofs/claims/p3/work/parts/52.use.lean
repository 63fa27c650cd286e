/-! PURE: things are taken and used (own work) -/
theorem K_isCell (n : Nat) {p : Nat} (hp : p < 2147483648) (σ : St) : f_Level_isCell n (nI p) σ = some (bI (decide (p < 120)), σ) := by
  unfold f_Level_isCell
  rw [if_neg (lt0_n hp)]
  by_cases h : p < 120
  · rw [if_neg (n120 h)]; simp [h, bI]
  · rw [if_pos (show (120 : Int32) ≤ nI p from (le_n (a := 120) (by omega) hp).mpr (by omega))]; simp [h, bI]
theorem K_full (n : Nat) {σ : St} {B : Nat} (hB : B < 2147483648) (h : σ.1 14 = nI B) : f_Hero_bagIsFull n σ = some (bI (decide (4 ≤ B)), σ) := by
  unfold f_Hero_bagIsFull
  rw [h]
  have : nI B < 4 ↔ B < 4 := lt_n (b := 4) hB (by omega)
  by_cases h4 : B < 4
  · rw [if_pos (this.mpr h4)]; simp [show ¬ 4 ≤ B by omega, bI]
  · rw [if_neg (fun z => h4 (this.mp z))]; simp [show 4 ≤ B by omega, bI]
theorem neg2 {k : Nat} (h : k < 2147483648) : ¬ nI k = -2 := fun e => by
  have := (zI_eq (a := (k : Int)) (b := -2) ⟨by omega, by omega⟩ ⟨by omega, by omega⟩).mp (by rw [← zI_nat, e]; rfl)
  omega
theorem pick_rel {m : Nat} {σ τ : St} {P N : Nat} {q : Nat → Nat} {h : Int} {w : Bool} {e hs L : Nat} (hR : RG σ τ P N q h w e hs L) :
    ∃ (a : Int32) (σ' τ' : St), f_Game_pickUp m σ = some (a, σ') ∧ f_Model_gets m τ = some (a, τ') ∧ ((a = 0 ∧ σ' = σ ∧ τ' = τ) ∨ (a = 1 ∧ RG σ' τ' P N q h w e hs L ∧ σ'.2.2 7 = σ.2.2 7 ∧ τ'.1 11 = τ.1 11 ∧ σ'.2.2 3 = σ.2.2 3 ∧ τ'.2.2 3 = τ.2.2 3)) := by
  have hR0 := hR
  obtain ⟨hg, hp, hmm, ht, hkk, hd, hb, hh, hz⟩ := hR
  have hP := hp.1
  obtain ⟨B, b1, b2, b3, b4⟩ := hb
  obtain ⟨t1, t2⟩ := ht P hP
  unfold f_Game_pickUp f_Model_gets f_Level_thingAt
  rw [hp.2.1, K_isCell m (by omega), bd_e, if_neg (by simp [hP, bI]), gd_e (inb_n hP (by omega)), gd_e (inb_n hP (by omega)), tn_n (by omega)]
  rw [bnd_e, hp.2.2.1, hp.2.2.2.1, show (12 : Int32) * nI (P / 12) + nI (P % 12) = nI P from by rw [show (12 : Int32) = nI 12 from rfl, pk_mul, nI_add]; congr 1; omega]
  rw [gd_e (inb_n hP (by omega)), tn_n (by omega)]
  rcases t2 with z | ⟨v, hv, z⟩
  · rw [t1, z, if_pos (by decide), bd_e, if_pos rfl, if_pos (by decide)]
    exact ⟨0, σ, τ, rfl, rfl, Or.inl ⟨rfl, rfl, rfl⟩⟩
  · rw [t1, z, nI_1, if_neg (nI_ne0 (by omega) (by omega)), show nI (v + 1) - 1 = nI v from nI_pred v, bd_e, if_neg (neg2 (by omega)), if_neg (lt0_n (by omega)), K_full m (by omega) b2, bd_e, b3]
    have hB4 : nI B = 4 ↔ B = 4 := eq_n (b := 4) (by omega) (by omega)
    by_cases h4 : B = 4
    · rw [if_neg (by simp [h4, bI]), if_pos (hB4.mpr h4)]
      exact ⟨0, σ, τ, rfl, rfl, Or.inl ⟨rfl, rfl, rfl⟩⟩
    · rw [if_pos (by simp [show ¬ 4 ≤ B by omega, bI]), if_neg (fun y => h4 (hB4.mp y))]
      unfold f_Hero_putInBag
      rw [K_full m (by omega) b2, bd_e, if_pos (by simp [show ¬ 4 ≤ B by omega, bI]), b2, gd_e (inb_n (show B < 4 by omega) (by omega)), bnd_e, bnd_e, bd_e, tn_n (by omega)]
      unfold f_Level_takeThing
      rw [show (sI (sA σ 15 B (nI v)) 14 ((sA σ 15 B (nI v)).1 14 + 1)).1 9 = nI P from hp.2.1]
      rw [K_isCell m (by omega), bd_e, if_neg (by simp [hP, bI]), gd_e (inb_n hP (by omega)), bnd_e, bd_e, tn_n (by omega)]
      rw [gd_e (inb_n hP (by omega)), gd_e (inb_n (show B < 5 by omega) (by omega)), bnd_e, bnd_e, gd_e (inb_n hP (by omega)), bnd_e]
      refine ⟨1, _, _, rfl, rfl, Or.inr ⟨rfl, ⟨hg, hp, hmm, fun p hpp => ?_, hkk, hd, ⟨B + 1, by omega, ?_, ?_, fun k hk => ?_⟩, hh, hz⟩, rfl, rfl, rfl, rfl⟩⟩
      · obtain ⟨x1, x2⟩ := ht p hpp
        show upd (σ.2.2 2) P 0 p = upd (τ.2.2 1) P (-1) p + 1 ∧ (upd (τ.2.2 1) P (-1) p = -1 ∨ ∃ v : Nat, v < 4 ∧ upd (τ.2.2 1) P (-1) p = nI v)
        by_cases ep : p = P
        · rw [ep, pk_us, pk_us]; exact ⟨by decide, Or.inl rfl⟩
        · rw [pk_un ep, pk_un ep]; exact ⟨x1, x2⟩
      · show σ.1 14 + 1 = nI (B + 1)
        rw [b2, nI_1]
      · show τ.1 12 + 1 = nI (B + 1)
        rw [b3, nI_1]
      · show upd (σ.2.2 15) B (nI v) k = upd (τ.2.2 15) B (nI v) k ∧ ∃ v2 : Nat, v2 < 4 ∧ upd (τ.2.2 15) B (nI v) k = nI v2
        by_cases ek : k = B
        · rw [ek, pk_us, pk_us]; exact ⟨rfl, v, hv, rfl⟩
        · rw [pk_un ek, pk_un ek]; exact b4 k (by omega)
/-- things move up -/
def shB (a : Nat → Int32) (k i : Nat) : Nat → Int32 := fun t => if k ≤ t ∧ t < i then a (t + 1) else a t
theorem sh_0 (a : Nat → Int32) (k : Nat) : shB a k k = a := by
  funext t
  unfold shB
  rw [if_neg (by omega)]
theorem sh_at (a : Nat → Int32) (k i : Nat) (h : k ≤ i) : shB a k i (i + 1) = a (i + 1) := by
  unfold shB
  rw [if_neg (by omega)]
theorem sh_s (a : Nat → Int32) (k i : Nat) (h : k ≤ i) : upd (shB a k i) i (a (i + 1)) = shB a k (i + 1) := by
  funext t
  unfold upd shB
  by_cases e : t = i
  · subst e
    rw [if_pos rfl, if_pos (by omega)]
  · rw [if_neg e]
    by_cases h2 : k ≤ t ∧ t < i
    · rw [if_pos h2, if_pos (by omega)]
    · rw [if_neg h2, if_neg (by omega)]
theorem K_drop_loop {m : Nat} {σ : St} {B k : Nat} (hB : B ≤ 4) (hk : k < B) (h14 : σ.1 14 = nI B) : ∀ (r i j : Nat), i + r + 1 = B → r < j → k ≤ i → f_Hero_dropFromBag_23 m j (nI i) (sB σ 15 (shB (σ.2.2 15) k i)) = some ((), sI (sB σ 15 (shB (σ.2.2 15) k (B - 1))) 14 (nI (B - 1))) := by
  intro r
  induction r with
  | zero =>
    intro i j hi hj hki
    obtain ⟨j, rfl⟩ : ∃ z, j = z + 1 := ⟨j - 1, by omega⟩
    obtain rfl : i = B - 1 := by omega
    rw [f_Hero_dropFromBag_23_s, show (sB σ 15 (shB (σ.2.2 15) k (B - 1))).1 14 = nI B from h14, nI_1, if_pos ((le_n (by omega) (by omega)).mpr (by omega)), bnd_e, show nI B - 1 = nI (B - 1) from pk_sub (b := 1) (by omega)]
  | succ r ih =>
    intro i j hi hj hki
    obtain ⟨j, rfl⟩ : ∃ z, j = z + 1 := ⟨j - 1, by omega⟩
    rw [f_Hero_dropFromBag_23_s, show (sB σ 15 (shB (σ.2.2 15) k i)).1 14 = nI B from h14, nI_1, if_neg (fun z => by have := (le_n (by omega) (by omega)).mp z; omega), gd_e (inb_n (show i + 1 < 4 by omega) (by omega)), gd_e (inb_n (show i < 4 by omega) (by omega)), bnd_e, bnd_e, tn_n (by omega), tn_n (by omega)]
    rw [show (sB σ 15 (shB (σ.2.2 15) k i)).2.2 15 (i + 1) = σ.2.2 15 (i + 1) from sh_at _ _ _ hki, sB_sA, sh_s _ _ _ hki]
    exact ih (i + 1) j (by omega) (by omega) (by omega)
theorem M_drop_loop {m : Nat} {τ : St} {B k : Nat} (hB : B ≤ 4) (hk : k < B) (h12 : τ.1 12 = nI (B - 1)) (what : Int32) : ∀ (r i j : Nat), i + r + 1 = B → r < j → k ≤ i → f_Model_uses_29 m j what (nI i) (sB τ 15 (shB (τ.2.2 15) k i)) = (if what = 0 then (if τ.1 4 ≤ 5 then f_Model_uses_81 m what (τ.1 4 + 5) (sB τ 15 (shB (τ.2.2 15) k (B - 1))) else f_Model_uses_81 m what 10 (sB τ 15 (shB (τ.2.2 15) k (B - 1)))) else f_Model_uses_84 m what (sB τ 15 (shB (τ.2.2 15) k (B - 1)))) := by
  intro r
  induction r with
  | zero =>
    intro i j hi hj hki
    obtain ⟨j, rfl⟩ : ∃ z, j = z + 1 := ⟨j - 1, by omega⟩
    obtain rfl : i = B - 1 := by omega
    rw [f_Model_uses_29_s, show (sB τ 15 (shB (τ.2.2 15) k (B - 1))).1 12 = nI (B - 1) from h12, if_pos ((le_n (by omega) (by omega)).mpr (by omega))]
    rfl
  | succ r ih =>
    intro i j hi hj hki
    obtain ⟨j, rfl⟩ : ∃ z, j = z + 1 := ⟨j - 1, by omega⟩
    rw [f_Model_uses_29_s, show (sB τ 15 (shB (τ.2.2 15) k i)).1 12 = nI (B - 1) from h12, if_neg (fun z => by have := (le_n (by omega) (by omega)).mp z; omega), nI_1, gd_e (inb_n (show i + 1 < 5 by omega) (by omega)), gd_e (inb_n (show i < 5 by omega) (by omega)), bnd_e, bnd_e, tn_n (by omega), tn_n (by omega)]
    rw [show (sB τ 15 (shB (τ.2.2 15) k i)).2.2 15 (i + 1) = τ.2.2 15 (i + 1) from sh_at _ _ _ hki, sB_sA, sh_s _ _ _ hki]
    exact ih (i + 1) j (by omega) (by omega) (by omega)
/-! the free cells -/
def fre (σ : St) (N : Nat) (c : Nat) : Bool := flr (σ.2.2 1) c && decide (who σ N c = none)
def cfr (f : Nat → Bool) : Nat → Nat → Nat
  | 0, _ => 0
  | r + 1, c => (if f c = true then 1 else 0) + cfr f r (c + 1)
def nthF (f : Nat → Bool) : Nat → Nat → Nat → Option Nat
  | 0, _, _ => none
  | r + 1, c, t => if f c = true then (if t = 0 then some c else nthF f r (c + 1) (t - 1)) else nthF f r (c + 1) t
theorem cfr_le (f : Nat → Bool) : ∀ r c, cfr f r c ≤ r := by
  intro r
  induction r with
  | zero => intro c; exact Nat.le_refl _
  | succ r ih =>
    intro c
    unfold cfr
    have := ih (c + 1)
    split <;> omega
theorem cfr_pos {f : Nat → Bool} : ∀ {r c p : Nat}, c ≤ p → p < c + r → f p = true → 0 < cfr f r c := by
  intro r
  induction r with
  | zero => intro c p h1 h2; omega
  | succ r ih =>
    intro c p h1 h2 h3
    unfold cfr
    by_cases e : p = c
    · subst e
      rw [if_pos h3]; omega
    · have := ih (c := c + 1) (by omega) (by omega) h3
      omega
theorem nthF_some {f : Nat → Bool} : ∀ {r c t : Nat}, t < cfr f r c → ∃ p, nthF f r c t = some p ∧ c ≤ p ∧ p < c + r ∧ f p = true := by
  intro r
  induction r with
  | zero => intro c t h; exact absurd h (Nat.not_lt_zero _)
  | succ r ih =>
    intro c t h
    unfold cfr at h
    unfold nthF
    by_cases hf : f c = true
    · rw [if_pos hf] at h ⊢
      by_cases ht : t = 0
      · rw [if_pos ht]; exact ⟨c, rfl, by omega, by omega, hf⟩
      · rw [if_neg ht]
        obtain ⟨p, p1, p2, p3, p4⟩ := ih (c := c + 1) (t := t - 1) (by omega)
        exact ⟨p, p1, by omega, by omega, p4⟩
    · rw [if_neg hf] at h ⊢
      obtain ⟨p, p1, p2, p3, p4⟩ := ih (c := c + 1) (t := t) (by omega)
      exact ⟨p, p1, by omega, by omega, p4⟩
theorem K_isFree {m : Nat} (hm : 9 ≤ m) {σ τ : St} {P N : Nat} {q : Nat → Nat} (h : R_m σ τ P N q) {c : Nat} (hc : c < 120) : f_Game_isFree m (nI c) σ = some (bI (fre σ N c), σ) := by
  unfold f_Game_isFree fre
  rw [K_isFloor m (by omega), bd_e]
  by_cases hf : flr (σ.2.2 1) c = true
  · rw [if_neg (by rw [hf]; decide), K_who hm h, bd_e]
    have ho := oI_none (d := -2) (o := who σ N c) (N := N) (by decide) (fun k hk => (who_some hk).1) (by have := h.1; omega)
    by_cases hw : who σ N c = none
    · rw [if_pos (ho.1.mpr hw)]; simp [hf, hw, bI]
    · rw [if_neg (fun z => hw (ho.1.mp z))]; simp [hf, hw, bI]
  · rw [Bool.not_eq_true] at hf
    rw [if_pos (by rw [hf]; decide)]; simp [hf, bI]
theorem K_free_cnt {m : Nat} (hm : 9 ≤ m) {σ τ : St} {P N : Nat} {q : Nat → Nat} (h : R_m σ τ P N q) : ∀ (r c j f : Nat), c + r = 120 → r < j → f ≤ c → f_Game_drawFreePlace_4 m j (nI f) (nI c) σ = bd (f_Draws_draw_play m (nI (f + cfr (fre σ N) r c)) σ) (fun r2 σ3 => f_Game_drawFreePlace_38 m m r2 0 σ3) := by
  intro r
  induction r with
  | zero =>
    intro c j f hc hj hf
    obtain ⟨j, rfl⟩ : ∃ z, j = z + 1 := ⟨j - 1, by omega⟩
    obtain rfl : c = 120 := by omega
    rw [f_Game_drawFreePlace_4_s, if_pos y120]
    rfl
  | succ r ih =>
    intro c j f hc hj hf
    obtain ⟨j, rfl⟩ : ∃ z, j = z + 1 := ⟨j - 1, by omega⟩
    rw [f_Game_drawFreePlace_4_s, if_neg (n120 (by omega)), K_isFree hm h (by omega), bd_e]
    by_cases hfr : fre σ N c = true
    · rw [if_neg (by rw [hfr]; decide), bnd_e, bnd_e, nI_1, nI_1, ih (c + 1) j (f + 1) (by omega) (by omega) (by omega)]
      rw [show f + 1 + cfr (fre σ N) r (c + 1) = f + cfr (fre σ N) (r + 1) c from by rw [cfr, if_pos hfr]; omega]
    · rw [if_pos (by rw [Bool.not_eq_true] at hfr; rw [hfr]; decide), bnd_e, nI_1, ih (c + 1) j f (by omega) (by omega) (by omega)]
      rw [show f + cfr (fre σ N) r (c + 1) = f + cfr (fre σ N) (r + 1) c from by rw [cfr, if_neg hfr]; omega]
theorem K_free_nth {m : Nat} (hm : 9 ≤ m) {σ τ : St} {P N : Nat} {q : Nat → Nat} (h : R_m σ τ P N q) : ∀ (r c j t p : Nat), c + r = 120 → r < j → t ≤ 120 → nthF (fre σ N) r c t = some p → f_Game_drawFreePlace_38 m j (nI t) (nI c) σ = some (nI p, σ) := by
  intro r
  induction r with
  | zero => intro c j t p _ _ _ hn; cases hn
  | succ r ih =>
    intro c j t p hc hj ht hn
    obtain ⟨j, rfl⟩ : ∃ z, j = z + 1 := ⟨j - 1, by omega⟩
    rw [nthF] at hn
    rw [f_Game_drawFreePlace_38_s, if_neg (n120 (by omega)), K_isFree hm h (by omega), bd_e]
    have ht0 : nI t = 0 ↔ t = 0 := eq_n (b := 0) (by omega) (by omega)
    by_cases hfr : fre σ N c = true
    · rw [if_pos hfr] at hn
      rw [if_neg (by rw [hfr]; decide)]
      by_cases h0 : t = 0
      · rw [if_pos h0] at hn
        cases hn
        rw [if_pos (ht0.mpr h0)]
      · rw [if_neg h0] at hn
        rw [if_neg (fun z => h0 (ht0.mp z)), bnd_e, bnd_e, nI_1, show nI t + (-1) = nI (t - 1) from by rw [show t = (t - 1) + 1 by omega]; exact pk_m1 _]
        exact ih (c + 1) j (t - 1) p (by omega) (by omega) (by omega) hn
    · rw [if_neg hfr] at hn
      rw [if_pos (by rw [Bool.not_eq_true] at hfr; rw [hfr]; decide), bnd_e, nI_1]
      exact ih (c + 1) j t p (by omega) (by omega) ht hn
theorem M_free_cnt {m : Nat} (hm : 9 ≤ m) {σ τ : St} {P N : Nat} {q : Nat → Nat} (h : R_m σ τ P N q) (hg : R_g σ τ) : ∀ (r c j f : Nat), c + r = 120 → r < j → f ≤ c → f_Model_uses_122 m j (nI f) (nI c) τ = bd (f_Model_draw m (nI (f + cfr (fre σ N) r c)) τ) (fun r19 σ20 => f_Model_uses_175 m m r19 0 σ20) := by
  intro r
  induction r with
  | zero =>
    intro c j f hc hj hf
    obtain ⟨j, rfl⟩ : ∃ z, j = z + 1 := ⟨j - 1, by omega⟩
    obtain rfl : c = 120 := by omega
    rw [f_Model_uses_122_s, if_pos y120]
    rfl
  | succ r ih =>
    intro c j f hc hj hf
    obtain ⟨j, rfl⟩ : ∃ z, j = z + 1 := ⟨j - 1, by omega⟩
    have hc120 : c < 120 := by omega
    rw [f_Model_uses_122_s, if_neg (n120 hc120), gd_e (inb_n hc120 (by omega)), tn_n (by omega), ← hg.1 c hc120]
    rw [show (12 : Int32) = nI 12 from rfl, pk_rem (by omega) (by omega) (by omega), pk_div (by omega) (by omega) (by omega), M_who hm h hc120, bd_e]
    have ho := oI_none (d := -1) (o := who σ N c) (N := N) (by decide) (fun k hk => (who_some hk).1) (by have := h.1; omega)
    have skip : fre σ N c = false → bnd (nI c + 1) (fun v => f_Model_uses_122 m j (nI f) v τ) = bd (f_Model_draw m (nI (f + cfr (fre σ N) (r + 1) c)) τ) (fun r19 σ20 => f_Model_uses_175 m m r19 0 σ20) := by
      intro hfr
      rw [bnd_e, nI_1, ih (c + 1) j f (by omega) (by omega) (by omega)]
      rw [show f + cfr (fre σ N) r (c + 1) = f + cfr (fre σ N) (r + 1) c from by rw [cfr, if_neg (by rw [hfr]; decide)]; omega]
    by_cases hgc : σ.2.2 1 c = 0
    · rw [if_pos hgc]
      exact skip (by simp [fre, flr, hgc])
    · rw [if_neg hgc]
      by_cases hw : who σ N c = none
      · rw [if_neg (fun z => (ho.2.2.mp z) hw), bnd_e, bnd_e, nI_1, nI_1, ih (c + 1) j (f + 1) (by omega) (by omega) (by omega)]
        rw [show f + 1 + cfr (fre σ N) r (c + 1) = f + cfr (fre σ N) (r + 1) c from by rw [cfr, if_pos (by simp [fre, flr, hgc, hw, hc120])]; omega]
      · rw [if_pos (ho.2.2.mpr hw)]
        exact skip (by simp [fre, hw])
theorem R_m_px {σ τ : St} {P N : Nat} {q : Nat → Nat} (h : R_m σ τ P N q) (a b : Int32) : R_m σ (sI (sI τ 2 a) 3 b) P N q := h
theorem M_free_after {m : Nat} (hm : 9 ≤ m) {σ τ : St} {P N : Nat} {q : Nat → Nat} (h : R_m σ τ P N q) (hg : R_g σ τ) : ∀ (r c j : Nat) (t : Int), c + r = 120 → r < j → t < 0 → -200 ≤ t - r → f_Model_uses_175 m j (zI t) (nI c) τ = some (1, τ) := by
  intro r
  induction r with
  | zero =>
    intro c j t hc hj _ _
    obtain ⟨j, rfl⟩ : ∃ z, j = z + 1 := ⟨j - 1, by omega⟩
    obtain rfl : c = 120 := by omega
    rw [f_Model_uses_175_s, if_pos y120]
  | succ r ih =>
    intro c j t hc hj ht ht2
    obtain ⟨j, rfl⟩ : ∃ z, j = z + 1 := ⟨j - 1, by omega⟩
    have hc120 : c < 120 := by omega
    rw [f_Model_uses_175_s, if_neg (n120 hc120), gd_e (inb_n hc120 (by omega)), tn_n (by omega)]
    rw [show (12 : Int32) = nI 12 from rfl, pk_rem (by omega) (by omega) (by omega), pk_div (by omega) (by omega) (by omega), M_who hm h hc120, bd_e]
    have hne : ¬ zI t = 0 := fun z => by
      have := (zI_eq (a := t) (b := 0) ⟨by omega, by omega⟩ ⟨by omega, by omega⟩).mp z
      omega
    rw [if_neg hne]
    simp only [bnd_e, nI_1]
    rw [show zI t + (-1) = zI (t - 1) from by rw [show (-1 : Int32) = zI (-1) from rfl, zI_add]; rfl]
    rw [ih (c + 1) j t (by omega) (by omega) ht (by omega), ih (c + 1) j (t - 1) (by omega) (by omega) (by omega) (by omega)]
    split
    · rfl
    · split <;> rfl
theorem M_free_nth {m : Nat} (hm : 9 ≤ m) {σ τ : St} {P N : Nat} {q : Nat → Nat} (h : R_m σ τ P N q) (hg : R_g σ τ) : ∀ (r c j t p : Nat), c + r = 120 → r < j → t ≤ 120 → nthF (fre σ N) r c t = some p → f_Model_uses_175 m j (nI t) (nI c) τ = some (1, sI (sI τ 2 (nI (p % 12))) 3 (nI (p / 12))) := by
  intro r
  induction r with
  | zero => intro c j t p _ _ _ hn; cases hn
  | succ r ih =>
    intro c j t p hc hj ht hn
    obtain ⟨j, rfl⟩ : ∃ z, j = z + 1 := ⟨j - 1, by omega⟩
    have hc120 : c < 120 := by omega
    rw [nthF] at hn
    rw [f_Model_uses_175_s, if_neg (n120 hc120), gd_e (inb_n hc120 (by omega)), tn_n (by omega), ← hg.1 c hc120]
    rw [show (12 : Int32) = nI 12 from rfl, pk_rem (by omega) (by omega) (by omega), pk_div (by omega) (by omega) (by omega), M_who hm h hc120, bd_e]
    have ho := oI_none (d := -1) (o := who σ N c) (N := N) (by decide) (fun k hk => (who_some hk).1) (by have := h.1; omega)
    have ht0 : nI t = 0 ↔ t = 0 := eq_n (b := 0) (by omega) (by omega)
    by_cases hgc : σ.2.2 1 c = 0
    · rw [if_neg (show ¬ fre σ N c = true by simp [fre, flr, hgc])] at hn
      rw [if_pos hgc, bnd_e, nI_1]
      exact ih (c + 1) j t p (by omega) (by omega) ht hn
    · rw [if_neg hgc]
      by_cases hw : who σ N c = none
      · rw [if_pos (show fre σ N c = true by simp [fre, flr, hgc, hw, hc120])] at hn
        rw [if_pos (ho.2.1.mpr hw)]
        by_cases h0 : t = 0
        · rw [if_pos h0] at hn
          cases hn
          rw [if_pos (ht0.mpr h0), bnd_e, bnd_e, bnd_e, bnd_e, nI_1, h0, show nI 0 + (-1) = zI (-1) from rfl]
          exact M_free_after hm (R_m_px h _ _) hg r (c + 1) j (-1) (by omega) (by omega) (by omega) (by omega)
        · rw [if_neg h0] at hn
          rw [if_neg (fun z => h0 (ht0.mp z)), bnd_e, bnd_e, nI_1, show nI t + (-1) = nI (t - 1) from by rw [show t = (t - 1) + 1 by omega]; exact pk_m1 _]
          exact ih (c + 1) j (t - 1) p (by omega) (by omega) (by omega) hn
      · rw [if_neg (show ¬ fre σ N c = true by simp [fre, hw])] at hn
        rw [if_neg (fun z => hw (ho.2.1.mp z)), bnd_e, nI_1]
        exact ih (c + 1) j t p (by omega) (by omega) ht hn
