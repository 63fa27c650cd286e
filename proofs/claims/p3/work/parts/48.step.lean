/-! PURE: where a rat or an orc goes (own work) -/
/-- the two searches for the best step go side by side.  s is 1 (come) or -1 (flee); own, e: distances as the class and as the reference have them -/
def BS (d e : Nat → Int) (s : Int) (p t : Nat) (fre : Nat → Bool) (b : Nat) (bi : Option Nat) (far : Int) : Prop :=
  match bi with
  | none => b = p ∧ ∀ u, u < t → fre (nbr p u) = false
  | some i => i < t ∧ fre (nbr p i) = true ∧ far = e (nbr p i) ∧ ((s * far < s * e p ∧ b = nbr p i) ∨ (¬ s * far < s * e p ∧ b = p))
def biI (bi : Option Nat) : Int32 := oI (-1) bi
theorem mul_s {s : Int} (hs : s = 1 ∨ s = -1) {a b : Int} (ha : -10 ≤ a ∧ a ≤ 300) (hb : -10 ≤ b ∧ b ≤ 300) : (zI s * zI a ≤ zI s * zI b ↔ s * a ≤ s * b) := by
  rw [zI_mul, zI_mul]
  rcases hs with rfl | rfl
  · exact zI_le ⟨by omega, by omega⟩ ⟨by omega, by omega⟩
  · exact zI_le ⟨by omega, by omega⟩ ⟨by omega, by omega⟩
theorem BS_skip {d e : Nat → Int} {s : Int} {p t : Nat} {fre : Nat → Bool} {b : Nat} {bi : Option Nat} {far : Int} (h : BS d e s p t fre b bi far) (hf : fre (nbr p t) = false) : BS d e s p (t + 1) fre b bi far := by
  cases bi with
  | none =>
    refine ⟨h.1, fun u hu => ?_⟩
    by_cases hut : u = t
    · subst hut; exact hf
    · exact h.2 u (by omega)
  | some i => exact ⟨by have := h.1; omega, h.2⟩
/-- the reference's search, as a function -/
def mf (e : Nat → Int) (s : Int) (p : Nat) (fre : Nat → Bool) : Nat → Nat → Option Nat → Int → Option Nat × Int
  | 0, _, bi, far => (bi, far)
  | r + 1, t, bi, far => if fre (nbr p t) = true ∧ (bi = none ∨ s * e (nbr p t) < s * far) then mf e s p fre r (t + 1) (some t) (e (nbr p t)) else mf e s p fre r (t + 1) bi far
theorem mf_y {e : Nat → Int} {s : Int} {p : Nat} {fre : Nat → Bool} {r t : Nat} {bi : Option Nat} {far : Int} (h1 : fre (nbr p t) = true) (h2 : bi = none ∨ s * e (nbr p t) < s * far) : mf e s p fre (r + 1) t bi far = mf e s p fre r (t + 1) (some t) (e (nbr p t)) := by
  rw [mf, if_pos ⟨h1, h2⟩]
theorem mf_n {e : Nat → Int} {s : Int} {p : Nat} {fre : Nat → Bool} {r t : Nat} {bi : Option Nat} {far : Int} (h : ¬ (fre (nbr p t) = true ∧ (bi = none ∨ s * e (nbr p t) < s * far))) : mf e s p fre (r + 1) t bi far = mf e s p fre r (t + 1) bi far := by
  rw [mf, if_neg h]
/-- what both sides do with the t-th neighbour -/
theorem K_best_loop {m : Nat} (hm : 9 ≤ m) {σ τ : St} {P N : Nat} {q : Nat → Nat} (hR : R_m σ τ P N q) (hb : bor (σ.2.2 1)) {d e : Nat → Int} {s : Int} (hs : s = 1 ∨ s = -1) (hd : ∀ c, c < 120 → σ.2.2 13 c = zI (d c) ∧ -10 ≤ d c ∧ d c ≤ 300) {p : Nat} (hp : p < 120) (hgp : (σ.2.2 1) p ≠ 0)
    (hcmp : ∀ a b, a < 120 → b < 120 → (a = p ∨ ∃ u, u < 4 ∧ a = nbr p u ∧ flr (σ.2.2 1) a = true) → (b = p ∨ ∃ u, u < 4 ∧ b = nbr p u ∧ flr (σ.2.2 1) b = true) → (s * d a < s * d b ↔ s * e a < s * e b)) :
    ∀ (r t j : Nat) (b : Nat) (bi : Option Nat) (far : Int), t + r = 4 → r < j → (b = p ∨ ∃ u, u < 4 ∧ b = nbr p u ∧ flr (σ.2.2 1) b = true) → BS d e s p t (fun c => flr (σ.2.2 1) c && decide (who σ N c = none)) b bi far →
      ∃ b' : Nat, BS d e s p 4 (fun c => flr (σ.2.2 1) c && decide (who σ N c = none)) b' (mf e s p (fun c => flr (σ.2.2 1) c && decide (who σ N c = none)) r t bi far).1 (mf e s p (fun c => flr (σ.2.2 1) c && decide (who σ N c = none)) r t bi far).2 ∧ (b' = p ∨ ∃ u, u < 4 ∧ b' = nbr p u ∧ flr (σ.2.2 1) b' = true) ∧ f_Game_bestStep_5 m j (nI p) (zI s) (nI b) (nI t) σ = some (nI b', σ) := by
  have hin : intr p = true := hb p hp hgp
  intro r
  induction r with
  | zero =>
    intro t j b bi far ht hj hbb hB
    obtain ⟨j, rfl⟩ : ∃ z, j = z + 1 := ⟨j - 1, by omega⟩
    obtain rfl : t = 4 := by omega
    exact ⟨b, hB, hbb, by rw [f_Game_bestStep_5_s, if_pos (show (4 : Int32) ≤ nI 4 from (le_n (a := 4) (by omega) (by omega)).mpr (Nat.le_refl _))]⟩
  | succ r ih =>
    intro t j b bi far ht hj hbb hB
    obtain ⟨j, rfl⟩ : ∃ z, j = z + 1 := ⟨j - 1, by omega⟩
    have hr := (nbr_all p hp t (by omega) hin).2.1
    have hb120 : b < 120 := by
      rcases hbb with rfl | ⟨u, hu, rfl, _⟩
      · exact hp
      · exact (nbr_all p hp u hu hin).2.1
    rw [f_Game_bestStep_5_s, if_neg (fun z : (4 : Int32) ≤ nI t => by have := (le_n (a := 4) (by omega) (by omega)).mp z; omega), K_nbr m hin (by omega), bd_e, K_isFloor m (by omega), bd_e]
    by_cases hf : flr (σ.2.2 1) (nbr p t) = true
    · rw [if_neg (by rw [hf]; decide), K_who hm hR, bd_e]
      have ho := oI_none (d := -2) (o := who σ N (nbr p t)) (N := N) (by decide) (fun k hk => (who_some hk).1) (by have := hR.1; omega)
      by_cases hw : who σ N (nbr p t) = none
      · rw [if_pos (ho.1.mpr hw), K_from m hr, bd_e, K_from m hb120, bd_e, (hd _ hr).1, (hd _ hb120).1]
        have hfre : (flr (σ.2.2 1) (nbr p t) && decide (who σ N (nbr p t) = none)) = true := by simp [hf, hw]
        have hmul := mul_s hs (hd _ hb120).2 (hd _ hr).2
        have hc1 := hcmp (nbr p t) b hr hb120 (Or.inr ⟨t, by omega, rfl, hf⟩) hbb
        by_cases hlt : s * d (nbr p t) < s * d b
        · rw [if_neg (fun z => by have := hmul.mp z; omega), bnd_e, nI_1]
          have hlt2 := hc1.mp hlt
          have hboth : (bi = none ∨ s * e (nbr p t) < s * far) ∧ s * e (nbr p t) < s * e p := by
            cases bi with
            | none => rw [hB.1] at hlt2; exact ⟨Or.inl rfl, hlt2⟩
            | some i =>
              rcases hB.2.2.2 with ⟨a1, a2⟩ | ⟨a1, a2⟩
              · rw [a2, ← hB.2.2.1] at hlt2
                exact ⟨Or.inr hlt2, Int.lt_trans hlt2 a1⟩
              · rw [a2] at hlt2
                exact ⟨Or.inr (Int.lt_of_lt_of_le hlt2 (Int.not_lt.mp a1)), hlt2⟩
          rw [mf_y hfre hboth.1]
          exact ih (t + 1) j (nbr p t) (some t) (e (nbr p t)) (by omega) (by omega) (Or.inr ⟨t, by omega, rfl, hf⟩) ⟨by omega, hfre, rfl, Or.inl ⟨hboth.2, rfl⟩⟩
        · rw [if_pos (hmul.mpr (by omega)), bnd_e, nI_1]
          have hlt2 : ¬ s * e (nbr p t) < s * e b := fun z => hlt (hc1.mpr z)
          cases bi with
          | none =>
            rw [hB.1] at hlt2
            rw [mf_y hfre (Or.inl rfl)]
            exact ih (t + 1) j b (some t) (e (nbr p t)) (by omega) (by omega) hbb ⟨by omega, hfre, rfl, Or.inr ⟨hlt2, hB.1⟩⟩
          | some i =>
            rcases hB.2.2.2 with ⟨a1, a2⟩ | ⟨a1, a2⟩
            · rw [mf_n (fun z => by
                rcases z.2 with z2 | z2
                · cases z2
                · rw [a2, ← hB.2.2.1] at hlt2; exact hlt2 z2)]
              exact ih (t + 1) j b (some i) far (by omega) (by omega) hbb ⟨by have := hB.1; omega, hB.2.1, hB.2.2.1, Or.inl ⟨a1, a2⟩⟩
            · rw [a2] at hlt2
              by_cases hlf : s * e (nbr p t) < s * far
              · rw [mf_y hfre (Or.inr hlf)]
                exact ih (t + 1) j b (some t) (e (nbr p t)) (by omega) (by omega) hbb ⟨by omega, hfre, rfl, Or.inr ⟨hlt2, a2⟩⟩
              · rw [mf_n (fun z => by
                  rcases z.2 with z2 | z2
                  · cases z2
                  · exact hlf z2)]
                exact ih (t + 1) j b (some i) far (by omega) (by omega) hbb ⟨by have := hB.1; omega, hB.2.1, hB.2.2.1, Or.inr ⟨a1, a2⟩⟩
      · rw [if_neg (fun z => hw (ho.1.mp z)), bnd_e, nI_1, mf_n (fun z => by simp [hw] at z)]
        exact ih (t + 1) j b bi far (by omega) (by omega) hbb (BS_skip hB (by simp [hw]))
    · rw [Bool.not_eq_true] at hf
      rw [if_pos (by rw [hf]; decide), bnd_e, nI_1, mf_n (fun z => by simp [hf] at z)]
      exact ih (t + 1) j b bi far (by omega) (by omega) hbb (BS_skip hB (by simp [hf]))
theorem mf_some {e : Nat → Int} {s : Int} {p : Nat} {fre : Nat → Bool} : ∀ {r t : Nat} {bi : Option Nat} {far : Int}, (∀ k, bi = some k → k < 4) → t + r = 4 → (∀ k, (mf e s p fre r t bi far).1 = some k → k < 4) := by
  intro r
  induction r with
  | zero => intro t bi far h _; exact h
  | succ r ih =>
    intro t bi far h ht
    rw [mf]
    by_cases hc : fre (nbr p t) = true ∧ (bi = none ∨ s * e (nbr p t) < s * far)
    · rw [if_pos hc]
      exact ih (fun k hk => by cases hk; omega) (by omega)
    · rw [if_neg hc]
      exact ih h (by omega)
theorem M_best_loop {m : Nat} (hm : 9 ≤ m) {σ τ : St} {P N i : Nat} {q : Nat → Nat} (hR : R_m σ τ P N q) (hi : i < N) (hg : R_g σ τ) {e : Nat → Int} {s : Int} {fl : Int32} (hs : (s = 1 ∧ fl = 0) ∨ (s = -1 ∧ fl = 1)) (he : ∀ c, c < 120 → τ.2.2 2 c = zI (e c) ∧ -10 ≤ e c ∧ e c ≤ 300) :
    ∀ (r t j : Nat) (bi : Option Nat) (far own : Int), t + r = 4 → r < j → (∀ k, bi = some k → k < 4) → (-10 ≤ far ∧ far ≤ 300) → (-10 ≤ own ∧ own ≤ 300) →
      f_Model_acts_219 m j (nI i) fl (biI bi) (zI far) (zI own) (nI t) τ = (match (mf e s (q i) (fun c => flr (σ.2.2 1) c && decide (who σ N c = none)) r t bi far).1 with
        | none => some ((), τ)
        | some k => if s * (mf e s (q i) (fun c => flr (σ.2.2 1) c && decide (who σ N c = none)) r t bi far).2 < s * own then f_Model_acts_360 m (nI i) (nI k) τ else some ((), τ)) := by
  obtain ⟨a1, a2, a3, a4, a5, a6, a7, a8, a9, a10, a11, a12, a13⟩ := hR.2.2.2 i hi
  have hin : intr (q i) = true := hg.2 _ a1 a2
  have hN := hR.1
  have bi0 : ∀ (bi : Option Nat), (∀ k, bi = some k → k < 4) → (biI bi < 0 ↔ bi = none) := fun bi h => (oI_none (d := -1) (o := bi) (N := 4) (by decide) h (by omega)).2.1
  intro r
  induction r with
  | zero =>
    intro t j bi far own ht hj hbi hfar hown
    obtain ⟨j, rfl⟩ : ∃ z, j = z + 1 := ⟨j - 1, by omega⟩
    obtain rfl : t = 4 := by omega
    rw [f_Model_acts_219_s, if_pos (show (4 : Int32) ≤ nI 4 from (le_n (a := 4) (by omega) (by omega)).mpr (Nat.le_refl _))]
    show _ = (match bi with
        | none => some ((), τ)
        | some k => if s * far < s * own then f_Model_acts_360 m (nI i) (nI k) τ else some ((), τ))
    have hl : zI far < zI own ↔ far < own := zI_lt ⟨by omega, by omega⟩ ⟨by omega, by omega⟩
    have hl2 : zI own < zI far ↔ own < far := zI_lt ⟨by omega, by omega⟩ ⟨by omega, by omega⟩
    cases bi with
    | none => rw [if_pos ((bi0 none (fun k h => by cases h)).mpr rfl)]
    | some k =>
      rw [if_neg (fun z => by have := (bi0 (some k) hbi).mp z; cases this)]
      rcases hs with ⟨rfl, rfl⟩ | ⟨rfl, rfl⟩
      · rw [if_pos rfl]
        by_cases h : far < own
        · rw [if_pos (hl.mpr h)]; simp only []; rw [if_pos (by omega)]; rfl
        · rw [if_neg (fun z => h (hl.mp z))]; simp only []; rw [if_neg (by omega)]
      · rw [if_neg (by decide)]
        by_cases h : own < far
        · rw [if_pos (hl2.mpr h)]; simp only []; rw [if_pos (by omega)]; rfl
        · rw [if_neg (fun z => h (hl2.mp z))]; simp only []; rw [if_neg (by omega)]
  | succ r ih =>
    intro t j bi far own ht hj hbi hfar hown
    obtain ⟨j, rfl⟩ : ∃ z, j = z + 1 := ⟨j - 1, by omega⟩
    obtain ⟨n1, n2, n3, n4, n5⟩ := nbr_all _ a1 t (by omega) hin
    rw [f_Model_acts_219_s, if_neg (fun z : (4 : Int32) ≤ nI t => by have := (le_n (a := 4) (by omega) (by omega)).mp z; omega), gd_e (inb_n (by omega) (by omega)), tn_n (by omega), M_dx m (by omega), bd_e, bnd_e, gd_e (inb_n (by omega) (by omega)), M_dy m (by omega), bd_e, bnd_e, a4, a5, n3, n4, M_isFloor m (by omega) (by omega), bd_e]
    rw [show (12 : Int32) * nI (nbr (q i) t / 12) + nI (nbr (q i) t % 12) = nI (nbr (q i) t) from by rw [show (12 : Int32) = nI 12 from rfl, pk_mul, nI_add]; congr 1; omega]
    rw [show 12 * (nbr (q i) t / 12) + nbr (q i) t % 12 = nbr (q i) t by omega, flr_congr (g := τ.2.2 0) (g' := σ.2.2 1) (fun p hp => (hg.1 p hp).symm)]
    by_cases hf : flr (σ.2.2 1) (nbr (q i) t) = true
    · rw [if_neg (by rw [hf]; decide), M_who hm hR n2, bd_e]
      have ho := oI_none (d := -1) (o := who σ N (nbr (q i) t)) (N := N) (by decide) (fun k hk => (who_some hk).1) (by omega)
      by_cases hw : who σ N (nbr (q i) t) = none
      · have hfre : (flr (σ.2.2 1) (nbr (q i) t) && decide (who σ N (nbr (q i) t) = none)) = true := by simp [hf, hw]
        have hen := he _ n2
        rw [if_pos (ho.2.1.mpr hw), gd_e (inb_n n2 (by omega)), bnd_e, tn_n (by omega), hen.1]
        have yes : (bi = none ∨ s * e (nbr (q i) t) < s * far) → bnd (nI t + 1) (fun v => f_Model_acts_219 m j (nI i) fl (nI t) (zI (e (nbr (q i) t))) (zI own) v τ) = (match (mf e s (q i) (fun c => flr (σ.2.2 1) c && decide (who σ N c = none)) (r + 1) t bi far).1 with
            | none => some ((), τ)
            | some k => if s * (mf e s (q i) (fun c => flr (σ.2.2 1) c && decide (who σ N c = none)) (r + 1) t bi far).2 < s * own then f_Model_acts_360 m (nI i) (nI k) τ else some ((), τ)) := by
          intro h
          rw [bnd_e, nI_1, mf_y hfre h]
          exact ih (t + 1) j (some t) (e (nbr (q i) t)) own (by omega) (by omega) (fun k hk => by cases hk; omega) hen.2 hown
        have no : ¬ (bi = none ∨ s * e (nbr (q i) t) < s * far) → bnd (nI t + 1) (fun v => f_Model_acts_219 m j (nI i) fl (biI bi) (zI far) (zI own) v τ) = (match (mf e s (q i) (fun c => flr (σ.2.2 1) c && decide (who σ N c = none)) (r + 1) t bi far).1 with
            | none => some ((), τ)
            | some k => if s * (mf e s (q i) (fun c => flr (σ.2.2 1) c && decide (who σ N c = none)) (r + 1) t bi far).2 < s * own then f_Model_acts_360 m (nI i) (nI k) τ else some ((), τ)) := by
          intro h
          rw [bnd_e, nI_1, mf_n (fun z => h z.2)]
          exact ih (t + 1) j bi far own (by omega) (by omega) hbi hfar hown
        by_cases hb0 : bi = none
        · rw [if_pos ((bi0 bi hbi).mpr hb0)]
          exact yes (Or.inl hb0)
        · rw [if_neg (fun z => hb0 ((bi0 bi hbi).mp z))]
          have hl : zI (e (nbr (q i) t)) < zI far ↔ e (nbr (q i) t) < far := zI_lt ⟨by omega, by omega⟩ ⟨by omega, by omega⟩
          have hl2 : zI far < zI (e (nbr (q i) t)) ↔ far < e (nbr (q i) t) := zI_lt ⟨by omega, by omega⟩ ⟨by omega, by omega⟩
          rcases hs with ⟨rfl, rfl⟩ | ⟨rfl, rfl⟩
          · rw [if_pos rfl]
            by_cases h : e (nbr (q i) t) < far
            · rw [if_pos (hl.mpr h)]
              exact yes (Or.inr (by omega))
            · rw [if_neg (fun z => h (hl.mp z))]
              exact no (fun z => by rcases z with z | z; exact hb0 z; omega)
          · rw [if_neg (by decide)]
            by_cases h : far < e (nbr (q i) t)
            · rw [if_pos (hl2.mpr h)]
              exact yes (Or.inr (by omega))
            · rw [if_neg (fun z => h (hl2.mp z))]
              exact no (fun z => by rcases z with z | z; exact hb0 z; omega)
      · rw [if_neg (fun z => hw (ho.2.1.mp z)), bnd_e, nI_1, mf_n (fun z => by simp [hw] at z)]
        exact ih (t + 1) j bi far own (by omega) (by omega) hbi hfar hown
    · rw [Bool.not_eq_true] at hf
      rw [if_pos (by rw [hf]; decide), bnd_e, nI_1, mf_n (fun z => by simp [hf] at z)]
      exact ih (t + 1) j bi far own (by omega) (by omega) hbi hfar hown
