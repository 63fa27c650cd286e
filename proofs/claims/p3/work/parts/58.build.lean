/-! PURE: a level is made, on both sides (own work) -/
theorem mons_loop {m : Nat} (hm : 20 ≤ m) {l t w h : Nat → Nat} {P d : Nat} (hd : d ≤ 3) : ∀ (r k j j' : Nat) (σ τ : St) (N : Nat) (q : Nat → Nat), k + r = 2 + d → N ≤ k → BM σ τ l t w h P N q →
    ∃ (σ' τ' : St) (N' : Nat) (q' : Nat → Nat), f_Maker_make_101 m (j + r) (nI d) (nI k) σ = f_Maker_make_101 m j (nI d) (nI (2 + d)) σ' ∧ f_Model_build_314 m (j' + r) (nI d) (nI k) τ = f_Model_build_314 m j' (nI d) (nI (2 + d)) τ' ∧ BM σ' τ' l t w h P N' q' ∧ fK2 σ σ' ∧ fM2 τ τ' := by
  intro r
  induction r with
  | zero =>
    intro k j j' σ τ N q hk hN hB
    obtain rfl : k = 2 + d := by omega
    exact ⟨σ, τ, N, q, rfl, rfl, hB, ⟨fun _ _ => rfl, rfl, fun _ _ => rfl⟩, ⟨fun _ _ => rfl, rfl, fun _ _ => rfl⟩⟩
  | succ r ih =>
    intro k j j' σ τ N q hk hN hB
    obtain ⟨σ1, τ1, N1, q1, a1, a2, a3, a4, a5, a6⟩ := mon_rel hm hB hN (show k < 2 + d by omega) hd (j + r) (j' + r)
    obtain ⟨σ', τ', N', q', b1, b2, b3, b4, b5⟩ := ih (k + 1) j j' σ1 τ1 N1 q1 (by omega) a4 a3
    exact ⟨σ', τ', N', q', a1.trans b1, a2.trans b2, b3, fK2_t a5 b4, fM2_t a6 b5⟩
def fK3 (σ σ' : St) : Prop := σ'.1 = σ.1 ∧ σ'.2.1 0 = σ.2.1 0 ∧ ∀ k, k ≠ 2 → σ'.2.2 k = σ.2.2 k
def fM3 (τ τ' : St) : Prop := τ'.1 = τ.1 ∧ τ'.2.1 1 = τ.2.1 1 ∧ ∀ k, k ≠ 1 → τ'.2.2 k = τ.2.2 k
theorem fK3_t {a b c : St} (h1 : fK3 a b) (h2 : fK3 b c) : fK3 a c := ⟨h2.1.trans h1.1, h2.2.1.trans h1.2.1, fun k x => (h2.2.2 k x).trans (h1.2.2 k x)⟩
theorem fM3_t {a b c : St} (h1 : fM3 a b) (h2 : fM3 b c) : fM3 a c := ⟨h2.1.trans h1.1, h2.2.1.trans h1.2.1, fun k x => (h2.2.2 k x).trans (h1.2.2 k x)⟩
theorem K_lay {m : Nat} {p : Nat} (hp : p < 120) (v : Int32) (σ : St) : f_Level_layThing m (nI p) v σ = some ((), if σ.2.2 2 p = 0 then (if σ.2.2 1 p = 2 then σ else sA σ 2 p (1 + v)) else σ) := by
  unfold f_Level_layThing
  rw [K_isCell m (by omega), bd_e, if_neg (by simp [hp, bI]), gd_e (inb_n hp (by omega)), gd_e (inb_n hp (by omega)), gd_e (inb_n hp (by omega)), tn_n (by omega)]
  by_cases h1 : σ.2.2 2 p = 0
  · rw [if_pos h1, if_pos h1]
    by_cases h2 : σ.2.2 1 p = 2
    · rw [if_pos h2, if_pos h2]
    · rw [if_neg h2, if_neg h2, bnd_e]
  · rw [if_neg h1, if_neg h1]
theorem thing_rel {m : Nat} (hm : 20 ≤ m) {σ τ : St} {l t w h : Nat → Nat} {k : Nat} (hB : BG σ τ l t w h 4) (ht : R_t σ τ) (hk : k < 3) (j j' : Nat) :
    ∃ σ' τ' : St, f_Maker_make_149 m (j + 1) (nI k) σ = f_Maker_make_149 m j (nI (k + 1)) σ' ∧ f_Model_build_506 m (j' + 1) (nI k) τ = f_Model_build_506 m j' (nI (k + 1)) τ' ∧ BG σ' τ' l t w h 4 ∧ R_t σ' τ' ∧ fK3 σ σ' ∧ fM3 τ τ' := by
  obtain ⟨hs, hg, hro, hrf⟩ := hB
  obtain ⟨s1, hs1⟩ : ∃ z, z = nxS (σ.2.1 1) := ⟨_, rfl⟩
  obtain ⟨s2, hs2⟩ : ∃ z, z = nxS s1 := ⟨_, rfl⟩
  have la := drw_lt s1 (show 0 < 4 by omega)
  have lb := drw_lt s2 (show 0 < 4 by omega)
  obtain ⟨a, ha⟩ : ∃ z, z = drw s1 4 := ⟨_, rfl⟩
  obtain ⟨b, hb⟩ : ∃ z, z = drw s2 4 := ⟨_, rfl⟩
  rw [f_Maker_make_149_s, f_Model_build_506_s]
  have h3 : ¬ (3 : Int32) ≤ nI k := fun z => by have := (le_n (a := 3) (b := k) (by omega) (by omega)).mp z; omega
  rw [if_neg h3, if_neg h3]
  rw [show f_Draws_draw_making m 4 σ = _ from K_mk m (a := 4) (by omega) (by omega) σ, bd_e, ← hs1, ← ha]
  rw [show f_Draws_draw_making m 4 (sL σ 1 s1) = _ from K_mk m (a := 4) (by omega) (by omega) _, bd_e, show nxS ((sL σ 1 s1).2.1 1) = s2 from hs2.symm, ← hb]
  rw [show f_Model_make m 4 τ = _ from M_mk m (a := 4) (by omega) (by omega) τ, bd_e, ← hs, ← hs1, ← ha]
  rw [show f_Model_make m 4 (sL τ 0 s1) = _ from M_mk m (a := 4) (by omega) (by omega) _, bd_e, show nxS ((sL τ 0 s1).2.1 0) = s2 from hs2.symm, ← hb]
  have hb4 : b < 4 := by omega
  obtain ⟨x, y, s, c0, c1, c2, c3, c4, c5, c6, c7⟩ := K_place (m := m) (σ := sL (sL σ 1 s1) 1 s2) (τ := τ) hro hb4
  rw [show (sL (sL σ 1 s1) 1 s2).2.1 1 = s2 from rfl] at c5 c6 c7
  rw [c0, bd_e]
  obtain ⟨⟨a1, a2, a3, a4, a5, a6, a7, a8⟩, bb⟩ := hro b hb4
  rw [gd_e (inb_n hb4 (by omega)), gd_e (inb_n hb4 (by omega)), tn_n (by omega)]
  rw [show (sL (sL τ 0 s1) 0 s2).2.2 = τ.2.2 from rfl, a7, a5, M_mk m (by omega) (by omega), bd_e, bnd_e, nI_add, show (sL (sL τ 0 s1) 0 s2).2.1 0 = s2 from rfl, ← c5]
  rw [gd_e (inb_n hb4 (by omega)), gd_e (inb_n hb4 (by omega)), show (sL (sL (sL τ 0 s1) 0 s2) 0 (nxS s2)).2.2 = τ.2.2 from rfl, a8, a6, M_mk m (by omega) (by omega), bd_e, bnd_e, nI_add, show (sL (sL (sL τ 0 s1) 0 s2) 0 (nxS s2)).2.1 0 = nxS s2 from rfl, ← c6, ← c7]
  rw [show (12 : Int32) * nI y + nI x = nI (12 * y + x) from by rw [show (12 : Int32) = nI 12 from rfl, pk_mul, nI_add]]
  obtain ⟨p, hp⟩ : ∃ z, z = 12 * y + x := ⟨_, rfl⟩
  have hp120 : p < 120 := by omega
  rw [← hp]
  generalize hσ3 : sL (sL (sL σ 1 s1) 1 s2) 1 s = σ3
  generalize hτ3 : sL (sL (sL (sL τ 0 s1) 0 s2) 0 (nxS s2)) 0 s = τ3
  have k1 : σ3.1 = σ.1 := by subst hσ3; rfl
  have k2 : σ3.2.2 = σ.2.2 := by subst hσ3; rfl
  have k3 : σ3.2.1 0 = σ.2.1 0 := by subst hσ3; rfl
  have k4 : σ3.2.1 1 = s := by subst hσ3; rfl
  have t1 : τ3.1 = τ.1 := by subst hτ3; rfl
  have t2 : τ3.2.2 = τ.2.2 := by subst hτ3; rfl
  have t3 : τ3.2.1 1 = τ.2.1 1 := by subst hτ3; rfl
  have t4 : τ3.2.1 0 = s := by subst hτ3; rfl
  clear hσ3 hτ3
  have hg3 : R_g σ3 τ3 := by unfold R_g; rw [k2, t2]; exact hg
  have hro3 : RO σ3 τ3 l t w h 4 := by unfold RO; rw [k2, t2]; exact hro
  have hrf3 : RFl (σ3.2.2 1) l t w h 4 := by rw [k2]; exact hrf
  have ht3 : R_t σ3 τ3 := by unfold R_t; rw [k2, t2]; exact ht
  have fk : ∀ σ', fK3 σ3 σ' → fK3 σ σ' := fun σ' z => fK3_t ⟨k1, k3, fun k _ => by rw [k2]⟩ z
  have fm : ∀ τ', fM3 τ3 τ' → fM3 τ τ' := fun τ' z => fM3_t ⟨t1, t3, fun k _ => by rw [t2]⟩ z
  have hs3 : σ3.2.1 1 = τ3.2.1 0 := by rw [k4, t4]
  clear k1 k2 k3 k4 t1 t2 t3 t4 ht hg hro hrf c0 c5 c6 c7 a1 a2 a3 a4 a5 a6 a7 a8
  obtain ⟨x1, x2⟩ := ht3 p hp120
  have h0 : σ3.2.2 2 p = 0 ↔ ¬ 0 ≤ τ3.2.2 1 p := by
    rw [x1]
    rcases x2 with z | ⟨v, hv, z⟩
    · rw [z]; decide
    · rw [z, nI_1]
      constructor
      · intro q; exact absurd q (nI_ne0 (by omega) (by omega))
      · intro q; exact absurd (nI_pos' (by omega)) q
  rw [K_lay hp120, bd_e, bnd_e, nI_1, gd_e (inb_n hp120 (by omega)), tn_n (by omega)]
  by_cases hz : σ3.2.2 2 p = 0
  · rw [if_pos hz, if_neg (h0.mp hz), gd_e (inb_n hp120 (by omega)), ← hg3.1 p hp120]
    by_cases h2 : σ3.2.2 1 p = 2
    · rw [if_pos h2, if_pos h2, bnd_e]
      exact ⟨σ3, τ3, rfl, rfl, ⟨hs3, hg3, hro3, hrf3⟩, ht3, fk _ ⟨rfl, rfl, fun _ _ => rfl⟩, fm _ ⟨rfl, rfl, fun _ _ => rfl⟩⟩
    · rw [if_neg h2, if_neg h2, gd_e (inb_n hp120 (by omega)), bnd_e, bnd_e]
      refine ⟨sA σ3 2 p (1 + nI a), sA τ3 1 p (nI a), rfl, rfl, ⟨hs3, hg3, hro3, hrf3⟩, fun r hr => ?_, fk _ ⟨rfl, rfl, fun z z1 => if_neg z1⟩, fm _ ⟨rfl, rfl, fun z z1 => if_neg z1⟩⟩
      show upd (σ3.2.2 2) p (1 + nI a) r = upd (τ3.2.2 1) p (nI a) r + 1 ∧ (upd (τ3.2.2 1) p (nI a) r = -1 ∨ ∃ v : Nat, v < 4 ∧ upd (τ3.2.2 1) p (nI a) r = nI v)
      by_cases e : r = p
      · rw [e, pk_us, pk_us]
        exact ⟨by rw [show (1 : Int32) = nI 1 from rfl, nI_add, nI_add]; congr 1; omega, Or.inr ⟨a, by omega, rfl⟩⟩
      · rw [pk_un e, pk_un e]; exact ht3 r hr
  · have h0' : 0 ≤ τ3.2.2 1 p := Decidable.byContradiction (fun z => hz (h0.mpr z))
    rw [if_neg hz, if_pos h0', bnd_e]
    exact ⟨σ3, τ3, rfl, rfl, ⟨hs3, hg3, hro3, hrf3⟩, ht3, fk _ ⟨rfl, rfl, fun _ _ => rfl⟩, fm _ ⟨rfl, rfl, fun _ _ => rfl⟩⟩
theorem things_loop {m : Nat} (hm : 20 ≤ m) {l t w h : Nat → Nat} : ∀ (r k j j' : Nat) (σ τ : St), k + r = 3 → BG σ τ l t w h 4 → R_t σ τ →
    ∃ σ' τ' : St, f_Maker_make_149 m (j + r) (nI k) σ = f_Maker_make_149 m j (nI 3) σ' ∧ f_Model_build_506 m (j' + r) (nI k) τ = f_Model_build_506 m j' (nI 3) τ' ∧ BG σ' τ' l t w h 4 ∧ R_t σ' τ' ∧ fK3 σ σ' ∧ fM3 τ τ' := by
  intro r
  induction r with
  | zero =>
    intro k j j' σ τ hk hB ht
    obtain rfl : k = 3 := by omega
    exact ⟨σ, τ, rfl, rfl, hB, ht, ⟨rfl, rfl, fun _ _ => rfl⟩, ⟨rfl, rfl, fun _ _ => rfl⟩⟩
  | succ r ih =>
    intro k j j' σ τ hk hB ht
    obtain ⟨σ1, τ1, a1, a2, a3, a4, a5, a6⟩ := thing_rel hm hB ht (show k < 3 by omega) (j + r) (j' + r)
    obtain ⟨σ', τ', b1, b2, b3, b4, b5, b6⟩ := ih (k + 1) j j' σ1 τ1 (by omega) a3 a4
    exact ⟨σ', τ', a1.trans b1, a2.trans b2, b3, b4, fK3_t a5 b5, fM3_t a6 b6⟩
/-- the reference's level, cleared up to c -/
def tcl (τ : St) (c : Nat) : St := (τ.1, τ.2.1, fun j => if j = 3 then fl_to 0 (τ.2.2 3) c else if j = 1 then fl_to (-1) (τ.2.2 1) c else if j = 0 then fl_to 0 (τ.2.2 0) c else τ.2.2 j)
theorem tcl_0 (τ : St) : tcl τ 0 = τ := by
  refine Prod.ext rfl (Prod.ext rfl ?_)
  funext j
  show (if j = 3 then fl_to 0 (τ.2.2 3) 0 else if j = 1 then fl_to (-1) (τ.2.2 1) 0 else if j = 0 then fl_to 0 (τ.2.2 0) 0 else τ.2.2 j) = τ.2.2 j
  rw [fl_0, fl_0, fl_0]
  by_cases h3 : j = 3
  · rw [if_pos h3, h3]
  · rw [if_neg h3]
    by_cases h1 : j = 1
    · rw [if_pos h1, h1]
    · rw [if_neg h1]
      by_cases h0 : j = 0
      · rw [if_pos h0, h0]
      · rw [if_neg h0]
theorem tcl_s (τ : St) (c : Nat) : sA (sA (sA (tcl τ c) 0 c 0) 1 c (-1)) 3 c 0 = tcl τ (c + 1) := by
  refine Prod.ext rfl (Prod.ext rfl ?_)
  funext j
  show (if j = 3 then upd (fl_to 0 (τ.2.2 3) c) c 0 else if j = 1 then upd (fl_to (-1) (τ.2.2 1) c) c (-1) else if j = 0 then upd (fl_to 0 (τ.2.2 0) c) c 0 else (if j = 3 then fl_to 0 (τ.2.2 3) c else if j = 1 then fl_to (-1) (τ.2.2 1) c else if j = 0 then fl_to 0 (τ.2.2 0) c else τ.2.2 j)) = (if j = 3 then fl_to 0 (τ.2.2 3) (c + 1) else if j = 1 then fl_to (-1) (τ.2.2 1) (c + 1) else if j = 0 then fl_to 0 (τ.2.2 0) (c + 1) else τ.2.2 j)
  rw [fl_s, fl_s, fl_s]
  by_cases h3 : j = 3
  · rw [if_pos h3, if_pos h3]
  · simp only [if_neg h3]
    by_cases h1 : j = 1
    · simp only [if_pos h1]
    · simp only [if_neg h1]
      by_cases h0 : j = 0
      · simp only [if_pos h0]
      · simp only [if_neg h0]
theorem M_clear_loop {m : Nat} (y : Int32) (τ : St) : ∀ (r c j : Nat), c + r = 120 → r < j → f_Model_build_25 m j y (nI c) (tcl τ c) = f_Model_build_60 m m y 0 (tcl τ 120) := by
  intro r
  induction r with
  | zero =>
    intro c j hc hj
    obtain ⟨j, rfl⟩ : ∃ z, j = z + 1 := ⟨j - 1, by omega⟩
    obtain rfl : c = 120 := by omega
    rw [f_Model_build_25_s, if_pos y120]
  | succ r ih =>
    intro c j hc hj
    obtain ⟨j, rfl⟩ : ∃ z, j = z + 1 := ⟨j - 1, by omega⟩
    rw [f_Model_build_25_s, if_neg (n120 (by omega)), gd_e (inb_n (by omega) (by omega)), bnd_e, gd_e (inb_n (by omega) (by omega)), bnd_e, gd_e (inb_n (by omega) (by omega)), bnd_e, bnd_e, tn_n (by omega), tcl_s, nI_1]
    exact ih (c + 1) j (by omega) (by omega)
