/-! PURE: rooms and ways (own work) -/
def RO (σ τ : St) (l t w h : Nat → Nat) (n : Nat) : Prop := ∀ i, i < n → (σ.2.2 9 i = nI (l i) ∧ σ.2.2 10 i = nI (t i) ∧ σ.2.2 11 i = nI (w i) ∧ σ.2.2 12 i = nI (h i) ∧ τ.2.2 11 i = nI (l i) ∧ τ.2.2 12 i = nI (t i) ∧ τ.2.2 13 i = nI (w i) ∧ τ.2.2 14 i = nI (h i)) ∧ (2 ≤ w i ∧ w i ≤ 4 ∧ 2 ≤ h i ∧ h i ≤ 3 ∧ 6 * (i % 2) + 1 ≤ l i ∧ l i + w i ≤ 6 * (i % 2) + 5 ∧ 5 * (i / 2) + 1 ≤ t i ∧ t i + h i ≤ 5 * (i / 2) + 4)
def RFl (g : Nat → Int32) (l t w h : Nat → Nat) (n : Nat) : Prop := ∀ i, i < n → ∀ x y, l i ≤ x → x < l i + w i → t i ≤ y → y < t i + h i → g (12 * y + x) ≠ 0
def fK1 (σ σ' : St) : Prop := σ'.1 = σ.1 ∧ σ'.2.1 0 = σ.2.1 0 ∧ ∀ k, k ≠ 1 → k ≠ 9 → k ≠ 10 → k ≠ 11 → k ≠ 12 → σ'.2.2 k = σ.2.2 k
def fM1 (τ τ' : St) : Prop := τ'.1 = τ.1 ∧ τ'.2.1 1 = τ.2.1 1 ∧ ∀ k, k ≠ 0 → k ≠ 11 → k ≠ 12 → k ≠ 13 → k ≠ 14 → τ'.2.2 k = τ.2.2 k
theorem fK1_r (σ : St) : fK1 σ σ := ⟨rfl, rfl, fun _ _ _ _ _ _ => rfl⟩
theorem fM1_r (σ : St) : fM1 σ σ := ⟨rfl, rfl, fun _ _ _ _ _ _ => rfl⟩
theorem fK1_t {a b c : St} (h1 : fK1 a b) (h2 : fK1 b c) : fK1 a c := ⟨h2.1.trans h1.1, h2.2.1.trans h1.2.1, fun k x1 x2 x3 x4 x5 => (h2.2.2 k x1 x2 x3 x4 x5).trans (h1.2.2 k x1 x2 x3 x4 x5)⟩
theorem fM1_t {a b c : St} (h1 : fM1 a b) (h2 : fM1 b c) : fM1 a c := ⟨h2.1.trans h1.1, h2.2.1.trans h1.2.1, fun k x1 x2 x3 x4 x5 => (h2.2.2 k x1 x2 x3 x4 x5).trans (h1.2.2 k x1 x2 x3 x4 x5)⟩
def BG (σ τ : St) (l t w h : Nat → Nat) (n : Nat) : Prop := σ.2.1 1 = τ.2.1 0 ∧ R_g σ τ ∧ RO σ τ l t w h n ∧ RFl (σ.2.2 1) l t w h n
/-- a room, on both sides -/
theorem room_rel {m : Nat} (hm : 20 ≤ m) {σ τ : St} {l t w h : Nat → Nat} {i : Nat} (hi : i < 4) (hB : BG σ τ l t w h i) (y : Int32) (j : Nat) :
    ∃ (σ' τ' : St) (l' t' w' h' : Nat → Nat), f_Maker_digRoom m (nI i) σ = some ((), σ') ∧ f_Model_build_60 m (j + 1) y (nI i) τ = f_Model_build_60 m j y (nI (i + 1)) τ' ∧ BG σ' τ' l' t' w' h' (i + 1) ∧ fK1 σ σ' ∧ fM1 τ τ' := by
  obtain ⟨hs, hg, hro, hrf⟩ := hB
  obtain ⟨s1, hs1⟩ : ∃ z, z = nxS (σ.2.1 1) := ⟨_, rfl⟩
  obtain ⟨s2, hs2⟩ : ∃ z, z = nxS s1 := ⟨_, rfl⟩
  obtain ⟨s3, hs3⟩ : ∃ z, z = nxS s2 := ⟨_, rfl⟩
  obtain ⟨s4, hs4⟩ : ∃ z, z = nxS s3 := ⟨_, rfl⟩
  have l1 := drw_lt s1 (show 0 < 3 by omega)
  have l2 := drw_lt s2 (show 0 < 2 by omega)
  obtain ⟨W, hW⟩ : ∃ z, z = 2 + drw s1 3 := ⟨_, rfl⟩
  obtain ⟨Hh, hH⟩ : ∃ z, z = 2 + drw s2 2 := ⟨_, rfl⟩
  have l3 := drw_lt s3 (show 0 < 5 - W by omega)
  have l4 := drw_lt s4 (show 0 < 4 - Hh by omega)
  obtain ⟨Lf, hL⟩ : ∃ z, z = 6 * (i % 2) + 1 + drw s3 (5 - W) := ⟨_, rfl⟩
  obtain ⟨Tp, hT⟩ : ∃ z, z = 5 * (i / 2) + 1 + drw s4 (4 - Hh) := ⟨_, rfl⟩
  have hi2 : nI i - nI i / 2 * 2 = nI (i % 2) := pk_rem (d := 2) (by omega) (by omega) (by omega)
  have hi3 : nI i / 2 = nI (i / 2) := pk_div (d := 2) (by omega) (by omega) (by omega)
  have eL : ∀ r : Nat, 6 * nI (i % 2) + 1 + nI r = nI (6 * (i % 2) + 1 + r) := fun r => by rw [show (6 : Int32) = nI 6 from rfl, show (1 : Int32) = nI 1 from rfl, pk_mul, nI_add, nI_add]
  have eT : ∀ r : Nat, 5 * nI (i / 2) + 1 + nI r = nI (5 * (i / 2) + 1 + r) := fun r => by rw [show (5 : Int32) = nI 5 from rfl, show (1 : Int32) = nI 1 from rfl, pk_mul, nI_add, nI_add]
  have e2 : ∀ r : Nat, 2 + nI r = nI (2 + r) := fun r => by rw [show (2 : Int32) = nI 2 from rfl, nI_add]
  have e5 : 5 - nI W = nI (5 - W) := pk_sub (a := 5) (by omega)
  have e4 : 4 - nI Hh = nI (4 - Hh) := pk_sub (a := 4) (by omega)
  -- the class
  have hK : ∃ σ4 : St, f_Maker_digRoom m (nI i) σ = some ((), sB σ4 1 (rc (σ.2.2 1) Lf (Lf + W) Tp (Tp + Hh))) ∧ σ4.1 = σ.1 ∧ σ4.2.1 0 = σ.2.1 0 ∧ σ4.2.1 1 = s4 ∧ σ4.2.2 9 = upd (σ.2.2 9) i (nI Lf) ∧ σ4.2.2 10 = upd (σ.2.2 10) i (nI Tp) ∧ σ4.2.2 11 = upd (σ.2.2 11) i (nI W) ∧ σ4.2.2 12 = upd (σ.2.2 12) i (nI Hh) ∧ ∀ k, k ≠ 9 → k ≠ 10 → k ≠ 11 → k ≠ 12 → σ4.2.2 k = σ.2.2 k := by
    unfold f_Maker_digRoom
    rw [show f_Draws_draw_making m 3 σ = _ from K_mk m (a := 3) (by omega) (by omega) σ, bd_e, gd_e (inb_n hi (by omega)), bnd_e, tn_n (by omega), e2, ← hs1, ← hW]
    rw [show f_Draws_draw_making m 2 (sA (sL σ 1 s1) 11 i (nI W)) = _ from K_mk m (a := 2) (by omega) (by omega) _, bd_e, gd_e (inb_n hi (by omega)), bnd_e, e2]
    rw [show nxS ((sA (sL σ 1 s1) 11 i (nI W)).2.1 1) = s2 from hs2.symm, ← hH]
    rw [gd_e (inb_n hi (by omega)), show (sA (sL (sA (sL σ 1 s1) 11 i (nI W)) 1 s2) 12 i (nI Hh)).2.2 11 i = nI W from pk_us, e5, K_mk m (by omega) (by omega), bd_e, gd_e (inb_n hi (by omega)), bnd_e, hi2]
    rw [show nxS ((sA (sL (sA (sL σ 1 s1) 11 i (nI W)) 1 s2) 12 i (nI Hh)).2.1 1) = s3 from hs3.symm, eL, ← hL]
    rw [gd_e (inb_n hi (by omega)), show (sA (sL (sA (sL (sA (sL σ 1 s1) 11 i (nI W)) 1 s2) 12 i (nI Hh)) 1 s3) 9 i (nI Lf)).2.2 12 i = nI Hh from pk_us, e4, K_mk m (by omega) (by omega), bd_e, gd_e (inb_n hi (by omega)), bnd_e, hi3]
    rw [show nxS ((sA (sL (sA (sL (sA (sL σ 1 s1) 11 i (nI W)) 1 s2) 12 i (nI Hh)) 1 s3) 9 i (nI Lf)).2.1 1) = s4 from hs4.symm, eT, ← hT]
    rw [gd_e (inb_n hi (by omega)), bnd_e]
    refine ⟨sA (sL (sA (sL (sA (sL (sA (sL σ 1 s1) 11 i (nI W)) 1 s2) 12 i (nI Hh)) 1 s3) 9 i (nI Lf)) 1 s4) 10 i (nI Tp), ?_, rfl, rfl, rfl, rfl, rfl, rfl, rfl, fun k k1 k2 k3 k4 => ?_⟩
    · rw [show (sA (sL (sA (sL (sA (sL (sA (sL σ 1 s1) 11 i (nI W)) 1 s2) 12 i (nI Hh)) 1 s3) 9 i (nI Lf)) 1 s4) 10 i (nI Tp)).2.2 10 i = nI Tp from pk_us]
      have := K_room_loop (m := m) hm (σ := sA (sL (sA (sL (sA (sL (sA (sL σ 1 s1) 11 i (nI W)) 1 s2) 12 i (nI Hh)) 1 s3) 9 i (nI Lf)) 1 s4) 10 i (nI Tp)) (g := σ.2.2 1) (l := Lf) (t := Tp) (w := W) (h := Hh) hi pk_us pk_us pk_us pk_us (by omega) (by omega) (by omega) Hh Tp m (by omega) (by omega) (Nat.le_refl _)
      rw [rc_e (Or.inr (Nat.le_refl _)), show sB (sA (sL (sA (sL (sA (sL (sA (sL σ 1 s1) 11 i (nI W)) 1 s2) 12 i (nI Hh)) 1 s3) 9 i (nI Lf)) 1 s4) 10 i (nI Tp)) 1 (σ.2.2 1) = sA (sL (sA (sL (sA (sL (sA (sL σ 1 s1) 11 i (nI W)) 1 s2) 12 i (nI Hh)) 1 s3) 9 i (nI Lf)) 1 s4) 10 i (nI Tp) from sB_self _ 1] at this
      exact this
    · show (if k = 10 then _ else if k = 9 then _ else if k = 12 then _ else if k = 11 then _ else σ.2.2 k) = σ.2.2 k
      rw [if_neg k2, if_neg k1, if_neg k4, if_neg k3]
  -- the reference
  have hM : ∃ τ4 : St, f_Model_build_60 m (j + 1) y (nI i) τ = f_Model_build_60 m j y (nI (i + 1)) (sB τ4 0 (rc (τ.2.2 0) Lf (Lf + W) Tp (Tp + Hh))) ∧ τ4.1 = τ.1 ∧ τ4.2.1 1 = τ.2.1 1 ∧ τ4.2.1 0 = s4 ∧ τ4.2.2 11 = upd (τ.2.2 11) i (nI Lf) ∧ τ4.2.2 12 = upd (τ.2.2 12) i (nI Tp) ∧ τ4.2.2 13 = upd (τ.2.2 13) i (nI W) ∧ τ4.2.2 14 = upd (τ.2.2 14) i (nI Hh) ∧ ∀ k, k ≠ 11 → k ≠ 12 → k ≠ 13 → k ≠ 14 → τ4.2.2 k = τ.2.2 k := by
    rw [f_Model_build_60_s, if_neg (fun z : (4 : Int32) ≤ nI i => by have := (le_n (a := 4) (by omega) (by omega)).mp z; omega)]
    rw [show f_Model_make m 3 τ = _ from M_mk m (a := 3) (by omega) (by omega) τ, bd_e, gd_e (inb_n hi (by omega)), bnd_e, tn_n (by omega), e2, ← hs, ← hs1, ← hW]
    rw [show f_Model_make m 2 (sA (sL τ 0 s1) 13 i (nI W)) = _ from M_mk m (a := 2) (by omega) (by omega) _, bd_e, gd_e (inb_n hi (by omega)), bnd_e, e2]
    rw [show nxS ((sA (sL τ 0 s1) 13 i (nI W)).2.1 0) = s2 from hs2.symm, ← hH]
    rw [gd_e (inb_n hi (by omega)), show (sA (sL (sA (sL τ 0 s1) 13 i (nI W)) 0 s2) 14 i (nI Hh)).2.2 13 i = nI W from pk_us, e5, M_mk m (by omega) (by omega), bd_e, gd_e (inb_n hi (by omega)), bnd_e, hi2]
    rw [show nxS ((sA (sL (sA (sL τ 0 s1) 13 i (nI W)) 0 s2) 14 i (nI Hh)).2.1 0) = s3 from hs3.symm, eL, ← hL]
    rw [gd_e (inb_n hi (by omega)), show (sA (sL (sA (sL (sA (sL τ 0 s1) 13 i (nI W)) 0 s2) 14 i (nI Hh)) 0 s3) 11 i (nI Lf)).2.2 14 i = nI Hh from pk_us, e4, M_mk m (by omega) (by omega), bd_e, gd_e (inb_n hi (by omega)), bnd_e, hi3]
    rw [show nxS ((sA (sL (sA (sL (sA (sL τ 0 s1) 13 i (nI W)) 0 s2) 14 i (nI Hh)) 0 s3) 11 i (nI Lf)).2.1 0) = s4 from hs4.symm, eT, ← hT]
    rw [gd_e (inb_n hi (by omega)), gd_e (inb_n hi (by omega)), gd_e (inb_n hi (by omega)), gd_e (inb_n hi (by omega)), gd_e (inb_n hi (by omega)), gd_e (inb_n hi (by omega))]
    refine ⟨sA (sL (sA (sL (sA (sL (sA (sL τ 0 s1) 13 i (nI W)) 0 s2) 14 i (nI Hh)) 0 s3) 11 i (nI Lf)) 0 s4) 12 i (nI Tp), ?_, rfl, rfl, rfl, rfl, rfl, rfl, rfl, fun k k1 k2 k3 k4 => ?_⟩
    · rw [show (sA (sL (sA (sL (sA (sL (sA (sL τ 0 s1) 13 i (nI W)) 0 s2) 14 i (nI Hh)) 0 s3) 11 i (nI Lf)) 0 s4) 12 i (nI Tp)).2.2 12 i = nI Tp from pk_us, show (sA (sL (sA (sL (sA (sL (sA (sL τ 0 s1) 13 i (nI W)) 0 s2) 14 i (nI Hh)) 0 s3) 11 i (nI Lf)) 0 s4) 12 i (nI Tp)).2.2 11 i = nI Lf from pk_us, show (sA (sL (sA (sL (sA (sL (sA (sL τ 0 s1) 13 i (nI W)) 0 s2) 14 i (nI Hh)) 0 s3) 11 i (nI Lf)) 0 s4) 12 i (nI Tp)).2.2 13 i = nI W from pk_us, show (sA (sL (sA (sL (sA (sL (sA (sL τ 0 s1) 13 i (nI W)) 0 s2) 14 i (nI Hh)) 0 s3) 11 i (nI Lf)) 0 s4) 12 i (nI Tp)).2.2 14 i = nI Hh from pk_us]
      rw [nI_add, nI_add, show nI (Lf + W) - 1 = nI (Lf + W - 1) from pk_sub (b := 1) (by omega), show nI (Tp + Hh) - 1 = nI (Tp + Hh - 1) from pk_sub (b := 1) (by omega)]
      rw [M_dig hm _ (by omega) (by omega) (by omega) (by omega), bd_e, bnd_e, nI_1, show min Lf (Lf + W - 1) = Lf by omega, show max Lf (Lf + W - 1) + 1 = Lf + W by omega, show min Tp (Tp + Hh - 1) = Tp by omega, show max Tp (Tp + Hh - 1) + 1 = Tp + Hh by omega]
      rfl
    · show (if k = 12 then _ else if k = 11 then _ else if k = 14 then _ else if k = 13 then _ else τ.2.2 k) = τ.2.2 k
      rw [if_neg k2, if_neg k1, if_neg k4, if_neg k3]
  obtain ⟨σ4, a0, a1, a2, a3, a4, a5, a6, a7, a8⟩ := hK
  obtain ⟨τ4, b0, b1, b2, b3, b4, b5, b6, b7, b8⟩ := hM
  refine ⟨_, _, ud l i Lf, ud t i Tp, ud w i W, ud h i Hh, a0, b0, ⟨?_, ⟨?_, ?_⟩, ?_, ?_⟩, ⟨a1, a2, fun k k1 k2 k3 k4 k5 => ?_⟩, ⟨b1, b2, fun k k1 k2 k3 k4 k5 => ?_⟩⟩
  · show σ4.2.1 1 = τ4.2.1 0
    rw [a3, b3]
  · exact rc_eq hg.1 _ _ _ _
  · exact rc_bor hg.2 (by omega) (by omega) (by omega) (by omega)
  · intro k hk
    show (σ4.2.2 9 k = _ ∧ σ4.2.2 10 k = _ ∧ σ4.2.2 11 k = _ ∧ σ4.2.2 12 k = _ ∧ τ4.2.2 11 k = _ ∧ τ4.2.2 12 k = _ ∧ τ4.2.2 13 k = _ ∧ τ4.2.2 14 k = _) ∧ _
    rw [a4, a5, a6, a7, b4, b5, b6, b7]
    by_cases e : k = i
    · subst e
      rw [ud_s, ud_s, ud_s, ud_s]
      exact ⟨⟨pk_us, pk_us, pk_us, pk_us, pk_us, pk_us, pk_us, pk_us⟩, by omega⟩
    · rw [ud_n _ _ e, ud_n _ _ e, ud_n _ _ e, ud_n _ _ e, pk_un e, pk_un e, pk_un e, pk_un e, pk_un e, pk_un e, pk_un e, pk_un e]
      exact hro k (by omega)
  · intro k hk x y2 x1 x2 x3 x4
    show rc (σ.2.2 1) Lf (Lf + W) Tp (Tp + Hh) (12 * y2 + x) ≠ 0
    by_cases e : k = i
    · subst e
      rw [ud_s] at x1 x2 x3 x4
      rw [ud_s] at x2 x4
      unfold rc
      rw [if_pos (by omega)]
      decide
    · rw [ud_n _ _ e] at x1 x2 x3 x4
      rw [ud_n _ _ e] at x2 x4
      exact rc_ne (hrf k (by omega) x y2 x1 x2 x3 x4)
  · show (if k = 1 then _ else σ4.2.2 k) = σ.2.2 k
    rw [if_neg k1, a8 k k2 k3 k4 k5]
  · show (if k = 0 then _ else τ4.2.2 k) = τ.2.2 k
    rw [if_neg k1, b8 k k2 k3 k4 k5]
