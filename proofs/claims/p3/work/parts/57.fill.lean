/-! PURE: monsters and things are laid (own work) -/
def fK2 (σ σ' : St) : Prop := (∀ k, k ≠ 7 → σ'.1 k = σ.1 k) ∧ σ'.2.1 0 = σ.2.1 0 ∧ ∀ k, k < 4 ∨ 8 < k → σ'.2.2 k = σ.2.2 k
def fM2 (τ τ' : St) : Prop := (∀ k, k ≠ 1 → τ'.1 k = τ.1 k) ∧ τ'.2.1 1 = τ.2.1 1 ∧ ∀ k, k < 4 ∨ 10 < k → τ'.2.2 k = τ.2.2 k
theorem fK2_t {a b c : St} (h1 : fK2 a b) (h2 : fK2 b c) : fK2 a c := ⟨fun k x => (h2.1 k x).trans (h1.1 k x), h2.2.1.trans h1.2.1, fun k x => (h2.2.2 k x).trans (h1.2.2 k x)⟩
theorem fM2_t {a b c : St} (h1 : fM2 a b) (h2 : fM2 b c) : fM2 a c := ⟨fun k x => (h2.1 k x).trans (h1.1 k x), h2.2.1.trans h1.2.1, fun k x => (h2.2.2 k x).trans (h1.2.2 k x)⟩
/-- while monsters are laid -/
def BM (σ τ : St) (l t w h : Nat → Nat) (P N : Nat) (q : Nat → Nat) : Prop := BG σ τ l t w h 4 ∧ R_m σ τ P N q ∧ (P % 12 ≤ 4 ∧ P / 12 ≤ 3) ∧ ∀ i, i < N → σ.2.2 7 i = 0
theorem hv_tab {a : Nat} (ha : a < 3) : inb (nI a) 3 = true ∧ tb_HEALTH_OF a = (if nI a = 0 then 3 else if nI a = 1 then 6 else 2) ∧ (nI a = 0 ∨ nI a = 1 ∨ nI a = 2) ∧ ¬ (if nI a = 0 then (3 : Int32) else if nI a = 1 then 6 else 2) ≤ 0 := by
  rcases (show a = 0 ∨ a = 1 ∨ a = 2 by omega) with rfl | rfl | rfl <;> decide
theorem mon_rel {m : Nat} (hm : 20 ≤ m) {σ τ : St} {l t w h : Nat → Nat} {P N k d : Nat} {q : Nat → Nat} (hB : BM σ τ l t w h P N q) (hN : N ≤ k) (hk : k < 2 + d) (hd : d ≤ 3) (j j' : Nat) :
    ∃ (σ' τ' : St) (N' : Nat) (q' : Nat → Nat), f_Maker_make_101 m (j + 1) (nI d) (nI k) σ = f_Maker_make_101 m j (nI d) (nI (k + 1)) σ' ∧ f_Model_build_314 m (j' + 1) (nI d) (nI k) τ = f_Model_build_314 m j' (nI d) (nI (k + 1)) τ' ∧ BM σ' τ' l t w h P N' q' ∧ N' ≤ k + 1 ∧ fK2 σ σ' ∧ fM2 τ τ' := by
  obtain ⟨⟨hs, hg, hro, hrf⟩, hmm, hP, hen⟩ := hB
  obtain ⟨s1, hs1⟩ : ∃ z, z = nxS (σ.2.1 1) := ⟨_, rfl⟩
  obtain ⟨s2, hs2⟩ : ∃ z, z = nxS s1 := ⟨_, rfl⟩
  have la := drw_lt s1 (show 0 < 3 by omega)
  have lb := drw_lt s2 (show 0 < 3 by omega)
  obtain ⟨a, ha⟩ : ∃ z, z = drw s1 3 := ⟨_, rfl⟩
  obtain ⟨b, hb⟩ : ∃ z, z = 1 + drw s2 3 := ⟨_, rfl⟩
  rw [f_Maker_make_101_s, f_Model_build_314_s]
  rw [show (2 : Int32) + nI d = nI (2 + d) from by rw [show (2 : Int32) = nI 2 from rfl, nI_add], if_neg (fun z => by have := (le_n (by omega) (by omega)).mp z; omega), if_neg (fun z => by have := (le_n (by omega) (by omega)).mp z; omega)]
  rw [show f_Draws_draw_making m 3 σ = _ from K_mk m (a := 3) (by omega) (by omega) σ, bd_e, ← hs1, ← ha]
  rw [show f_Draws_draw_making m 3 (sL σ 1 s1) = _ from K_mk m (a := 3) (by omega) (by omega) _, bd_e, show nxS ((sL σ 1 s1).2.1 1) = s2 from hs2.symm]
  rw [show (1 : Int32) + nI (drw s2 3) = nI b from by rw [show (1 : Int32) = nI 1 from rfl, nI_add, hb]]
  rw [show f_Model_make m 3 τ = _ from M_mk m (a := 3) (by omega) (by omega) τ, bd_e, ← hs, ← hs1, ← ha]
  rw [show f_Model_make m 3 (sL τ 0 s1) = _ from M_mk m (a := 3) (by omega) (by omega) _, bd_e, show nxS ((sL τ 0 s1).2.1 0) = s2 from hs2.symm, bnd_e]
  rw [show (1 : Int32) + nI (drw s2 3) = nI b from by rw [show (1 : Int32) = nI 1 from rfl, nI_add, hb]]
  have hb4 : b < 4 := by omega
  obtain ⟨x, y, s, c0, c1, c2, c3, c4, c5, c6, c7⟩ := K_place (m := m) (σ := sL (sL σ 1 s1) 1 s2) (τ := τ) hro hb4
  rw [show (sL (sL σ 1 s1) 1 s2).2.1 1 = s2 from rfl] at c5 c6 c7
  rw [c0, bd_e]
  obtain ⟨⟨a1, a2, a3, a4, a5, a6, a7, a8⟩, bb⟩ := hro b hb4
  rw [gd_e (inb_n hb4 (by omega)), gd_e (inb_n hb4 (by omega)), tn_n (by omega)]
  rw [show (sL (sL τ 0 s1) 0 s2).2.2 = τ.2.2 from rfl, a7, a5, M_mk m (by omega) (by omega), bd_e, bnd_e, nI_add, show (sL (sL τ 0 s1) 0 s2).2.1 0 = s2 from rfl, ← c5]
  rw [gd_e (inb_n hb4 (by omega)), gd_e (inb_n hb4 (by omega)), show (sL (sL (sL τ 0 s1) 0 s2) 0 (nxS s2)).2.2 = τ.2.2 from rfl, a8, a6, M_mk m (by omega) (by omega), bd_e, bnd_e, nI_add, show (sL (sL (sL τ 0 s1) 0 s2) 0 (nxS s2)).2.1 0 = nxS s2 from rfl, ← c6, ← c7]
  have hx : x ≤ 10 := by omega
  have hy : y ≤ 8 := by omega
  obtain ⟨p, hp⟩ : ∃ z, z = 12 * y + x := ⟨_, rfl⟩
  have hp120 : p < 120 := by omega
  have hpx : p % 12 = x := by omega
  have hpy : p / 12 = y := by omega
  rw [← hp, ← hpx, ← hpy]
  have hpP : p ≠ P := by
    intro e
    subst e
    rcases (show b = 1 ∨ b = 2 ∨ b = 3 by omega) with rfl | rfl | rfl <;> omega
  have hgp : (σ.2.2 1) p ≠ 0 := by rw [hp]; exact hrf b hb4 x y c1 c2 c3 c4
  generalize hσ3 : sL (sL (sL σ 1 s1) 1 s2) 1 s = σ3
  generalize hτ3 : sL (sL (sL (sL τ 0 s1) 0 s2) 0 (nxS s2)) 0 s = τ3
  have k1 : σ3.1 = σ.1 := by subst hσ3; rfl
  have k2 : σ3.2.2 = σ.2.2 := by subst hσ3; rfl
  have k3 : σ3.2.1 0 = σ.2.1 0 := by subst hσ3; rfl
  have k4 : σ3.2.1 1 = s := by subst hσ3; rfl
  have t1 : τ3.1 = τ.1 := by subst hτ3; rfl
  have t2 : τ3.2.2 = τ.2.2 := by subst hτ3; rfl
  have t3 : τ3.2.1 1 = τ.2.1 1 := by subst hτ3; rfl
  have t4 : τ3.2.1 0 = s := by subst hτ3; rfl
  clear hσ3 hτ3
  have hmm3 : R_m σ3 τ3 P N q := by unfold R_m MO; rw [k1, k2, t1, t2]; exact hmm
  have hg3 : R_g σ3 τ3 := by unfold R_g; rw [k2, t2]; exact hg
  have hro3 : RO σ3 τ3 l t w h 4 := by unfold RO; rw [k2, t2]; exact hro
  have hrf3 : RFl (σ3.2.2 1) l t w h 4 := by rw [k2]; exact hrf
  have hen3 : ∀ i, i < N → σ3.2.2 7 i = 0 := by rw [k2]; exact hen
  have hgp3 : (σ3.2.2 1) p ≠ 0 := by rw [k2]; exact hgp
  have fk : ∀ σ', fK2 σ3 σ' → fK2 σ σ' := fun σ' z => fK2_t ⟨fun k _ => by rw [k1], k3, fun k _ => by rw [k2]⟩ z
  have fm : ∀ τ', fM2 τ3 τ' → fM2 τ τ' := fun τ' z => fM2_t ⟨fun k _ => by rw [t1], t3, fun k _ => by rw [t2]⟩ z
  have hs3 : σ3.2.1 1 = τ3.2.1 0 := by rw [k4, t4]
  clear k1 k2 k3 k4 t1 t2 t3 t4
  rw [M_who (by omega) hmm3 hp120, bd_e]
  unfold f_Monsters_add
  have hN5 : N < 5 := by omega
  rw [hmm3.2.1, if_neg (fun z : (5 : Int32) ≤ nI N => by have := (le_n (a := 5) (by omega) (by omega)).mp z; omega), if_neg (lt0_n (by omega)), if_neg (fun z : (3 : Int32) ≤ nI a => by have := (le_n (a := 3) (by omega) (by omega)).mp z; omega), K_who (by omega) hmm3, bd_e]
  have ho := oI_none (d := -2) (o := who σ3 N p) (N := N) (by decide) (fun k hk => (who_some hk).1) (by omega)
  have ho1 := oI_none (d := -1) (o := who σ3 N p) (N := N) (by decide) (fun k hk => (who_some hk).1) (by omega)
  by_cases hw : who σ3 N p = none
  · rw [if_pos (ho.1.mpr hw), if_pos (ho1.2.1.mpr hw)]
    obtain ⟨v1, v2, v3, v4⟩ := hv_tab (show a < 3 by omega)
    obtain ⟨hv, hhv⟩ : ∃ z, z = (if nI a = 0 then (3 : Int32) else if nI a = 1 then 6 else 2) := ⟨_, rfl⟩
    rw [← hhv] at v2 v4
    have n7 : σ3.1 7 = nI N := hmm3.2.1
    have m1 : τ3.1 1 = nI N := hmm3.2.2.1
    have eK : (gd (inb (nI N) 5) (bnd (sA σ3 4 (nI N).toNatClampNeg (nI a)) (fun σ9 => gd (inb (σ9.1 7) 5) (bnd (sA σ9 5 (σ9.1 7).toNatClampNeg (nI p)) (fun σ11 => gd (inb (nI a) 3) (gd (inb (σ11.1 7) 5) (bnd (sA σ11 6 (σ11.1 7).toNatClampNeg (tb_HEALTH_OF (nI a).toNatClampNeg)) (fun σ14 => gd (inb (σ14.1 7) 5) (bnd (sA σ14 7 (σ14.1 7).toNatClampNeg 0) (fun σ16 => gd (inb (σ16.1 7) 5) (bnd (sA σ16 8 (σ16.1 7).toNatClampNeg 0) (fun σ18 => bnd (sI σ18 7 ((σ18.1 7) + 1)) (fun σ19 => some ((), σ19))))))))))))) : Option (Unit × St)) = some ((), sI (sA (sA (sA (sA (sA σ3 4 N (nI a)) 5 N (nI p)) 6 N hv) 7 N 0) 8 N 0) 7 (nI (N + 1))) := by
      rw [gd_e (inb_n hN5 (by omega)), bnd_e, tn_n (by omega), show (sA σ3 4 N (nI a)).1 7 = nI N from n7, gd_e (inb_n hN5 (by omega)), bnd_e, tn_n (by omega), gd_e v1, show (sA (sA σ3 4 N (nI a)) 5 N (nI p)).1 7 = nI N from n7, gd_e (inb_n hN5 (by omega)), bnd_e, tn_n (by omega), tn_n (by omega), v2]
      rw [show (sA (sA (sA σ3 4 N (nI a)) 5 N (nI p)) 6 N hv).1 7 = nI N from n7, gd_e (inb_n hN5 (by omega)), bnd_e, tn_n (by omega), show (sA (sA (sA (sA σ3 4 N (nI a)) 5 N (nI p)) 6 N hv) 7 N 0).1 7 = nI N from n7, gd_e (inb_n hN5 (by omega)), bnd_e, tn_n (by omega), bnd_e, show (sA (sA (sA (sA (sA σ3 4 N (nI a)) 5 N (nI p)) 6 N hv) 7 N 0) 8 N 0).1 7 = nI N from n7, nI_1]
    rw [n7, eK, bd_e, bnd_e, nI_1]
    have eM : ∀ hv2 : Int32, hv2 = hv → f_Model_build_456 m (fun y1 y4 σ => f_Model_build_314 m j' y1 y4 σ) (nI d) (nI k) hv2 (nI N) (sA (sA (sA τ3 4 N (nI a)) 5 N (nI (p % 12))) 6 N (nI (p / 12))) = f_Model_build_314 m j' (nI d) (nI (k + 1)) (sI (sA (sA (sA (sA (sA (sA (sA τ3 4 N (nI a)) 5 N (nI (p % 12))) 6 N (nI (p / 12))) 7 N hv) 8 N 0) 9 N 0) 10 N 0) 1 (nI (N + 1))) := by
      intro hv2 hv2e
      subst hv2e
      unfold f_Model_build_456
      rw [gd_e (inb_n (show N < 8 by omega) (by omega)), bnd_e, tn_n (by omega), show (sA (sA (sA (sA τ3 4 N (nI a)) 5 N (nI (p % 12))) 6 N (nI (p / 12))) 7 N hv2).1 1 = nI N from m1, gd_e (inb_n (show N < 8 by omega) (by omega)), bnd_e, tn_n (by omega)]
      rw [show (sA (sA (sA (sA (sA τ3 4 N (nI a)) 5 N (nI (p % 12))) 6 N (nI (p / 12))) 7 N hv2) 8 N 0).1 1 = nI N from m1, gd_e (inb_n (show N < 8 by omega) (by omega)), bnd_e, tn_n (by omega)]
      rw [show (sA (sA (sA (sA (sA (sA τ3 4 N (nI a)) 5 N (nI (p % 12))) 6 N (nI (p / 12))) 7 N hv2) 8 N 0) 9 N 0).1 1 = nI N from m1, gd_e (inb_n (show N < 8 by omega) (by omega)), bnd_e, tn_n (by omega), bnd_e]
      rw [show (sA (sA (sA (sA (sA (sA (sA τ3 4 N (nI a)) 5 N (nI (p % 12))) 6 N (nI (p / 12))) 7 N hv2) 8 N 0) 9 N 0) 10 N 0).1 1 = nI N from m1, nI_1, bnd_e, nI_1]
    rw [m1, gd_e (inb_n (show N < 8 by omega) (by omega)), bnd_e, tn_n (by omega), show (sA τ3 4 N (nI a)).1 1 = nI N from m1, gd_e (inb_n (show N < 8 by omega) (by omega)), bnd_e, tn_n (by omega), show (sA (sA τ3 4 N (nI a)) 5 N (nI (p % 12))).1 1 = nI N from m1, gd_e (inb_n (show N < 8 by omega) (by omega)), bnd_e, tn_n (by omega), show (sA (sA (sA τ3 4 N (nI a)) 5 N (nI (p % 12))) 6 N (nI (p / 12))).1 1 = nI N from m1]
    refine ⟨sI (sA (sA (sA (sA (sA σ3 4 N (nI a)) 5 N (nI p)) 6 N hv) 7 N 0) 8 N 0) 7 (nI (N + 1)), sI (sA (sA (sA (sA (sA (sA (sA τ3 4 N (nI a)) 5 N (nI (p % 12))) 6 N (nI (p / 12))) 7 N hv) 8 N 0) 9 N 0) 10 N 0) 1 (nI (N + 1)), N + 1, ud q N p, rfl, ?_, ⟨⟨hs3, hg3, hro3, hrf3⟩, ⟨by omega, rfl, rfl, fun i hi => ?_⟩, hP, fun i hi => ?_⟩, by omega, fk _ ⟨fun z z1 => upd3 z1, rfl, fun z z1 => ?_⟩, fm _ ⟨fun z z1 => upd3 z1, rfl, fun z z1 => ?_⟩⟩
    · by_cases z0 : nI a = 0
      · rw [if_pos z0] at hhv ⊢; exact eM 3 hhv.symm
      · rw [if_neg z0] at hhv ⊢
        by_cases z1 : nI a = 1
        · rw [if_pos z1] at hhv ⊢; exact eM 6 hhv.symm
        · rw [if_neg z1] at hhv ⊢; exact eM 2 hhv.symm
    · unfold MO
      by_cases e : i = N
      · subst e
        rw [ud_s]
        refine ⟨hp120, hgp3, pk_us, pk_us, pk_us, pk_us.trans pk_us.symm, ?_, pk_us.trans pk_us.symm, pk_us.trans pk_us.symm, pk_us.trans pk_us.symm, Or.inl pk_us, ?_, fun _ => hpP⟩
        · show upd (σ3.2.2 4) i (nI a) i = 0 ∨ upd (σ3.2.2 4) i (nI a) i = 1 ∨ upd (σ3.2.2 4) i (nI a) i = 2
          rw [pk_us]; exact v3
        · show upd (τ3.2.2 10) i 0 i = (if upd (σ3.2.2 6) i hv i ≤ 0 then 1 else 0)
          rw [pk_us, pk_us, if_neg v4]
      · rw [ud_n _ _ e]
        obtain ⟨x1, x2, x3, x4, x5, x6, x7, x8, x9, x10, x11, x12, x13⟩ := hmm3.2.2.2 i (by omega)
        refine ⟨x1, x2, (pk_un e).trans x3, (pk_un e).trans x4, (pk_un e).trans x5, (pk_un e).trans (x6.trans (pk_un e).symm), ?_, (pk_un e).trans (x8.trans (pk_un e).symm), (pk_un e).trans (x9.trans (pk_un e).symm), (pk_un e).trans (x10.trans (pk_un e).symm), ?_, ?_, ?_⟩
        · show upd (σ3.2.2 4) N (nI a) i = 0 ∨ upd (σ3.2.2 4) N (nI a) i = 1 ∨ upd (σ3.2.2 4) N (nI a) i = 2
          rw [pk_un e]; exact x7
        · show upd (σ3.2.2 8) N 0 i = 0 ∨ upd (σ3.2.2 8) N 0 i = 1
          rw [pk_un e]; exact x11
        · show upd (τ3.2.2 10) N 0 i = (if upd (σ3.2.2 6) N hv i ≤ 0 then 1 else 0)
          rw [pk_un e, pk_un e]; exact x12
        · show ¬ upd (σ3.2.2 6) N hv i ≤ 0 → _
          rw [pk_un e]; exact x13
    · show upd (σ3.2.2 7) N 0 i = 0
      by_cases e : i = N
      · rw [e]; exact pk_us
      · rw [pk_un e]; exact hen3 i (by omega)
    · show (if z = 8 then _ else if z = 7 then _ else if z = 6 then _ else if z = 5 then _ else if z = 4 then _ else σ3.2.2 z) = σ3.2.2 z
      rw [if_neg (by omega), if_neg (by omega), if_neg (by omega), if_neg (by omega), if_neg (by omega)]
    · show (if z = 10 then _ else if z = 9 then _ else if z = 8 then _ else if z = 7 then _ else if z = 6 then _ else if z = 5 then _ else if z = 4 then _ else τ3.2.2 z) = τ3.2.2 z
      rw [if_neg (by omega), if_neg (by omega), if_neg (by omega), if_neg (by omega), if_neg (by omega), if_neg (by omega), if_neg (by omega)]
  · rw [if_neg (fun z => hw (ho.1.mp z)), if_neg (fun z => hw (ho1.2.1.mp z)), bd_e, bnd_e, bnd_e, nI_1]
    exact ⟨σ3, τ3, N, q, rfl, rfl, ⟨⟨hs3, hg3, hro3, hrf3⟩, hmm3, hP, hen3⟩, by omega, fk _ ⟨fun _ _ => rfl, rfl, fun _ _ => rfl⟩, fm _ ⟨fun _ _ => rfl, rfl, fun _ _ => rfl⟩⟩
