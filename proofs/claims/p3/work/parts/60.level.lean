/-! PURE: a level is made and entered, on both sides (own work) -/
theorem level_rel {m : Nat} (hm : 130 ≤ m) {σ τ : St} {d : Nat} (hd : d ≤ 3) (hs : σ.1 1 = τ.1 0) :
    ∃ (σ1 σ' τ' : St) (P N : Nat) (q : Nat → Nat), f_Maker_make m (σ.1 1) (nI d) σ = some ((), σ1) ∧ f_Game_arrive m (σ1.1 6) σ1 = some ((), σ') ∧ f_Model_build m (nI d) τ = some ((), τ') ∧
      R_g σ' τ' ∧ R_p σ' τ' P ∧ R_m σ' τ' P N q ∧ R_t σ' τ' ∧ R_k σ' τ' P ∧ KN σ' τ' ∧ R_d σ' P ∧ (∀ i, i < N → σ'.2.2 7 i = 0) ∧ (∀ k, k ≠ 6 → k ≠ 7 → k ≠ 8 → k ≠ 9 → σ'.1 k = σ.1 k) ∧ σ'.2.1 0 = σ.2.1 0 ∧ σ'.2.2 15 = σ.2.2 15 ∧ τ'.1 6 = nI 10 ∧ τ'.1 8 = nI d ∧ (∀ k, k ≠ 1 → k ≠ 2 → k ≠ 3 → k ≠ 6 → k ≠ 8 → τ'.1 k = τ.1 k) ∧ τ'.2.1 1 = τ.2.1 1 ∧ τ'.2.2 15 = τ.2.2 15 := by
  obtain ⟨σ0, τ0, l, t, w, h, P, a1, a2, hB, ht, hkn, ⟨hP, hp6, hp2, hp3, hgP⟩, a8, a9, a10, b1, b2, b3, b4, b5⟩ := found_rel hm (d := d) hs
  obtain ⟨σ1, τ1, N, q, c1, c2, hB1, c4, c5⟩ := mons_loop (m := m) (by omega) (P := P) hd (2 + d) 0 (m - (2 + d)) (m - (2 + d)) σ0 τ0 0 (fun _ => 0) (by omega) (by omega) hB
  rw [show m - (2 + d) + (2 + d) = m by omega] at c1 c2
  obtain ⟨z, hz⟩ : ∃ z, m - (2 + d) = z + 1 := ⟨m - (2 + d) - 1, by omega⟩
  rw [hz] at c1 c2
  have h22 : (2 : Int32) + nI d ≤ nI (2 + d) := by
    rw [show (2 : Int32) = nI 2 from rfl, nI_add]
    exact (le_n (by omega) (by omega)).mpr (Nat.le_refl _)
  rw [f_Maker_make_101_s, if_pos h22] at c1
  rw [f_Model_build_314_s, if_pos h22] at c2
  have ht1 : R_t σ1 τ1 := by
    intro p hp
    rw [c4.2.2 2 (Or.inl (by decide)), c5.2.2 1 (Or.inl (by decide))]
    exact ht p hp
  obtain ⟨σ2, τ2, e1, e2, hB2, ht2, e5, e6⟩ := things_loop (m := m) (by omega) 3 0 (m - 3) (m - 3) σ1 τ1 (by omega) hB1.1 ht1
  rw [show m - 3 + 3 = m by omega] at e1 e2
  obtain ⟨z3, hz3⟩ : ∃ z, m - 3 = z + 1 := ⟨m - 3 - 1, by omega⟩
  rw [hz3] at e1 e2
  have h33 : (3 : Int32) ≤ nI 3 := (le_n (a := 3) (by omega) (by omega)).mpr (Nat.le_refl _)
  rw [f_Maker_make_149_s, if_pos h33] at e1
  rw [f_Model_build_506_s, if_pos h33] at e2
  have q2 : τ2.1 2 = nI (P % 12) := by rw [e6.1, c5.1 2 (by decide)]; exact hp2
  have q3 : τ2.1 3 = nI (P / 12) := by rw [e6.1, c5.1 3 (by decide)]; exact hp3
  rw [M_know (m := m) (by omega) hP q2 q3, bd_e] at e2
  have q6 : σ2.1 6 = nI P := by rw [e5.1, c4.1 6 (by decide)]; exact hp6
  have hgP2 : (σ2.2.2 1) P ≠ 0 := by rw [e5.2.2 1 (by decide), c4.2.2 1 (Or.inl (by decide))]; exact hgP
  have hmm2 : R_m σ2 τ2 P N q := by
    have hmm := hB1.2.1
    unfold R_m MO
    rw [e5.1, e6.1, e5.2.2 1 (by decide), e5.2.2 5 (by decide), e5.2.2 4 (by decide), e5.2.2 6 (by decide), e5.2.2 7 (by decide), e5.2.2 8 (by decide), e6.2.2 5 (by decide), e6.2.2 6 (by decide), e6.2.2 4 (by decide), e6.2.2 7 (by decide), e6.2.2 8 (by decide), e6.2.2 9 (by decide), e6.2.2 10 (by decide)]
    exact hmm
  have hkn2 : ∀ p, p < 120 → σ2.2.2 3 p = 0 ∧ τ2.2.2 3 p = 0 := by
    intro p hp
    rw [e5.2.2 3 (by decide), c4.2.2 3 (Or.inl (by decide)), e6.2.2 3 (by decide), c5.2.2 3 (Or.inl (by decide))]
    exact hkn p hp
  have hen2 : ∀ i, i < N → σ2.2.2 7 i = 0 := by
    intro i hi
    rw [e5.2.2 7 (by decide)]
    exact hB1.2.2.2 i hi
  have x1 : ∀ k, k ≠ 6 → k ≠ 7 → σ2.1 k = σ.1 k := fun k h6 h7 => by rw [e5.1, c4.1 k h7]; exact a8 k h6 h7
  have x2 : σ2.2.1 0 = σ.2.1 0 := by rw [e5.2.1, c4.2.1]; exact a9
  have x3 : σ2.2.2 15 = σ.2.2 15 := by rw [e5.2.2 15 (by decide), c4.2.2 15 (Or.inr (by decide))]; exact a10
  have y1 : τ2.1 6 = nI 10 := by rw [e6.1, c5.1 6 (by decide)]; exact b1
  have y2 : τ2.1 8 = nI d := by rw [e6.1, c5.1 8 (by decide)]; exact b2
  have y3 : ∀ k, k ≠ 1 → k ≠ 2 → k ≠ 3 → k ≠ 6 → k ≠ 8 → τ2.1 k = τ.1 k := fun k z1 z2 z3 z4 z5 => by rw [e6.1, c5.1 k z1]; exact b3 k z1 z2 z3 z4 z5
  have y4 : τ2.2.1 1 = τ.2.1 1 := by rw [e6.2.1, c5.2.1]; exact b4
  have y5 : τ2.2.2 15 = τ.2.2 15 := by rw [e6.2.2 15 (by decide), c5.2.2 15 (Or.inr (by decide))]; exact b5
  have E1 : f_Maker_make m (σ.1 1) (nI d) σ = some ((), σ2) := a1.trans (c1.trans e1)
  have E2 := a2.trans (c2.trans e2)
  have hg2 := hB2.2.1
  clear a1 a2 c1 c2 e1 e2 e5 e6 c4 c5 hB hB1 hB2 hkn ht ht1 a8 a9 a10 b1 b2 b3 b4 b5
  have hkn3 : ∀ p, p < 120 → kn_to (σ2.2.2 1) (σ2.2.2 3) P 120 p = (if sight (σ2.2.2 1) P p = true then 1 else 0) ∧ km_to (τ2.2.2 0) (τ2.2.2 3) P 120 p = (if sight (σ2.2.2 1) P p = true then 1 else 0) := by
    intro p hp
    unfold kn_to km_to
    rw [(hkn2 p hp).1, (hkn2 p hp).2, ← sight_congr hg2.1]
    by_cases hq : sight (σ2.2.2 1) P p = true
    · rw [if_pos hq, if_pos ⟨hp, rfl, hq⟩, if_pos ⟨hp, hq⟩]
      exact ⟨rfl, rfl⟩
    · rw [if_neg hq, if_neg (fun y => hq y.2.2), if_neg (fun y => hq y.2)]
      exact ⟨rfl, rfl⟩
  obtain ⟨dd, Q, gr, d1, d2, d3, d4, d5, d6⟩ := K_measure (m := m) hm (σ := sB (sI σ2 9 (nI P)) 3 (kn_to ((sI σ2 9 (nI P)).2.2 1) ((sI σ2 9 (nI P)).2.2 3) P 120)) (P := P) hg2.2 hP hgP2
  have E3 : f_Game_arrive m (σ2.1 6) σ2 = some ((), kst (sB (sI σ2 9 (nI P)) 3 (kn_to ((sI σ2 9 (nI P)).2.2 1) ((sI σ2 9 (nI P)).2.2 3) P 120)) dd Q (zI gr)) := by
    rw [q6]
    unfold f_Game_arrive
    rw [bnd_e, K_learn (by omega) hP, bd_e, d6, bd_e]
  refine ⟨σ2, _, _, P, N, q, E1, E3, E2, hg2, ⟨hP, rfl, q2, q3, hgP2⟩, hmm2, ht2, fun p hp => ⟨?_, ?_⟩, fun p hp => ?_, ⟨dd, gr, d1, d2, fun p _ => rfl, rfl, d3, d4, d5⟩, hen2, fun k k6 k7 k8 k9 => ?_, x2, x3, y1, y2, y3, y4, y5⟩
  · show kn_to (σ2.2.2 1) (σ2.2.2 3) P 120 p = (if sight (σ2.2.2 1) P p = true then 1 else km_to (τ2.2.2 0) (τ2.2.2 3) P 120 p)
    rw [(hkn3 p hp).1, (hkn3 p hp).2]
    by_cases hq : sight (σ2.2.2 1) P p = true
    · rw [if_pos hq, if_pos hq]
    · rw [if_neg hq, if_neg hq]
  · show km_to (τ2.2.2 0) (τ2.2.2 3) P 120 p = 0 ∨ km_to (τ2.2.2 0) (τ2.2.2 3) P 120 p = 1
    rw [(hkn3 p hp).2]
    by_cases hq : sight (σ2.2.2 1) P p = true
    · rw [if_pos hq]; exact Or.inr rfl
    · rw [if_neg hq]; exact Or.inl rfl
  · show kn_to (σ2.2.2 1) (σ2.2.2 3) P 120 p = km_to (τ2.2.2 0) (τ2.2.2 3) P 120 p
    rw [(hkn3 p hp).1, (hkn3 p hp).2]
  · show upd (upd σ2.1 9 (nI P)) 8 (zI gr) k = σ.1 k
    rw [pk_un k8, pk_un k9]; exact x1 k k6 k7
/-- between two keys; c: how many monsters went -/
def G (σ τ : St) (c : Nat) : Prop := ∃ (P N : Nat) (q : Nat → Nat) (h : Int) (w : Bool) (e hs L : Nat), RG σ τ P N q h w e hs L ∧ KN σ τ ∧ (1 ≤ h → w = false → (10 ≤ e ∧ e ≤ 29) ∧ EB σ N 0 h) ∧ τ.1 11 = nI c
theorem EB_0 {σ : St} {N : Nat} {h : Int} (hz : ∀ i, i < N → σ.2.2 7 i = 0) : EB σ N 0 h := fun k hk => ⟨0, (hz k hk).trans rfl, by omega, fun _ _ => by omega, fun _ => by omega⟩
/-- a game begins -/
theorem begin_rel {m : Nat} (hm : 130 ≤ m) {σ τ : St} (hs : σ.1 1 = τ.1 0) :
    ∃ σ' τ' : St, f_Game_begin m σ = some ((), σ') ∧ f_Model_begin m τ = some ((), τ') ∧ G σ' τ' 0 ∧ τ'.1 9 = 0 := by
  unfold f_Game_begin f_Hero_reset f_Model_begin
  rw [bnd_e, bnd_e, bnd_e, bnd_e, bnd_e, bnd_e, bnd_e, bd_e, bnd_e, bnd_e, bnd_e, bnd_e, bnd_e, bnd_e, bnd_e, bnd_e, bnd_e, bnd_e, bnd_e, bnd_e, bnd_e]
  generalize hσ0 : sI (sI (sI (sI (sI (sI (sI (sI (sI (sI (sL σ 0 (Int32.toInt64 (σ.1 1))) 9 0) 10 10) 11 1) 12 10) 13 0) 14 0) 2 1) 3 0) 4 0) 5 0 = σ0
  generalize hτ0 : sI (sI (sI (sI (sI (sI (sI (sI (sL τ 1 (Int32.toInt64 (τ.1 0))) 4 10) 5 1) 7 0) 12 0) 9 0) 10 0) 11 0) 13 0 = τ0
  have u1 : σ0.1 1 = σ.1 1 := by subst hσ0; rfl
  have u2 : σ0.1 2 = nI 1 := by subst hσ0; rfl
  have u3 : σ0.1 3 = 0 := by subst hσ0; rfl
  have u4 : σ0.1 4 = 0 := by subst hσ0; rfl
  have u5 : σ0.1 5 = 0 := by subst hσ0; rfl
  have u10 : σ0.1 10 = zI 10 := by subst hσ0; rfl
  have u11 : σ0.1 11 = 1 := by subst hσ0; rfl
  have u12 : σ0.1 12 = nI 10 := by subst hσ0; rfl
  have u13 : σ0.1 13 = nI 0 := by subst hσ0; rfl
  have u14 : σ0.1 14 = nI 0 := by subst hσ0; rfl
  have u0 : σ0.2.1 0 = Int32.toInt64 (σ.1 1) := by subst hσ0; rfl
  have v0 : τ0.1 0 = τ.1 0 := by subst hτ0; rfl
  have v4 : τ0.1 4 = zI 10 := by subst hτ0; rfl
  have v5 : τ0.1 5 = 1 := by subst hτ0; rfl
  have v7 : τ0.1 7 = nI 0 := by subst hτ0; rfl
  have v9 : τ0.1 9 = 0 := by subst hτ0; rfl
  have v10 : τ0.1 10 = 0 := by subst hτ0; rfl
  have v11 : τ0.1 11 = 0 := by subst hτ0; rfl
  have v12 : τ0.1 12 = nI 0 := by subst hτ0; rfl
  have vp : τ0.2.1 1 = Int32.toInt64 (τ.1 0) := by subst hτ0; rfl
  clear hσ0 hτ0
  obtain ⟨σ1, σ', τ', P, N, q, E1, E2, E3, rg, rp, rm, rt, rk, kn, rd, en, x1, x2, x3, y1, y2, y3, y4, y5⟩ := level_rel hm (σ := σ0) (τ := τ0) (d := 1) (by omega) (by rw [u1, v0]; exact hs)
  rw [u2, E1, bd_e, E2, bd_e, show f_Model_build m 1 τ0 = _ from E3, bd_e]
  have X : ∀ k, k ≠ 6 → k ≠ 7 → k ≠ 8 → k ≠ 9 → σ'.1 k = σ0.1 k := x1
  refine ⟨σ', τ', rfl, rfl, ⟨P, N, q, 10, false, 10, 0, 1, ⟨rg, rp, rm, rt, rk, rd, ⟨0, by omega, ?_, ?_, fun k hk => absurd hk (by omega)⟩, ⟨by omega, by omega, ?_, ?_, ?_, ?_⟩, ⟨?_, ?_, ?_, ?_, ?_, ⟨by omega, ?_, y1⟩, ⟨by omega, ?_, ?_⟩, ⟨by omega, by omega, ?_, y2⟩⟩⟩, kn, fun _ _ => ⟨by omega, EB_0 en⟩, ?_⟩, ?_⟩
  · rw [x1 14 (by decide) (by decide) (by decide) (by decide)]; exact u14
  · rw [y3 12 (by decide) (by decide) (by decide) (by decide) (by decide)]; exact v12
  · rw [x1 10 (by decide) (by decide) (by decide) (by decide)]; exact u10
  · rw [y3 4 (by decide) (by decide) (by decide) (by decide) (by decide)]; exact v4
  · rw [x1 5 (by decide) (by decide) (by decide) (by decide)]; exact u5
  · rw [y3 9 (by decide) (by decide) (by decide) (by decide) (by decide)]; exact v9
  · rw [x1 1 (by decide) (by decide) (by decide) (by decide), y3 0 (by decide) (by decide) (by decide) (by decide) (by decide), u1, v0]; exact hs
  · rw [x2, y4, u0, vp, hs]
  · rw [x1 11 (by decide) (by decide) (by decide) (by decide), y3 5 (by decide) (by decide) (by decide) (by decide) (by decide), u11, v5]
  · rw [x1 3 (by decide) (by decide) (by decide) (by decide), y3 10 (by decide) (by decide) (by decide) (by decide) (by decide), u3, v10]
  · rw [x1 4 (by decide) (by decide) (by decide) (by decide), y3 11 (by decide) (by decide) (by decide) (by decide) (by decide), u4, v11]
  · rw [x1 12 (by decide) (by decide) (by decide) (by decide)]; exact u12
  · rw [x1 13 (by decide) (by decide) (by decide) (by decide)]; exact u13
  · rw [y3 7 (by decide) (by decide) (by decide) (by decide) (by decide)]; exact v7
  · rw [x1 2 (by decide) (by decide) (by decide) (by decide)]; exact u2
  · rw [y3 11 (by decide) (by decide) (by decide) (by decide) (by decide)]; exact v11
  · rw [y3 9 (by decide) (by decide) (by decide) (by decide) (by decide)]; exact v9
