/-! PURE: the player goes, or strikes (own work) -/
/-- both know the same -/
def KN (σ τ : St) : Prop := ∀ p, p < 120 → σ.2.2 3 p = τ.2.2 3 p
/-- the player comes to r -/
theorem arrive_rel {m : Nat} (hm : 130 ≤ m) {σ τ : St} {P N : Nat} {q : Nat → Nat} {h : Int} {w : Bool} {e hs L r : Nat} (hR : RG σ τ P N q h w e hs L) (hK : KN σ τ) (hr : r < 120) (hgr : (σ.2.2 1) r ≠ 0) (hno : ∀ i, i < N → ¬ σ.2.2 6 i ≤ 0 → q i ≠ r) {τ' : St} (t1 : ∀ k, k ≠ 2 → k ≠ 3 → τ'.1 k = τ.1 k) (t2 : τ'.2 = τ.2) (t3 : τ'.1 2 = nI (r % 12)) (t4 : τ'.1 3 = nI (r / 12)) :
    ∃ σ' : St, f_Game_arrive m (nI r) σ = some ((), σ') ∧ RG σ' τ' r N q h w e hs L ∧ (∀ k, k ≠ 8 → k ≠ 9 → σ'.1 k = σ.1 k) ∧ (∀ k, k ≠ 3 → k ≠ 13 → k ≠ 14 → σ'.2.2 k = σ.2.2 k) := by
  obtain ⟨hg, hp, hmm, ht, hk, hd, hb, hh, hz⟩ := hR
  unfold f_Game_arrive
  rw [bnd_e, K_learn (by omega) hr, bd_e]
  obtain ⟨d, Q, gr, d1, d2, d3, d4, d5, d6⟩ := K_measure (m := m) hm (σ := sB (sI σ 9 (nI r)) 3 (kn_to ((sI σ 9 (nI r)).2.2 1) ((sI σ 9 (nI r)).2.2 3) r 120)) (P := r) hg.2 hr hgr
  rw [d6, bd_e]
  refine ⟨_, rfl, ⟨?_, ?_, ?_, ?_, ?_, ?_, ?_, ?_, ?_⟩, fun k k1 k2 => ?_, fun k k1 k2 k3 => ?_⟩
  · unfold R_g; rw [t2]; exact hg
  · exact ⟨hr, rfl, t3, t4, hgr⟩
  · unfold R_m MO
    rw [t2, t1 1 (by decide) (by decide)]
    refine ⟨hmm.1, hmm.2.1, hmm.2.2.1, fun i hi => ?_⟩
    obtain ⟨a1, a2, a3, a4, a5, a6, a7, a8, a9, a10, a11, a12, a13⟩ := hmm.2.2.2 i hi
    exact ⟨a1, a2, a3, a4, a5, a6, a7, a8, a9, a10, a11, a12, hno i hi⟩
  · unfold R_t; rw [t2]; exact ht
  · intro p hpp
    rw [t2]
    refine ⟨?_, (hk p hpp).2⟩
    show kn_to (σ.2.2 1) (σ.2.2 3) r 120 p = (if sight (σ.2.2 1) r p = true then 1 else τ.2.2 3 p)
    unfold kn_to
    rw [hK p hpp]
    by_cases hs : sight (σ.2.2 1) r p = true
    · rw [if_pos hs]
      rcases (hk p hpp).2 with z | z
      · rw [if_pos ⟨hpp, z, hs⟩]
      · rw [z, if_neg (fun y => absurd y.2.1 (by decide))]
    · rw [if_neg hs, if_neg (fun y => hs y.2.2)]
  · exact ⟨d, gr, d1, d2, fun p _ => rfl, rfl, d3, d4, d5⟩
  · unfold R_b
    rw [t2, t1 12 (by decide) (by decide)]
    exact hb
  · unfold R_h
    rw [t1 4 (by decide) (by decide), t1 9 (by decide) (by decide)]
    exact hh
  · unfold R_s
    rw [t2, t1 0 (by decide) (by decide), t1 5 (by decide) (by decide), t1 10 (by decide) (by decide), t1 11 (by decide) (by decide), t1 6 (by decide) (by decide), t1 7 (by decide) (by decide), t1 8 (by decide) (by decide)]
    exact hz
  · show upd (upd σ.1 9 (nI r)) 8 (zI gr) k = σ.1 k
    rw [pk_un k1, pk_un k2]
  · show (if k = 14 then Q else if k = 13 then (fun p => zI (d p)) else (if k = 3 then _ else σ.2.2 k)) = σ.2.2 k
    rw [if_neg k3, if_neg k2, if_neg k1]
theorem who_q {σ τ : St} {P N : Nat} {q : Nat → Nat} (hm : R_m σ τ P N q) {r : Nat} (hr : r < 120) (hw : who σ N r = none) : ∀ i, i < N → ¬ σ.2.2 6 i ≤ 0 → q i ≠ r := by
  intro i hi hal e
  have := ff_no hw i (by omega) (by omega)
  have a3 := (hm.2.2.2 i hi).2.2.1
  rw [a3, e] at this
  simp [hal] at this
/-- a blow at monster k -/
theorem blow_rel {σ τ : St} {P N : Nat} {q : Nat → Nat} {h : Int} {w : Bool} {e hs L k : Nat} (hR : RG σ τ P N q h w e hs L) (hk : k < N) (hal : ¬ σ.2.2 6 k ≤ 0) (v : Int32) (τ' : St) (t1 : τ'.1 = τ.1) (t2 : τ'.2.1 = τ.2.1) (t3 : ∀ a, a ≠ 7 → a ≠ 9 → a ≠ 10 → τ'.2.2 a = τ.2.2 a) (t4 : τ'.2.2 9 = upd (τ.2.2 9) k 1) (t5 : τ'.2.2 7 = upd (τ.2.2 7) k v) (t6 : τ'.2.2 10 = (if v ≤ 0 then upd (τ.2.2 10) k 1 else τ.2.2 10)) : RG (sA (sA σ 8 k 1) 6 k v) τ' P N q h w e hs L := by
  obtain ⟨hg, hp, hmm, ht, hkk, hd, hb, hh, hz⟩ := hR
  refine ⟨?_, ?_, ?_, ?_, ?_, hd, ?_, ?_, ?_⟩
  · unfold R_g; rw [t3 0 (by decide) (by decide) (by decide)]; exact hg
  · unfold R_p; rw [t1]; exact hp
  · unfold R_m
    rw [t1]
    refine ⟨hmm.1, hmm.2.1, hmm.2.2.1, fun i hi => ?_⟩
    obtain ⟨a1, a2, a3, a4, a5, a6, a7, a8, a9, a10, a11, a12, a13⟩ := hmm.2.2.2 i hi
    unfold MO
    rw [t3 5 (by decide) (by decide) (by decide), t3 6 (by decide) (by decide) (by decide), t3 4 (by decide) (by decide) (by decide), t3 8 (by decide) (by decide) (by decide), t4, t5, t6]
    refine ⟨a1, a2, a3, a4, a5, a6, a7, ?_, a9, ?_, ?_, ?_, ?_⟩
    · show upd (σ.2.2 6) k v i = upd (τ.2.2 7) k v i
      unfold upd
      rw [a8]
    · show upd (σ.2.2 8) k 1 i = upd (τ.2.2 9) k 1 i
      unfold upd
      rw [a10]
    · show upd (σ.2.2 8) k 1 i = 0 ∨ upd (σ.2.2 8) k 1 i = 1
      by_cases e : i = k
      · right; rw [e]; exact pk_us
      · rw [pk_un e]; exact a11
    · show _ = (if upd (σ.2.2 6) k v i ≤ 0 then (1 : Int32) else 0)
      by_cases e : i = k
      · subst e
        rw [pk_us]
        by_cases hv : v ≤ 0
        · rw [if_pos hv, if_pos hv]; exact pk_us
        · rw [if_neg hv, if_neg hv, a12, if_neg hal]
      · rw [pk_un e]
        by_cases hv : v ≤ 0
        · rw [if_pos hv, pk_un e]; exact a12
        · rw [if_neg hv]; exact a12
    · show ¬ upd (σ.2.2 6) k v i ≤ 0 → _
      by_cases e : i = k
      · subst e; exact fun _ => a13 hal
      · rw [pk_un e]; exact a13
  · unfold R_t; rw [t3 1 (by decide) (by decide) (by decide)]; exact ht
  · unfold R_k; rw [t3 3 (by decide) (by decide) (by decide)]; exact hkk
  · unfold R_b; rw [t1, t3 15 (by decide) (by decide) (by decide)]; exact hb
  · unfold R_h; rw [t1]; exact hh
  · unfold R_s; rw [t1, t2]; exact hz
theorem RG_slain {σ τ : St} {P N : Nat} {q : Nat → Nat} {h : Int} {w : Bool} {e hs L : Nat} (hR : RG σ τ P N q h w e hs L) : RG (sI σ 4 (σ.1 4 + 1)) (sI τ 11 (τ.1 11 + 1)) P N q h w e hs L := by
  obtain ⟨hg, hp, hmm, ht, hkk, hd, hb, hh, hz⟩ := hR
  refine ⟨hg, hp, hmm, ht, hkk, hd, hb, hh, hz.1, hz.2.1, hz.2.2.1, hz.2.2.2.1, ?_, hz.2.2.2.2.2⟩
  show σ.1 4 + 1 = τ.1 11 + 1
  rw [hz.2.2.2.2.1]
theorem walk_rel {m : Nat} (hm : 130 ≤ m) {σ τ : St} {P N : Nat} {q : Nat → Nat} {h : Int} {w : Bool} {e hs L i : Nat} (hR : RG σ τ P N q h w e hs L) (hK : KN σ τ) (hi : i < 4) :
    ∃ (a b : Int32) (σ' τ' : St), f_Game_walk m (nI i) σ = some (a, σ') ∧ f_Model_goes m (nI i) τ = some (b, τ') ∧
      ((a = 0 ∧ b = 0 ∧ σ' = σ ∧ τ' = τ) ∨ (b = 1 ∧ (∃ P' : Nat, RG σ' τ' P' N q h w e hs L) ∧ σ'.2.2 7 = σ.2.2 7 ∧ ((a = 1 ∧ τ'.1 11 = τ.1 11) ∨ (a = 2 ∧ τ'.1 11 = τ.1 11 + 1)))) := by
  have hR0 := hR
  obtain ⟨hg, hp, hmm, ht, hkk, hd, hb, hh, hz⟩ := hR
  have hN := hmm.1
  have hin : intr P = true := hg.2 _ hp.1 hp.2.2.2.2
  obtain ⟨n1, n2, n3, n4, n5⟩ := nbr_all _ hp.1 i hi hin
  have gc : ∀ p, p < 120 → τ.2.2 0 p = σ.2.2 1 p := fun p hp => (hg.1 p hp).symm
  unfold f_Game_walk f_Model_goes
  rw [hp.2.1, K_nbr m hin hi, bd_e, K_isFloor m (by omega), bd_e, M_dx m hi, bd_e, bnd_e, M_dy m hi, bd_e, bnd_e, hp.2.2.1, hp.2.2.2.1, n3, n4, M_isFloor m (by omega) (by omega), bd_e, show 12 * (nbr P i / 12) + nbr P i % 12 = nbr P i by omega, flr_congr gc]
  by_cases hf : flr (σ.2.2 1) (nbr P i) = true
  · rw [if_neg (by rw [hf]; decide), if_neg (by rw [hf]; decide), K_who (by omega) hmm, bd_e, M_who (by omega) hmm n2, bd_e]
    have ho := oI_none (d := -2) (o := who σ N (nbr P i)) (N := N) (by decide) (fun k hk => (who_some hk).1) (by omega)
    have ho1 := oI_none (d := -1) (o := who σ N (nbr P i)) (N := N) (by decide) (fun k hk => (who_some hk).1) (by omega)
    by_cases hw : who σ N (nbr P i) = none
    · rw [if_pos (ho.1.mpr hw), if_neg (fun z => (ho1.2.2.mp z) hw), bnd_e, bnd_e]
      obtain ⟨σ', c1, c2, c3, c4⟩ := arrive_rel hm hR0 hK n2 (flr_y hf).2 (who_q hmm n2 hw) (τ' := sI (sI τ 2 (nI (nbr P i % 12))) 3 (nI (nbr P i / 12))) (fun k a b => (upd3 b).trans (upd3 a)) rfl rfl rfl
      rw [c1, bd_e]
      exact ⟨1, 1, _, _, rfl, rfl, Or.inr ⟨rfl, ⟨_, c2⟩, c4 7 (by decide) (by decide) (by decide), Or.inl ⟨rfl, rfl⟩⟩⟩
    · rw [if_neg (fun z => hw (ho.1.mp z)), if_pos (ho1.2.2.mpr hw)]
      obtain ⟨k, hke⟩ : ∃ k, who σ N (nbr P i) = some k := by
        cases hwe : who σ N (nbr P i) with
        | none => exact absurd hwe hw
        | some k => exact ⟨k, rfl⟩
      obtain ⟨k1, k2, k3⟩ := who_some hke
      rw [hke, show oI (-2) (some k) = nI k from rfl, show oI (-1) (some k) = nI k from rfl]
      have hst : f_Monsters_strike m (nI k) (σ.1 11) σ = some (bI (decide (σ.2.2 6 k - σ.1 11 ≤ 0)), sA (sA σ 8 k 1) 6 k (σ.2.2 6 k - σ.1 11)) := by
        unfold f_Monsters_strike
        rw [K_isThere m (by omega) hN hmm.2.1, bd_e, if_neg (by simp [k1, k2, bI]), gd_e (inb_n (show k < 5 by omega) (by omega)), bnd_e, gd_e (inb_n (show k < 5 by omega) (by omega)), gd_e (inb_n (show k < 5 by omega) (by omega)), bnd_e, gd_e (inb_n (show k < 5 by omega) (by omega)), tn_n (by omega)]
        rw [show (sA σ 8 k 1).2.2 6 k = σ.2.2 6 k from rfl, show (sA (sA σ 8 k 1) 6 k (σ.2.2 6 k - σ.1 11)).2.2 6 k = σ.2.2 6 k - σ.1 11 from pk_us]
        by_cases hv : 0 < σ.2.2 6 k - σ.1 11
        · rw [if_pos hv, show decide (σ.2.2 6 k - σ.1 11 ≤ 0) = false from by simp [Int32.not_le, hv]]; rfl
        · rw [if_neg hv, show decide (σ.2.2 6 k - σ.1 11 ≤ 0) = true from by simp [← Int32.not_lt, hv]]; rfl
      rw [hst, bd_e]
      simp only [bnd_e, gd_e (inb_n (show k < 8 by omega) (show 8 ≤ 2147483648 by omega)), tn_n (show k < 2147483648 by omega)]
      have a8 := (hmm.2.2.2 k k1).2.2.2.2.2.2.2.1
      rw [show (sA τ 9 k 1).2.2 7 k = σ.2.2 6 k from a8.symm, show (sA τ 9 k 1).1 5 = σ.1 11 from hz.2.2.1.symm]
      rw [show (sA (sA τ 9 k 1) 7 k (σ.2.2 6 k - σ.1 11)).2.2 7 k = σ.2.2 6 k - σ.1 11 from pk_us]
      by_cases hv : 0 < σ.2.2 6 k - σ.1 11
      · have hv2 : ¬ σ.2.2 6 k - σ.1 11 ≤ 0 := by rw [Int32.not_le]; exact hv
        rw [if_pos hv, if_pos (by simp [hv2, bI])]
        refine ⟨1, 1, _, _, rfl, rfl, Or.inr ⟨rfl, ⟨P, blow_rel hR0 k1 k2 _ _ rfl rfl (fun a x1 x2 x3 => ?_) ?_ ?_ ?_⟩, rfl, Or.inl ⟨rfl, rfl⟩⟩⟩
        · show (if a = 7 then _ else if a = 9 then _ else τ.2.2 a) = τ.2.2 a
          rw [if_neg x1, if_neg x2]
        · rfl
        · rfl
        · rw [if_neg hv2]; rfl
      · have hv2 : σ.2.2 6 k - σ.1 11 ≤ 0 := by rw [← Int32.not_lt]; exact hv
        rw [if_neg hv, if_neg (by simp [hv2, bI])]
        refine ⟨2, 1, _, _, rfl, rfl, Or.inr ⟨rfl, ⟨P, RG_slain (σ := sA (sA σ 8 k 1) 6 k (σ.2.2 6 k - σ.1 11)) (τ := sA (sA (sA τ 9 k 1) 7 k (σ.2.2 6 k - σ.1 11)) 10 k 1) (blow_rel hR0 k1 k2 _ _ rfl rfl (fun a x1 x2 x3 => ?_) ?_ ?_ ?_)⟩, rfl, Or.inr ⟨rfl, rfl⟩⟩⟩
        · show (if a = 10 then _ else if a = 7 then _ else if a = 9 then _ else τ.2.2 a) = τ.2.2 a
          rw [if_neg x3, if_neg x1, if_neg x2]
        · rfl
        · rfl
        · rw [if_pos hv2]; rfl
  · rw [Bool.not_eq_true] at hf
    rw [if_pos (by rw [hf]; decide), if_pos (by rw [hf]; decide)]
    exact ⟨0, 0, σ, τ, rfl, rfl, Or.inl ⟨rfl, rfl, rfl, rfl⟩⟩
