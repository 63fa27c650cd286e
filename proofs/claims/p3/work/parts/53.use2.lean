/-! PURE: a thing is used (own work) -/
theorem lit_n {a : Nat} (b : Nat) (ha : a < 2147483648) (hb : b < 2147483648) (h : a ≠ b) : ¬ nI a = nI b := fun e => h ((eq_n ha hb).mp e)
theorem use_rel {m : Nat} (hm : 130 ≤ m) {σ τ : St} {P N : Nat} {q : Nat → Nat} {h : Int} {w : Bool} {e hs L k : Nat} (hR : RG σ τ P N q h w e hs L) (hK : KN σ τ) (hk : k < 4) (h1 : 1 ≤ h) :
    ∃ (a : Int32) (σ' τ' : St), f_Game_useThing m (nI k) σ = some (a, σ') ∧ f_Model_uses m (nI k) τ = some (a, τ') ∧ ((a = 0 ∧ σ' = σ ∧ τ' = τ) ∨ (a = 1 ∧ (∃ (P' : Nat) (h' : Int) (hs' : Nat), RG σ' τ' P' N q h' w e hs' L ∧ 1 ≤ h') ∧ σ'.2.2 7 = σ.2.2 7 ∧ τ'.1 11 = τ.1 11)) := by
  have hR0 := hR
  obtain ⟨hg, hp, hmm, ht, hkk, hd, hb, hh, hz⟩ := hR
  obtain ⟨B, b1, b2, b3, b4⟩ := hb
  unfold f_Game_useThing f_Model_uses f_Hero_thingInBag
  rw [if_neg (lt0_n (by omega)), b2, b3]
  have hle : nI B ≤ nI k ↔ B ≤ k := le_n (by omega) (by omega)
  have hlt : nI k < nI B ↔ k < B := lt_n (by omega) (by omega)
  by_cases hkB : B ≤ k
  · rw [if_pos (hle.mpr hkB), bd_e, if_pos rfl, if_neg (fun z => by have := hlt.mp z; omega)]
    exact ⟨0, σ, τ, rfl, rfl, Or.inl ⟨rfl, rfl, rfl⟩⟩
  · have hkB2 : k < B := by omega
    obtain ⟨c1, v, hv, c2⟩ := b4 k hkB2
    rw [if_neg (fun z => hkB (hle.mp z)), if_neg (fun z : (4 : Int32) ≤ nI k => by have := (le_n (a := 4) (by omega) (by omega)).mp z; omega), gd_e (inb_n hk (by omega)), bd_e, tn_n (by omega), c1, c2, if_neg (neg2 (by omega))]
    rw [if_pos (hlt.mpr hkB2), gd_e (inb_n (show k < 5 by omega) (by omega)), bnd_e, bnd_e, show nI B - 1 = nI (B - 1) from pk_sub (b := 1) (by omega)]
    have hdrop : f_Hero_dropFromBag m (nI k) σ = some ((), sI (sB σ 15 (shB (σ.2.2 15) k (B - 1))) 14 (nI (B - 1))) := by
      unfold f_Hero_dropFromBag
      rw [if_neg (lt0_n (by omega)), b2, if_neg (fun z => hkB (hle.mp z)), if_pos (show nI B ≤ 4 from (le_n (b := 4) (by omega) (by omega)).mpr b1)]
      have := K_drop_loop (m := m) b1 hkB2 b2 (B - 1 - k) k m (by omega) (by omega) (Nat.le_refl _)
      rw [sh_0, sB_self] at this
      exact this
    rw [hdrop, bd_e]
    have hM := M_drop_loop (m := m) (τ := sI τ 12 (nI (B - 1))) b1 hkB2 rfl (nI v) (B - 1 - k) k m (by omega) (by omega) (Nat.le_refl _)
    rw [sh_0, sB_self] at hM
    rw [hM, show (sI τ 12 (nI (B - 1))).1 4 = τ.1 4 from rfl, show (sI τ 12 (nI (B - 1))).2.2 15 = τ.2.2 15 from rfl]
    generalize hσe : sI (sB σ 15 (shB (σ.2.2 15) k (B - 1))) 14 (nI (B - 1)) = σ1
    generalize hτe : sB (sI τ 12 (nI (B - 1))) 15 (shB (τ.2.2 15) k (B - 1)) = τ1
    have hR1 : RG σ1 τ1 P N q h w e hs L := by
      subst hσe; subst hτe
      refine ⟨hg, hp, hmm, ht, hkk, hd, ⟨B - 1, by omega, rfl, rfl, fun t htB => ?_⟩, hh, hz⟩
      show shB (σ.2.2 15) k (B - 1) t = shB (τ.2.2 15) k (B - 1) t ∧ ∃ v2 : Nat, v2 < 4 ∧ shB (τ.2.2 15) k (B - 1) t = nI v2
      unfold shB
      by_cases hc : k ≤ t ∧ t < B - 1
      · rw [if_pos hc, if_pos hc]; exact b4 (t + 1) (by omega)
      · rw [if_neg hc, if_neg hc]; exact b4 t (by omega)
    have hK1 : KN σ1 τ1 := by subst hσe; subst hτe; exact hK
    have s7 : σ1.2.2 7 = σ.2.2 7 := by subst hσe; rfl
    have t11 : τ1.1 11 = τ.1 11 := by subst hτe; rfl
    have t4 : τ1.1 4 = τ.1 4 := by subst hτe; rfl
    clear hσe hτe hdrop hM
    obtain ⟨hg1, hp1, hmm1, ht1, hkk1, hd1, hb1, hh1, hz1⟩ := id hR1
    obtain ⟨y1, y2, y3, y4, y5, y6⟩ := id hh1
    rw [if_neg (by omega)] at y4 y6
    rcases (show v = 0 ∨ v = 1 ∨ v = 2 ∨ v = 3 by omega) with rfl | rfl | rfl | rfl
    · rw [if_pos (show nI 0 = 0 from rfl), if_pos (show nI 0 = 0 from rfl), bnd_e, bnd_e, y3, ← t4, y4, show zI h + 5 = zI (h + 5) from by rw [show (5 : Int32) = zI 5 from rfl, zI_add]]
      have hmin : (if (10 : Int32) < zI (h + 5) then (10 : Int32) else zI (h + 5)) = zI (if 5 < h then 10 else h + 5) := by
        have z : (10 : Int32) < zI (h + 5) ↔ 10 < h + 5 := zI_lt (a := 10) (b := h + 5) ⟨by omega, by omega⟩ ⟨by omega, by omega⟩
        by_cases c : 5 < h
        · rw [if_pos (z.mpr (by omega)), if_pos c]; rfl
        · rw [if_neg (fun y => by have := z.mp y; omega), if_neg c]
      have hmx : (if zI h ≤ 5 then f_Model_uses_81 m (nI 0) (zI (h + 5)) τ1 else f_Model_uses_81 m (nI 0) 10 τ1) = some (1, sI τ1 4 (zI (if 5 < h then 10 else h + 5))) := by
        have z : zI h ≤ 5 ↔ h ≤ 5 := zI_le (a := h) (b := 5) ⟨by omega, by omega⟩ ⟨by omega, by omega⟩
        by_cases c : 5 < h
        · rw [if_neg (fun y => by have := z.mp y; omega), if_pos c]; rfl
        · rw [if_pos (z.mpr (by omega)), if_neg c]; rfl
      have hb2 : -1 ≤ (if 5 < h then (10 : Int) else h + 5) ∧ (if 5 < h then (10 : Int) else h + 5) ≤ 10 ∧ 1 ≤ (if 5 < h then (10 : Int) else h + 5) := by split <;> omega
      rw [hmin, hmx]
      clear hmin hmx
      generalize (if 5 < h then (10 : Int) else h + 5) = H at hb2 ⊢
      refine ⟨1, _, _, rfl, rfl, Or.inr ⟨rfl, ⟨P, H, hs, ⟨hg1, hp1, hmm1, ht1, hkk1, hd1, hb1, ⟨hb2.1, hb2.2.1, rfl, ?_, y5, ?_⟩, hz1⟩, hb2.2.2⟩, s7, t11⟩⟩
      · rw [if_neg (show ¬ H ≤ 0 by omega)]; rfl
      · rw [if_neg (show ¬ H ≤ 0 by omega)]; exact y6
    · rw [if_neg (show ¬ nI 1 = 0 by decide), if_pos (show nI 1 = 1 from rfl), if_neg (show ¬ nI 1 = 0 by decide), bnd_e]
      rw [show f_Model_uses_84 m (nI 1) τ1 = some (1, sI τ1 5 (τ1.1 5 + 1)) from rfl]
      refine ⟨1, _, _, rfl, rfl, Or.inr ⟨rfl, ⟨P, h, hs, ⟨hg1, hp1, hmm1, ht1, hkk1, hd1, hb1, hh1, hz1.1, hz1.2.1, ?_, hz1.2.2.2⟩, h1⟩, s7, t11⟩⟩
      show σ1.1 11 + 1 = τ1.1 5 + 1
      rw [hz1.2.2.1]
    · rw [if_neg (show ¬ nI 2 = 0 by decide), if_neg (show ¬ nI 2 = 1 by decide), if_pos (show nI 2 = 2 from rfl), if_neg (show ¬ nI 2 = 0 by decide)]
      rw [show f_Model_uses_84 m (nI 2) τ1 = f_Model_uses_122 m m (nI 0) (nI 0) τ1 from rfl, M_free_cnt (by omega) hmm1 hg1 120 0 m 0 (by omega) (by omega) (by omega)]
      unfold f_Game_drawFreePlace
      rw [show f_Game_drawFreePlace_4 m m 0 0 σ1 = _ from K_free_cnt (by omega) hmm1 120 0 m 0 (by omega) (by omega) (by omega)]
      have hwP : who σ1 N P = none := by
        cases hwe : who σ1 N P with
        | none => rfl
        | some i =>
          obtain ⟨w1, w2, w3⟩ := who_some hwe
          obtain ⟨a1, a2, a3, a4, a5, a6, a7, a8, a9, a10, a11, a12, a13⟩ := hmm1.2.2.2 i w1
          rw [a3] at w3
          exact absurd ((eq_n (by omega) (by have := hp1.1; omega)).mp w3) (a13 w2)
      have hfP : fre σ1 N P = true := by simp [fre, hwP, flr_i hp1.1 hp1.2.2.2.2]
      have hpos := cfr_pos (f := fre σ1 N) (r := 120) (c := 0) (p := P) (by omega) (by have := hp1.1; omega) hfP
      have hmax := cfr_le (fre σ1 N) 120 0
      rw [Nat.zero_add, K_play m hpos (by omega), bd_e, M_play m hpos (by omega), bd_e, ← hz1.2.1]
      have htl := drw_lt (nxS (σ1.2.1 0)) hpos
      obtain ⟨p, p1, p2, p3, p4⟩ := nthF_some htl
      generalize drw (nxS (σ1.2.1 0)) (cfr (fre σ1 N) 120 0) = t at p1 htl ⊢
      have hR2 : RG (sL σ1 0 (nxS (σ1.2.1 0))) (sL τ1 1 (nxS (σ1.2.1 0))) P N q h w e hs L := ⟨hg1, hp1, hmm1, ht1, hkk1, hd1, hb1, hh1, ⟨hz1.1, rfl, hz1.2.2⟩⟩
      rw [show f_Game_drawFreePlace_38 m m (nI t) 0 (sL σ1 0 (nxS (σ1.2.1 0))) = _ from K_free_nth (by omega) hR2.2.2.1 120 0 m t p (by omega) (by omega) (by omega) p1, bd_e]
      rw [show f_Model_uses_175 m m (nI t) 0 (sL τ1 1 (nxS (σ1.2.1 0))) = _ from M_free_nth (by omega) hR2.2.2.1 hR2.1 120 0 m t p (by omega) (by omega) (by omega) p1]
      simp only [fre, Bool.and_eq_true, decide_eq_true_eq] at p4
      have hp120 : p < 120 := by omega
      obtain ⟨σ', x1, x2, x3, x4⟩ := arrive_rel hm hR2 hK1 hp120 (flr_y p4.1).2 (who_q hR2.2.2.1 hp120 p4.2) (τ' := sI (sI (sL τ1 1 (nxS (σ1.2.1 0))) 2 (nI (p % 12))) 3 (nI (p / 12))) (fun k a b => (upd3 b).trans (upd3 a)) rfl rfl rfl
      rw [x1, bd_e]
      exact ⟨1, _, _, rfl, rfl, Or.inr ⟨rfl, ⟨p, h, hs, x2, h1⟩, (x4 7 (by decide) (by decide) (by decide)).trans s7, t11⟩⟩
    · rw [if_neg (show ¬ nI 3 = 0 by decide), if_neg (show ¬ nI 3 = 1 by decide), if_neg (show ¬ nI 3 = 2 by decide), if_neg (show ¬ nI 3 = 0 by decide), bnd_e]
      rw [show f_Model_uses_84 m (nI 3) τ1 = some (1, sI τ1 7 6) from rfl]
      exact ⟨1, _, _, rfl, rfl, Or.inr ⟨rfl, ⟨P, h, 6, ⟨hg1, hp1, hmm1, ht1, hkk1, hd1, hb1, hh1, hz1.1, hz1.2.1, hz1.2.2.1, hz1.2.2.2.1, hz1.2.2.2.2.1, hz1.2.2.2.2.2.1, ⟨by omega, rfl, rfl⟩, hz1.2.2.2.2.2.2.2⟩, h1⟩, s7, t11⟩⟩
