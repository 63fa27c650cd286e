/-! PURE: time passes, on both sides (own work) -/
theorem en_rel {σ τ : St} {P N : Nat} {q : Nat → Nat} {h : Int} {w : Bool} {e hs L i : Nat} (v : Int32) (hR : RG σ τ P N q h w e hs L) : RG (sA σ 7 i v) (sA τ 8 i v) P N q h w e hs L := by
  obtain ⟨hg, hp, hm, ht, hk, hd, hb, hh, hz⟩ := hR
  refine ⟨hg, hp, ⟨hm.1, hm.2.1, hm.2.2.1, fun k hkN => ?_⟩, ht, hk, hd, hb, hh, hz⟩
  obtain ⟨a1, a2, a3, a4, a5, a6, a7, a8, a9, a10, a11, a12, a13⟩ := hm.2.2.2 k hkN
  refine ⟨a1, a2, a3, a4, a5, a6, a7, a8, ?_, a10, a11, a12, a13⟩
  by_cases e : k = i
  · subst e
    exact pk_us.trans pk_us.symm
  · exact (pk_un e).trans (a9.trans (pk_un e).symm)
theorem st_alive {σ τ : St} {h : Int} (hh : R_h σ τ h false) : (τ.1 9 = 0 ↔ 1 ≤ h) ∧ (0 < σ.1 10 ↔ 1 ≤ h) := by
  obtain ⟨b1, b2, b3, b4, b5, b6⟩ := hh
  refine ⟨?_, ?_⟩
  · rw [b6]
    by_cases z : h ≤ 0
    · rw [if_pos z]
      exact ⟨fun y => absurd y (by decide), fun y => by omega⟩
    · rw [if_neg z]
      exact ⟨fun _ => by omega, fun _ => rfl⟩
  · rw [b3]
    have := zI_lt (a := 0) (b := h) ⟨by omega, by omega⟩ ⟨by omega, by omega⟩
    exact this.trans ⟨fun y => by omega, fun y => by omega⟩
theorem K_dead {m : Nat} {σ τ : St} {h : Int} (hh : R_h σ τ h false) : f_Hero_isDead m σ = some (bI (decide (h ≤ 0)), σ) := by
  rw [K_isDead]
  have h1 := (st_alive hh).2
  by_cases z : h ≤ 0
  · simp [z, show ¬ 0 < σ.1 10 from fun y => by have := h1.mp y; omega]
  · simp [z, h1.mpr (by omega)]
/-- one monster spends its energy -/
theorem turn_loop {m : Nat} (hm : 130 ≤ m) {P N en hs L i : Nat} (k11 : St → Option (Unit × St)) (k79 : Int32 → St → Option (Unit × St)) (hi : i < N) :
    ∀ (b t j j' : Nat) (σ τ : St) (q : Nat → Nat) (h : Int) (ei : Nat), b < j → b < j' → t + b < 900 → ei < 10 * (b + 1) → RG σ τ P N q h false en hs L → ¬ σ.2.2 6 i ≤ 0 → σ.2.2 7 i = nI ei →
      ∃ (σ' τ' : St) (q' : Nat → Nat) (h' : Int) (ei' : Nat), f_Game_takeTurns_39 m j (nI i) (nI t) σ = some ((), σ') ∧ f_Model_pass_139 m k11 k79 j' (nI i) τ = k79 (nI (i + 1)) τ' ∧ RG σ' τ' P N q' h' false en hs L ∧ (∀ k, k ≠ i → σ'.2.2 7 k = σ.2.2 7 k) ∧ σ'.2.2 7 i = nI ei' ∧ ei' ≤ ei ∧ (1 ≤ h' → ei' < 10) ∧ σ'.2.2 6 = σ.2.2 6 ∧ h' ≤ h ∧ τ'.1 11 = τ.1 11 := by
  intro b
  induction b with
  | zero =>
    intro t j j' σ τ q h ei hj hj' ht he hR hal hei
    obtain ⟨j, rfl⟩ : ∃ z, j = z + 1 := ⟨j - 1, by omega⟩
    obtain ⟨j', rfl⟩ : ∃ z, j' = z + 1 := ⟨j' - 1, by omega⟩
    have hi5 := R_m_lt hR.2.2.1 hi
    have a9 := (hR.2.2.1.2.2.2 i hi).2.2.2.2.2.2.2.2.1
    refine ⟨σ, τ, q, h, ei, ?_, ?_, hR, fun _ _ => rfl, hei, Nat.le_refl _, fun _ => by omega, rfl, Int.le_refl _, rfl⟩
    · rw [f_Game_takeTurns_39_s, if_neg (fun z : (1000 : Int32) ≤ nI t => by have := (le_n (a := 1000) (by omega) (by omega)).mp z; omega), gd_e (inb_n hi5 (by omega)), tn_n (by omega), hei, if_pos (show nI ei < 10 from (lt_n (b := 10) (by omega) (by omega)).mpr (by omega))]
    · rw [f_Model_pass_139_s, gd_e (inb_n (show i < 8 by omega) (by omega)), tn_n (by omega), ← a9, hei, if_pos (show nI ei < 10 from (lt_n (b := 10) (by omega) (by omega)).mpr (by omega)), bnd_e, nI_1]
  | succ b ih =>
    intro t j j' σ τ q h ei hj hj' ht he hR hal hei
    obtain ⟨j, rfl⟩ : ∃ z, j = z + 1 := ⟨j - 1, by omega⟩
    obtain ⟨j', rfl⟩ : ∃ z, j' = z + 1 := ⟨j' - 1, by omega⟩
    have hi5 := R_m_lt hR.2.2.1 hi
    have a9 := (hR.2.2.1.2.2.2 i hi).2.2.2.2.2.2.2.2.1
    rw [f_Game_takeTurns_39_s, if_neg (fun z : (1000 : Int32) ≤ nI t => by have := (le_n (a := 1000) (by omega) (by omega)).mp z; omega), gd_e (inb_n hi5 (by omega)), tn_n (by omega), hei]
    rw [f_Model_pass_139_s, gd_e (inb_n (show i < 8 by omega) (by omega)), tn_n (by omega), ← a9, hei]
    have hlt : nI ei < 10 ↔ ei < 10 := lt_n (b := 10) (by omega) (by omega)
    by_cases h10 : ei < 10
    · rw [if_pos (hlt.mpr h10), if_pos (hlt.mpr h10), bnd_e, nI_1]
      exact ⟨σ, τ, q, h, ei, rfl, rfl, hR, fun _ _ => rfl, hei, Nat.le_refl _, fun _ => by omega, rfl, Int.le_refl _, rfl⟩
    · rw [if_neg (fun z => h10 (hlt.mp z)), if_neg (fun z => h10 (hlt.mp z))]
      have hh := hR.2.2.2.2.2.2.2.1
      rw [K_dead hh, bd_e]
      by_cases hdead : h ≤ 0
      · rw [if_neg (by simp [hdead, bI]), if_neg (fun z => by have := (st_alive hh).1.mp z; omega), bnd_e, nI_1]
        exact ⟨σ, τ, q, h, ei, rfl, rfl, hR, fun _ _ => rfl, hei, Nat.le_refl _, fun z => by omega, rfl, Int.le_refl _, rfl⟩
      · rw [if_pos (by simp [hdead, bI]), if_pos ((st_alive hh).1.mpr (by omega))]
        rw [gd_e (inb_n hi5 (by omega)), gd_e (inb_n hi5 (by omega)), bnd_e, hei, gd_e (inb_n (show i < 8 by omega) (by omega)), gd_e (inb_n (show i < 8 by omega) (by omega)), bnd_e]
        rw [show nI ei - 10 = nI (ei - 10) from pk_sub (b := 10) (by omega)]
        have hR1 : RG (sA σ 7 i (nI (ei - 10))) (sA τ 8 i (nI (ei - 10))) P N q h false en hs L := en_rel (nI (ei - 10)) hR
        obtain ⟨σ1, τ1, q1, h1, c1, c2, c3, c4, c5, c6, c7⟩ := act_rel hm hR1 hi hal (by omega) rfl
        rw [c1, bd_e, c2, bd_e, bnd_e, nI_1]
        obtain ⟨σ', τ', q', h', ei', d1, d2, d3, d4, d5, d6, d7, d8, d9, d10⟩ := ih (t + 1) j j' σ1 τ1 q1 h1 (ei - 10) (by omega) (by omega) (by omega) (by omega) c3 (by rw [c5]; exact hal) (by rw [c4]; exact pk_us)
        refine ⟨σ', τ', q', h', ei', d1, d2, d3, fun k hk => ?_, d5, by omega, d7, ?_, by omega, by rw [d10, c7]; rfl⟩
        · rw [d4 k hk, c4]; exact pk_un hk
        · rw [d8, c5]; rfl
/-- energies: those below i are spent -/
def EB (σ : St) (N i : Nat) (h : Int) : Prop := ∀ k, k < N → ∃ e : Nat, σ.2.2 7 k = nI e ∧ e < 40 ∧ (k < i → 1 ≤ h → e < 10) ∧ (i ≤ k → e < 10)
theorem speed_v {x : Int32} (h : x = 0 ∨ x = 1 ∨ x = 2) : ∃ v : Nat, v ≤ 14 ∧ (if x = 0 then (8 : Int32) else if x = 1 then 6 else 14) = nI v := by
  rcases h with rfl | rfl | rfl
  · exact ⟨8, by omega, rfl⟩
  · exact ⟨6, by omega, rfl⟩
  · exact ⟨14, by omega, rfl⟩
/-- all monsters in turn -/
theorem tick_loop {m : Nat} (hm : 130 ≤ m) {P N en hs L : Nat} (k16 : Int32 → St → Option (Unit × St)) (k11 : St → Option (Unit × St)) (y : Int32) :
    ∀ (r i j j' : Nat) (σ τ : St) (q : Nat → Nat) (h : Int), i + r = N → r < j → r < j' → RG σ τ P N q h false en hs L → EB σ N i h →
      ∃ (σ' τ' : St) (q' : Nat → Nat) (h' : Int), f_Game_passTime_111 m k16 j y (nI i) σ = k16 (y + 1) σ' ∧ f_Model_pass_79 m k11 j' (nI i) τ = k11 τ' ∧ RG σ' τ' P N q' h' false en hs L ∧ EB σ' N N h' ∧ σ'.2.2 6 = σ.2.2 6 ∧ h' ≤ h ∧ τ'.1 11 = τ.1 11 := by
  intro r
  induction r with
  | zero =>
    intro i j j' σ τ q h hi hj hj' hR hE
    obtain ⟨j, rfl⟩ : ∃ z, j = z + 1 := ⟨j - 1, by omega⟩
    obtain ⟨j', rfl⟩ : ∃ z, j' = z + 1 := ⟨j' - 1, by omega⟩
    obtain rfl : i = N := by omega
    have hN := hR.2.2.1.1
    refine ⟨σ, τ, q, h, ?_, ?_, hR, hE, rfl, Int.le_refl _, rfl⟩
    · rw [f_Game_passTime_111_s, hR.2.2.1.2.1, if_pos ((le_n (by omega) (by omega)).mpr (Nat.le_refl _)), bnd_e]
    · rw [f_Model_pass_79_s, hR.2.2.1.2.2.1, if_pos ((le_n (by omega) (by omega)).mpr (Nat.le_refl _))]
  | succ r ih =>
    intro i j j' σ τ q h hi hj hj' hR hE
    obtain ⟨j, rfl⟩ : ∃ z, j = z + 1 := ⟨j - 1, by omega⟩
    obtain ⟨j', rfl⟩ : ∃ z, j' = z + 1 := ⟨j' - 1, by omega⟩
    have hN := hR.2.2.1.1
    have hiN : i < N := by omega
    obtain ⟨a1, a2, a3, a4, a5, a6, a7, a8, a9, a10, a11, a12, a13⟩ := hR.2.2.1.2.2.2 i hiN
    rw [f_Game_passTime_111_s, hR.2.2.1.2.1, if_neg (fun z => by have := (le_n (by omega) (by omega)).mp z; omega)]
    rw [f_Model_pass_79_s, hR.2.2.1.2.2.1, if_neg (fun z => by have := (le_n (by omega) (by omega)).mp z; omega), gd_e (inb_n (show i < 8 by omega) (by omega)), tn_n (by omega), a12]
    unfold f_Game_takeTurns
    rw [K_isThere m (by omega) hN hR.2.2.1.2.1, bd_e]
    by_cases hal : σ.2.2 6 i ≤ 0
    · rw [if_pos (show bI (decide (i < N) && !decide (σ.2.2 6 i ≤ 0)) = 0 by simp [hal, bI]), bd_e, bnd_e, if_pos hal, if_neg (by decide), bnd_e, nI_1]
      refine ih (i + 1) j j' σ τ q h (by omega) (by omega) (by omega) hR (fun k hk => ?_)
      obtain ⟨e, e1, e2, e3, e4⟩ := hE k hk
      refine ⟨e, e1, e2, fun z1 z2 => ?_, fun z => e4 (by omega)⟩
      by_cases hki : k = i
      · exact e4 (by omega)
      · exact e3 (by omega) z2
    · rw [if_neg (show ¬ bI (decide (i < N) && !decide (σ.2.2 6 i ≤ 0)) = 0 by simp [hal, hiN, bI]), if_neg hal, if_pos rfl]
      rw [gd_e (inb_n (show i < 5 by omega) (by omega)), gd_e (inb_n (show i < 5 by omega) (by omega)), tn_n (by omega), gd_e (kind_tn a7).1, gd_e (inb_n (show i < 5 by omega) (by omega)), bnd_e, (kind_tn a7).2.2]
      obtain ⟨e, e1, e2, e3, e4⟩ := hE i hiN
      have hel : e < 10 := e4 (Nat.le_refl _)
      obtain ⟨v, hv, hve⟩ := speed_v a7
      rw [gd_e (inb_n (show i < 8 by omega) (by omega)), gd_e (inb_n (show i < 8 by omega) (by omega)), ← a6, ← a9]
      have hR1 : RG (sA σ 7 i (nI (e + v))) (sA τ 8 i (nI (e + v))) P N q h false en hs L := en_rel _ hR
      obtain ⟨σ1, τ1, q1, h1, ei', d1, d2, d3, d4, d5, d6, d7, d8, d9, d10⟩ := turn_loop hm k11 (fun y1 σ => f_Model_pass_79 m k11 j' y1 σ) hiN 3 0 m m (sA σ 7 i (nI (e + v))) (sA τ 8 i (nI (e + v))) q h (e + v) (by omega) (by omega) (by omega) (by omega) hR1 hal pk_us
      have hM : ∀ s0 : Int32, s0 = nI v → f_Model_pass_137 m k11 (fun y1 σ => f_Model_pass_79 m k11 j' y1 σ) (nI i) s0 (σ.2.2 7 i) (nI i) τ = f_Model_pass_79 m k11 j' (nI (i + 1)) τ1 := by
        intro s0 hs0
        unfold f_Model_pass_137
        rw [gd_e (inb_n (show i < 8 by omega) (by omega)), bnd_e, tn_n (by omega), e1, hs0, nI_add]
        exact d2
      have hM2 : (if σ.2.2 4 i = 0 then f_Model_pass_137 m k11 (fun y1 σ => f_Model_pass_79 m k11 j' y1 σ) (nI i) 8 (σ.2.2 7 i) (nI i) τ else gd (inb (nI i) 8) (if σ.2.2 4 i = 1 then f_Model_pass_137 m k11 (fun y1 σ => f_Model_pass_79 m k11 j' y1 σ) (nI i) 6 (σ.2.2 7 i) (nI i) τ else f_Model_pass_137 m k11 (fun y1 σ => f_Model_pass_79 m k11 j' y1 σ) (nI i) 14 (σ.2.2 7 i) (nI i) τ)) = f_Model_pass_79 m k11 j' (nI (i + 1)) τ1 := by
        rw [gd_e (inb_n (show i < 8 by omega) (by omega))]
        by_cases k0 : σ.2.2 4 i = 0
        · rw [if_pos k0] at hve ⊢
          exact hM 8 hve
        · rw [if_neg k0] at hve ⊢
          by_cases k1 : σ.2.2 4 i = 1
          · rw [if_pos k1] at hve ⊢
            exact hM 6 hve
          · rw [if_neg k1] at hve ⊢
            exact hM 14 hve
      rw [hM2, hve, e1, nI_add, show f_Game_takeTurns_39 m m (nI i) 0 (sA σ 7 i (nI (e + v))) = some ((), σ1) from d1, bd_e, bnd_e, nI_1]
      have hE1 : EB σ1 N (i + 1) h1 := by
        intro k hk
        by_cases hki : k = i
        · subst hki
          exact ⟨ei', d5, by omega, fun _ z => d7 z, fun z => by omega⟩
        · obtain ⟨x, x1, x2, x3, x4⟩ := hE k hk
          refine ⟨x, ?_, x2, fun z1 z2 => x3 (by omega) (by omega), fun z => x4 (by omega)⟩
          rw [d4 k hki, show (sA σ 7 i (nI (e + v))).2.2 7 k = σ.2.2 7 k from pk_un hki]
          exact x1
      obtain ⟨σ', τ', q', h', f1, f2, f3, f4, f5, f6, f7⟩ := ih (i + 1) j j' σ1 τ1 q1 h1 (by omega) (by omega) (by omega) d3 hE1
      exact ⟨σ', τ', q', h', f1, f2, f3, f4, by rw [f5, d8]; rfl, by omega, by rw [f7, d10]; rfl⟩
/-- the parts that only the player's own numbers are in -/
theorem RG_s {σ τ σ' τ' : St} {P N : Nat} {q : Nat → Nat} {h : Int} {w : Bool} {e hs L e' hs' : Nat} (hR : RG σ τ P N q h w e hs L) (h1 : ∀ k, k ≠ 3 → k ≠ 12 → k ≠ 13 → σ'.1 k = σ.1 k) (h2 : σ'.2 = σ.2) (h3 : ∀ k, k ≠ 6 → k ≠ 7 → k ≠ 10 → τ'.1 k = τ.1 k) (h4 : τ'.2 = τ.2) (ht : σ'.1 3 = τ'.1 10) (he : e' < 40 ∧ σ'.1 12 = nI e' ∧ τ'.1 6 = nI e') (hh : hs' ≤ 6 ∧ σ'.1 13 = nI hs' ∧ τ'.1 7 = nI hs') : RG σ' τ' P N q h w e' hs' L := by
  obtain ⟨hg, hp, hm, htt, hk, hd, hb, hhh, hz⟩ := hR
  refine ⟨?_, ?_, ?_, ?_, ?_, ?_, ?_, ?_, ?_⟩
  · unfold R_g; rw [h2, h4]; exact hg
  · unfold R_p; rw [h2, h1 9 (by decide) (by decide) (by decide), h3 2 (by decide) (by decide) (by decide), h3 3 (by decide) (by decide) (by decide)]; exact hp
  · unfold R_m MO; rw [h2, h4, h1 7 (by decide) (by decide) (by decide), h3 1 (by decide) (by decide) (by decide)]; exact hm
  · unfold R_t; rw [h2, h4]; exact htt
  · unfold R_k; rw [h2, h4]; exact hk
  · unfold R_d; rw [h2, h1 8 (by decide) (by decide) (by decide)]; exact hd
  · unfold R_b; rw [h2, h4, h1 14 (by decide) (by decide) (by decide), h3 12 (by decide) (by decide) (by decide)]; exact hb
  · unfold R_h; rw [h1 10 (by decide) (by decide) (by decide), h1 5 (by decide) (by decide) (by decide), h3 4 (by decide) (by decide) (by decide), h3 9 (by decide) (by decide) (by decide)]; exact hhh
  · unfold R_s
    rw [h2, h4, h1 1 (by decide) (by decide) (by decide), h1 11 (by decide) (by decide) (by decide), h1 4 (by decide) (by decide) (by decide), h1 2 (by decide) (by decide) (by decide), h3 0 (by decide) (by decide) (by decide), h3 5 (by decide) (by decide) (by decide), h3 11 (by decide) (by decide) (by decide), h3 8 (by decide) (by decide) (by decide)]
    exact ⟨hz.1, hz.2.1, hz.2.2.1, ht, hz.2.2.2.2.1, he, hh, hz.2.2.2.2.2.2.2⟩
theorem upd3 {f : Nat → Int32} {a k : Nat} {x : Int32} (h : k ≠ a) : upd f a x k = f k := pk_un h
/-- time passes -/
theorem pass_rel {m : Nat} (hm : 130 ≤ m) {σ τ : St} {P N : Nat} {q : Nat → Nat} {h : Int} {e hs L : Nat} (hR : RG σ τ P N q h false e hs L) (h1 : 1 ≤ h) (he : 10 ≤ e ∧ e ≤ 29) (hE : EB σ N 0 h) :
    ∃ (σ' τ' : St) (q' : Nat → Nat) (h' : Int) (e' hs' : Nat), f_Game_passTime m σ = some ((), σ') ∧ f_Model_pass m τ = some ((), τ') ∧ RG σ' τ' P N q' h' false e' hs' L ∧ (10 ≤ e' ∧ e' ≤ 29) ∧ EB σ' N N h' ∧ τ'.1 11 = τ.1 11 := by
  obtain ⟨z1, z2, z3, z4, z5, ⟨ze, z6, z7⟩, ⟨zh, z8, z9⟩, z10⟩ := hR.2.2.2.2.2.2.2.2
  have hh := hR.2.2.2.2.2.2.2.1
  obtain ⟨n, rfl⟩ : ∃ z, m = z + 1 := ⟨m - 1, by omega⟩
  unfold f_Game_passTime f_Model_pass
  rw [bnd_e, bnd_e, z6, z7, show nI e - 10 = nI (e - 10) from pk_sub (b := 10) (by omega)]
  have hR1 : RG (sI σ 12 (nI (e - 10))) (sI τ 6 (nI (e - 10))) P N q h false (e - 10) hs L := RG_s hR (fun k a b c => upd3 b) rfl (fun k a b c => upd3 a) rfl z4 ⟨by omega, rfl, rfl⟩ ⟨zh, z8, z9⟩
  rw [f_Game_passTime_16_s, if_neg (by decide), f_Model_pass_11_s]
  rw [show (sI σ 12 (nI (e - 10))).1 12 = nI (e - 10) from rfl, show (sI τ 6 (nI (e - 10))).1 6 = nI (e - 10) from rfl]
  have h10 : (10 : Int32) ≤ nI (e - 10) ↔ 10 ≤ e - 10 := le_n (a := 10) (by omega) (by omega)
  by_cases hq : 10 ≤ e - 10
  · rw [if_pos (h10.mpr hq), if_pos (h10.mpr hq)]
    refine ⟨_, _, q, h, e - 10, hs, rfl, rfl, hR1, by omega, fun k hk => ?_, rfl⟩
    obtain ⟨x, x1, x2, x3, x4⟩ := hE k hk
    exact ⟨x, x1, x2, fun _ _ => x4 (by omega), fun _ => x4 (by omega)⟩
  · rw [if_neg (fun z => hq (h10.mp z)), if_neg (fun z => hq (h10.mp z))]
    have hh1 : R_h (sI σ 12 (nI (e - 10))) (sI τ 6 (nI (e - 10))) h false := hR1.2.2.2.2.2.2.2.1
    rw [K_dead hh1, bd_e, if_pos (by simp [show ¬ h ≤ 0 by omega, bI]), if_pos ((st_alive hh1).1.mpr h1)]
    simp only [bnd_e]
    have fin : ∀ (σa τa : St) (ea hsa : Nat), RG σa τa P N q h false ea hsa L → (10 ≤ ea ∧ ea ≤ 29) → EB σa N 0 h → τa.1 11 = τ.1 11 → ∃ (σ' τ' : St) (q' : Nat → Nat) (h' : Int) (e' hs' : Nat), f_Game_passTime_111 (n + 1) (fun y1 σ => f_Game_passTime_16 (n + 1) n y1 σ) (n + 1) 0 0 σa = some ((), σ') ∧ f_Model_pass_79 (n + 1) (fun σ => f_Model_pass_11 (n + 1) n σ) (n + 1) 0 τa = some ((), τ') ∧ RG σ' τ' P N q' h' false e' hs' L ∧ (10 ≤ e' ∧ e' ≤ 29) ∧ EB σ' N N h' ∧ τ'.1 11 = τ.1 11 := by
      intro σa τa ea hsa hRa hea hEa hwa
      have hN := hRa.2.2.1.1
      obtain ⟨σ', τ', q', h', f1, f2, f3, f4, f5, f6, f7⟩ := tick_loop hm (fun y1 σ => f_Game_passTime_16 (n + 1) n y1 σ) (fun σ => f_Model_pass_11 (n + 1) n σ) 0 N 0 (n + 1) (n + 1) σa τa q h (by omega) (by omega) (by omega) hRa hEa
      obtain ⟨_, _, _, _, _, ⟨_, y6, y7⟩, _, _⟩ := f3.2.2.2.2.2.2.2.2
      obtain ⟨p, rfl⟩ : ∃ z, n = z + 1 := ⟨n - 1, by omega⟩
      refine ⟨σ', τ', q', h', ea, hsa, ?_, ?_, f3, hea, f4, by rw [f7]; exact hwa⟩
      · refine f1.trans ?_
        show f_Game_passTime_16 (p + 1 + 1) (p + 1) (0 + 1) σ' = _
        rw [f_Game_passTime_16_s, if_neg (by decide), y6, if_pos (show (10 : Int32) ≤ nI ea from (le_n (a := 10) (by omega) (by omega)).mpr hea.1)]
      · refine f2.trans ?_
        show f_Model_pass_11 (p + 1 + 1) (p + 1) τ' = _
        rw [f_Model_pass_11_s, y7, if_pos (show (10 : Int32) ≤ nI ea from (le_n (a := 10) (by omega) (by omega)).mpr hea.1)]
    have hs0 : nI hs ≤ 0 ↔ hs ≤ 0 := le_n (b := 0) (by omega) (by omega)
    rw [show (sI (sI σ 12 (nI (e - 10))) 3 ((sI σ 12 (nI (e - 10))).1 3 + 1)).1 13 = nI hs from z8]
    rw [show (sI (sI τ 6 (nI (e - 10))) 10 ((sI τ 6 (nI (e - 10))).1 10 + 1)).1 7 = nI hs from z9]
    by_cases hz : hs ≤ 0
    · rw [if_pos (hs0.mpr hz), if_pos (hs0.mpr hz)]
      unfold f_Model_pass_56
      rw [bnd_e]
      rw [if_pos (show (sI (sI (sI τ 6 (nI (e - 10))) 10 ((sI τ 6 (nI (e - 10))).1 10 + 1)) 6 _).1 7 ≤ 0 from (show τ.1 7 ≤ 0 by rw [z9]; exact hs0.mpr hz))]
      refine fin _ _ (e - 10 + 10) hs (RG_s hR (fun k a b c => ?_) rfl (fun k a b c => ?_) rfl ?_ ⟨by omega, ?_, ?_⟩ ⟨zh, z8, z9⟩) (by omega) hE rfl
      · exact (upd3 b).trans ((upd3 a).trans (upd3 b))
      · exact (upd3 a).trans ((upd3 c).trans (upd3 a))
      · show σ.1 3 + 1 = τ.1 10 + 1
        rw [z4]
      · exact nI_add (e - 10) 10
      · exact nI_add (e - 10) 10
    · rw [if_neg (fun z => hz (hs0.mp z)), if_neg (fun z => hz (hs0.mp z))]
      unfold f_Model_pass_56
      rw [bnd_e]
      rw [if_neg (show ¬ (sI (sI (sI τ 6 (nI (e - 10))) 10 ((sI τ 6 (nI (e - 10))).1 10 + 1)) 6 _).1 7 ≤ 0 from (show ¬ τ.1 7 ≤ 0 by rw [z9]; exact fun z => hz (hs0.mp z))), bnd_e]
      refine fin _ _ (e - 10 + 20) (hs - 1) (RG_s hR (fun k a b c => ?_) rfl (fun k a b c => ?_) rfl ?_ ⟨by omega, ?_, ?_⟩ ⟨by omega, ?_, ?_⟩) (by omega) hE rfl
      · exact (upd3 c).trans ((upd3 b).trans ((upd3 a).trans (upd3 b)))
      · exact (upd3 b).trans ((upd3 a).trans ((upd3 c).trans (upd3 a)))
      · show σ.1 3 + 1 = τ.1 10 + 1
        rw [z4]
      · exact nI_add (e - 10) 20
      · exact nI_add (e - 10) 20
      · show σ.1 13 - 1 = nI (hs - 1)
        rw [z8]
        exact pk_sub (b := 1) (by omega)
      · show τ.1 7 - 1 = nI (hs - 1)
        rw [z9]
        exact pk_sub (b := 1) (by omega)
