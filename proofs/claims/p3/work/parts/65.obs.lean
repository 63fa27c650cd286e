/-! PURE: what is asked (own work) -/
theorem recorded_rel {m : Nat} {r : St} {sd : Int32} {σ τ : St} {c : Nat} {T : Nat → St} (hI : IV m r sd σ τ c T) (hc : c ≤ 512) (x : Int32) :
    ∃ a : Int32, f_Desk_recorded m x σ = some (a, σ) ∧ f_Model_recorded m x τ = some (a, τ) := by
  obtain ⟨i1, i2, i3, _⟩ := hI
  unfold f_Desk_recorded f_Model_recorded
  rw [i1, i2, M_in_g, bd_e]
  by_cases hx : x < 0
  · rw [if_pos hx, if_pos hx, if_pos rfl]
    exact ⟨_, rfl, rfl⟩
  · obtain ⟨n, hn, rfl⟩ := nn_of hx
    rw [if_neg hx, if_neg hx]
    have e : nI c - 1 < nI n ↔ c ≤ n := by
      rw [zI_nat, zI_nat, show (1 : Int32) = zI 1 from rfl, zI_sub, zI_lt ⟨by omega, by omega⟩ ⟨by omega, by omega⟩]
      omega
    by_cases h : c ≤ n
    · rw [if_pos ((le_n (by omega) (by omega)).mpr h), if_pos (e.mpr h), if_pos rfl]
      exact ⟨_, rfl, rfl⟩
    · rw [if_neg (fun y => h ((le_n (by omega) (by omega)).mp y)), if_neg (fun y => h (e.mp y)), if_neg (show ¬ (1 : Int32) = 0 by decide), gd_e (inb_n (show n < 512 by omega) (by omega)), gd_e (inb_n (show n < 520 by omega) (by omega)), tn_n (by omega), i3 n (by omega)]
      exact ⟨_, rfl, rfl⟩
theorem K_inBag {m : Nat} {σ τ : St} {B : Nat} (hB : B ≤ 4) (h14 : σ.1 14 = nI B) {k : Nat} (hk : k < 4) : f_Hero_thingInBag m (nI k) σ = some (if k < B then σ.2.2 15 k else -2, σ) := by
  unfold f_Hero_thingInBag
  rw [if_neg (lt0_n (by omega)), h14]
  by_cases h : k < B
  · rw [if_neg (fun y => by have := (le_n (by omega) (by omega)).mp y; omega), if_neg (fun y : (4 : Int32) ≤ nI k => by have := (le_n (a := 4) (by omega) (by omega)).mp y; omega), gd_e (inb_n hk (by omega)), tn_n (by omega), if_pos h]
  · rw [if_pos ((le_n (by omega) (by omega)).mpr (by omega)), if_neg h]
theorem player_rel {m : Nat} {σ τ : St} {w : Nat} (hG : G σ τ w) (x : Int32) :
    ∃ a : Int32, f_Desk_player m x σ = some (a, σ) ∧ f_Model_player m x τ = some (a, τ) := by
  obtain ⟨P, N, q, h, wn, e, hs, L, hR, _⟩ := hG
  obtain ⟨hg, ⟨hP, p9, p2, p3, hgP⟩, hmm, ht, hkk, hd, ⟨B, hB, b1, b2, b3⟩, hh, hz⟩ := hR
  obtain ⟨z1, z2, z3, z4, z5, ⟨ze, z6, z7⟩, ⟨zh, z8, z9⟩, ⟨l1, l2, l3, l4⟩⟩ := hz
  have bag : ∀ (y : Int32) (k : Nat), k < 4 → y - 10 = nI k → ¬ y < 10 → ¬ 13 < y → f_Desk_player m y σ = bd (f_Hero_thingInBag m (y - 10) σ) (fun r σ2 => some (r, σ2)) → ∃ a : Int32, f_Desk_player m y σ = some (a, σ) ∧ f_Model_player m y τ = some (a, τ) := by
    intro y k hk hy y1 y2 hK
    rw [hK, hy, K_inBag (τ := τ) hB b1 hk, bd_e]
    unfold f_Model_player
    rw [M_in_g, bd_e, if_neg y1, if_neg y2, if_neg (show ¬ (1 : Int32) = 0 by decide), b2, hy]
    by_cases hkB : k < B
    · rw [if_pos hkB, if_neg (show ¬ nI B ≤ nI k from fun y => by have := (le_n (by omega) (by omega)).mp y; omega), gd_e (inb_n (show k < 5 by omega) (by omega)), tn_n (by omega), (b3 k hkB).1]
      exact ⟨_, rfl, rfl⟩
    · rw [if_neg hkB, if_pos ((le_n (by omega) (by omega)).mpr (by omega))]
      exact ⟨_, rfl, rfl⟩
  by_cases h10 : x = 10
  · subst h10; exact bag 10 0 (by omega) rfl (by decide) (by decide) rfl
  by_cases h11 : x = 11
  · subst h11; exact bag 11 1 (by omega) rfl (by decide) (by decide) rfl
  by_cases h12 : x = 12
  · subst h12; exact bag 12 2 (by omega) rfl (by decide) (by decide) rfl
  by_cases h13 : x = 13
  · subst h13; exact bag 13 3 (by omega) rfl (by decide) (by decide) rfl
  have hin : (if x < 10 then (0 : Int32) else if 13 < x then 0 else 1) = 0 := by
    by_cases q1 : x < 10
    · rw [if_pos q1]
    · rw [if_neg q1]
      by_cases q2 : 13 < x
      · rw [if_pos q2]
      · exfalso
        have z := zI_of x
        have zs := zI_sm x
        rw [show (10 : Int32) = zI 10 from rfl, ← z, zI_lt zs ⟨by omega, by omega⟩] at q1
        rw [show (13 : Int32) = zI 13 from rfl, ← z, zI_lt ⟨by omega, by omega⟩ zs] at q2
        rcases (show x.toInt = 10 ∨ x.toInt = 11 ∨ x.toInt = 12 ∨ x.toInt = 13 by omega) with y | y | y | y
        · exact h10 (by rw [← z, y]; rfl)
        · exact h11 (by rw [← z, y]; rfl)
        · exact h12 (by rw [← z, y]; rfl)
        · exact h13 (by rw [← z, y]; rfl)
  unfold f_Desk_player f_Model_player
  rw [M_in_g, bd_e, hin, if_pos rfl]
  by_cases h0 : x = 0
  · rw [if_pos h0, if_pos h0, p9, p2, show (12 : Int32) = nI 12 from rfl, pk_rem (by omega) (by omega) (by omega)]
    exact ⟨_, rfl, rfl⟩
  rw [if_neg h0, if_neg h0]
  by_cases h1 : x = 1
  · rw [if_pos h1, if_pos h1, p9, p3, show (12 : Int32) = nI 12 from rfl, pk_div (by omega) (by omega) (by omega)]
    exact ⟨_, rfl, rfl⟩
  rw [if_neg h1, if_neg h1]
  by_cases h2 : x = 2
  · rw [if_pos h2, if_pos h2, K_dead2 hh, bd_e, hh.2.2.1, hh.2.2.2.1]
    by_cases hl : h ≤ 0
    · rw [if_neg (by simp [hl, bI]), if_pos hl]
      exact ⟨_, rfl, rfl⟩
    · rw [if_pos (by simp [hl, bI]), if_neg hl]
      exact ⟨_, rfl, rfl⟩
  rw [if_neg h2, if_neg h2]
  by_cases h3 : x = 3
  · rw [if_pos h3, if_pos h3, z3]; exact ⟨_, rfl, rfl⟩
  rw [if_neg h3, if_neg h3]
  by_cases h4 : x = 4
  · rw [if_pos h4, if_pos h4, z6, z7]; exact ⟨_, rfl, rfl⟩
  rw [if_neg h4, if_neg h4]
  by_cases h5 : x = 5
  · rw [if_pos h5, if_pos h5, z8, z9]; exact ⟨_, rfl, rfl⟩
  rw [if_neg h5, if_neg h5]
  by_cases h6 : x = 6
  · rw [if_pos h6, if_pos h6, l3, l4]; exact ⟨_, rfl, rfl⟩
  rw [if_neg h6, if_neg h6]
  by_cases h7 : x = 7
  · rw [if_pos h7, if_pos h7, b1, b2]; exact ⟨_, rfl, rfl⟩
  rw [if_neg h7, if_neg h7, if_neg h10, if_neg h11, if_neg h12, if_neg h13]
  by_cases h8 : x = 8
  · rw [if_pos h8]; exact ⟨_, rfl, rfl⟩
  rw [if_neg h8]
  by_cases h9 : x = 9
  · rw [if_pos h9]; exact ⟨_, rfl, rfl⟩
  rw [if_neg h9]; exact ⟨_, rfl, rfl⟩
theorem monster_rel {m : Nat} {σ τ : St} {w : Nat} (hG : G σ τ w) (x y : Int32) :
    ∃ a : Int32, f_Desk_monster m x y σ = some (a, σ) ∧ f_Model_monster m x y τ = some (a, τ) := by
  obtain ⟨P, N, q, h, wn, e, hs, L, hR, _⟩ := hG
  have hmm := hR.2.2.1
  obtain ⟨hN, n1, n2, hMO⟩ := hmm
  unfold f_Desk_monster f_Model_monster
  rw [M_in_g, bd_e]
  by_cases hy : y < 0
  · rw [if_pos hy, if_pos hy, if_pos rfl]; exact ⟨_, rfl, rfl⟩
  obtain ⟨yn, hyn, rfl⟩ := nn_of hy
  rw [if_neg hy, if_neg hy]
  have e5 : nI yn ≤ 5 ↔ yn ≤ 5 := le_n (b := 5) (by omega) (by omega)
  have e5' : 5 < nI yn ↔ 5 < yn := lt_n (a := 5) (by omega) (by omega)
  by_cases hy5 : yn ≤ 5
  · rw [if_pos (e5.mpr hy5), if_neg (show ¬ (5 : Int32) < nI yn from fun z => by have := e5'.mp z; omega), if_neg (show ¬ (1 : Int32) = 0 by decide), M_in_g, bd_e, n2]
    by_cases hx : x < 0
    · rw [if_pos hx, if_pos rfl]
      refine ⟨-2, ?_, rfl⟩
      unfold f_Monsters_isThere
      rw [if_pos hx, bd_e, if_pos rfl]
    · obtain ⟨i, hi, rfl⟩ := nn_of hx
      rw [K_isThere m hi hN n1, bd_e, if_neg hx]
      have ei : nI N - 1 < nI i ↔ N ≤ i := by
        rw [zI_nat, zI_nat, show (1 : Int32) = zI 1 from rfl, zI_sub, zI_lt ⟨by omega, by omega⟩ ⟨by omega, by omega⟩]
        omega
      by_cases hiN : i < N
      · obtain ⟨a1, a2, a3, a4, a5, a6, a7, a8, a9, a10, a11, a12, a13⟩ := hMO i hiN
        rw [if_neg (show ¬ nI N - 1 < nI i from fun z => by have := ei.mp z; omega), if_neg (show ¬ (1 : Int32) = 0 by decide), gd_e (inb_n (show i < 8 by omega) (by omega)), tn_n (by omega), a12]
        by_cases hal : σ.2.2 6 i ≤ 0
        · rw [if_pos (by simp [hal, bI]), if_pos hal, if_neg (by decide)]; exact ⟨_, rfl, rfl⟩
        · rw [if_neg (by simp [hal, hiN, bI]), if_neg hal, if_pos rfl]
          have g5 := inb_n (show i < 5 by omega) (show 5 ≤ 2147483648 by omega)
          have g8 := inb_n (show i < 8 by omega) (show 8 ≤ 2147483648 by omega)
          rcases (show yn = 0 ∨ yn = 1 ∨ yn = 2 ∨ yn = 3 ∨ yn = 4 ∨ yn = 5 by omega) with rfl | rfl | rfl | rfl | rfl | rfl
          · rw [if_pos (show nI 0 = 0 from rfl), if_pos (show nI 0 = 0 from rfl), gd_e g5, gd_e g8, a6]; exact ⟨_, rfl, rfl⟩
          · rw [if_neg (show ¬ nI 1 = 0 by decide), if_neg (show ¬ nI 1 = 0 by decide), if_pos (show nI 1 = 1 from rfl), if_pos (show nI 1 = 1 from rfl), gd_e g5, gd_e g8, a3, a4, show (12 : Int32) = nI 12 from rfl, pk_rem (by omega) (by omega) (by omega)]; exact ⟨_, rfl, rfl⟩
          · rw [if_neg (show ¬ nI 2 = 0 by decide), if_neg (show ¬ nI 2 = 0 by decide), if_neg (show ¬ nI 2 = 1 by decide), if_neg (show ¬ nI 2 = 1 by decide), if_pos (show nI 2 = 2 from rfl), if_pos (show nI 2 = 2 from rfl), gd_e g5, gd_e g8, a3, a5, show (12 : Int32) = nI 12 from rfl, pk_div (by omega) (by omega) (by omega)]; exact ⟨_, rfl, rfl⟩
          · rw [if_neg (show ¬ nI 3 = 0 by decide), if_neg (show ¬ nI 3 = 0 by decide), if_neg (show ¬ nI 3 = 1 by decide), if_neg (show ¬ nI 3 = 1 by decide), if_neg (show ¬ nI 3 = 2 by decide), if_neg (show ¬ nI 3 = 2 by decide), if_pos (show nI 3 = 3 from rfl), if_pos (show nI 3 = 3 from rfl), gd_e g5, gd_e g8, a8]; exact ⟨_, rfl, rfl⟩
          · rw [if_neg (show ¬ nI 4 = 0 by decide), if_neg (show ¬ nI 4 = 0 by decide), if_neg (show ¬ nI 4 = 1 by decide), if_neg (show ¬ nI 4 = 1 by decide), if_neg (show ¬ nI 4 = 2 by decide), if_neg (show ¬ nI 4 = 2 by decide), if_neg (show ¬ nI 4 = 3 by decide), if_neg (show ¬ nI 4 = 3 by decide), if_pos (show nI 4 = 4 from rfl), if_pos (show nI 4 = 4 from rfl), gd_e g5, gd_e g8, a9]; exact ⟨_, rfl, rfl⟩
          · rw [if_neg (show ¬ nI 5 = 0 by decide), if_neg (show ¬ nI 5 = 0 by decide), if_neg (show ¬ nI 5 = 1 by decide), if_neg (show ¬ nI 5 = 1 by decide), if_neg (show ¬ nI 5 = 2 by decide), if_neg (show ¬ nI 5 = 2 by decide), if_neg (show ¬ nI 5 = 3 by decide), if_neg (show ¬ nI 5 = 3 by decide), if_neg (show ¬ nI 5 = 4 by decide), if_neg (show ¬ nI 5 = 4 by decide), gd_e g5, gd_e g8, ← a10]
            rcases a11 with z | z
            · rw [z, if_pos rfl]; exact ⟨_, rfl, rfl⟩
            · rw [z, if_neg (by decide)]; exact ⟨_, rfl, rfl⟩
      · rw [if_pos (ei.mpr (by omega)), if_pos rfl, if_pos (by simp [hiN, bI])]; exact ⟨_, rfl, rfl⟩
  · rw [if_neg (fun z => hy5 (e5.mp z)), if_pos (e5'.mpr (by omega)), if_pos rfl]; exact ⟨_, rfl, rfl⟩
/-- the reference measures: only its distances change -/
theorem meas_rel {m : Nat} (hm : 130 ≤ m) {σ τ : St} {P N : Nat} {q : Nat → Nat} {h : Int} {w : Bool} {e hs L : Nat} (hR : RG σ τ P N q h w e hs L) :
    ∃ (d' : Nat → Int) (d : Nat → Int) (gr : Int), f_Model_measure m τ = some ((), mst τ d') ∧ (∀ p, p < 120 → σ.2.2 13 p = zI (d p)) ∧ σ.1 8 = zI gr ∧ (∀ p, p < 120 → d p = -2 ∨ 0 ≤ d p) ∧ (∀ p, p < 120 → d' p = -1 ∨ 0 ≤ d' p) ∧ (∀ p, p < 120 → d' p ≤ 200) ∧ (∀ p, p < 120 → (0 ≤ d p ↔ 0 ≤ d' p) ∧ (0 ≤ d p → d p = d' p)) ∧ (∀ p, p < 120 → d p ≤ gr) ∧ (∃ p, p < 120 ∧ d p = gr ∧ 0 ≤ gr) ∧ gr ≤ 200 := by
  obtain ⟨hg, hp, hmm, ht, hk, ⟨d, gr, k1, k2, k3, k4, k5, k6, k7⟩, hb, hh, hz⟩ := hR
  have hb' : bor (τ.2.2 0) := bor_congr hg.1 hg.2
  obtain ⟨d', m1, m2, m3, m4⟩ := M_measure (m := m) hm (τ := τ) hb' hp.1 (by rw [← hg.1 _ hp.1]; exact hp.2.2.2.2) hp.2.2.1 hp.2.2.2.1
  exact ⟨d', d, gr, m4, k3, k4, k2, m2, m3, isD_one hg.2 k1 (isD_congr (fun p hp => (hg.1 p hp).symm) m1), k5, k6, k7⟩
theorem G_mst {σ τ : St} {w : Nat} (d : Nat → Int) (h : G σ τ w) : G σ (mst τ d) w := h
theorem IV_mst {m : Nat} {r : St} {sd : Int32} {σ τ : St} {c : Nat} {T : Nat → St} (d : Nat → Int) (hI : IV m r sd σ τ c T) : IV m r sd σ (mst τ d) c T := hI
/-- what stands at a cell -/
theorem K_whoIs {m : Nat} (hm : 9 ≤ m) {σ τ : St} {P N : Nat} {q : Nat → Nat} (hmm : R_m σ τ P N q) (p9 : σ.1 9 = nI P) (hP : P < 120) {p : Nat} (hp : p < 120) (k : Int32 → Int32) (hk : k = fun z => z) :
    ∃ a : Int32, f_Desk_whoIsAt m (nI p) σ = some (a, σ) ∧ (p = P → a = 1) ∧ (p ≠ P → f_Model_cell_143 m (oI (-1) (who σ N p)) τ = some (a, τ)) := by
  unfold f_Desk_whoIsAt
  rw [p9]
  by_cases e : p = P
  · rw [if_pos (by rw [e])]
    exact ⟨1, rfl, fun _ => rfl, fun z => absurd e z⟩
  · rw [if_neg (fun z => e ((eq_n (by omega) (by omega)).mp z)), K_who hm hmm, bd_e]
    obtain ⟨hN, n1, n2, hMO⟩ := hmm
    cases hw : who σ N p with
    | none =>
      refine ⟨0, ?_, fun z => absurd z e, fun _ => ?_⟩
      · unfold f_Monsters_isThere
        rw [show oI (-2) (none : Option Nat) = -2 from rfl, if_pos (by decide), bd_e, if_pos rfl]
      · unfold f_Model_cell_143
        rw [show oI (-1) (none : Option Nat) = -1 from rfl, if_neg (by decide)]
    | some i =>
      obtain ⟨w1, w2, w3⟩ := who_some hw
      obtain ⟨a1, a2, a3, a4, a5, a6, a7, a8, a9, a10, a11, a12, a13⟩ := hMO i w1
      refine ⟨2 + σ.2.2 4 i, ?_, fun z => absurd z e, fun _ => ?_⟩
      · rw [show oI (-2) (some i) = nI i from rfl, K_isThere m (by omega) hN n1, bd_e, if_neg (by simp [w1, w2, bI]), gd_e (inb_n (show i < 5 by omega) (by omega)), tn_n (by omega)]
      · unfold f_Model_cell_143
        rw [show oI (-1) (some i) = nI i from rfl, if_pos (nI_pos' (by omega)), gd_e (inb_n (show i < 8 by omega) (by omega)), tn_n (by omega), a6]
theorem cell_rel {m : Nat} (hm : 130 ≤ m) {σ τ : St} {w : Nat} (hG : G σ τ w) (x y v : Int32) :
    ∃ (a : Int32) (τ' : St), f_Desk_cell m x y v σ = some (a, σ) ∧ f_Model_cell m x y v τ = some (a, τ') ∧ (τ' = τ ∨ ∃ d, τ' = mst τ d) := by
  obtain ⟨P, N, q, h, wn, e, hs, L, hR, hKN, _⟩ := hG
  have hR0 := hR
  obtain ⟨hg, ⟨hP, p9, p2, p3, hgP⟩, hmm, ht, hkk, hd, hb, hh, hz⟩ := hR
  unfold f_Desk_cell f_Model_cell
  rw [M_in_g, bd_e]
  by_cases hx : x < 0
  · rw [if_pos hx, if_pos hx, if_pos rfl]; exact ⟨_, τ, rfl, rfl, Or.inl rfl⟩
  obtain ⟨xn, hxn, rfl⟩ := nn_of hx
  rw [if_neg hx, if_neg hx]
  have e11 : (12 : Int32) ≤ nI xn ↔ 12 ≤ xn := le_n (a := 12) (by omega) (by omega)
  have e11' : (11 : Int32) < nI xn ↔ 11 < xn := lt_n (a := 11) (by omega) (by omega)
  by_cases hx2 : 12 ≤ xn
  · rw [if_pos (e11.mpr hx2), if_pos (e11'.mpr (by omega)), if_pos rfl]; exact ⟨_, τ, rfl, rfl, Or.inl rfl⟩
  rw [if_neg (fun z => hx2 (e11.mp z)), if_neg (show ¬ (11 : Int32) < nI xn from fun z => by have := e11'.mp z; omega), if_neg (show ¬ (1 : Int32) = 0 by decide), M_in_g, bd_e]
  by_cases hy : y < 0
  · rw [if_pos hy, if_pos hy, if_pos rfl]; exact ⟨_, τ, rfl, rfl, Or.inl rfl⟩
  obtain ⟨yn, hyn, rfl⟩ := nn_of hy
  rw [if_neg hy, if_neg hy]
  have e9 : nI yn < 10 ↔ yn < 10 := lt_n (b := 10) (by omega) (by omega)
  have e9' : (9 : Int32) < nI yn ↔ 9 < yn := lt_n (a := 9) (by omega) (by omega)
  by_cases hy3 : ¬ yn < 10
  · rw [if_neg (fun z => hy3 (e9.mp z)), if_pos (e9'.mpr (by omega)), if_pos rfl]; exact ⟨_, τ, rfl, rfl, Or.inl rfl⟩
  have hy2 : yn < 10 := Decidable.byContradiction hy3
  rw [if_pos (e9.mpr hy2), if_neg (show ¬ (9 : Int32) < nI yn from fun z => by have := e9'.mp z; omega), if_neg (show ¬ (1 : Int32) = 0 by decide), M_in_g, bd_e, bnd_e]
  obtain ⟨p, hp⟩ : ∃ z, z = 12 * yn + xn := ⟨_, rfl⟩
  have hp120 : p < 120 := by omega
  have hpx : p % 12 = xn := by omega
  have hpy : p / 12 = yn := by omega
  rw [show nI yn * 12 + nI xn = nI p from by rw [show (12 : Int32) = nI 12 from rfl, pk_mul, nI_add, hp]; congr 1; omega]
  rw [show (12 : Int32) * nI yn + nI xn = nI p from by rw [show (12 : Int32) = nI 12 from rfl, pk_mul, nI_add, hp]]
  rw [← hpx, ← hpy]
  have gp := inb_n hp120 (show 120 ≤ 2147483648 by omega)
  have hin : ∀ k : Nat, k ≤ 5 → v = nI k → (if v < 0 then (0 : Int32) else if 5 < v then 0 else 1) = 1 := by
    intro k hk hv
    rw [hv, if_neg (lt0_n (by omega)), if_neg (fun z : (5 : Int32) < nI k => by have := (lt_n (a := 5) (by omega) (by omega)).mp z; omega)]
  by_cases v0 : v = 0
  · rw [hin 0 (by omega) v0, if_neg (show ¬ (1 : Int32) = 0 by decide), bnd_e, M_who (by omega) hmm hp120, bd_e, if_pos v0, if_pos v0, gd_e gp, gd_e gp, tn_n (by omega), hg.1 p hp120]
    exact ⟨_, τ, rfl, rfl, Or.inl rfl⟩
  by_cases v1 : v = 1
  · rw [hin 1 (by omega) v1, if_neg (show ¬ (1 : Int32) = 0 by decide), bnd_e, M_who (by omega) hmm hp120, bd_e, if_neg v0, if_neg v0, if_pos v1, if_pos v1, p9, K_sight (by omega) hP hp120, bd_e, M_seen (by omega) hP hp120 p2 p3, bd_e, ← sight_congr hg.1]
    cases sight (σ.2.2 1) P p with
    | true => rw [if_neg (by decide), if_neg (by decide)]; exact ⟨_, τ, rfl, rfl, Or.inl rfl⟩
    | false => rw [if_pos (show bI false = 0 from rfl), if_pos (show bI false = 0 from rfl)]; exact ⟨_, τ, rfl, rfl, Or.inl rfl⟩
  by_cases v2 : v = 2
  · rw [hin 2 (by omega) v2, if_neg (show ¬ (1 : Int32) = 0 by decide), bnd_e, M_who (by omega) hmm hp120, bd_e, if_neg v0, if_neg v0, if_neg v1, if_neg v1, if_pos v2, if_pos v2, gd_e gp, gd_e gp, tn_n (by omega), hKN p hp120]
    rcases (hkk p hp120).2 with z | z
    · rw [z, if_pos rfl]; exact ⟨_, τ, rfl, rfl, Or.inl rfl⟩
    · rw [z, if_neg (by decide)]; exact ⟨_, τ, rfl, rfl, Or.inl rfl⟩
  by_cases v3 : v = 3
  · rw [hin 3 (by omega) v3, if_neg (show ¬ (1 : Int32) = 0 by decide), bnd_e, M_who (by omega) hmm hp120, bd_e, if_neg v0, if_neg v0, if_neg v1, if_neg v1, if_neg v2, if_neg v2, if_pos v3, if_pos v3, p2, p3]
    obtain ⟨a, w1, w2, w3⟩ := K_whoIs (m := m) (by omega) hmm p9 hP hp120 (fun z => z) rfl
    rw [w1, bd_e]
    by_cases ep : p = P
    · rw [if_pos (by rw [ep]), if_pos (by rw [ep]), w2 ep]
      exact ⟨_, τ, rfl, rfl, Or.inl rfl⟩
    · by_cases e1 : nI (p % 12) = nI (P % 12)
      · rw [if_pos e1, if_neg (fun z => ep (cell_eq p hp120 P hP ((eq_n (by omega) (by omega)).mp e1) ((eq_n (by omega) (by omega)).mp z))), w3 ep]
        exact ⟨_, τ, rfl, rfl, Or.inl rfl⟩
      · rw [if_neg e1, w3 ep]
        exact ⟨_, τ, rfl, rfl, Or.inl rfl⟩
  by_cases v4 : v = 4
  · rw [hin 4 (by omega) v4, if_neg (show ¬ (1 : Int32) = 0 by decide), bnd_e, M_who (by omega) hmm hp120, bd_e, if_neg v0, if_neg v0, if_neg v1, if_neg v1, if_neg v2, if_neg v2, if_neg v3, if_neg v3, if_pos v4, if_pos v4, gd_e gp, gd_e gp, tn_n (by omega), (ht p hp120).1, Int32.add_comm]
    exact ⟨_, τ, rfl, rfl, Or.inl rfl⟩
  by_cases v5 : v = 5
  · rw [hin 5 (by omega) v5, if_neg (show ¬ (1 : Int32) = 0 by decide), bnd_e, M_who (by omega) hmm hp120, bd_e, if_neg v0, if_neg v0, if_neg v1, if_neg v1, if_neg v2, if_neg v2, if_neg v3, if_neg v3, if_neg v4, if_neg v4, if_pos v5, K_from m hp120, bd_e]
    obtain ⟨d', d, gr, m1, m2, m3, m4, m5, m6, m7, m8, m9, m10⟩ := meas_rel (m := m) hm hR0
    rw [m1, bd_e, gd_e gp, gd_e gp, tn_n (by omega), mst_2, m2 p hp120]
    have b1 := m4 p hp120
    have b2 := m5 p hp120
    have b3 := m6 p hp120
    have b4 := m7 p hp120
    have e0 : (0 : Int32) ≤ zI (d' p) ↔ 0 ≤ d' p := zI_le (a := 0) ⟨by omega, by omega⟩ ⟨by omega, by omega⟩
    by_cases h0 : 0 ≤ d' p
    · rw [if_pos (e0.mpr h0), b4.2 (b4.1.mpr h0)]
      exact ⟨_, _, rfl, rfl, Or.inr ⟨d', rfl⟩⟩
    · rw [if_neg (fun z => h0 (e0.mp z)), show d p = -2 by rcases b1 with z | z; exact z; exact absurd (b4.1.mp z) h0]
      exact ⟨_, _, rfl, rfl, Or.inr ⟨d', rfl⟩⟩
  have hout : (if v < 0 then (0 : Int32) else if 5 < v then 0 else 1) = 0 := by
    by_cases q1 : v < 0
    · rw [if_pos q1]
    · obtain ⟨k, hk, rfl⟩ := nn_of q1
      rw [if_neg q1]
      by_cases q2 : 5 < k
      · rw [if_pos (show (5 : Int32) < nI k from (lt_n (a := 5) (by omega) (by omega)).mpr q2)]
      · exfalso
        rcases (show k = 0 ∨ k = 1 ∨ k = 2 ∨ k = 3 ∨ k = 4 ∨ k = 5 by omega) with rfl | rfl | rfl | rfl | rfl | rfl
        · exact v0 rfl
        · exact v1 rfl
        · exact v2 rfl
        · exact v3 rfl
        · exact v4 rfl
        · exact v5 rfl
  rw [hout, if_pos rfl, if_neg v0, if_neg v1, if_neg v2, if_neg v3, if_neg v4, if_neg v5]
  exact ⟨_, τ, rfl, rfl, Or.inl rfl⟩
