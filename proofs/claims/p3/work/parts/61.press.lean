/-! PURE: a key is pressed, on both sides (own work) -/
theorem K_dead2 {m : Nat} {σ τ : St} {h : Int} {w : Bool} (hh : R_h σ τ h w) : f_Hero_isDead m σ = some (bI (decide (h ≤ 0)), σ) := by
  obtain ⟨h1, h2, h3, _⟩ := hh
  rw [K_isDead, h3]
  have e : (0 : Int32) < zI h ↔ 0 < h := zI_lt (a := 0) (b := h) ⟨by omega, by omega⟩ ⟨by omega, by omega⟩
  by_cases q : 0 < h
  · simp [e.mpr q, show ¬ h ≤ 0 by omega]
  · have hn : ¬ (0 : Int32) < zI h := fun z => q (e.mp z)
    simp [hn, show h ≤ 0 by omega]
/-- the reference looks around -/
theorem know_rel {m : Nat} (hm : 130 ≤ m) {σ τ : St} {P N : Nat} {q : Nat → Nat} {h : Int} {w : Bool} {e hs L : Nat} (hR : RG σ τ P N q h w e hs L) :
    ∃ τ' : St, f_Model_know m τ = some ((), τ') ∧ RG σ τ' P N q h w e hs L ∧ KN σ τ' ∧ τ'.1 = τ.1 := by
  obtain ⟨hg, hp, hmm, ht, hk, hd, hb, hh, hz⟩ := hR
  refine ⟨_, M_know (by omega) hp.1 hp.2.2.1 hp.2.2.2.1, ⟨hg, hp, hmm, ht, fun p hpp => ⟨?_, ?_⟩, hd, hb, hh, hz⟩, fun p hpp => ?_, rfl⟩
  · show σ.2.2 3 p = (if sight (σ.2.2 1) P p = true then 1 else km_to (τ.2.2 0) (τ.2.2 3) P 120 p)
    rw [(hk p hpp).1]
    unfold km_to
    rw [← sight_congr hg.1]
    by_cases s : sight (σ.2.2 1) P p = true
    · rw [if_pos s, if_pos s]
    · rw [if_neg s, if_neg s, if_neg (fun y => s y.2)]
  · show km_to (τ.2.2 0) (τ.2.2 3) P 120 p = 0 ∨ km_to (τ.2.2 0) (τ.2.2 3) P 120 p = 1
    unfold km_to
    by_cases s : p < 120 ∧ sight (τ.2.2 0) P p = true
    · rw [if_pos s]; exact Or.inr rfl
    · rw [if_neg s]; exact (hk p hpp).2
  · show σ.2.2 3 p = km_to (τ.2.2 0) (τ.2.2 3) P 120 p
    rw [(hk p hpp).1]
    unfold km_to
    rw [← sight_congr hg.1]
    by_cases s : sight (σ.2.2 1) P p = true
    · rw [if_pos s, if_pos ⟨hpp, s⟩]
    · rw [if_neg s, if_neg (fun y => s y.2)]
theorem EB_N {σ : St} {N : Nat} {h : Int} (hE : EB σ N N h) (h1 : 1 ≤ h) : EB σ N 0 h := fun k hk => by
  obtain ⟨e, e1, e2, e3, _⟩ := hE k hk
  exact ⟨e, e1, e2, fun _ _ => e3 hk h1, fun _ => e3 hk h1⟩
theorem EB_c {σ σ' : St} {N i : Nat} {h h' : Int} (hE : EB σ N i h) (he : σ'.2.2 7 = σ.2.2 7) (h1 : 1 ≤ h) : EB σ' N i h' := fun k hk => by
  obtain ⟨e, e1, e2, e3, e4⟩ := hE k hk
  exact ⟨e, by rw [he]; exact e1, e2, fun z _ => e3 z h1, e4⟩
theorem st_dead {σ τ : St} {h : Int} {w : Bool} (hh : R_h σ τ h w) : (τ.1 9 = 1 ↔ h ≤ 0) ∧ (τ.1 9 = 0 ↔ (1 ≤ h ∧ w = false)) := by
  obtain ⟨h1, h2, h3, h4, h5, h6⟩ := hh
  rw [h6]
  by_cases q : h ≤ 0
  · rw [if_pos q]
    exact ⟨⟨fun _ => q, fun _ => rfl⟩, ⟨fun z => absurd z (by decide), fun z => by omega⟩⟩
  · rw [if_neg q]
    cases w with
    | true =>
      rw [if_pos rfl]
      exact ⟨⟨fun z => absurd z (by decide), fun z => absurd z q⟩, ⟨fun z => absurd z (by decide), fun z => absurd z.2 (by decide)⟩⟩
    | false =>
      rw [if_neg (by decide)]
      exact ⟨⟨fun z => absurd z (by decide), fun z => absurd z q⟩, ⟨fun _ => ⟨by omega, rfl⟩, fun _ => rfl⟩⟩
/-- an action is done: time passes -/
theorem done_rel {m : Nat} (hm : 130 ≤ m) {σ τ : St} {P N : Nat} {q : Nat → Nat} {h : Int} {e hs L : Nat} (hR : RG σ τ P N q h false e hs L) (h1 : 1 ≤ h) (he : 10 ≤ e ∧ e ≤ 29) (hE : EB σ N 0 h) {a : Int32} {c : Nat} (hc : c ≤ 1000) (ha : (a = 1 ∧ τ.1 11 = nI c) ∨ (a = 2 ∧ τ.1 11 = nI (c + 1))) :
    ∃ (b : Int32) (σ' τ' : St) (c' : Nat), f_Game_press_199 m a σ = some (b, σ') ∧ f_Model_does_117 m (nI c) 1 τ = some (b, τ') ∧ b ≠ -1 ∧ G σ' τ' c' ∧ c' ≤ c + 1 := by
  obtain ⟨σ1, τ1, q1, h', e', hs', a1, a2, a3, a4, a5, a6⟩ := pass_rel hm hR h1 he hE
  obtain ⟨τ2, b1, b2, b3, b4⟩ := know_rel (m := m) hm a3
  unfold f_Game_press_199 f_Game_press_203 f_Model_does_117
  rw [a1, bd_e, K_dead2 a3.2.2.2.2.2.2.2.1, bd_e, if_neg (show ¬ (1 : Int32) = 0 by decide), a2, bd_e, b1, bd_e]
  have hG : ∀ c' : Nat, τ2.1 11 = nI c' → G σ1 τ2 c' := fun c' hc' => ⟨P, N, q1, h', false, e', hs', L, b2, b3, fun z _ => ⟨a4, EB_N a5 z⟩, hc'⟩
  have st := st_dead b2.2.2.2.2.2.2.2.1
  have t11 : τ2.1 11 = τ.1 11 := by rw [b4, a6]
  have hle : ∀ c' : Nat, c' ≤ c + 1 → τ2.1 11 = nI c' → ∃ (b : Int32) (σ' τ' : St) (c' : Nat), (if bI (decide (h' ≤ 0)) = 0 then some (a, σ1) else some (3, σ1)) = some (b, σ') ∧ (if τ2.1 9 = 1 then some (3, τ2) else if τ2.1 11 ≤ nI c then some (1, τ2) else some (2, τ2)) = some (b, τ') ∧ b ≠ -1 ∧ G σ' τ' c' ∧ c' ≤ c + 1 := by
    intro c' hc' e11
    by_cases hd : h' ≤ 0
    · rw [if_neg (by simp [hd, bI]), if_pos (st.1.mpr hd)]
      exact ⟨3, σ1, τ2, c', rfl, rfl, by decide, hG c' e11, hc'⟩
    · rw [if_pos (by simp [hd, bI]), if_neg (fun z => hd (st.1.mp z))]
      rcases ha with ⟨rfl, z⟩ | ⟨rfl, z⟩
      · rw [if_pos (by rw [t11, z]; exact (le_n (by omega) (by omega)).mpr (Nat.le_refl _))]
        exact ⟨1, σ1, τ2, c', rfl, rfl, by decide, hG c' e11, hc'⟩
      · rw [if_neg (by rw [t11, z]; exact fun y => by have := (le_n (by omega) (by omega)).mp y; omega)]
        exact ⟨2, σ1, τ2, c', rfl, rfl, by decide, hG c' e11, hc'⟩
  rcases ha with ⟨x, z⟩ | ⟨x, z⟩
  · exact hle c (by omega) (by rw [t11, z])
  · exact hle (c + 1) (by omega) (by rw [t11, z])
def vk (c : Int32) : Prop := c = 46 ∨ c = 62 ∨ c = 97 ∨ c = 98 ∨ c = 99 ∨ c = 100 ∨ c = 103 ∨ c = 104 ∨ c = 106 ∨ c = 107 ∨ c = 108
theorem M_isKey_y {m : Nat} {c : Int32} (hc : vk c) (τ : St) : f_Model_isKey m c τ = some (1, τ) := by
  rcases hc with rfl | rfl | rfl | rfl | rfl | rfl | rfl | rfl | rfl | rfl | rfl <;> rfl
theorem M_isKey_n {m : Nat} {c : Int32} (hc : ¬ vk c) (τ : St) : f_Model_isKey m c τ = some (0, τ) := by
  unfold vk at hc
  simp only [not_or] at hc
  obtain ⟨h46, h62, h97, h98, h99, h100, h103, h104, h106, h107, h108⟩ := hc
  unfold f_Model_isKey f_Model_turn
  rw [if_neg h107, if_neg h108, if_neg h106, if_neg h104, bd_e, if_neg (by decide), if_neg h46, if_neg h103]
  unfold f_Model_in
  by_cases q1 : c < 97
  · rw [if_pos q1, bd_e, if_pos rfl, if_neg h62]
  · rw [if_neg q1]
    by_cases q2 : 100 < c
    · rw [if_pos q2, bd_e, if_pos rfl, if_neg h62]
    · exfalso
      have z := zI_of c
      have zs := zI_sm c
      rw [show (97 : Int32) = zI 97 from rfl, ← z, zI_lt zs ⟨by omega, by omega⟩] at q1
      rw [show (100 : Int32) = zI 100 from rfl, ← z, zI_lt ⟨by omega, by omega⟩ zs] at q2
      rcases (show c.toInt = 97 ∨ c.toInt = 98 ∨ c.toInt = 99 ∨ c.toInt = 100 by omega) with y | y | y | y
      · exact h97 (by rw [← z, y]; rfl)
      · exact h98 (by rw [← z, y]; rfl)
      · exact h99 (by rw [← z, y]; rfl)
      · exact h100 (by rw [← z, y]; rfl)
/-- down the stairs -/
theorem desc_rel {m : Nat} (hm : 130 ≤ m) {σ τ : St} {P N : Nat} {q : Nat → Nat} {h : Int} {e hs L : Nat} (hR : RG σ τ P N q h false e hs L) (hK : KN σ τ) (h1 : 1 ≤ h) (he : 10 ≤ e ∧ e ≤ 29) (hE : EB σ N 0 h) {c : Nat} (hc : τ.1 11 = nI c) :
    ∃ (b : Int32) (σ' τ' : St), f_Game_press_182 m 62 b σ' = some (b, σ') ∧ f_Game_descend m σ = some (b, σ') ∧ f_Model_does m 62 τ = some (b, τ') ∧ b ≠ -1 ∧ G σ' τ' c := by
  have hR0 := hR
  obtain ⟨hg, ⟨hP, p9, p2, p3, hgP⟩, hmm, ht, hkk, hd, hb, hh, hz⟩ := hR
  have hh0 := hh
  obtain ⟨g1, g2, g3, g4, g5, g6⟩ := hh
  obtain ⟨z1, z2, z3, z4, z5, ⟨ze, z6, z7⟩, ⟨zh, z8, z9⟩, ⟨l1, l2, l3, l4⟩⟩ := hz
  have dn : ∀ (b : Int32) (σ' τ' : St) (w : Bool), R_h σ' τ' h w → f_Game_press_182 m 62 b σ' = some (b, σ') := by
    intro b σ' τ' w hh'
    unfold f_Game_press_182 f_Game_press_203
    rw [if_pos rfl, K_dead2 hh', bd_e, if_pos (by simp [show ¬ h ≤ 0 by omega, bI])]
  have eK : f_Level_hasStairs m (nI P) σ = some (if σ.2.2 1 P = 2 then 1 else 0, σ) := by
    unfold f_Level_hasStairs
    rw [K_isCell m (by omega), bd_e, if_neg (by simp [hP, bI]), gd_e (inb_n hP (by omega)), tn_n (by omega)]
    by_cases s : σ.2.2 1 P = 2
    · rw [if_pos s, if_pos s]
    · rw [if_neg s, if_neg s]
  unfold f_Game_descend f_Model_does
  rw [p9, eK, bd_e, if_pos rfl, p2, p3, show (12 : Int32) * nI (P / 12) + nI (P % 12) = nI P from by rw [show (12 : Int32) = nI 12 from rfl, pk_mul, nI_add]; congr 1; omega, gd_e (inb_n hP (by omega)), tn_n (by omega), ← hg.1 P hP]
  by_cases s : σ.2.2 1 P = 2
  · rw [if_pos s, if_pos s, if_neg (by decide), l3, l4]
    by_cases l5 : L < 3
    · rw [if_pos (show nI L < 3 from (lt_n (b := 3) (by omega) (by omega)).mpr l5), if_neg (fun y => by have := (eq_n (b := 3) (by omega) (by omega)).mp y; omega), bnd_e, nI_1]
      generalize hσ0 : sI σ 2 (nI (L + 1)) = σ0
      have u1 : σ0.1 1 = σ.1 1 := by subst hσ0; rfl
      have u2 : σ0.1 2 = nI (L + 1) := by subst hσ0; rfl
      have u3 : ∀ k, k ≠ 2 → σ0.1 k = σ.1 k := fun k hk => by subst hσ0; exact if_neg hk
      have u4 : σ0.2 = σ.2 := by subst hσ0; rfl
      clear hσ0
      obtain ⟨σ1, σ2, τ2, P', N', q', E1, E2, E3, rg, rp, rm, rt, rk, kn, rd, en, x1, x2, x3, y1, y2, y3, y4, y5⟩ := level_rel hm (σ := σ0) (τ := τ) (d := L + 1) (by omega) (by rw [u1]; exact z1)
      rw [u2, E1, bd_e, E2, bd_e, bnd_e, E3, bd_e]
      have x1' : ∀ k, k ≠ 2 → k ≠ 6 → k ≠ 7 → k ≠ 8 → k ≠ 9 → σ2.1 k = σ.1 k := fun k k2 k6 k7 k8 k9 => by rw [x1 k k6 k7 k8 k9, u3 k k2]
      generalize hσ3 : sI σ2 12 10 = σ3
      have w1 : ∀ k, k ≠ 12 → σ3.1 k = σ2.1 k := fun k hk => by subst hσ3; exact if_neg hk
      have w2 : σ3.1 12 = nI 10 := by subst hσ3; rfl
      have w3 : σ3.2 = σ2.2 := by subst hσ3; rfl
      clear hσ3
      have rh : R_h σ3 τ2 h false := by
        refine ⟨g1, g2, ?_, ?_, ?_, ?_⟩
        · rw [w1 10 (by decide), x1' 10 (by decide) (by decide) (by decide) (by decide) (by decide)]; exact g3
        · rw [y3 4 (by decide) (by decide) (by decide) (by decide) (by decide)]; exact g4
        · rw [w1 5 (by decide), x1' 5 (by decide) (by decide) (by decide) (by decide) (by decide)]; exact g5
        · rw [y3 9 (by decide) (by decide) (by decide) (by decide) (by decide)]; exact g6
      refine ⟨1, σ3, τ2, dn 1 σ3 τ2 false rh, rfl, rfl, by decide, ⟨P', N', q', h, false, 10, hs, L + 1, ⟨?_, ?_, ?_, ?_, ?_, ?_, ?_, rh, ⟨?_, ?_, ?_, ?_, ?_, ⟨by omega, w2, y1⟩, ⟨zh, ?_, ?_⟩, ⟨by omega, by omega, ?_, y2⟩⟩⟩, ?_, fun _ _ => ⟨by omega, ?_⟩, ?_⟩⟩
      · unfold R_g; rw [w3]; exact rg
      · unfold R_p; rw [w3, w1 9 (by decide)]; exact rp
      · unfold R_m MO; rw [w3, w1 7 (by decide)]; exact rm
      · unfold R_t; rw [w3]; exact rt
      · unfold R_k; rw [w3]; exact rk
      · unfold R_d; rw [w3, w1 8 (by decide)]; exact rd
      · unfold R_b
        rw [w3, w1 14 (by decide), x1' 14 (by decide) (by decide) (by decide) (by decide) (by decide), y3 12 (by decide) (by decide) (by decide) (by decide) (by decide), x3, u4, y5]
        exact hb
      · rw [w1 1 (by decide), x1' 1 (by decide) (by decide) (by decide) (by decide) (by decide), y3 0 (by decide) (by decide) (by decide) (by decide) (by decide)]; exact z1
      · rw [w3, x2, u4, y4]; exact z2
      · rw [w1 11 (by decide), x1' 11 (by decide) (by decide) (by decide) (by decide) (by decide), y3 5 (by decide) (by decide) (by decide) (by decide) (by decide)]; exact z3
      · rw [w1 3 (by decide), x1' 3 (by decide) (by decide) (by decide) (by decide) (by decide), y3 10 (by decide) (by decide) (by decide) (by decide) (by decide)]; exact z4
      · rw [w1 4 (by decide), x1' 4 (by decide) (by decide) (by decide) (by decide) (by decide), y3 11 (by decide) (by decide) (by decide) (by decide) (by decide)]; exact z5
      · rw [w1 13 (by decide), x1' 13 (by decide) (by decide) (by decide) (by decide) (by decide)]; exact z8
      · rw [y3 7 (by decide) (by decide) (by decide) (by decide) (by decide)]; exact z9
      · rw [w1 2 (by decide), x1 2 (by decide) (by decide) (by decide) (by decide)]; exact u2
      · unfold KN; rw [w3]; exact kn
      · exact EB_0 (fun i hi => by rw [w3]; exact en i hi)
      · rw [y3 11 (by decide) (by decide) (by decide) (by decide) (by decide)]; exact hc
    · obtain rfl : L = 3 := by omega
      rw [if_neg (fun y : nI 3 < 3 => by have := (lt_n (b := 3) (by omega) (by omega)).mp y; omega), if_pos (show nI 3 = 3 from rfl), bnd_e, bnd_e]
      have rh : R_h (sI σ 5 1) (sI τ 9 2) h true := ⟨g1, g2, g3, g4, rfl, by rw [if_neg (by omega), if_pos rfl]; rfl⟩
      refine ⟨4, sI σ 5 1, sI τ 9 2, dn 4 _ _ true rh, rfl, rfl, by decide, ⟨P, N, q, h, true, e, hs, 3, ⟨hg, ⟨hP, p9, p2, p3, hgP⟩, hmm, ht, hkk, hd, hb, rh, ⟨z1, z2, z3, z4, z5, ⟨ze, z6, z7⟩, ⟨zh, z8, z9⟩, ⟨l1, l2, l3, l4⟩⟩⟩, hK, fun _ y => absurd y (by decide), hc⟩⟩
  · rw [if_neg s, if_neg s, if_pos rfl]
    exact ⟨0, σ, τ, dn 0 σ τ false hh0, rfl, rfl, by decide, ⟨P, N, q, h, false, e, hs, L, hR0, hK, fun _ _ => ⟨he, hE⟩, hc⟩⟩
/-- a key that is one, in a game that goes on -/
theorem press_rel {m : Nat} (hm : 130 ≤ m) {σ τ : St} {c : Nat} (hG : G σ τ c) (hc : c ≤ 1000) (hst : τ.1 9 = 0) {x : Int32} (hx : vk x) :
    ∃ (b : Int32) (σ' τ' : St) (c' : Nat), f_Game_press m x σ = some (b, σ') ∧ f_Model_does m x τ = some (b, τ') ∧ b ≠ -1 ∧ G σ' τ' c' ∧ c' ≤ c + 1 := by
  obtain ⟨P, N, q, h, w, e, hs, L, hR, hK, hal, h11⟩ := hG
  have hh := hR.2.2.2.2.2.2.2.1
  obtain ⟨h1, rfl⟩ := (st_dead hh).2.mp hst
  obtain ⟨he, hE⟩ := hal h1 rfl
  have hwon : σ.1 5 = 0 := hh.2.2.2.2.1
  have start : ∀ y : Int32, f_Game_press m y σ = (if y = 46 then (f_Game_press_182 m y 1 σ) else (if y = 62 then (bd (f_Game_descend m σ) (fun r8 σ9 => f_Game_press_182 m y r8 σ9)) else (if y = 97 then (bd (f_Game_useThing m (y - 97) σ) (fun r12 σ13 => f_Game_press_182 m y r12 σ13)) else (if y = 98 then (bd (f_Game_useThing m (y - 97) σ) (fun r16 σ17 => f_Game_press_182 m y r16 σ17)) else (if y = 99 then (bd (f_Game_useThing m (y - 97) σ) (fun r20 σ21 => f_Game_press_182 m y r20 σ21)) else (if y = 100 then (bd (f_Game_useThing m (y - 97) σ) (fun r24 σ25 => f_Game_press_182 m y r24 σ25)) else (if y = 103 then (bd (f_Game_pickUp m σ) (fun r28 σ29 => f_Game_press_182 m y r28 σ29)) else (if y = 104 then (bd (f_Game_walk m 3 σ) (fun r32 σ33 => f_Game_press_182 m y r32 σ33)) else (if y = 106 then (bd (f_Game_walk m 2 σ) (fun r36 σ37 => f_Game_press_182 m y r36 σ37)) else (if y = 107 then (bd (f_Game_walk m 0 σ) (fun r40 σ41 => f_Game_press_182 m y r40 σ41)) else (if y = 108 then (bd (f_Game_walk m 1 σ) (fun r44 σ45 => f_Game_press_182 m y r44 σ45)) else (f_Game_press_182 m y (-1) σ)))))))))))) := by
    intro y
    unfold f_Game_press
    rw [K_dead2 hh, bd_e, if_pos (by simp [show ¬ h ≤ 0 by omega, bI]), if_pos hwon]
  have no : ∀ y : Int32, ¬ y = 62 → f_Game_press_182 m y 0 σ = some (0, σ) := by
    intro y hy
    unfold f_Game_press_182 f_Game_press_203
    rw [if_neg hy, if_neg (by decide), if_neg (by decide), K_dead2 hh, bd_e, if_pos (by simp [show ¬ h ≤ 0 by omega, bI])]
  have yes : ∀ (y a : Int32) (σ' : St), ¬ y = 62 → (a = 1 ∨ a = 2) → f_Game_press_182 m y a σ' = f_Game_press_199 m a σ' := by
    intro y a σ' hy ha
    unfold f_Game_press_182
    rcases ha with rfl | rfl
    · rw [if_neg hy, if_pos rfl]
    · rw [if_neg hy, if_neg (by decide), if_pos rfl]
  have fin0 : ∃ (b : Int32) (σ' τ' : St) (c' : Nat), (some (0, σ) : Option (Int32 × St)) = some (b, σ') ∧ f_Model_does_117 m (nI c) 0 τ = some (b, τ') ∧ b ≠ -1 ∧ G σ' τ' c' ∧ c' ≤ c + 1 := by
    refine ⟨0, σ, τ, c, rfl, ?_, by decide, ⟨P, N, q, h, false, e, hs, L, hR, hK, fun _ _ => ⟨he, hE⟩, h11⟩, by omega⟩
    unfold f_Model_does_117
    rw [if_pos rfl]
  -- walking
  have walk : ∀ (y : Int32) (i : Nat), i < 4 → ¬ y = 62 → f_Model_turn m y τ = some (nI i, τ) → f_Game_press m y σ = bd (f_Game_walk m (nI i) σ) (fun r σ2 => f_Game_press_182 m y r σ2) → ∃ (b : Int32) (σ' τ' : St) (c' : Nat), f_Game_press m y σ = some (b, σ') ∧ f_Model_does m y τ = some (b, τ') ∧ b ≠ -1 ∧ G σ' τ' c' ∧ c' ≤ c + 1 := by
    intro y i hi hy hty hpy
    obtain ⟨a, b, σ1, τ1, w1, w2, w3⟩ := walk_rel (m := m) hm hR hK hi
    rw [hpy, w1, bd_e]
    unfold f_Model_does
    rw [if_neg hy, bnd_e, hty, bd_e, if_neg (lt0_n (by omega)), hty, bd_e, w2, bd_e, h11]
    rcases w3 with ⟨rfl, rfl, rfl, rfl⟩ | ⟨rfl, ⟨P', hR'⟩, hen, ha⟩
    · rw [no y hy]; exact fin0
    · rw [yes y a σ1 hy (by rcases ha with z | z; exact Or.inl z.1; exact Or.inr z.1)]
      refine done_rel hm hR' h1 he (EB_c hE hen h1) hc ?_
      rcases ha with ⟨z1, z2⟩ | ⟨z1, z2⟩
      · exact Or.inl ⟨z1, by rw [z2, h11]⟩
      · exact Or.inr ⟨z1, by rw [z2, h11, nI_1]⟩
  -- using
  have use : ∀ (y : Int32) (k : Nat), k < 4 → ¬ y = 62 → ¬ y = 46 → ¬ y = 103 → f_Model_turn m y τ = some (-1, τ) → y - 97 = nI k → f_Game_press m y σ = bd (f_Game_useThing m (y - 97) σ) (fun r σ2 => f_Game_press_182 m y r σ2) → ∃ (b : Int32) (σ' τ' : St) (c' : Nat), f_Game_press m y σ = some (b, σ') ∧ f_Model_does m y τ = some (b, τ') ∧ b ≠ -1 ∧ G σ' τ' c' ∧ c' ≤ c + 1 := by
    intro y k hk hy hy46 hy103 hty hyk hpy
    obtain ⟨a, σ1, τ1, w1, w2, w3⟩ := use_rel (m := m) hm hR hK hk h1
    rw [hpy, hyk, w1, bd_e]
    unfold f_Model_does f_Model_does_116 f_Model_does_112
    rw [if_neg hy, bnd_e, hty, bd_e, if_pos (by decide), if_neg hy46, if_neg hy103, hyk, w2, bd_e, h11]
    rcases w3 with ⟨rfl, rfl, rfl⟩ | ⟨rfl, ⟨P', h', hs', hR', h1'⟩, hen, h11'⟩
    · rw [no y hy, if_pos rfl]; exact fin0
    · rw [yes y 1 σ1 hy (Or.inl rfl), if_neg (by decide)]
      exact done_rel hm hR' h1' he (EB_c hE hen h1) hc (Or.inl ⟨rfl, by rw [h11', h11]⟩)
  rcases hx with rfl | rfl | rfl | rfl | rfl | rfl | rfl | rfl | rfl | rfl | rfl
  · rw [start, if_pos rfl, yes 46 1 σ (by decide) (Or.inl rfl)]
    unfold f_Model_does f_Model_turn f_Model_does_112
    rw [if_neg (by decide), bnd_e, if_neg (by decide), if_neg (by decide), if_neg (by decide), if_neg (by decide), bd_e, if_pos (by decide), if_pos rfl, h11]
    exact done_rel hm hR h1 he hE hc (Or.inl ⟨rfl, h11⟩)
  · obtain ⟨b, σ1, τ1, d1, d2, d3, d4, d5⟩ := desc_rel (m := m) hm hR hK h1 he hE h11
    rw [start, if_neg (by decide), if_pos rfl, d2, bd_e, d1]
    exact ⟨b, σ1, τ1, c, rfl, d3, d4, d5, by omega⟩
  · exact use 97 0 (by omega) (by decide) (by decide) (by decide) rfl rfl (by rw [start, if_neg (by decide), if_neg (by decide), if_pos rfl])
  · exact use 98 1 (by omega) (by decide) (by decide) (by decide) rfl rfl (by rw [start, if_neg (by decide), if_neg (by decide), if_neg (by decide), if_pos rfl])
  · exact use 99 2 (by omega) (by decide) (by decide) (by decide) rfl rfl (by rw [start, if_neg (by decide), if_neg (by decide), if_neg (by decide), if_neg (by decide), if_pos rfl])
  · exact use 100 3 (by omega) (by decide) (by decide) (by decide) rfl rfl (by rw [start, if_neg (by decide), if_neg (by decide), if_neg (by decide), if_neg (by decide), if_neg (by decide), if_pos rfl])
  · rw [start, if_neg (by decide), if_neg (by decide), if_neg (by decide), if_neg (by decide), if_neg (by decide), if_neg (by decide), if_pos rfl]
    obtain ⟨a, σ1, τ1, w1, w2, w3⟩ := pick_rel (m := m) hR
    rw [w1, bd_e]
    unfold f_Model_does f_Model_turn f_Model_does_116 f_Model_does_112
    rw [if_neg (by decide), bnd_e, if_neg (by decide), if_neg (by decide), if_neg (by decide), if_neg (by decide), bd_e, if_pos (by decide), if_neg (by decide), if_pos rfl, w2, bd_e, h11]
    rcases w3 with ⟨rfl, rfl, rfl⟩ | ⟨rfl, hR', hen, h11', _, _⟩
    · rw [no 103 (by decide), if_pos rfl]; exact fin0
    · rw [yes 103 1 σ1 (by decide) (Or.inl rfl), if_neg (by decide)]
      exact done_rel hm hR' h1 he (EB_c hE hen h1) hc (Or.inl ⟨rfl, by rw [h11', h11]⟩)
  · exact walk 104 3 (by omega) (by decide) rfl (by rw [start, if_neg (by decide), if_neg (by decide), if_neg (by decide), if_neg (by decide), if_neg (by decide), if_neg (by decide), if_neg (by decide), if_pos rfl]; rfl)
  · exact walk 106 2 (by omega) (by decide) rfl (by rw [start, if_neg (by decide), if_neg (by decide), if_neg (by decide), if_neg (by decide), if_neg (by decide), if_neg (by decide), if_neg (by decide), if_neg (by decide), if_pos rfl]; rfl)
  · exact walk 107 0 (by omega) (by decide) rfl (by rw [start, if_neg (by decide), if_neg (by decide), if_neg (by decide), if_neg (by decide), if_neg (by decide), if_neg (by decide), if_neg (by decide), if_neg (by decide), if_neg (by decide), if_pos rfl]; rfl)
  · exact walk 108 1 (by omega) (by decide) rfl (by rw [start, if_neg (by decide), if_neg (by decide), if_neg (by decide), if_neg (by decide), if_neg (by decide), if_neg (by decide), if_neg (by decide), if_neg (by decide), if_neg (by decide), if_neg (by decide), if_pos rfl]; rfl)
/-- a key that is refused changes nothing -/
theorem press_no {m : Nat} {σ τ : St} {c : Nat} (hG : G σ τ c) {x : Int32} (hx : ¬ vk x ∨ ¬ τ.1 9 = 0) : f_Game_press m x σ = some (-1, σ) := by
  obtain ⟨P, N, q, h, w, e, hs, L, hR, hK, hal, h11⟩ := hG
  have hh := hR.2.2.2.2.2.2.2.1
  unfold f_Game_press
  rw [K_dead2 hh, bd_e]
  by_cases hd : h ≤ 0
  · rw [if_neg (by simp [hd, bI])]
  · rw [if_pos (by simp [hd, bI])]
    cases w with
    | true => rw [if_neg (by rw [hh.2.2.2.2.1]; decide)]
    | false =>
      rw [if_pos (show σ.1 5 = 0 from hh.2.2.2.2.1)]
      rcases hx with hx | hx
      · unfold vk at hx
        simp only [not_or] at hx
        obtain ⟨h46, h62, h97, h98, h99, h100, h103, h104, h106, h107, h108⟩ := hx
        rw [if_neg h46, if_neg h62, if_neg h97, if_neg h98, if_neg h99, if_neg h100, if_neg h103, if_neg h104, if_neg h106, if_neg h107, if_neg h108]
        unfold f_Game_press_182 f_Game_press_203
        rw [if_neg h62, if_neg (by decide), if_neg (by decide), K_dead2 hh, bd_e, if_pos (by simp [hd, bI])]
      · exact absurd ((st_dead hh).2.mpr ⟨by omega, rfl⟩) hx
