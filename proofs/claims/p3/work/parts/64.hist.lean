/-! PURE: keys are recorded, and come back (own work) -/
def kfr (c : Int32) (A : Nat → Int32) (s : Int32) (σ : St) : Prop := σ.1 0 = c ∧ σ.2.2 0 = A ∧ σ.1 1 = s
def mfr (c : Int32) (A : Nat → Int32) (s : Int32) (τ : St) : Prop := τ.1 13 = c ∧ τ.2.2 16 = A ∧ τ.1 0 = s
theorem kfr_cl (c : Int32) (A : Nat → Int32) (s : Int32) : ClK (kfr c A s) :=
  ⟨fun _ _ _ h0 h1 h => ⟨(pk_un (fun e => h0 e.symm)).trans h.1, h.2.1, (pk_un (fun e => h1 e.symm)).trans h.2.2⟩, fun _ _ _ h => h, fun _ _ _ _ h0 h => ⟨h.1, (if_neg (fun e => h0 e.symm)).trans h.2.1, h.2.2⟩⟩
theorem mfr_cl (c : Int32) (A : Nat → Int32) (s : Int32) : ClM (mfr c A s) :=
  ⟨fun _ _ _ h0 h1 h => ⟨(pk_un (fun e => h1 e.symm)).trans h.1, h.2.1, (pk_un (fun e => h0 e.symm)).trans h.2.2⟩, fun _ _ _ h => h, fun _ _ _ _ h0 h => ⟨h.1, (if_neg (fun e => h0 e.symm)).trans h.2.1, h.2.2⟩⟩
theorem G_recM {σ τ : St} {w : Nat} (i : Nat) (x v : Int32) (h : G σ τ w) : G σ (sI (sA τ 16 i x) 13 v) w := h
theorem G_recK {σ τ : St} {w : Nat} (i : Nat) (x v : Int32) (h : G σ τ w) : G (sI (sA σ 0 i x) 0 v) τ w := h
theorem G_endK {σ τ : St} {w : Nat} (v : Int32) (h : G σ τ w) : G (sI σ 0 v) τ w := h
theorem G_endM {σ τ : St} {w : Nat} (v : Int32) (h : G σ τ w) : G σ (sI τ 13 v) w := h
theorem bI_inj {a b : Bool} (h : bI a = bI b) : a = b := by cases a <;> cases b <;> first | rfl | exact absurd h (by decide)
theorem G_alive {σ τ τ' : St} {a b : Nat} (h1 : G σ τ a) (h2 : G σ τ' b) (hs : τ.1 9 = 0) : τ'.1 9 = 0 := by
  obtain ⟨P, N, q, h, w, e, hs1, L, hR, _⟩ := h1
  obtain ⟨P', N', q', h', w', e', hs', L', hR', _⟩ := h2
  have g1 := hR.2.2.2.2.2.2.2.1
  have g2 := hR'.2.2.2.2.2.2.2.1
  obtain ⟨y1, y2⟩ := (st_dead g1).2.mp hs
  have e1 : h = h' := (zI_eq ⟨by have := g1.1; omega, by have := g1.2.1; omega⟩ ⟨by have := g2.1; omega, by have := g2.2.1; omega⟩).mp (g1.2.2.1.symm.trans g2.2.2.1)
  have e2 : w = w' := bI_inj (g1.2.2.2.2.1.symm.trans g2.2.2.2.2.1)
  exact (st_dead g2).2.mpr ⟨by omega, by rw [← e2]; exact y2⟩
/-- the invariant: c keys are recorded; T is how the reference went through them, from r on -/
def IV (m : Nat) (r : St) (sd : Int32) (σ τ : St) (c : Nat) (T : Nat → St) : Prop :=
  σ.1 0 = nI c ∧ τ.1 13 = nI c ∧ (∀ k, k < c → σ.2.2 0 k = τ.2.2 16 k) ∧ σ.1 1 = sd ∧ τ.1 0 = sd ∧ r.1 0 = sd ∧
  (∃ w, w ≤ c ∧ G σ τ w) ∧ (∃ w, w ≤ c ∧ G σ (T c) w) ∧ f_Model_begin m r = some ((), T 0) ∧
  ∀ k, k < c → (T k).1 9 = 0 ∧ vk (σ.2.2 0 k) ∧ ∃ a, f_Model_does m (σ.2.2 0 k) (T k) = some (a, T (k + 1))
theorem key_rel {m : Nat} (hm : 130 ≤ m) {r : St} {sd : Int32} {σ τ : St} {c : Nat} {T : Nat → St} (hI : IV m r sd σ τ c T) (hc : c < 512) (x : Int32) :
    ∃ (a : Int32) (σ' τ' : St) (c' : Nat) (T' : Nat → St), f_Desk_key m x σ = some (a, σ') ∧ f_Model_key m x τ = some (a, τ') ∧ IV m r sd σ' τ' c' T' ∧ c' ≤ c + 1 := by
  have hI0 := hI
  obtain ⟨i1, i2, i3, i4, i5, i6, ⟨w1, hw1, G1⟩, ⟨w2, hw2, G2⟩, i9, i10⟩ := hI
  unfold f_Desk_key f_Model_key
  rw [i1, if_pos (show nI c < 512 from (lt_n (b := 512) (by omega) (by omega)).mpr hc)]
  by_cases hv : vk x
  · rw [M_isKey_y hv, bd_e, if_neg (by decide)]
    by_cases hs : τ.1 9 = 0
    · rw [if_pos hs, i2, gd_e (inb_n (show c < 520 by omega) (by omega)), bnd_e, bnd_e, tn_n (by omega), show (sA τ 16 c x).1 13 = nI c from i2, nI_1]
      obtain ⟨b, σ1, τ1, c1, p1, p2, p3, p4, p5⟩ := press_rel hm (G_recM c x (nI (c + 1)) G1) (by omega) (show (sI (sA τ 16 c x) 13 (nI (c + 1))).1 9 = 0 from hs) hv
      obtain ⟨b', σ1', T1, c2, r1, r2, r3, r4, r5⟩ := press_rel hm G2 (by omega) (G_alive G1 G2 hs) hv
      have fk : kfr (nI c) (σ.2.2 0) sd σ1 := (pr_Game_press (kfr_cl _ _ _) m x σ ⟨i1, rfl, i4⟩).1 _ _ p1
      have fm : mfr (nI (c + 1)) (upd (τ.2.2 16) c x) sd τ1 := (pr_Model_does (mfr_cl (nI (c + 1)) (upd (τ.2.2 16) c x) sd) m x (sI (sA τ 16 c x) 13 (nI (c + 1))) ⟨rfl, rfl, i5⟩).1 _ _ p2
      obtain ⟨rfl, rfl⟩ : b' = b ∧ σ1' = σ1 := by
        have z := r1.symm.trans p1
        injection z with z
        injection z with z1 z2
        exact ⟨z1, z2⟩
      rw [p1, bd_e, if_neg p3, fk.1, gd_e (inb_n hc (by omega)), bnd_e, bnd_e, tn_n (by omega), show (sA σ1' 0 c x).1 0 = nI c from fk.1, nI_1, p2, bd_e]
      refine ⟨b', _, τ1, c + 1, ud T (c + 1) T1, rfl, rfl, ⟨rfl, fm.1, fun k hk => ?_, fk.2.2, fm.2.2, i6, ⟨c1, by omega, G_recK c x (nI (c + 1)) p4⟩, ⟨c2, by omega, by rw [ud_s]; exact G_recK c x (nI (c + 1)) r4⟩, by rw [ud_n _ _ (by omega)]; exact i9, fun k hk => ?_⟩, by omega⟩
      · show upd (σ1'.2.2 0) c x k = τ1.2.2 16 k
        rw [fk.2.1, fm.2.1]
        by_cases e : k = c
        · rw [e, pk_us, pk_us]
        · rw [pk_un e, pk_un e]; exact i3 k (by omega)
      · rw [ud_n _ _ (show k ≠ c + 1 by omega)]
        show (T k).1 9 = 0 ∧ vk (upd (σ1'.2.2 0) c x k) ∧ ∃ a, f_Model_does m (upd (σ1'.2.2 0) c x k) (T k) = some (a, ud T (c + 1) T1 (k + 1))
        rw [fk.2.1]
        by_cases e : k = c
        · rw [e, pk_us, ud_s]
          exact ⟨G_alive G1 G2 hs, hv, _, r2⟩
        · rw [pk_un e, ud_n _ _ (show k + 1 ≠ c + 1 by omega)]
          exact i10 k (by omega)
    · rw [if_neg hs, press_no G1 (Or.inr hs), bd_e, if_pos rfl]
      exact ⟨_, σ, τ, c, T, rfl, rfl, hI0, by omega⟩
  · rw [M_isKey_n hv, bd_e, if_pos rfl, press_no G1 (Or.inl hv), bd_e, if_pos rfl]
    exact ⟨_, σ, τ, c, T, rfl, rfl, hI0, by omega⟩
theorem M_in_g (m : Nat) (x a b : Int32) (τ : St) : f_Model_in m x a b τ = some (if x < a then 0 else if b < x then 0 else 1, τ) := by
  unfold f_Model_in
  by_cases h1 : x < a
  · rw [if_pos h1, if_pos h1]
  · rw [if_neg h1, if_neg h1]
    by_cases h2 : b < x
    · rw [if_pos h2, if_pos h2]
    · rw [if_neg h2, if_neg h2]
theorem nn_of {x : Int32} (h : ¬ x < 0) : ∃ n : Nat, n < 2147483648 ∧ x = nI n := by
  have z := zI_of x
  have zs := zI_sm x
  have h0 : 0 ≤ x.toInt := by
    rw [← z, show (0 : Int32) = zI 0 from rfl, zI_lt zs ⟨by omega, by omega⟩] at h
    omega
  have := zs.2
  refine ⟨x.toInt.toNat, by omega, ?_⟩
  rw [zI_nat, show ((x.toInt.toNat : Nat) : Int) = x.toInt by omega]
  exact z.symm
/-- the keys come again -/
theorem rew_loop {m : Nat} (hm : 130 ≤ m) {sd : Int32} {c n : Nat} {T : Nat → St} {A B : Nat → Int32} {cc : Int32} (hn : n ≤ c) (hc : c ≤ 512) (hAB : ∀ k, k < c → A k = B k) (hT : ∀ k, k < c → (T k).1 9 = 0 ∧ vk (A k) ∧ ∃ a, f_Model_does m (A k) (T k) = some (a, T (k + 1))) :
    ∀ (r k j j' : Nat) (σ τ : St), k + r = n → r < j → r < j' → kfr cc A sd σ → mfr 0 B sd τ → (∃ w, w ≤ k ∧ G σ τ w) → (∃ w, w ≤ k ∧ G σ (T k) w) →
      ∃ (a : Int32) (σ' τ' : St), f_Desk_rewind_23 m j (nI n) (nI k) σ = some (a, σ') ∧ f_Model_rewind_20 m j' (nI n) (nI k) τ = some (a, τ') ∧ kfr (nI n) A sd σ' ∧ mfr (nI n) B sd τ' ∧ (∃ w, w ≤ n ∧ G σ' τ' w) ∧ (∃ w, w ≤ n ∧ G σ' (T n) w) := by
  intro r
  induction r with
  | zero =>
    intro k j j' σ τ hk hj hj' fk fm h1 h2
    obtain ⟨j, rfl⟩ : ∃ z, j = z + 1 := ⟨j - 1, by omega⟩
    obtain ⟨j', rfl⟩ : ∃ z, j' = z + 1 := ⟨j' - 1, by omega⟩
    obtain rfl : k = n := by omega
    obtain ⟨w1, hw1, G1⟩ := h1
    obtain ⟨w2, hw2, G2⟩ := h2
    have hnn : nI k ≤ nI k := (le_n (by omega) (by omega)).mpr (Nat.le_refl _)
    rw [f_Desk_rewind_23_s, if_pos hnn, f_Model_rewind_20_s, if_pos hnn, bnd_e, bnd_e]
    have e310 : σ.1 3 = τ.1 10 := by
      obtain ⟨P, N, q, h, w, e, hs, L, hR, _⟩ := G1
      exact hR.2.2.2.2.2.2.2.2.2.2.2.1
    refine ⟨σ.1 3, sI σ 0 (nI k), sI τ 13 (nI k), rfl, ?_, ⟨rfl, fk.2.1, fk.2.2⟩, ⟨rfl, fm.2.1, fm.2.2⟩, ⟨w1, hw1, G_endM _ (G_endK _ G1)⟩, ⟨w2, hw2, G_endK _ G2⟩⟩
    rw [e310]; rfl
  | succ r ih =>
    intro k j j' σ τ hk hj hj' fk fm h1 h2
    obtain ⟨j, rfl⟩ : ∃ z, j = z + 1 := ⟨j - 1, by omega⟩
    obtain ⟨j', rfl⟩ : ∃ z, j' = z + 1 := ⟨j' - 1, by omega⟩
    obtain ⟨w1, hw1, G1⟩ := h1
    obtain ⟨w2, hw2, G2⟩ := h2
    have hnn : ¬ nI n ≤ nI k := fun y => by have := (le_n (by omega) (by omega)).mp y; omega
    obtain ⟨t1, t2, a, t3⟩ := hT k (by omega)
    rw [f_Desk_rewind_23_s, if_neg hnn, f_Model_rewind_20_s, if_neg hnn, gd_e (inb_n (show k < 512 by omega) (by omega)), gd_e (inb_n (show k < 520 by omega) (by omega)), tn_n (by omega), fk.2.1, fm.2.1, ← hAB k (by omega)]
    obtain ⟨b, σ1, τ1, c1, p1, p2, p3, p4, p5⟩ := press_rel hm G1 (by omega) (G_alive G2 G1 t1) t2
    obtain ⟨b', σ1', T1, c2, r1, r2, r3, r4, r5⟩ := press_rel hm G2 (by omega) t1 t2
    have fk1 : kfr cc A sd σ1 := (pr_Game_press (kfr_cl _ _ _) m _ σ fk).1 _ _ p1
    have fm1 : mfr 0 B sd τ1 := (pr_Model_does (mfr_cl _ _ _) m _ τ fm).1 _ _ p2
    obtain ⟨rfl, rfl⟩ : b' = b ∧ σ1' = σ1 := by
      have z := r1.symm.trans p1
      injection z with z
      injection z with z1 z2
      exact ⟨z1, z2⟩
    have eT : T1 = T (k + 1) := by
      have z := r2.symm.trans t3
      injection z with z
      injection z with z1 z2
    rw [p1, bd_e, bnd_e, p2, bd_e, bnd_e, nI_1]
    exact ih (k + 1) j j' σ1' τ1 (by omega) (by omega) (by omega) fk1 fm1 ⟨c1, by omega, p4⟩ ⟨c2, by omega, by rw [← eT]; exact r4⟩
theorem rewind_rel {m : Nat} (hm : 600 ≤ m) {r : St} {sd : Int32} {σ τ : St} {c : Nat} {T : Nat → St} (hI : IV m r sd σ τ c T) (hc : c ≤ 512) (x : Int32) :
    ∃ (a : Int32) (σ' τ' : St) (c' : Nat), f_Desk_rewind m x σ = some (a, σ') ∧ f_Model_rewind m x τ = some (a, τ') ∧ IV m r sd σ' τ' c' T ∧ c' ≤ c := by
  have hI0 := hI
  obtain ⟨i1, i2, i3, i4, i5, i6, ⟨w1, hw1, G1⟩, ⟨w2, hw2, G2⟩, i9, i10⟩ := hI
  unfold f_Desk_rewind f_Model_rewind
  rw [i1, i2, M_in_g, bd_e]
  by_cases hx : x < 0
  · rw [if_pos hx, if_pos hx, if_pos rfl]
    exact ⟨_, σ, τ, c, rfl, rfl, hI0, by omega⟩
  · obtain ⟨n, hn, rfl⟩ := nn_of hx
    rw [if_neg hx, if_neg hx]
    by_cases hnc : n ≤ c
    · rw [if_pos ((le_n (by omega) (by omega)).mpr hnc), if_neg (show ¬ nI c < nI n from fun y => by have := (lt_n (by omega) (by omega)).mp y; omega), if_neg (by decide)]
      obtain ⟨σ0, τ0, b1, b2, b3, b4⟩ := begin_rel (m := m) (by omega) (show σ.1 1 = τ.1 0 by rw [i4, i5])
      obtain ⟨σ0', T0, d1, d2, d3, d4⟩ := begin_rel (m := m) (by omega) (show σ.1 1 = r.1 0 by rw [i4, i6])
      obtain rfl : σ0' = σ0 := by
        have z := d1.symm.trans b1
        injection z with z
        injection z with z1 z2
      have eT : T0 = T 0 := by
        have z := d2.symm.trans i9
        injection z with z
        injection z with z1 z2
      have fk : kfr (nI c) (σ.2.2 0) sd σ0' := (pr_Game_begin (kfr_cl _ _ _) m σ ⟨i1, rfl, i4⟩).1 _ _ b1
      have fm : mfr 0 (τ.2.2 16) sd τ0 := by
        have z := b2
        unfold f_Model_begin at z
        simp only [bnd_e] at z
        have y := pr_Model_build (mfr_cl 0 (τ.2.2 16) sd) m 1 (sI (sI (sI (sI (sI (sI (sI (sI (sL τ 1 (Int32.toInt64 (τ.1 0))) 4 10) 5 1) 7 0) 12 0) 9 0) 10 0) 11 0) 13 0) ⟨rfl, rfl, i5⟩
        exact (pr_bd y (fun _ _ h => pr_some h)).1 _ _ z
      rw [b1, bd_e, b2, bd_e]
      obtain ⟨a, σ', τ', e1, e2, e3, e4, e5, e6⟩ := rew_loop (m := m) (by omega) (sd := sd) (c := c) (n := n) (T := T) (A := σ.2.2 0) (B := τ.2.2 16) (cc := nI c) hnc hc i3 i10 n 0 m m σ0' τ0 (by omega) (by omega) (by omega) fk fm ⟨0, by omega, b3⟩ ⟨0, by omega, by rw [← eT]; exact d3⟩
      rw [show f_Desk_rewind_23 m m (nI n) 0 σ0' = _ from e1, show f_Model_rewind_20 m m (nI n) 0 τ0 = _ from e2]
      refine ⟨a, σ', τ', n, rfl, rfl, ⟨e3.1, e4.1, fun k hk => ?_, e3.2.2, e4.2.2, i6, e5, e6, i9, fun k hk => ?_⟩, hnc⟩
      · rw [e3.2.1, e4.2.1]; exact i3 k (by omega)
      · rw [e3.2.1]; exact i10 k (by omega)
    · rw [if_neg (fun y => hnc ((le_n (by omega) (by omega)).mp y)), if_pos ((lt_n (by omega) (by omega)).mpr (show c < n by omega)), if_pos rfl]
      exact ⟨_, σ, τ, c, rfl, rfl, hI0, by omega⟩
