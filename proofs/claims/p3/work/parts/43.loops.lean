/-! PURE: loops over arrays (own work) -/
def sB (σ : St) (k : Nat) (f : Nat → Int32) : St := (σ.1, σ.2.1, fun j => if j = k then f else σ.2.2 j)
theorem sB_1 (σ : St) (k : Nat) (f : Nat → Int32) : (sB σ k f).1 = σ.1 := rfl
theorem sB_21 (σ : St) (k : Nat) (f : Nat → Int32) : (sB σ k f).2.1 = σ.2.1 := rfl
theorem sB_22 (σ : St) (k : Nat) (f : Nat → Int32) (j : Nat) : (sB σ k f).2.2 j = if j = k then f else σ.2.2 j := rfl
theorem sB_self (σ : St) (k : Nat) : sB σ k (σ.2.2 k) = σ := by
  unfold sB
  congr 2
  funext j
  by_cases h : j = k
  · rw [if_pos h, h]
  · rw [if_neg h]
theorem sB_sA (σ : St) (k i : Nat) (f : Nat → Int32) (v : Int32) : sA (sB σ k f) k i v = sB σ k (upd f i v) := by
  unfold sA sB
  congr 2
  funext j
  by_cases h : j = k
  · simp [h]
  · simp [h]
theorem sB_sB (σ : St) (k : Nat) (f g : Nat → Int32) : sB (sB σ k f) k g = sB σ k g := by
  unfold sB
  congr 2
  funext j
  by_cases h : j = k
  · simp [h]
  · simp [h]
theorem sA_sB (σ : St) (k i : Nat) (v : Int32) : sA σ k i v = sB σ k (upd (σ.2.2 k) i v) := rfl
theorem n120 {c : Nat} (h : c < 120) : ¬ (120 : Int32) ≤ nI c := fun q => by have := (le_n (a := 120) (b := c) (by omega) (by omega)).mp q; omega
theorem y120 : (120 : Int32) ≤ nI 120 := (le_n (a := 120) (b := 120) (by omega) (by omega)).mpr (Nat.le_refl _)
/-- an array filled up to c -/
def fl_to (v : Int32) (a : Nat → Int32) (c : Nat) : Nat → Int32 := fun p => if p < c then v else a p
theorem fl_0 (v : Int32) (a : Nat → Int32) : fl_to v a 0 = a := by
  funext p
  simp [fl_to]
theorem fl_s (v : Int32) (a : Nat → Int32) (c : Nat) : upd (fl_to v a c) c v = fl_to v a (c + 1) := by
  funext p
  unfold upd fl_to
  by_cases h : p = c
  · rw [if_pos h, if_pos (by omega)]
  · rw [if_neg h]
    by_cases h2 : p < c
    · rw [if_pos h2, if_pos (by omega)]
    · rw [if_neg h2, if_neg (by omega)]
theorem K_fill_ground_loop (m : Nat) (v : Int32) (σ : St) : ∀ (r c j : Nat), c + r = 120 → r < j → f_Arrays_fill_ground_5 m j v (nI c) 120 (sB σ 1 (fl_to v (σ.2.2 1) c)) = some ((), sB σ 1 (fl_to v (σ.2.2 1) 120)) := by
  intro r
  induction r with
  | zero =>
    intro c j hc hj
    obtain ⟨j, rfl⟩ : ∃ z, j = z + 1 := ⟨j - 1, by omega⟩
    obtain rfl : c = 120 := by omega
    rw [f_Arrays_fill_ground_5_s, if_pos y120]
  | succ r ih =>
    intro c j hc hj
    obtain ⟨j, rfl⟩ : ∃ z, j = z + 1 := ⟨j - 1, by omega⟩
    rw [f_Arrays_fill_ground_5_s, if_neg (n120 (by omega)), gd_e (inb_n (by omega) (by omega)), bnd_e, bnd_e, tn_n (by omega), sB_sA, fl_s, nI_1]
    exact ih (c + 1) j (by omega) (by omega)
theorem K_fill_ground {m : Nat} (hm : 121 ≤ m) (v : Int32) (σ : St) : f_Arrays_fill_ground m v σ = some ((), sB σ 1 (fl_to v (σ.2.2 1) 120)) := by
  have h := K_fill_ground_loop m v σ 120 0 m (by omega) (by omega)
  rw [fl_0, sB_self] at h
  exact h
theorem K_fill_things_loop (m : Nat) (v : Int32) (σ : St) : ∀ (r c j : Nat), c + r = 120 → r < j → f_Arrays_fill_things_5 m j v (nI c) 120 (sB σ 2 (fl_to v (σ.2.2 2) c)) = some ((), sB σ 2 (fl_to v (σ.2.2 2) 120)) := by
  intro r
  induction r with
  | zero =>
    intro c j hc hj
    obtain ⟨j, rfl⟩ : ∃ z, j = z + 1 := ⟨j - 1, by omega⟩
    obtain rfl : c = 120 := by omega
    rw [f_Arrays_fill_things_5_s, if_pos y120]
  | succ r ih =>
    intro c j hc hj
    obtain ⟨j, rfl⟩ : ∃ z, j = z + 1 := ⟨j - 1, by omega⟩
    rw [f_Arrays_fill_things_5_s, if_neg (n120 (by omega)), gd_e (inb_n (by omega) (by omega)), bnd_e, bnd_e, tn_n (by omega), sB_sA, fl_s, nI_1]
    exact ih (c + 1) j (by omega) (by omega)
theorem K_fill_things {m : Nat} (hm : 121 ≤ m) (v : Int32) (σ : St) : f_Arrays_fill_things m v σ = some ((), sB σ 2 (fl_to v (σ.2.2 2) 120)) := by
  have h := K_fill_things_loop m v σ 120 0 m (by omega) (by omega)
  rw [fl_0, sB_self] at h
  exact h
theorem K_fill_known_loop (m : Nat) (v : Int32) (σ : St) : ∀ (r c j : Nat), c + r = 120 → r < j → f_Arrays_fill_known_5 m j v (nI c) 120 (sB σ 3 (fl_to v (σ.2.2 3) c)) = some ((), sB σ 3 (fl_to v (σ.2.2 3) 120)) := by
  intro r
  induction r with
  | zero =>
    intro c j hc hj
    obtain ⟨j, rfl⟩ : ∃ z, j = z + 1 := ⟨j - 1, by omega⟩
    obtain rfl : c = 120 := by omega
    rw [f_Arrays_fill_known_5_s, if_pos y120]
  | succ r ih =>
    intro c j hc hj
    obtain ⟨j, rfl⟩ : ∃ z, j = z + 1 := ⟨j - 1, by omega⟩
    rw [f_Arrays_fill_known_5_s, if_neg (n120 (by omega)), gd_e (inb_n (by omega) (by omega)), bnd_e, bnd_e, tn_n (by omega), sB_sA, fl_s, nI_1]
    exact ih (c + 1) j (by omega) (by omega)
theorem K_fill_known {m : Nat} (hm : 121 ≤ m) (v : Int32) (σ : St) : f_Arrays_fill_known m v σ = some ((), sB σ 3 (fl_to v (σ.2.2 3) 120)) := by
  have h := K_fill_known_loop m v σ 120 0 m (by omega) (by omega)
  rw [fl_0, sB_self] at h
  exact h
theorem K_fill_steps_loop (m : Nat) (v : Int32) (σ : St) : ∀ (r c j : Nat), c + r = 120 → r < j → f_Arrays_fill_steps_5 m j v (nI c) 120 (sB σ 13 (fl_to v (σ.2.2 13) c)) = some ((), sB σ 13 (fl_to v (σ.2.2 13) 120)) := by
  intro r
  induction r with
  | zero =>
    intro c j hc hj
    obtain ⟨j, rfl⟩ : ∃ z, j = z + 1 := ⟨j - 1, by omega⟩
    obtain rfl : c = 120 := by omega
    rw [f_Arrays_fill_steps_5_s, if_pos y120]
  | succ r ih =>
    intro c j hc hj
    obtain ⟨j, rfl⟩ : ∃ z, j = z + 1 := ⟨j - 1, by omega⟩
    rw [f_Arrays_fill_steps_5_s, if_neg (n120 (by omega)), gd_e (inb_n (by omega) (by omega)), bnd_e, bnd_e, tn_n (by omega), sB_sA, fl_s, nI_1]
    exact ih (c + 1) j (by omega) (by omega)
theorem K_fill_steps {m : Nat} (hm : 121 ≤ m) (v : Int32) (σ : St) : f_Arrays_fill_steps m v σ = some ((), sB σ 13 (fl_to v (σ.2.2 13) 120)) := by
  have h := K_fill_steps_loop m v σ 120 0 m (by omega) (by omega)
  rw [fl_0, sB_self] at h
  exact h
/-- what is known behind a look from P, up to cell c -/
def kn_to (g a : Nat → Int32) (P c : Nat) : Nat → Int32 := fun p => if p < c ∧ a p = 0 ∧ sight g P p = true then 1 else a p
theorem kn_0 (g a : Nat → Int32) (P : Nat) : kn_to g a P 0 = a := by
  funext p
  simp [kn_to]
theorem kn_y {g a : Nat → Int32} {P c : Nat} (h1 : a c = 0) (h2 : sight g P c = true) : upd (kn_to g a P c) c 1 = kn_to g a P (c + 1) := by
  funext p
  unfold upd kn_to
  by_cases h : p = c
  · subst h
    rw [if_pos rfl, if_pos ⟨by omega, h1, h2⟩]
  · rw [if_neg h]
    by_cases h3 : p < c
    · simp [h3, show p < c + 1 by omega]
    · simp [h3, show ¬ p < c + 1 by omega]
theorem kn_n {g a : Nat → Int32} {P c : Nat} (h : ¬ (a c = 0 ∧ sight g P c = true)) : kn_to g a P c = kn_to g a P (c + 1) := by
  funext p
  unfold kn_to
  by_cases h2 : p = c
  · subst h2
    rw [if_neg (by omega), if_neg (fun q => h q.2)]
  · by_cases h3 : p < c
    · simp [h3, show p < c + 1 by omega]
    · simp [h3, show ¬ p < c + 1 by omega]
theorem kn_at (g a : Nat → Int32) (P c : Nat) : kn_to g a P c c = a c := by simp [kn_to]
theorem K_learn_loop {m : Nat} (hm : 5 ≤ m) {P : Nat} (hP : P < 120) (σ : St) : ∀ (r c j : Nat), c + r = 120 → r < j → f_Level_learnFrom_2 m j (nI P) (nI c) (sB σ 3 (kn_to (σ.2.2 1) (σ.2.2 3) P c)) = some ((), sB σ 3 (kn_to (σ.2.2 1) (σ.2.2 3) P 120)) := by
  intro r
  induction r with
  | zero =>
    intro c j hc hj
    obtain ⟨j, rfl⟩ : ∃ z, j = z + 1 := ⟨j - 1, by omega⟩
    obtain rfl : c = 120 := by omega
    rw [f_Level_learnFrom_2_s, if_pos y120]
  | succ r ih =>
    intro c j hc hj
    obtain ⟨j, rfl⟩ : ∃ z, j = z + 1 := ⟨j - 1, by omega⟩
    rw [f_Level_learnFrom_2_s, if_neg (n120 (by omega)), gd_e (inb_n (by omega) (by omega)), tn_n (by omega)]
    rw [show (sB σ 3 (kn_to (σ.2.2 1) (σ.2.2 3) P c)).2.2 3 c = σ.2.2 3 c from kn_at _ _ _ _]
    have hs := K_sight hm hP (show c < 120 by omega) (sB σ 3 (kn_to (σ.2.2 1) (σ.2.2 3) P c))
    rw [show (sB σ 3 (kn_to (σ.2.2 1) (σ.2.2 3) P c)).2.2 1 = σ.2.2 1 from rfl] at hs
    by_cases h1 : σ.2.2 3 c = 0
    · rw [if_pos h1, hs, bd_e]
      by_cases h2 : sight (σ.2.2 1) P c = true
      · rw [if_neg (by rw [h2]; decide), gd_e (inb_n (by omega) (by omega)), bnd_e, bnd_e, sB_sA, kn_y h1 h2, nI_1]
        exact ih (c + 1) j (by omega) (by omega)
      · rw [if_pos (by rw [Bool.not_eq_true] at h2; rw [h2]; decide), bnd_e, nI_1, kn_n (fun q => h2 q.2)]
        exact ih (c + 1) j (by omega) (by omega)
    · rw [if_neg h1, bnd_e, nI_1, kn_n (fun q => h1 q.1)]
      exact ih (c + 1) j (by omega) (by omega)
theorem K_learn {m : Nat} (hm : 121 ≤ m) {P : Nat} (hP : P < 120) (σ : St) : f_Level_learnFrom m (nI P) σ = some ((), sB σ 3 (kn_to (σ.2.2 1) (σ.2.2 3) P 120)) := by
  have h := K_learn_loop (m := m) (by omega) hP σ 120 0 m (by omega) (by omega)
  rw [kn_0, sB_self] at h
  exact h
def km_to (g a : Nat → Int32) (P c : Nat) : Nat → Int32 := fun p => if p < c ∧ sight g P p = true then 1 else a p
theorem km_0 (g a : Nat → Int32) (P : Nat) : km_to g a P 0 = a := by
  funext p
  simp [km_to]
theorem km_y {g a : Nat → Int32} {P c : Nat} (h2 : sight g P c = true) : upd (km_to g a P c) c 1 = km_to g a P (c + 1) := by
  funext p
  unfold upd km_to
  by_cases h : p = c
  · subst h
    rw [if_pos rfl, if_pos ⟨by omega, h2⟩]
  · rw [if_neg h]
    by_cases h3 : p < c
    · simp [h3, show p < c + 1 by omega]
    · simp [h3, show ¬ p < c + 1 by omega]
theorem km_n {g a : Nat → Int32} {P c : Nat} (h : ¬ sight g P c = true) : km_to g a P c = km_to g a P (c + 1) := by
  funext p
  unfold km_to
  by_cases h2 : p = c
  · subst h2
    rw [if_neg (by omega), if_neg (fun q => h q.2)]
  · by_cases h3 : p < c
    · simp [h3, show p < c + 1 by omega]
    · simp [h3, show ¬ p < c + 1 by omega]
theorem M_know_loop {m : Nat} (hm : 5 ≤ m) {P : Nat} (hP : P < 120) {τ : St} (h2 : τ.1 2 = nI (P % 12)) (h3 : τ.1 3 = nI (P / 12)) : ∀ (r c j : Nat), c + r = 120 → r < j → f_Model_know_2 m j (nI c) (sB τ 3 (km_to (τ.2.2 0) (τ.2.2 3) P c)) = some ((), sB τ 3 (km_to (τ.2.2 0) (τ.2.2 3) P 120)) := by
  intro r
  induction r with
  | zero =>
    intro c j hc hj
    obtain ⟨j, rfl⟩ : ∃ z, j = z + 1 := ⟨j - 1, by omega⟩
    obtain rfl : c = 120 := by omega
    rw [f_Model_know_2_s, if_pos y120]
  | succ r ih =>
    intro c j hc hj
    obtain ⟨j, rfl⟩ : ∃ z, j = z + 1 := ⟨j - 1, by omega⟩
    have hs := M_seen hm hP (show c < 120 by omega) (τ := sB τ 3 (km_to (τ.2.2 0) (τ.2.2 3) P c)) h2 h3
    rw [show (sB τ 3 (km_to (τ.2.2 0) (τ.2.2 3) P c)).2.2 0 = τ.2.2 0 from rfl] at hs
    rw [f_Model_know_2_s, if_neg (n120 (by omega)), show (12 : Int32) = nI 12 from rfl, pk_rem (by omega) (by omega) (by omega), pk_div (by omega) (by omega) (by omega), hs, bd_e]
    by_cases h : sight (τ.2.2 0) P c = true
    · rw [if_neg (by rw [h]; decide), gd_e (inb_n (by omega) (by omega)), bnd_e, bnd_e, tn_n (by omega), sB_sA, km_y h, nI_1]
      exact ih (c + 1) j (by omega) (by omega)
    · rw [if_pos (by rw [Bool.not_eq_true] at h; rw [h]; decide), bnd_e, nI_1, km_n h]
      exact ih (c + 1) j (by omega) (by omega)
theorem M_know {m : Nat} (hm : 121 ≤ m) {P : Nat} (hP : P < 120) {τ : St} (h2 : τ.1 2 = nI (P % 12)) (h3 : τ.1 3 = nI (P / 12)) : f_Model_know m τ = some ((), sB τ 3 (km_to (τ.2.2 0) (τ.2.2 3) P 120)) := by
  have h := M_know_loop (m := m) (by omega) hP h2 h3 120 0 m (by omega) (by omega)
  rw [km_0, sB_self] at h
  exact h
