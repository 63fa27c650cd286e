/-! PURE: closed forms of what only reads: the class's and the reference's (own work) -/
def bI (b : Bool) : Int32 := match b with
  | true => 1
  | false => 0
theorem bI_0 {b : Bool} : bI b = 0 ↔ b = false := by cases b <;> decide
def oI (d : Int32) (o : Option Nat) : Int32 := match o with
  | some i => nI i
  | none => d
/-- the first of the r numbers from i on with P -/
def ff : Nat → Nat → (Nat → Bool) → Option Nat
  | 0, _, _ => none
  | r + 1, i, P => if P i = true then some i else ff r (i + 1) P
theorem ff_lt {P : Nat → Bool} : ∀ {r i k : Nat}, ff r i P = some k → i ≤ k ∧ k < i + r ∧ P k = true := by
  intro r
  induction r with
  | zero => intro i k h; cases h
  | succ r ih =>
    intro i k h
    unfold ff at h
    by_cases hp : P i = true
    · rw [if_pos hp] at h
      cases h
      exact ⟨Nat.le_refl _, by omega, hp⟩
    · rw [if_neg hp] at h
      obtain ⟨h1, h2, h3⟩ := ih h
      exact ⟨by omega, by omega, h3⟩
theorem ff_no {P : Nat → Bool} : ∀ {r i : Nat}, ff r i P = none → ∀ k, i ≤ k → k < i + r → P k = false := by
  intro r
  induction r with
  | zero => intro i _ k h1 h2; omega
  | succ r ih =>
    intro i h k h1 h2
    unfold ff at h
    by_cases hp : P i = true
    · rw [if_pos hp] at h
      cases h
    · rw [if_neg hp] at h
      by_cases hk : k = i
      · subst hk
        exact Bool.not_eq_true _ ▸ hp
      · exact ih h k (by omega) (by omega)
theorem ff_congr {P Q : Nat → Bool} : ∀ {r i : Nat}, (∀ k, i ≤ k → k < i + r → P k = Q k) → ff r i P = ff r i Q := by
  intro r
  induction r with
  | zero => intro i _; rfl
  | succ r ih =>
    intro i h
    unfold ff
    rw [h i (Nat.le_refl _) (by omega), ih (fun k h1 h2 => h k (by omega) (by omega))]
def flr (g : Nat → Int32) (p : Nat) : Bool := decide (p < 120) && !decide (g p = 0)
theorem lt0_n {k : Nat} (h : k < 2147483648) : ¬ nI k < 0 := nI_pos h
theorem le_n {a b : Nat} (ha : a < 2147483648) (hb : b < 2147483648) : nI a ≤ nI b ↔ a ≤ b := nI_leI ha hb
theorem lt_n {a b : Nat} (ha : a < 2147483648) (hb : b < 2147483648) : nI a < nI b ↔ a < b := nI_ltI ha hb
theorem eq_n {a b : Nat} (ha : a < 2147483648) (hb : b < 2147483648) : nI a = nI b ↔ a = b := nI_eq ha hb
theorem K_isFloor (n : Nat) {p : Nat} (hp : p < 2147483648) (σ : St) : f_Level_isFloor n (nI p) σ = some (bI (flr (σ.2.2 1) p), σ) := by
  unfold f_Level_isFloor
  rw [if_neg (lt0_n hp)]
  by_cases h : p < 120
  · rw [if_neg (fun q : (120 : Int32) ≤ nI p => by have := (le_n (a := 120) (by omega) hp).mp q; omega), gd_e (inb_n h (by omega)), tn_n hp]
    by_cases h2 : σ.2.2 1 p = 0
    · rw [if_pos h2]; simp [flr, h, h2, bI]
    · rw [if_neg h2]; simp [flr, h, h2, bI]
  · rw [if_pos (show (120 : Int32) ≤ nI p from (le_n (a := 120) (by omega) hp).mpr (by omega))]
    simp [flr, h, bI]
theorem M_in (n : Nat) {x a b : Nat} (hx : x < 2147483648) (ha : a < 2147483648) (hb : b < 2147483648) (τ : St) : f_Model_in n (nI x) (nI a) (nI b) τ = some (bI (decide (a ≤ x) && decide (x ≤ b)), τ) := by
  unfold f_Model_in
  by_cases h1 : x < a
  · rw [if_pos ((lt_n hx ha).mpr h1)]
    simp [show ¬ a ≤ x by omega, bI]
  · rw [if_neg (fun q => h1 ((lt_n hx ha).mp q))]
    by_cases h2 : b < x
    · rw [if_pos ((lt_n hb hx).mpr h2)]
      simp [show ¬ x ≤ b by omega, bI]
    · rw [if_neg (fun q => h2 ((lt_n hb hx).mp q))]
      simp [show a ≤ x by omega, show x ≤ b by omega, bI]
theorem M_isFloor (n : Nat) {x y : Nat} (hx : x ≤ 11) (hy : y ≤ 9) (τ : St) : f_Model_isFloor n (nI x) (nI y) τ = some (bI (flr (τ.2.2 0) (12 * y + x)), τ) := by
  unfold f_Model_isFloor
  rw [show f_Model_in n (nI x) 0 11 τ = _ from M_in n (a := 0) (b := 11) (by omega) (by omega) (by omega) τ, bd_e]
  rw [show f_Model_in n (nI y) 0 9 τ = _ from M_in n (a := 0) (b := 9) (by omega) (by omega) (by omega) τ]
  simp only [Nat.zero_le, decide_true, Bool.true_and, hx, hy, bI]
  rw [if_neg (by decide), bd_e, if_neg (by decide)]
  rw [show (12 : Int32) * nI y + nI x = nI (12 * y + x) from by rw [show (12 : Int32) = nI 12 from rfl, pk_mul, nI_add]]
  rw [gd_e (inb_n (by omega) (by omega)), tn_n (by omega)]
  by_cases h2 : τ.2.2 0 (12 * y + x) = 0
  · rw [if_pos h2]; simp [flr, h2]
  · rw [if_neg h2]; simp [flr, h2, show 12 * y + x < 120 by omega]
/-- who stands at a cell -/
theorem K_at_loop {n : Nat} {σ : St} {N : Nat} (hN : N ≤ 5) (h7 : σ.1 7 = nI N) (x : Int32) : ∀ (r i j : Nat), i + r = N → r < j → f_Monsters_at_2 n j x (nI i) σ = some (oI (-2) (ff r i (fun k => !decide (σ.2.2 6 k ≤ 0) && decide (σ.2.2 5 k = x))), σ) := by
  intro r
  induction r with
  | zero =>
    intro i j hi hj
    obtain ⟨j, rfl⟩ : ∃ k, j = k + 1 := ⟨j - 1, by omega⟩
    rw [f_Monsters_at_2_s, h7, if_pos ((le_n (by omega) (by omega)).mpr (by omega))]
    rfl
  | succ r ih =>
    intro i j hi hj
    obtain ⟨j, rfl⟩ : ∃ k, j = k + 1 := ⟨j - 1, by omega⟩
    rw [f_Monsters_at_2_s, h7, if_neg (fun q => by have := (le_n (by omega) (by omega)).mp q; omega), gd_e (inb_n (by omega) (by omega)), gd_e (inb_n (by omega) (by omega)), tn_n (by omega), bnd_e, nI_1, ih (i + 1) j (by omega) (by omega)]
    by_cases h : σ.2.2 6 i ≤ 0
    · rw [if_pos h]; simp [ff, h]
    · rw [if_neg h]
      by_cases h2 : σ.2.2 5 i = x
      · rw [if_pos h2]; simp [ff, h, h2, oI]
      · rw [if_neg h2]; simp [ff, h, h2]
theorem K_at {n : Nat} (hn : 6 ≤ n) {σ : St} {N : Nat} (hN : N ≤ 5) (h7 : σ.1 7 = nI N) (x : Int32) : f_Monsters_at n x σ = some (oI (-2) (ff N 0 (fun k => !decide (σ.2.2 6 k ≤ 0) && decide (σ.2.2 5 k = x))), σ) :=
  K_at_loop hN h7 x N 0 n (by omega) (by omega)
theorem M_at_loop {n : Nat} {τ : St} {N : Nat} (hN : N ≤ 8) (h7 : τ.1 1 = nI N) (x y : Int32) : ∀ (r i j : Nat), i + r = N → r < j → f_Model_monsterAt_2 n j x y (nI i) τ = some (oI (-1) (ff r i (fun k => decide (τ.2.2 10 k = 0) && (decide (τ.2.2 5 k = x) && decide (τ.2.2 6 k = y)))), τ) := by
  intro r
  induction r with
  | zero =>
    intro i j hi hj
    obtain ⟨j, rfl⟩ : ∃ k, j = k + 1 := ⟨j - 1, by omega⟩
    rw [f_Model_monsterAt_2_s, h7, if_pos ((le_n (by omega) (by omega)).mpr (by omega))]
    rfl
  | succ r ih =>
    intro i j hi hj
    obtain ⟨j, rfl⟩ : ∃ k, j = k + 1 := ⟨j - 1, by omega⟩
    rw [f_Model_monsterAt_2_s, h7, if_neg (fun q => by have := (le_n (by omega) (by omega)).mp q; omega), gd_e (inb_n (by omega) (by omega)), gd_e (inb_n (by omega) (by omega)), gd_e (inb_n (by omega) (by omega)), tn_n (by omega), bnd_e, nI_1, ih (i + 1) j (by omega) (by omega)]
    by_cases h : τ.2.2 10 i = 0
    · rw [if_pos h]
      by_cases h2 : τ.2.2 5 i = x
      · rw [if_pos h2]
        by_cases h3 : τ.2.2 6 i = y
        · rw [if_pos h3]; simp [ff, h, h2, h3, oI]
        · rw [if_neg h3]; simp [ff, h, h2, h3]
      · rw [if_neg h2]; simp [ff, h, h2]
    · rw [if_neg h]; simp [ff, h]
theorem M_at {n : Nat} (hn : 9 ≤ n) {τ : St} {N : Nat} (hN : N ≤ 8) (h7 : τ.1 1 = nI N) (x y : Int32) : f_Model_monsterAt n x y τ = some (oI (-1) (ff N 0 (fun k => decide (τ.2.2 10 k = 0) && (decide (τ.2.2 5 k = x) && decide (τ.2.2 6 k = y)))), τ) :=
  M_at_loop hN h7 x y N 0 n (by omega) (by omega)
/-- the neighbours -/
def nbr (p i : Nat) : Nat := match i with
  | 0 => p - 12
  | 1 => p + 1
  | 2 => p + 12
  | _ => p - 1
def intr (p : Nat) : Bool := decide (p < 120) && (decide (1 ≤ p % 12) && (decide (p % 12 ≤ 10) && (decide (1 ≤ p / 12) && decide (p / 12 ≤ 8))))
def dxv (i : Nat) : Int32 := match i with
  | 1 => 1
  | 3 => -1
  | _ => 0
def dyv (i : Nat) : Int32 := match i with
  | 0 => -1
  | 2 => 1
  | _ => 0
theorem nbr_all : ∀ p, p < 120 → ∀ i, i < 4 → intr p = true → (nI p + tb_STEPS i = nI (nbr p i) ∧ nbr p i < 120 ∧ nI (p % 12) + dxv i = nI (nbr p i % 12) ∧ nI (p / 12) + dyv i = nI (nbr p i / 12) ∧ nbr p i ≠ p) := by decide +kernel
theorem intr_lt {p : Nat} (h : intr p = true) : p < 120 := by simp [intr] at h; exact h.1
theorem K_nbr (n : Nat) {p i : Nat} (hp : intr p = true) (hi : i < 4) (σ : St) : f_Level_neighbour n (nI p) (nI i) σ = some (nI (nbr p i), σ) := by
  unfold f_Level_neighbour
  rw [if_neg (lt0_n (by omega)), if_neg (fun q : (4 : Int32) ≤ nI i => by have := (le_n (a := 4) (by omega) (by omega)).mp q; omega), gd_e (inb_n hi (by omega)), tn_n (by omega), (nbr_all p (intr_lt hp) i hi hp).1]
theorem M_dx (n : Nat) {i : Nat} (hi : i < 4) (τ : St) : f_Model_dx n (nI i) τ = some (dxv i, τ) := by
  rcases (show i = 0 ∨ i = 1 ∨ i = 2 ∨ i = 3 by omega) with rfl | rfl | rfl | rfl <;> rfl
theorem M_dy (n : Nat) {i : Nat} (hi : i < 4) (τ : St) : f_Model_dy n (nI i) τ = some (dyv i, τ) := by
  rcases (show i = 0 ∨ i = 1 ∨ i = 2 ∨ i = 3 by omega) with rfl | rfl | rfl | rfl <;> rfl
theorem K_from (n : Nat) {p : Nat} (hp : p < 120) (σ : St) : f_Distances_from n (nI p) σ = some (σ.2.2 13 p, σ) := by
  unfold f_Distances_from
  rw [if_neg (lt0_n (by omega)), if_neg (fun q : (120 : Int32) ≤ nI p => by have := (le_n (a := 120) (by omega) (by omega)).mp q; omega), gd_e (inb_n hp (by omega)), tn_n (by omega)]
theorem K_isDead (n : Nat) (σ : St) : f_Hero_isDead n σ = some (bI (!decide (0 < σ.1 10)), σ) := by
  unfold f_Hero_isDead
  by_cases h : 0 < σ.1 10
  · rw [if_pos h]; simp [h, bI]
  · rw [if_neg h]; simp [h, bI]
theorem K_isThere (n : Nat) {i N : Nat} (hi : i < 2147483648) {σ : St} (hN : N ≤ 5) (h7 : σ.1 7 = nI N) : f_Monsters_isThere n (nI i) σ = some (bI (decide (i < N) && !decide (σ.2.2 6 i ≤ 0)), σ) := by
  unfold f_Monsters_isThere
  rw [if_neg (lt0_n hi), h7]
  by_cases h : i < N
  · rw [if_neg (fun q => by have := (le_n (by omega) hi).mp q; omega), gd_e (inb_n (by omega) (by omega)), tn_n hi]
    by_cases h2 : σ.2.2 6 i ≤ 0
    · rw [if_pos h2]; simp [h2, bI]
    · rw [if_neg h2]; simp [h, h2, bI]
  · rw [if_pos ((le_n (by omega) hi).mpr (by omega))]; simp [h, bI]
