/-! PURE: digging (own work) -/
/-- the cells with x0 <= column < x1, y0 <= row < y1 are floor -/
def rc (g : Nat → Int32) (x0 x1 y0 y1 : Nat) : Nat → Int32 := fun p => if x0 ≤ p % 12 ∧ p % 12 < x1 ∧ y0 ≤ p / 12 ∧ p / 12 < y1 then 1 else g p
theorem rc_e {g : Nat → Int32} {x0 x1 y0 y1 : Nat} (h : x1 ≤ x0 ∨ y1 ≤ y0) : rc g x0 x1 y0 y1 = g := by
  funext p
  unfold rc
  rw [if_neg (by omega)]
theorem rc_x {g : Nat → Int32} {x0 c y : Nat} (hc : c < 12) (h0 : x0 ≤ c) : upd (rc g x0 c y (y + 1)) (12 * y + c) 1 = rc g x0 (c + 1) y (y + 1) := by
  funext p
  unfold upd rc
  by_cases e : p = 12 * y + c
  · rw [if_pos e, if_pos (by omega)]
  · rw [if_neg e]
    by_cases h : x0 ≤ p % 12 ∧ p % 12 < c ∧ y ≤ p / 12 ∧ p / 12 < y + 1
    · rw [if_pos h, if_pos (by omega)]
    · rw [if_neg h, if_neg (by omega)]
theorem rc_y {g : Nat → Int32} {x y0 r : Nat} (hx : x < 12) (h0 : y0 ≤ r) : upd (rc g x (x + 1) y0 r) (12 * r + x) 1 = rc g x (x + 1) y0 (r + 1) := by
  funext p
  unfold upd rc
  by_cases e : p = 12 * r + x
  · rw [if_pos e, if_pos (by omega)]
  · rw [if_neg e]
    by_cases h : x ≤ p % 12 ∧ p % 12 < x + 1 ∧ y0 ≤ p / 12 ∧ p / 12 < r
    · rw [if_pos h, if_pos (by omega)]
    · rw [if_neg h, if_neg (by omega)]
theorem rc_row {g : Nat → Int32} {x0 x1 y0 r : Nat} (h0 : y0 ≤ r) : rc (rc g x0 x1 y0 r) x0 x1 r (r + 1) = rc g x0 x1 y0 (r + 1) := by
  funext p
  unfold rc
  by_cases h1 : x0 ≤ p % 12 ∧ p % 12 < x1 ∧ r ≤ p / 12 ∧ p / 12 < r + 1
  · rw [if_pos h1, if_pos (by omega)]
  · rw [if_neg h1]
    by_cases h2 : x0 ≤ p % 12 ∧ p % 12 < x1 ∧ y0 ≤ p / 12 ∧ p / 12 < r
    · rw [if_pos h2, if_pos (by omega)]
    · rw [if_neg h2, if_neg (by omega)]
theorem rc_col {g : Nat → Int32} {x0 x y0 y1 : Nat} (h0 : x0 ≤ x) : rc (rc g x0 x y0 y1) x (x + 1) y0 y1 = rc g x0 (x + 1) y0 y1 := by
  funext p
  unfold rc
  by_cases h1 : x ≤ p % 12 ∧ p % 12 < x + 1 ∧ y0 ≤ p / 12 ∧ p / 12 < y1
  · rw [if_pos h1, if_pos (by omega)]
  · rw [if_neg h1]
    by_cases h2 : x0 ≤ p % 12 ∧ p % 12 < x ∧ y0 ≤ p / 12 ∧ p / 12 < y1
    · rw [if_pos h2, if_pos (by omega)]
    · rw [if_neg h2, if_neg (by omega)]
theorem rc_eq {g g' : Nat → Int32} (h : ∀ p, p < 120 → g p = g' p) (x0 x1 y0 y1 : Nat) : ∀ p, p < 120 → rc g x0 x1 y0 y1 p = rc g' x0 x1 y0 y1 p := by
  intro p hp
  unfold rc
  rw [h p hp]
theorem rc_swap (g : Nat → Int32) (a b c d e f i k : Nat) : rc (rc g a b c d) e f i k = rc (rc g e f i k) a b c d := by
  funext p
  unfold rc
  by_cases h1 : a ≤ p % 12 ∧ p % 12 < b ∧ c ≤ p / 12 ∧ p / 12 < d
  · by_cases h2 : e ≤ p % 12 ∧ p % 12 < f ∧ i ≤ p / 12 ∧ p / 12 < k
    · simp only [if_pos h1, if_pos h2]
    · simp only [if_pos h1, if_neg h2]
  · by_cases h2 : e ≤ p % 12 ∧ p % 12 < f ∧ i ≤ p / 12 ∧ p / 12 < k
    · simp only [if_neg h1, if_pos h2]
    · simp only [if_neg h1, if_neg h2]
theorem rc_bor {g : Nat → Int32} {x0 x1 y0 y1 : Nat} (h : bor g) (h1 : 1 ≤ x0) (h2 : x1 ≤ 11) (h3 : 1 ≤ y0) (h4 : y1 ≤ 9) : bor (rc g x0 x1 y0 y1) := by
  intro p hp hq
  unfold rc at hq
  by_cases hc : x0 ≤ p % 12 ∧ p % 12 < x1 ∧ y0 ≤ p / 12 ∧ p / 12 < y1
  · simp [intr]; omega
  · rw [if_neg hc] at hq; exact h p hp hq
theorem rc_ne {g : Nat → Int32} {x0 x1 y0 y1 p : Nat} (h : g p ≠ 0) : rc g x0 x1 y0 y1 p ≠ 0 := by
  unfold rc
  split
  · decide
  · exact h
theorem K_setG (m : Nat) {p : Nat} (hp : p < 120) (v : Int32) (σ : St) : f_Level_setGround m (nI p) v σ = some ((), sA σ 1 p v) := by
  unfold f_Level_setGround
  rw [if_neg (lt0_n (by omega)), if_neg (n120 hp), gd_e (inb_n hp (by omega)), bnd_e, tn_n (by omega)]
theorem mx_n {a b : Nat} (ha : a < 2147483648) (hb : b < 2147483648) : (if nI a < nI b then nI b else nI a) = nI (max a b) := by
  by_cases h : a < b
  · rw [if_pos ((lt_n ha hb).mpr h)]; congr 1; omega
  · rw [if_neg (fun z => h ((lt_n ha hb).mp z))]; congr 1; omega
theorem mn_n {a b : Nat} (ha : a < 2147483648) (hb : b < 2147483648) : (if nI b < nI a then nI b else nI a) = nI (min a b) := by
  by_cases h : b < a
  · rw [if_pos ((lt_n hb ha).mpr h)]; congr 1; omega
  · rw [if_neg (fun z => h ((lt_n hb ha).mp z))]; congr 1; omega
theorem K_row_loop {m : Nat} {σ : St} {g : Nat → Int32} {row a b : Nat} (hr : row < 10) (ha : a < 12) (hb : b < 12) : ∀ (r c j : Nat), c + r = max a b + 1 → r < j → min a b ≤ c → f_Maker_digRow_7 m j (nI row) (nI a) (nI b) (nI c) (sB σ 1 (rc g (min a b) c row (row + 1))) = some ((), sB σ 1 (rc g (min a b) (max a b + 1) row (row + 1))) := by
  intro r
  induction r with
  | zero =>
    intro c j hc hj h0
    obtain ⟨j, rfl⟩ : ∃ z, j = z + 1 := ⟨j - 1, by omega⟩
    obtain rfl : c = max a b + 1 := by omega
    rw [f_Maker_digRow_7_s, bnd_e, mx_n (by omega) (by omega), if_pos ((lt_n (by omega) (by omega)).mpr (by omega))]
  | succ r ih =>
    intro c j hc hj h0
    obtain ⟨j, rfl⟩ : ∃ z, j = z + 1 := ⟨j - 1, by omega⟩
    rw [f_Maker_digRow_7_s, bnd_e, mx_n (by omega) (by omega), if_neg (fun z => by have := (lt_n (by omega) (by omega)).mp z; omega)]
    rw [show nI row * 12 + nI c = nI (12 * row + c) from by rw [show (12 : Int32) = nI 12 from rfl, pk_mul, nI_add]; congr 1; omega]
    rw [K_setG m (by omega), bd_e, bnd_e, sB_sA, rc_x (by omega) h0, nI_1]
    exact ih (c + 1) j (by omega) (by omega) (by omega)
theorem K_row {m : Nat} (hm : 20 ≤ m) (σ : St) {row a b : Nat} (hr : row < 10) (ha : a < 12) (hb : b < 12) : f_Maker_digRow m (nI row) (nI a) (nI b) σ = some ((), sB σ 1 (rc (σ.2.2 1) (min a b) (max a b + 1) row (row + 1))) := by
  unfold f_Maker_digRow
  rw [bnd_e, mn_n (by omega) (by omega)]
  have h := K_row_loop (m := m) (σ := σ) (g := σ.2.2 1) hr ha hb (max a b + 1 - min a b) (min a b) m (by omega) (by omega) (Nat.le_refl _)
  rw [rc_e (Or.inl (Nat.le_refl _)), sB_self] at h
  exact h
theorem K_col_loop {m : Nat} {σ : St} {g : Nat → Int32} {col a b : Nat} (hr : col < 12) (ha : a < 10) (hb : b < 10) : ∀ (r c j : Nat), c + r = max a b + 1 → r < j → min a b ≤ c → f_Maker_digColumn_7 m j (nI col) (nI a) (nI b) (nI c) (sB σ 1 (rc g col (col + 1) (min a b) c)) = some ((), sB σ 1 (rc g col (col + 1) (min a b) (max a b + 1))) := by
  intro r
  induction r with
  | zero =>
    intro c j hc hj h0
    obtain ⟨j, rfl⟩ : ∃ z, j = z + 1 := ⟨j - 1, by omega⟩
    obtain rfl : c = max a b + 1 := by omega
    rw [f_Maker_digColumn_7_s, bnd_e, mx_n (by omega) (by omega), if_pos ((lt_n (by omega) (by omega)).mpr (by omega))]
  | succ r ih =>
    intro c j hc hj h0
    obtain ⟨j, rfl⟩ : ∃ z, j = z + 1 := ⟨j - 1, by omega⟩
    rw [f_Maker_digColumn_7_s, bnd_e, mx_n (by omega) (by omega), if_neg (fun z => by have := (lt_n (by omega) (by omega)).mp z; omega)]
    rw [show nI c * 12 + nI col = nI (12 * c + col) from by rw [show (12 : Int32) = nI 12 from rfl, pk_mul, nI_add]; congr 1; omega]
    rw [K_setG m (by omega), bd_e, bnd_e, sB_sA, rc_y (by omega) h0, nI_1]
    exact ih (c + 1) j (by omega) (by omega) (by omega)
theorem K_col {m : Nat} (hm : 20 ≤ m) (σ : St) {col a b : Nat} (hr : col < 12) (ha : a < 10) (hb : b < 10) : f_Maker_digColumn m (nI col) (nI a) (nI b) σ = some ((), sB σ 1 (rc (σ.2.2 1) col (col + 1) (min a b) (max a b + 1))) := by
  unfold f_Maker_digColumn
  rw [bnd_e, mn_n (by omega) (by omega)]
  have h := K_col_loop (m := m) (σ := σ) (g := σ.2.2 1) hr ha hb (max a b + 1 - min a b) (min a b) m (by omega) (by omega) (Nat.le_refl _)
  rw [rc_e (Or.inr (Nat.le_refl _)), sB_self] at h
  exact h
/-- the reference's dig -/
theorem M_dig_in {m : Nat} {τ : St} {g : Nat → Int32} {a b c d x : Nat} (hx : x < 12) (hb : b < 10) (hd : d < 10) (k12 : Int32 → Int32 → Int32 → Int32 → Int32 → St → Option (Unit × St)) : ∀ (r y j : Nat), y + r = max b d + 1 → r < j → min b d ≤ y →
    f_Model_dig_41 m k12 j (nI a) (nI b) (nI c) (nI d) (nI x) (nI y) (sB τ 0 (rc g x (x + 1) (min b d) y)) = k12 (nI a) (nI b) (nI c) (nI d) (nI (x + 1)) (sB τ 0 (rc g x (x + 1) (min b d) (max b d + 1))) := by
  intro r
  induction r with
  | zero =>
    intro y j hy hj h0
    obtain ⟨j, rfl⟩ : ∃ z, j = z + 1 := ⟨j - 1, by omega⟩
    obtain rfl : y = max b d + 1 := by omega
    rw [f_Model_dig_41_s]
    have key : ∀ w : Nat, w = max b d → f_Model_dig_55 m k12 (fun y1 y2 y3 y4 y5 y6 σ => f_Model_dig_41 m k12 j y1 y2 y3 y4 y5 y6 σ) (nI a) (nI b) (nI c) (nI d) (nI x) (nI (max b d + 1)) (nI w) (nI (max b d + 1)) (sB τ 0 (rc g x (x + 1) (min b d) (max b d + 1))) = k12 (nI a) (nI b) (nI c) (nI d) (nI (x + 1)) (sB τ 0 (rc g x (x + 1) (min b d) (max b d + 1))) := by
      intro w hw
      unfold f_Model_dig_55
      rw [if_pos ((lt_n (by omega) (by omega)).mpr (by omega)), bnd_e, nI_1]
    by_cases h : d ≤ b
    · rw [if_pos ((le_n (by omega) (by omega)).mpr h)]; exact key b (by omega)
    · rw [if_neg (fun z => h ((le_n (by omega) (by omega)).mp z))]; exact key d (by omega)
  | succ r ih =>
    intro y j hy hj h0
    obtain ⟨j, rfl⟩ : ∃ z, j = z + 1 := ⟨j - 1, by omega⟩
    rw [f_Model_dig_41_s]
    have key : ∀ w : Nat, w = max b d → f_Model_dig_55 m k12 (fun y1 y2 y3 y4 y5 y6 σ => f_Model_dig_41 m k12 j y1 y2 y3 y4 y5 y6 σ) (nI a) (nI b) (nI c) (nI d) (nI x) (nI y) (nI w) (nI y) (sB τ 0 (rc g x (x + 1) (min b d) y)) = k12 (nI a) (nI b) (nI c) (nI d) (nI (x + 1)) (sB τ 0 (rc g x (x + 1) (min b d) (max b d + 1))) := by
      intro w hw
      unfold f_Model_dig_55
      rw [if_neg (fun z => by have := (lt_n (by omega) (by omega)).mp z; omega)]
      rw [show (12 : Int32) * nI y + nI x = nI (12 * y + x) from by rw [show (12 : Int32) = nI 12 from rfl, pk_mul, nI_add]]
      rw [gd_e (inb_n (by omega) (by omega)), bnd_e, bnd_e, tn_n (by omega), sB_sA, rc_y hx h0, nI_1]
      exact ih (y + 1) j (by omega) (by omega) (by omega)
    by_cases h : d ≤ b
    · rw [if_pos ((le_n (by omega) (by omega)).mpr h)]; exact key b (by omega)
    · rw [if_neg (fun z => h ((le_n (by omega) (by omega)).mp z))]; exact key d (by omega)
theorem M_dig_out {m : Nat} (hm : 20 ≤ m) {τ : St} {g : Nat → Int32} {a b c d : Nat} (ha : a < 12) (hc : c < 12) (hb : b < 10) (hd : d < 10) : ∀ (r x j : Nat), x + r = max a c + 1 → r < j → min a c ≤ x →
    f_Model_dig_12 m j (nI a) (nI b) (nI c) (nI d) (nI x) (sB τ 0 (rc g (min a c) x (min b d) (max b d + 1))) = some ((), sB τ 0 (rc g (min a c) (max a c + 1) (min b d) (max b d + 1))) := by
  intro r
  induction r with
  | zero =>
    intro x j hx hj h0
    obtain ⟨j, rfl⟩ : ∃ z, j = z + 1 := ⟨j - 1, by omega⟩
    obtain rfl : x = max a c + 1 := by omega
    rw [f_Model_dig_12_s]
    have key : ∀ w : Nat, w = max a c → f_Model_dig_24 m (fun y1 y2 y3 y4 y5 σ => f_Model_dig_12 m j y1 y2 y3 y4 y5 σ) (nI a) (nI b) (nI c) (nI d) (nI (max a c + 1)) (nI w) (nI (max a c + 1)) (sB τ 0 (rc g (min a c) (max a c + 1) (min b d) (max b d + 1))) = some ((), sB τ 0 (rc g (min a c) (max a c + 1) (min b d) (max b d + 1))) := by
      intro w hw
      unfold f_Model_dig_24
      rw [if_pos ((lt_n (by omega) (by omega)).mpr (by omega))]
    by_cases h : c ≤ a
    · rw [if_pos ((le_n (by omega) (by omega)).mpr h)]; exact key a (by omega)
    · rw [if_neg (fun z => h ((le_n (by omega) (by omega)).mp z))]; exact key c (by omega)
  | succ r ih =>
    intro x j hx hj h0
    obtain ⟨j, rfl⟩ : ∃ z, j = z + 1 := ⟨j - 1, by omega⟩
    rw [f_Model_dig_12_s]
    have inner : ∀ y : Nat, y = min b d → f_Model_dig_41 m (fun y1 y2 y3 y4 y5 σ => f_Model_dig_12 m j y1 y2 y3 y4 y5 σ) m (nI a) (nI b) (nI c) (nI d) (nI x) (nI y) (sB τ 0 (rc g (min a c) x (min b d) (max b d + 1))) = some ((), sB τ 0 (rc g (min a c) (max a c + 1) (min b d) (max b d + 1))) := by
      intro y hy
      subst hy
      have h := M_dig_in (m := m) (τ := τ) (g := rc g (min a c) x (min b d) (max b d + 1)) (a := a) (c := c) (show x < 12 by omega) hb hd (fun y1 y2 y3 y4 y5 σ => f_Model_dig_12 m j y1 y2 y3 y4 y5 σ) (max b d + 1 - min b d) (min b d) m (by omega) (by omega) (Nat.le_refl _)
      rw [rc_e (g := rc g (min a c) x (min b d) (max b d + 1)) (Or.inr (Nat.le_refl _)), rc_col h0] at h
      rw [h]
      exact ih (x + 1) j (by omega) (by omega) (by omega)
    have key : ∀ w : Nat, w = max a c → f_Model_dig_24 m (fun y1 y2 y3 y4 y5 σ => f_Model_dig_12 m j y1 y2 y3 y4 y5 σ) (nI a) (nI b) (nI c) (nI d) (nI x) (nI w) (nI x) (sB τ 0 (rc g (min a c) x (min b d) (max b d + 1))) = some ((), sB τ 0 (rc g (min a c) (max a c + 1) (min b d) (max b d + 1))) := by
      intro w hw
      unfold f_Model_dig_24
      rw [if_neg (fun z => by have := (lt_n (by omega) (by omega)).mp z; omega)]
      by_cases h : d ≤ b
      · rw [if_pos ((le_n (by omega) (by omega)).mpr h)]; exact inner d (by omega)
      · rw [if_neg (fun z => h ((le_n (by omega) (by omega)).mp z))]; exact inner b (by omega)
    by_cases h : c ≤ a
    · rw [if_pos ((le_n (by omega) (by omega)).mpr h)]; exact key a (by omega)
    · rw [if_neg (fun z => h ((le_n (by omega) (by omega)).mp z))]; exact key c (by omega)
theorem M_dig {m : Nat} (hm : 20 ≤ m) (τ : St) {a b c d : Nat} (ha : a < 12) (hc : c < 12) (hb : b < 10) (hd : d < 10) : f_Model_dig m (nI a) (nI b) (nI c) (nI d) τ = some ((), sB τ 0 (rc (τ.2.2 0) (min a c) (max a c + 1) (min b d) (max b d + 1))) := by
  unfold f_Model_dig
  have h := M_dig_out (m := m) hm (τ := τ) (g := τ.2.2 0) ha hc hb hd (max a c + 1 - min a c) (min a c) m (by omega) (by omega) (Nat.le_refl _)
  rw [rc_e (g := τ.2.2 0) (Or.inl (Nat.le_refl _)), sB_self] at h
  by_cases hca : c ≤ a
  · rw [if_pos ((le_n (by omega) (by omega)).mpr hca), ← h]; congr 1; congr 1; omega
  · rw [if_neg (fun z => hca ((le_n (by omega) (by omega)).mp z)), ← h]; congr 1; congr 1; omega
/-- the class digs a room, row by row -/
theorem K_room_loop {m : Nat} (hm : 20 ≤ m) {σ : St} {g : Nat → Int32} {i l t w h : Nat} (hi : i < 4) (h9 : σ.2.2 9 i = nI l) (h10 : σ.2.2 10 i = nI t) (h11 : σ.2.2 11 i = nI w) (h12 : σ.2.2 12 i = nI h) (hl : l + w ≤ 11) (hw : 1 ≤ w) (hth : t + h ≤ 9) : ∀ (r y j : Nat), y + r = t + h → r < j → t ≤ y →
    f_Maker_digRoom_98 m j (nI i) (nI y) (sB σ 1 (rc g l (l + w) t y)) = some ((), sB σ 1 (rc g l (l + w) t (t + h))) := by
  intro r
  induction r with
  | zero =>
    intro y j hy hj h0
    obtain ⟨j, rfl⟩ : ∃ z, j = z + 1 := ⟨j - 1, by omega⟩
    obtain rfl : y = t + h := by omega
    rw [f_Maker_digRoom_98_s, gd_e (inb_n hi (by omega)), gd_e (inb_n hi (by omega)), tn_n (by omega)]
    rw [show (sB σ 1 (rc g l (l + w) t (t + h))).2.2 10 i = nI t from h10, show (sB σ 1 (rc g l (l + w) t (t + h))).2.2 12 i = nI h from h12, nI_add, if_pos ((le_n (by omega) (by omega)).mpr (Nat.le_refl _))]
  | succ r ih =>
    intro y j hy hj h0
    obtain ⟨j, rfl⟩ : ∃ z, j = z + 1 := ⟨j - 1, by omega⟩
    rw [f_Maker_digRoom_98_s, gd_e (inb_n hi (by omega)), gd_e (inb_n hi (by omega)), tn_n (by omega)]
    rw [show (sB σ 1 (rc g l (l + w) t y)).2.2 10 i = nI t from h10, show (sB σ 1 (rc g l (l + w) t y)).2.2 12 i = nI h from h12, nI_add, if_neg (fun z => by have := (le_n (by omega) (by omega)).mp z; omega), gd_e (inb_n hi (by omega)), gd_e (inb_n hi (by omega)), gd_e (inb_n hi (by omega))]
    rw [show (sB σ 1 (rc g l (l + w) t y)).2.2 9 i = nI l from h9, show (sB σ 1 (rc g l (l + w) t y)).2.2 11 i = nI w from h11, nI_add, show nI (l + w) - 1 = nI (l + w - 1) from pk_sub (b := 1) (by omega)]
    rw [K_row hm _ (by omega) (by omega) (by omega), bd_e, bnd_e, nI_1, show min l (l + w - 1) = l by omega, show max l (l + w - 1) + 1 = l + w by omega]
    rw [show (sB σ 1 (rc g l (l + w) t y)).2.2 1 = rc g l (l + w) t y from rfl, sB_sB, rc_row h0]
    exact ih (y + 1) j (by omega) (by omega) (by omega)
