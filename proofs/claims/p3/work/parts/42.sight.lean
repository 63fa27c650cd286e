/-! PURE: lines and sight (own work) -/
def fdI (a b : Int32) : Int32 := if 0 ≤ (a ^^^ b) then a / b else (if (a / b) * b = a then a / b else a / b - 1)
def dnI (a b : Int32) : Int32 := if a < 0 then -(((b - 1) - a) / b) else a / b
theorem K_fd (n : Nat) (a b : Int32) (σ : St) (hb : nzi b = true) : f_Math_floorDiv n a b σ = some (fdI a b, σ) := by
  unfold f_Math_floorDiv fdI
  rw [gd_e hb, bnd_e]
  split
  · rfl
  · split <;> rfl
theorem M_dn (n : Nat) (a b : Int32) (τ : St) (hb : nzi b = true) : f_Model_down n a b τ = some (dnI a b, τ) := by
  unfold f_Model_down dnI
  rw [gd_e hb, gd_e hb]
  split <;> rfl
def lnN (n k : Nat) (d : Int) : Int32 := 2 * nI k * zI d + nI n
def fv (n k : Nat) (d : Int) : Int := (fdI (lnN n k d) (2 * nI n)).toInt
def fvb (n k e : Nat) : Bool := !(decide (1 ≤ k) && (decide ((e : Int) - 4 ≤ n) && decide (-(n : Int) ≤ (e : Int) - 4))) || (nzi (2 * nI n) && (decide (dnI (lnN n k ((e : Int) - 4)) (2 * nI n) = fdI (lnN n k ((e : Int) - 4)) (2 * nI n)) && ((decide (0 ≤ fv n k ((e : Int) - 4)) && decide (fv n k ((e : Int) - 4) ≤ (e : Int) - 4)) || (decide ((e : Int) - 4 ≤ fv n k ((e : Int) - 4)) && decide (fv n k ((e : Int) - 4) ≤ 0)))))
theorem fv_all : ∀ n, n < 5 → ∀ k, k < n → ∀ e, e < 9 → fvb n k e = true := by decide +kernel
theorem fv_ok {n k : Nat} {d : Int} (hn : n < 5) (hk : k < n) (h1 : 1 ≤ k) (hd : d ≤ n ∧ -(n : Int) ≤ d) : nzi (2 * nI n) = true ∧ dnI (lnN n k d) (2 * nI n) = fdI (lnN n k d) (2 * nI n) ∧ ((0 ≤ fv n k d ∧ fv n k d ≤ d) ∨ (d ≤ fv n k d ∧ fv n k d ≤ 0)) := by
  have h := fv_all n hn k hk (d + 4).toNat (by omega)
  unfold fvb at h
  rw [show (((d + 4).toNat : Nat) : Int) - 4 = d by omega] at h
  simpa [h1, hd.1, hd.2] using h
/-- is the line clear, for r cells from the k-th on -/
def clr (g : Nat → Int32) (x y : Nat) (dx dy : Int) (n : Nat) : Nat → Nat → Bool
  | 0, _ => true
  | r + 1, k => flr g (12 * ((y : Int) + fv n k dy).toNat + ((x : Int) + fv n k dx).toNat) && clr g x y dx dy n r (k + 1)
theorem fv_zI (n k : Nat) (d : Int) : fdI (lnN n k d) (2 * nI n) = zI (fv n k d) := (zI_of _).symm
theorem K_clr_loop {m : Nat} {σ : St} {x y n : Nat} {dx dy : Int} (hx : x ≤ 11) (hy : y ≤ 9) (hx2 : 0 ≤ (x : Int) + dx ∧ (x : Int) + dx ≤ 11) (hy2 : 0 ≤ (y : Int) + dy ∧ (y : Int) + dy ≤ 9) (hn : n < 5) (hdx : dx ≤ n ∧ -(n : Int) ≤ dx) (hdy : dy ≤ n ∧ -(n : Int) ≤ dy) :
    ∀ (r k j : Nat), 1 ≤ k → (k ≤ 5 ∧ r = n - k) → r < j → f_Level_inSight_54 m j (nI x) (nI y) (zI dx) (zI dy) (nI n) (nI k) σ = some (bI (clr (σ.2.2 1) x y dx dy n r k), σ) := by
  intro r
  induction r with
  | zero =>
    intro k j h1 hr hj
    obtain ⟨j, rfl⟩ : ∃ z, j = z + 1 := ⟨j - 1, by omega⟩
    rw [f_Level_inSight_54_s, if_pos ((le_n (by omega) (by omega)).mpr (by omega))]
    rfl
  | succ r ih =>
    intro k j h1 hr hj
    obtain ⟨j, rfl⟩ : ∃ z, j = z + 1 := ⟨j - 1, by omega⟩
    obtain ⟨a1, a2, a3⟩ := fv_ok hn (show k < n by omega) h1 hdx
    obtain ⟨b1, b2, b3⟩ := fv_ok hn (show k < n by omega) h1 hdy
    rw [f_Level_inSight_54_s, if_neg (fun q => by have := (le_n (by omega) (by omega)).mp q; omega)]
    rw [show (2 * nI k * zI dx + nI n : Int32) = lnN n k dx from rfl, show (2 * nI k * zI dy + nI n : Int32) = lnN n k dy from rfl]
    rw [K_fd _ _ _ _ a1, bd_e, bnd_e, K_fd _ _ _ _ a1, bd_e, bnd_e, fv_zI, fv_zI]
    have e1 : (nI y + zI (fv n k dy)) * 12 + (nI x + zI (fv n k dx)) = nI (12 * ((y : Int) + fv n k dy).toNat + ((x : Int) + fv n k dx).toNat) := by
      rw [zI_nat, zI_nat, zI_nat, zI_add, zI_add, show (12 : Int32) = zI 12 from rfl, zI_mul, zI_add]
      congr 1
      omega
    rw [e1, K_isFloor m (by omega), bd_e]
    by_cases hf : flr (σ.2.2 1) (12 * ((y : Int) + fv n k dy).toNat + ((x : Int) + fv n k dx).toNat) = true
    · rw [if_neg (by rw [hf]; decide), bnd_e, nI_1, ih (k + 1) j (by omega) (by omega) (by omega)]
      simp [clr, hf]
    · rw [Bool.not_eq_true] at hf
      rw [if_pos (by rw [hf]; decide)]
      simp [clr, hf, bI]
theorem M_clr_loop {m : Nat} {τ : St} {x y n : Nat} {dx dy : Int} (hx : x ≤ 11) (hy : y ≤ 9) (hx2 : 0 ≤ (x : Int) + dx ∧ (x : Int) + dx ≤ 11) (hy2 : 0 ≤ (y : Int) + dy ∧ (y : Int) + dy ≤ 9) (hn : n < 5) (hdx : dx ≤ n ∧ -(n : Int) ≤ dx) (hdy : dy ≤ n ∧ -(n : Int) ≤ dy) :
    ∀ (r k j : Nat), 1 ≤ k → (k ≤ 5 ∧ r = n - k) → r < j → f_Model_isClear_60 m j (nI x) (nI y) (zI dx) (zI dy) (nI n) (nI k) τ = some (bI (clr (τ.2.2 0) x y dx dy n r k), τ) := by
  intro r
  induction r with
  | zero =>
    intro k j h1 hr hj
    obtain ⟨j, rfl⟩ : ∃ z, j = z + 1 := ⟨j - 1, by omega⟩
    rw [f_Model_isClear_60_s, if_pos ((le_n (by omega) (by omega)).mpr (by omega))]
    rfl
  | succ r ih =>
    intro k j h1 hr hj
    obtain ⟨j, rfl⟩ : ∃ z, j = z + 1 := ⟨j - 1, by omega⟩
    obtain ⟨a1, a2, a3⟩ := fv_ok hn (show k < n by omega) h1 hdx
    obtain ⟨b1, b2, b3⟩ := fv_ok hn (show k < n by omega) h1 hdy
    rw [f_Model_isClear_60_s, if_neg (fun q => by have := (le_n (by omega) (by omega)).mp q; omega)]
    rw [show (2 * nI k * zI dx + nI n : Int32) = lnN n k dx from rfl, show (2 * nI k * zI dy + nI n : Int32) = lnN n k dy from rfl]
    rw [M_dn _ _ _ _ a1, bd_e, M_dn _ _ _ _ a1, bd_e, a2, b2, fv_zI, fv_zI]
    have e1 : nI x + zI (fv n k dx) = nI ((x : Int) + fv n k dx).toNat := by
      rw [zI_nat, zI_nat, zI_add]
      congr 1
      omega
    have e2 : nI y + zI (fv n k dy) = nI ((y : Int) + fv n k dy).toNat := by
      rw [zI_nat, zI_nat, zI_add]
      congr 1
      omega
    rw [e1, e2, M_isFloor m (by omega) (by omega), bd_e]
    by_cases hf : flr (τ.2.2 0) (12 * ((y : Int) + fv n k dy).toNat + ((x : Int) + fv n k dx).toNat) = true
    · rw [if_neg (by rw [hf]; decide), bnd_e, nI_1, ih (k + 1) j (by omega) (by omega) (by omega)]
      simp [clr, hf]
    · rw [Bool.not_eq_true] at hf
      rw [if_pos (by rw [hf]; decide)]
      simp [clr, hf, bI]
def mxA (dx dy : Int) : Nat := if dx.natAbs < dy.natAbs then dy.natAbs else dx.natAbs
def cdx (p q : Nat) : Int := ((q % 12 : Nat) : Int) - ((p % 12 : Nat) : Int)
def cdy (p q : Nat) : Int := ((q / 12 : Nat) : Int) - ((p / 12 : Nat) : Int)
def clear (g : Nat → Int32) (p q : Nat) : Bool := clr g (p % 12) (p / 12) (cdx p q) (cdy p q) (mxA (cdx p q) (cdy p q)) (mxA (cdx p q) (cdy p q) - 1) 1
/-- q is seen from p -/
def sight (g : Nat → Int32) (p q : Nat) : Bool := decide (mxA (cdx p q) (cdy p q) ≤ 4) && clear g p q
theorem abs_zI {d : Int} (h : sm d) (h2 : -2147483648 < d) : (if (0 : Int32) ≤ zI d then zI d else 0 - zI d) = nI d.natAbs := by
  rw [show (0 : Int32) = zI 0 from rfl]
  by_cases q : (0 : Int) ≤ d
  · rw [if_pos ((zI_le ⟨by omega, by omega⟩ h).mpr q), zI_nat]
    congr 1
    omega
  · rw [if_neg (fun z => q ((zI_le ⟨by omega, by omega⟩ h).mp z)), zI_sub, zI_nat]
    congr 1
    omega
theorem K_sight {m : Nat} (hm : 5 ≤ m) {p q : Nat} (hp : p < 120) (hq : q < 120) (σ : St) : f_Level_inSight m (nI p) (nI q) σ = some (bI (sight (σ.2.2 1) p q), σ) := by
  unfold f_Level_inSight
  simp only [bnd_e]
  rw [show (12 : Int32) = nI 12 from rfl, pk_rem (by omega) (by omega) (by omega), pk_rem (by omega) (by omega) (by omega), pk_div (by omega) (by omega) (by omega), pk_div (by omega) (by omega) (by omega)]
  have e1 : nI (q % 12) - nI (p % 12) = zI (cdx p q) := by rw [zI_nat, zI_nat, zI_sub]; rfl
  have e2 : nI (q / 12) - nI (p / 12) = zI (cdy p q) := by rw [zI_nat, zI_nat, zI_sub]; rfl
  have c1 : -11 ≤ cdx p q ∧ cdx p q ≤ 11 := by unfold cdx; omega
  have c2 : -9 ≤ cdy p q ∧ cdy p q ≤ 9 := by unfold cdy; omega
  rw [e1, e2, abs_zI ⟨by omega, by omega⟩ (by omega), abs_zI ⟨by omega, by omega⟩ (by omega)]
  have e3 : (if nI (cdx p q).natAbs < nI (cdy p q).natAbs then nI (cdy p q).natAbs else nI (cdx p q).natAbs) = nI (mxA (cdx p q) (cdy p q)) := by
    unfold mxA
    by_cases z : (cdx p q).natAbs < (cdy p q).natAbs
    · rw [if_pos z, if_pos ((lt_n (by omega) (by omega)).mpr z)]
    · rw [if_neg z, if_neg (fun w => z ((lt_n (by omega) (by omega)).mp w))]
  rw [e3]
  have hmx : (cdx p q).natAbs ≤ mxA (cdx p q) (cdy p q) ∧ (cdy p q).natAbs ≤ mxA (cdx p q) (cdy p q) ∧ mxA (cdx p q) (cdy p q) ≤ 11 := by
    unfold mxA
    split <;> omega
  by_cases h4 : mxA (cdx p q) (cdy p q) ≤ 4
  · rw [if_pos (show nI (mxA (cdx p q) (cdy p q)) ≤ 4 from (le_n (b := 4) (by omega) (by omega)).mpr h4)]
    rw [show (1 : Int32) = nI 1 from rfl, K_clr_loop (x := p % 12) (y := p / 12) (by omega) (by omega) (by unfold cdx; omega) (by unfold cdy; omega) (by omega) (by omega) (by omega) (mxA (cdx p q) (cdy p q) - 1) 1 m (by omega) (by omega) (by omega)]
    simp [sight, h4, clear]
  · rw [if_neg (fun z : nI (mxA (cdx p q) (cdy p q)) ≤ 4 => h4 ((le_n (b := 4) (by omega) (by omega)).mp z))]
    simp [sight, h4, bI]
theorem M_clear {m : Nat} (hm : 5 ≤ m) {p q : Nat} (hp : p < 120) (hq : q < 120) (h4 : mxA (cdx p q) (cdy p q) ≤ 4) (τ : St) : f_Model_isClear m (nI (p % 12)) (nI (p / 12)) (nI (q % 12)) (nI (q / 12)) τ = some (bI (clear (τ.2.2 0) p q), τ) := by
  have e1 : nI (q % 12) - nI (p % 12) = zI (cdx p q) := by rw [zI_nat, zI_nat, zI_sub]; rfl
  have e2 : nI (q / 12) - nI (p / 12) = zI (cdy p q) := by rw [zI_nat, zI_nat, zI_sub]; rfl
  have c1 : -11 ≤ cdx p q ∧ cdx p q ≤ 11 := by unfold cdx; omega
  have c2 : -9 ≤ cdy p q ∧ cdy p q ≤ 9 := by unfold cdy; omega
  have hmx : (cdx p q).natAbs ≤ mxA (cdx p q) (cdy p q) ∧ (cdy p q).natAbs ≤ mxA (cdx p q) (cdy p q) := by
    unfold mxA
    split <;> omega
  have key : ∀ w : Nat, w = mxA (cdx p q) (cdy p q) → f_Model_isClear_60 m m (nI (p % 12)) (nI (p / 12)) (zI (cdx p q)) (zI (cdy p q)) (nI w) 1 τ = some (bI (clear (τ.2.2 0) p q), τ) := by
    intro w hw
    subst hw
    rw [show (1 : Int32) = nI 1 from rfl, M_clr_loop (x := p % 12) (y := p / 12) (by omega) (by omega) (by unfold cdx; omega) (by unfold cdy; omega) (by omega) (by omega) (by omega) (mxA (cdx p q) (cdy p q) - 1) 1 m (by omega) (by omega) (by omega)]
    rfl
  have k39 : ∀ a b : Nat, a = (cdx p q).natAbs → b = (cdy p q).natAbs → f_Model_isClear_39 m (nI (p % 12)) (nI (p / 12)) (zI (cdx p q)) (zI (cdy p q)) (nI a) (nI b) τ = some (bI (clear (τ.2.2 0) p q), τ) := by
    intro a b ha hb
    unfold f_Model_isClear_39
    by_cases z : a ≤ b
    · rw [if_pos ((le_n (by omega) (by omega)).mpr z)]
      refine key b ?_
      unfold mxA
      split <;> omega
    · rw [if_neg (fun w => z ((le_n (by omega) (by omega)).mp w))]
      refine key a ?_
      unfold mxA
      split <;> omega
  have ab : ∀ d : Int, (-11 ≤ d ∧ d ≤ 11) → ((0 : Int32) ≤ zI d → zI d = nI d.natAbs) ∧ (¬ (0 : Int32) ≤ zI d → -zI d = nI d.natAbs) := by
    intro d hd
    rw [show (0 : Int32) = zI 0 from rfl, zI_le ⟨by omega, by omega⟩ ⟨by omega, by omega⟩, zI_neg, zI_nat]
    refine ⟨fun h => ?_, fun h => ?_⟩ <;> congr 1 <;> omega
  have k24 : ∀ a : Nat, a = (cdx p q).natAbs → f_Model_isClear_24 m (nI (p % 12)) (nI (p / 12)) (zI (cdx p q)) (zI (cdy p q)) (nI a) τ = some (bI (clear (τ.2.2 0) p q), τ) := by
    intro a ha
    unfold f_Model_isClear_24
    by_cases z : (0 : Int32) ≤ zI (cdy p q)
    · rw [if_pos z, (show f_Model_isClear_39 m (nI (p % 12)) (nI (p / 12)) (zI (cdx p q)) (zI (cdy p q)) (nI a) (zI (cdy p q)) τ = f_Model_isClear_39 m (nI (p % 12)) (nI (p / 12)) (zI (cdx p q)) (zI (cdy p q)) (nI a) (nI (cdy p q).natAbs) τ from by conv => lhs; arg 7; rw [(ab _ (by omega)).1 z])]
      exact k39 a _ ha rfl
    · rw [if_neg z, (ab _ (by omega)).2 z]
      exact k39 a _ ha rfl
  unfold f_Model_isClear
  rw [e1, e2, bnd_e, bnd_e]
  by_cases z : (0 : Int32) ≤ zI (cdx p q)
  · rw [if_pos z, (show f_Model_isClear_24 m (nI (p % 12)) (nI (p / 12)) (zI (cdx p q)) (zI (cdy p q)) (zI (cdx p q)) τ = f_Model_isClear_24 m (nI (p % 12)) (nI (p / 12)) (zI (cdx p q)) (zI (cdy p q)) (nI (cdx p q).natAbs) τ from by conv => lhs; arg 6; rw [(ab _ (by omega)).1 z])]
    exact k24 _ rfl
  · rw [if_neg z, (ab _ (by omega)).2 z]
    exact k24 _ rfl
theorem M_in4 (m : Nat) {d : Int} (hd : -100 ≤ d ∧ d ≤ 100) (τ : St) : f_Model_in m (zI d) (-4) 4 τ = some (bI (decide (d.natAbs ≤ 4)), τ) := by
  unfold f_Model_in
  rw [show (-4 : Int32) = zI (-4) from rfl, show (4 : Int32) = zI 4 from rfl]
  by_cases h1 : d < -4
  · rw [if_pos ((zI_lt ⟨by omega, by omega⟩ ⟨by omega, by omega⟩).mpr h1)]
    simp [show ¬ d.natAbs ≤ 4 by omega, bI]
  · rw [if_neg (fun z => h1 ((zI_lt ⟨by omega, by omega⟩ ⟨by omega, by omega⟩).mp z))]
    by_cases h2 : 4 < d
    · rw [if_pos ((zI_lt ⟨by omega, by omega⟩ ⟨by omega, by omega⟩).mpr h2)]
      simp [show ¬ d.natAbs ≤ 4 by omega, bI]
    · rw [if_neg (fun z => h2 ((zI_lt ⟨by omega, by omega⟩ ⟨by omega, by omega⟩).mp z))]
      simp [show d.natAbs ≤ 4 by omega, bI]
theorem M_near (m : Nat) {P q : Nat} (hP : P < 120) (hq : q < 120) {τ : St} (h2 : τ.1 2 = nI (P % 12)) (h3 : τ.1 3 = nI (P / 12)) : f_Model_isNear m (nI (q % 12)) (nI (q / 12)) τ = some (bI (decide (mxA (cdx P q) (cdy P q) ≤ 4)), τ) := by
  unfold f_Model_isNear
  rw [h2]
  have e1 : nI (q % 12) - nI (P % 12) = zI (cdx P q) := by rw [zI_nat, zI_nat, zI_sub]; rfl
  have e2 : nI (q / 12) - nI (P / 12) = zI (cdy P q) := by rw [zI_nat, zI_nat, zI_sub]; rfl
  rw [e1, M_in4 m (by unfold cdx; omega), bd_e]
  by_cases h : (cdx P q).natAbs ≤ 4
  · rw [if_neg (by simp [h, bI]), h3, e2, M_in4 m (by unfold cdy; omega), bd_e]
    by_cases hh : (cdy P q).natAbs ≤ 4
    · rw [if_neg (by simp [hh, bI])]
      simp [show mxA (cdx P q) (cdy P q) ≤ 4 by unfold mxA; split <;> omega, bI]
    · rw [if_pos (by simp [hh, bI])]
      simp [show ¬ mxA (cdx P q) (cdy P q) ≤ 4 by unfold mxA; split <;> omega, bI]
  · rw [if_pos (by simp [h, bI])]
    simp [show ¬ mxA (cdx P q) (cdy P q) ≤ 4 by unfold mxA; split <;> omega, bI]
theorem M_seen {m : Nat} (hm : 5 ≤ m) {P q : Nat} (hP : P < 120) (hq : q < 120) {τ : St} (h2 : τ.1 2 = nI (P % 12)) (h3 : τ.1 3 = nI (P / 12)) : f_Model_isSeen m (nI (q % 12)) (nI (q / 12)) τ = some (bI (sight (τ.2.2 0) P q), τ) := by
  unfold f_Model_isSeen
  rw [M_near m hP hq h2 h3, bd_e]
  by_cases h : mxA (cdx P q) (cdy P q) ≤ 4
  · rw [if_neg (by simp [h, bI]), h2, h3, M_clear hm hP hq h, bd_e]
    by_cases hh : clear (τ.2.2 0) P q = true
    · rw [if_neg (by rw [hh]; decide)]
      simp [sight, h, hh, bI]
    · rw [Bool.not_eq_true] at hh
      rw [if_pos (by rw [hh]; decide)]
      simp [sight, h, hh, bI]
  · rw [if_pos (by simp [h, bI])]
    simp [sight, h, bI]
theorem flr_congr {g g' : Nat → Int32} (h : ∀ p, p < 120 → g p = g' p) (p : Nat) : flr g p = flr g' p := by
  unfold flr
  by_cases hp : p < 120
  · rw [h p hp]
  · simp [hp]
theorem clr_congr {g g' : Nat → Int32} (h : ∀ p, p < 120 → g p = g' p) (x y : Nat) (dx dy : Int) (n : Nat) : ∀ r k, clr g x y dx dy n r k = clr g' x y dx dy n r k := by
  intro r
  induction r with
  | zero => intro k; rfl
  | succ r ih => intro k; unfold clr; rw [flr_congr h, ih]
theorem clear_congr {g g' : Nat → Int32} (h : ∀ p, p < 120 → g p = g' p) (p q : Nat) : clear g p q = clear g' p q := clr_congr h _ _ _ _ _ _ _
theorem sight_congr {g g' : Nat → Int32} (h : ∀ p, p < 120 → g p = g' p) (p q : Nat) : sight g p q = sight g' p q := by
  unfold sight
  rw [clear_congr h]
