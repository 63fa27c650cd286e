/-! PURE: distances: what they are, and that they are one; the class's queue (own work) -/
def cntP (f : Nat → Bool) : Nat → Nat
  | 0 => 0
  | n + 1 => cntP f n + (if f n = true then 1 else 0)
theorem cntP_mono {f g : Nat → Bool} : ∀ {n : Nat}, (∀ p, p < n → f p = true → g p = true) → cntP f n ≤ cntP g n := by
  intro n
  induction n with
  | zero => intro _; exact Nat.le_refl _
  | succ n ih =>
    intro h
    have h1 := ih (fun p hp => h p (by omega))
    unfold cntP
    by_cases hf : f n = true
    · rw [if_pos hf, if_pos (h n (by omega) hf)]; omega
    · rw [if_neg hf]; omega
theorem cntP_congr {f g : Nat → Bool} : ∀ {n : Nat}, (∀ p, p < n → f p = g p) → cntP f n = cntP g n := by
  intro n
  induction n with
  | zero => intro _; rfl
  | succ n ih =>
    intro h
    unfold cntP
    rw [ih (fun p hp => h p (by omega)), h n (by omega)]
theorem cntP_one {f g : Nat → Bool} {r : Nat} : ∀ {n : Nat}, r < n → f r = false → g r = true → (∀ p, p < n → p ≠ r → f p = g p) → cntP g n = cntP f n + 1 := by
  intro n
  induction n with
  | zero => intro h; omega
  | succ n ih =>
    intro hr h1 h2 h3
    unfold cntP
    by_cases hn : r = n
    · subst hn
      rw [cntP_congr (f := g) (g := f) (n := r) (fun p hp => (h3 p (by omega) (by omega)).symm), h1, h2]
      simp
    · rw [ih (by omega) h1 h2 (fun p hp hq => h3 p (by omega) hq), h3 n (by omega) (by omega)]
      omega
theorem cnt_intr : cntP intr 120 = 80 := by decide +kernel
/-- d is the distance from P over the floor g -/
def isD (g : Nat → Int32) (P : Nat) (d : Nat → Int) : Prop :=
  d P = 0 ∧ (∀ p, p < 120 → 0 ≤ d p → g p ≠ 0) ∧ (∀ p, p < 120 → 0 ≤ d p → p = P ∨ ∃ t, t < 4 ∧ nbr p t < 120 ∧ 0 ≤ d (nbr p t) ∧ d (nbr p t) = d p - 1) ∧ (∀ p, p < 120 → 0 ≤ d p → ∀ t, t < 4 → nbr p t < 120 → g (nbr p t) ≠ 0 → 0 ≤ d (nbr p t) ∧ d (nbr p t) ≤ d p + 1)
def bor (g : Nat → Int32) : Prop := ∀ p, p < 120 → g p ≠ 0 → intr p = true
theorem nbr_back : ∀ p, p < 120 → ∀ t, t < 4 → intr p = true → (nbr p t < 120 ∧ (intr (nbr p t) = true → ∃ u, u < 4 ∧ nbr (nbr p t) u = p)) := by
  intro p hp t ht hi
  refine ⟨(nbr_all p hp t ht hi).2.1, fun h2 => ?_⟩
  refine ⟨(t + 2) % 4, by omega, ?_⟩
  rcases (show t = 0 ∨ t = 1 ∨ t = 2 ∨ t = 3 by omega) with rfl | rfl | rfl | rfl <;> simp [intr] at hi <;> simp [nbr] <;> omega
theorem isD_le {g : Nat → Int32} {P : Nat} {d d' : Nat → Int} (hb : bor g) (h : isD g P d) (h' : isD g P d') : ∀ (k : Nat) (p : Nat), p < 120 → d p = (k : Int) → 0 ≤ d' p ∧ d' p ≤ (k : Int) := by
  intro k
  induction k with
  | zero =>
    intro p hp hk
    rcases h.2.2.1 p hp (by omega) with rfl | ⟨t, _, _, h3, h4⟩
    · rw [h'.1]; omega
    · omega
  | succ k ih =>
    intro p hp hk
    rcases h.2.2.1 p hp (by omega) with rfl | ⟨t, ht, hl, h3, h4⟩
    · rw [h.1] at hk; omega
    · have hgp := h.2.1 p hp (by omega)
      have hgn := h.2.1 _ hl h3
      obtain ⟨i1, i2⟩ := ih _ hl (by omega)
      obtain ⟨u, hu, he⟩ := (nbr_back p hp t ht (hb p hp hgp)).2 (hb _ hl hgn)
      have := h'.2.2.2 _ hl i1 u hu (by rw [he]; exact hp) (by rw [he]; exact hgp)
      rw [he] at this
      omega
/-- distances are one -/
theorem isD_one {g : Nat → Int32} {P : Nat} {d d' : Nat → Int} (hb : bor g) (h : isD g P d) (h' : isD g P d') : ∀ p, p < 120 → (0 ≤ d p ↔ 0 ≤ d' p) ∧ (0 ≤ d p → d p = d' p) := by
  intro p hp
  have a : 0 ≤ d p → 0 ≤ d' p ∧ d' p ≤ d p := fun q => by
    have := isD_le hb h h' (d p).toNat p hp (by omega)
    omega
  have b : 0 ≤ d' p → 0 ≤ d p ∧ d p ≤ d' p := fun q => by
    have := isD_le hb h' h (d' p).toNat p hp (by omega)
    omega
  exact ⟨⟨fun q => (a q).1, fun q => (b q).1⟩, fun q => by have := a q; have := b (a q).1; omega⟩
/-! the class's search -/
def kst (σ : St) (d : Nat → Int) (Q : Nat → Int32) (gr : Int32) : St := (upd σ.1 8 gr, σ.2.1, fun j => if j = 14 then Q else if j = 13 then (fun p => zI (d p)) else σ.2.2 j)
def ud {α : Type} (d : Nat → α) (r : Nat) (v : α) : Nat → α := fun p => if p = r then v else d p
theorem ud_s {α : Type} (d : Nat → α) (r : Nat) (v : α) : ud d r v r = v := by simp [ud]
theorem ud_n {α : Type} (d : Nat → α) {r p : Nat} (v : α) (h : p ≠ r) : ud d r v p = d p := by simp [ud, h]
theorem kst_13 (σ : St) (d : Nat → Int) (Q : Nat → Int32) (gr : Int32) (p : Nat) : (kst σ d Q gr).2.2 13 p = zI (d p) := rfl
theorem kst_14 (σ : St) (d : Nat → Int) (Q : Nat → Int32) (gr : Int32) (p : Nat) : (kst σ d Q gr).2.2 14 p = Q p := rfl
theorem kst_s13 (σ : St) (d : Nat → Int) (Q : Nat → Int32) (gr : Int32) (r : Nat) (v : Int) : sA (kst σ d Q gr) 13 r (zI v) = kst σ (ud d r v) Q gr := by
  unfold sA kst
  congr 2
  funext j
  by_cases h : j = 13
  · subst h
    simp
    funext p
    by_cases hp : p = r
    · simp [upd, ud, hp]
    · simp [upd, ud, hp]
  · simp [h]
theorem kst_s14 (σ : St) (d : Nat → Int) (Q : Nat → Int32) (gr : Int32) (i : Nat) (v : Int32) : sA (kst σ d Q gr) 14 i v = kst σ d (upd Q i v) gr := by
  unfold sA kst
  congr 2
  funext j
  by_cases h : j = 14
  · subst h
    simp
  · simp [h]
theorem kst_s8 (σ : St) (d : Nat → Int) (Q : Nat → Int32) (gr v : Int32) : sI (kst σ d Q gr) 8 v = kst σ d Q v := by
  unfold sI kst
  congr 1
  funext j
  by_cases h : j = 8
  · simp [upd, h]
  · simp [upd, h]
def BI (g : Nat → Int32) (P : Nat) (d : Nat → Int) (qq : Nat → Nat) (w k : Nat) : Prop :=
  w = cntP (fun p => decide (0 ≤ d p)) 120 ∧
  (∀ i, i < w → qq i < 120 ∧ g (qq i) ≠ 0 ∧ 0 ≤ d (qq i) ∧ d (qq i) ≤ i) ∧
  (∀ p, p < 120 → 0 ≤ d p → ∃ i, i < w ∧ qq i = p) ∧
  (∀ p, p < 120 → d p = -2 ∨ 0 ≤ d p) ∧
  (d P = 0 ∧ 0 < w ∧ qq 0 = P) ∧
  (∀ i j, i ≤ j → j < w → d (qq i) ≤ d (qq j)) ∧
  (∀ j, j < w → k < w → d (qq j) ≤ d (qq k) + 1) ∧
  (∀ p, p < 120 → 0 ≤ d p → p = P ∨ ∃ t, t < 4 ∧ nbr p t < 120 ∧ 0 ≤ d (nbr p t) ∧ d (nbr p t) = d p - 1) ∧
  (∀ i, i < k → i < w → ∀ t, t < 4 → g (nbr (qq i) t) ≠ 0 → 0 ≤ d (nbr (qq i) t) ∧ d (nbr (qq i) t) ≤ d (qq i) + 1)
theorem BI_w {g : Nat → Int32} {P : Nat} {d : Nat → Int} {qq : Nat → Nat} {w k : Nat} (hb : bor g) (h : BI g P d qq w k) : w ≤ 80 := by
  rw [h.1, ← cnt_intr]
  refine cntP_mono (fun p hp hq => ?_)
  obtain ⟨i, hi, rfl⟩ := h.2.2.1 p hp (of_decide_eq_true hq)
  exact hb _ hp (h.2.1 i hi).2.1
/-- a cell is found: it comes to the end of the queue -/
theorem BI_add {g : Nat → Int32} {P : Nat} {d : Nat → Int} {qq : Nat → Nat} {w k t : Nat} (hb : bor g) (h : BI g P d qq w k) (hk : k < w) (ht : t < 4) (hg : g (nbr (qq k) t) ≠ 0) (hd : d (nbr (qq k) t) = -2) : BI g P (ud d (nbr (qq k) t) (d (qq k) + 1)) (ud qq w (nbr (qq k) t)) (w + 1) k := by
  obtain ⟨h1, h2, h3, h4, h5, h6, h7, h8, h9⟩ := h
  have hkk := h2 k hk
  have hr : nbr (qq k) t < 120 := (nbr_back _ hkk.1 t ht (hb _ hkk.1 hkk.2.1)).1
  generalize hre : nbr (qq k) t = r at *
  have hne : ∀ i, i < w → qq i ≠ r := fun i hi e => by have := (h2 i hi).2.2.1; rw [e] at this; omega
  have hq : ∀ i, i < w → ud qq w r i = qq i := fun i hi => ud_n _ _ (by omega)
  have hdq : ∀ i, i < w → ud d r (d (qq k) + 1) (qq i) = d (qq i) := fun i hi => ud_n _ _ (hne i hi)
  have hPr : P ≠ r := fun e => by rw [← e] at hd; omega
  refine ⟨?_, ?_, ?_, ?_, ?_, ?_, ?_, ?_, ?_⟩
  · rw [cntP_one (f := fun p => decide (0 ≤ d p)) (r := r) hr (by simp [hd]) (by simp [ud_s]; omega) (fun p hp hpr => by simp [ud_n d _ hpr]), ← h1]
  · intro i hi
    by_cases hiw : i = w
    · subst hiw
      rw [ud_s, ud_s]
      exact ⟨hr, hg, by omega, by omega⟩
    · rw [hq i (by omega), hdq i (by omega)]
      exact h2 i (by omega)
  · intro p hp hdp
    by_cases hpr : p = r
    · exact ⟨w, by omega, by rw [ud_s, hpr]⟩
    · rw [ud_n _ _ hpr] at hdp
      obtain ⟨i, hi, e⟩ := h3 p hp hdp
      exact ⟨i, by omega, by rw [hq i hi, e]⟩
  · intro p hp
    by_cases hpr : p = r
    · right
      rw [hpr, ud_s]
      omega
    · rw [ud_n _ _ hpr]
      exact h4 p hp
  · exact ⟨by rw [ud_n _ _ hPr]; exact h5.1, by omega, by rw [hq 0 h5.2.1]; exact h5.2.2⟩
  · intro i j hij hj
    by_cases hjw : j = w
    · subst hjw
      rw [ud_s, ud_s]
      by_cases hiw : i = j
      · subst hiw
        rw [ud_s, ud_s]
        exact Int.le_refl _
      · rw [hq i (by omega), hdq i (by omega)]
        exact h7 i (by omega) hk
    · rw [hq i (by omega), hq j (by omega), hdq i (by omega), hdq j (by omega)]
      exact h6 i j hij (by omega)
  · intro j hj _
    rw [hq k hk, hdq k hk]
    by_cases hjw : j = w
    · subst hjw
      rw [ud_s, ud_s]
      exact Int.le_refl _
    · rw [hq j (by omega), hdq j (by omega)]
      exact h7 j (by omega) hk
  · intro p hp hdp
    by_cases hpr : p = r
    · right
      have hi2 : intr r = true := hb r hr hg
      obtain ⟨u, hu, he⟩ := (nbr_back (qq k) hkk.1 t ht (hb _ hkk.1 hkk.2.1)).2 (by rw [hre]; exact hi2)
      rw [hre] at he
      refine ⟨u, hu, ?_⟩
      rw [hpr, he, ud_s, ud_n _ _ (hne k hk)]
      exact ⟨hkk.1, hkk.2.2.1, by omega⟩
    · rw [ud_n _ _ hpr] at hdp
      rcases h8 p hp hdp with e | ⟨u, hu, a, b, c⟩
      · exact Or.inl e
      · have hnr : nbr p u ≠ r := fun e => by rw [e] at b; omega
        refine Or.inr ⟨u, hu, a, ?_⟩
        rw [ud_n _ _ hnr, ud_n _ _ hpr]
        exact ⟨b, c⟩
  · intro i hik hiw u hu hgu
    have hiw2 : i < w := by omega
    rw [hq i hiw2] at hgu ⊢
    rw [hdq i hiw2]
    obtain ⟨a, b⟩ := h9 i hik hiw2 u hu hgu
    have hnr : nbr (qq i) u ≠ r := fun e => by rw [e] at a; omega
    rw [ud_n _ _ hnr]
    exact ⟨a, b⟩
