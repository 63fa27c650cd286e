/-! PURE: the reference's search, level by level (own work) -/
def cnD (d : Nat → Int) : Nat := cntP (fun p => decide (0 ≤ d p)) 120
def mst (τ : St) (d : Nat → Int) : St := sB τ 2 (fun p => zI (d p))
theorem mst_2 (τ : St) (d : Nat → Int) (p : Nat) : (mst τ d).2.2 2 p = zI (d p) := rfl
theorem mst_0 (τ : St) (d : Nat → Int) : (mst τ d).2.2 0 = τ.2.2 0 := rfl
theorem mst_s (τ : St) (d : Nat → Int) (r : Nat) (v : Int) : sA (mst τ d) 2 r (zI v) = mst τ (ud d r v) := by
  unfold mst
  rw [sB_sA]
  congr 1
  funext p
  by_cases h : p = r
  · simp [upd, ud, h]
  · simp [upd, ud, h]
/-- level L is being gone through, cells below c are done; C0 were set before, b tells whether one was set since -/
def MI (g : Nat → Int32) (P : Nat) (d : Nat → Int) (L c C0 : Nat) (b : Int32) : Prop :=
  (∀ p, p < 120 → d p = -1 ∨ (0 ≤ d p ∧ d p ≤ (L : Int) + 1)) ∧
  (∀ p, p < 120 → 0 ≤ d p → g p ≠ 0) ∧
  d P = 0 ∧
  (∀ p, p < 120 → 0 ≤ d p → p = P ∨ ∃ t, t < 4 ∧ nbr p t < 120 ∧ 0 ≤ d (nbr p t) ∧ d (nbr p t) = d p - 1) ∧
  (∀ p, p < 120 → 0 ≤ d p → d p < L → ∀ t, t < 4 → nbr p t < 120 → g (nbr p t) ≠ 0 → 0 ≤ d (nbr p t) ∧ d (nbr p t) ≤ d p + 1) ∧
  (∀ p, p < 120 → p < c → d p = L → ∀ t, t < 4 → nbr p t < 120 → g (nbr p t) ≠ 0 → 0 ≤ d (nbr p t)) ∧
  ((b = 0 ∧ (∀ p, p < 120 → d p ≤ L) ∧ cnD d = C0) ∨ (b = 1 ∧ C0 < cnD d)) ∧ L < cnD d
theorem MI_cn {g : Nat → Int32} {P : Nat} {d : Nat → Int} (hb : bor g) (h : ∀ p, p < 120 → 0 ≤ d p → g p ≠ 0) : cnD d ≤ 80 := by
  unfold cnD
  rw [← cnt_intr]
  exact cntP_mono (fun p hp hq => hb p hp (h p hp (of_decide_eq_true hq)))
theorem MI_add {g : Nat → Int32} {P : Nat} {d : Nat → Int} {L c C0 t : Nat} {b : Int32} (hb : bor g) (h : MI g P d L c C0 b) (hc : c < 120) (hcL : d c = L) (ht : t < 4) (hg : g (nbr c t) ≠ 0) (hd : d (nbr c t) < 0) : MI g P (ud d (nbr c t) ((L : Int) + 1)) L c C0 1 := by
  obtain ⟨h1, h2, h3, h4, h5, h6, h7, h8⟩ := h
  have hin : intr c = true := hb c hc (h2 c hc (by omega))
  have hr : nbr c t < 120 := (nbr_back c hc t ht hin).1
  have hback := (nbr_back c hc t ht hin).2 (hb _ hr hg)
  generalize hre : nbr c t = r at *
  have hcr : c ≠ r := fun e => by rw [← e] at hd; omega
  have hPr : P ≠ r := fun e => by rw [← e] at hd; omega
  have hcn : cnD (ud d r ((L : Int) + 1)) = cnD d + 1 := by
    unfold cnD
    exact cntP_one (r := r) hr (by simp; omega) (by simp [ud_s]; omega) (fun p hp hpr => by simp [ud_n d _ hpr])
  refine ⟨fun p hp => ?_, fun p hp hdp => ?_, by rw [ud_n _ _ hPr]; exact h3, fun p hp hdp => ?_, fun p hp hdp hl t2 ht2 hn hgn => ?_, fun p hp hpc hdp t2 ht2 hn hgn => ?_, Or.inr ⟨rfl, ?_⟩, by omega⟩
  · by_cases hpr : p = r
    · right; rw [hpr, ud_s]; omega
    · rw [ud_n _ _ hpr]; exact h1 p hp
  · by_cases hpr : p = r
    · rw [hpr]; exact hg
    · rw [ud_n _ _ hpr] at hdp; exact h2 p hp hdp
  · by_cases hpr : p = r
    · obtain ⟨u, hu, he⟩ := hback
      right
      refine ⟨u, hu, ?_⟩
      rw [hpr, he, ud_s, ud_n _ _ hcr]
      exact ⟨hc, by omega, by omega⟩
    · rw [ud_n _ _ hpr] at hdp
      rcases h4 p hp hdp with e | ⟨u, hu, a1, a2, a3⟩
      · exact Or.inl e
      · have hnr : nbr p u ≠ r := fun e => by rw [e] at a2; omega
        exact Or.inr ⟨u, hu, a1, by rw [ud_n _ _ hnr]; exact a2, by rw [ud_n _ _ hnr, ud_n _ _ hpr]; exact a3⟩
  · have hpr : p ≠ r := fun e => by rw [e, ud_s] at hl; omega
    rw [ud_n _ _ hpr] at hdp hl ⊢
    obtain ⟨a1, a2⟩ := h5 p hp hdp hl t2 ht2 hn hgn
    have hnr : nbr p t2 ≠ r := fun e => by rw [e] at a1; omega
    rw [ud_n _ _ hnr]
    exact ⟨a1, a2⟩
  · have hpr : p ≠ r := fun e => by rw [e, ud_s] at hdp; omega
    rw [ud_n _ _ hpr] at hdp
    have a1 := h6 p hp hpc hdp t2 ht2 hn hgn
    have hnr : nbr p t2 ≠ r := fun e => by rw [e] at a1; omega
    rw [ud_n _ _ hnr]
    exact a1
  · rcases h7 with ⟨_, _, e⟩ | ⟨_, e⟩ <;> omega
theorem MI_c {g : Nat → Int32} {P : Nat} {d : Nat → Int} {L c C0 : Nat} {b : Int32} (h : MI g P d L c C0 b) (hu : d c = L → ∀ t, t < 4 → nbr c t < 120 → g (nbr c t) ≠ 0 → 0 ≤ d (nbr c t)) : MI g P d L (c + 1) C0 b := by
  obtain ⟨h1, h2, h3, h4, h5, h6, h7, h8⟩ := h
  refine ⟨h1, h2, h3, h4, h5, fun p hp hpc hdp => ?_, h7, h8⟩
  by_cases e : p = c
  · subst e; exact hu hdp
  · exact h6 p hp (by omega) hdp
theorem M_lev_in {m : Nat} {τ : St} (hb : bor (τ.2.2 0)) {P L c C0 : Nat} (hL : L ≤ 100) (hc : c < 120) (k43 : Int32 → Int32 → St → Option (Unit × St)) (k51 : Int32 → Int32 → Int32 → St → Option (Unit × St)) :
    ∀ (r t j : Nat) (d : Nat → Int) (b : Int32), t + r = 4 → r < j → MI (τ.2.2 0) P d L c C0 b → d c = L → (∀ u, u < t → (τ.2.2 0) (nbr c u) ≠ 0 → 0 ≤ d (nbr c u)) →
      ∃ (d' : Nat → Int) (b' : Int32), MI (τ.2.2 0) P d' L (c + 1) C0 b' ∧ f_Model_measure_73 m k43 k51 j b (nI L) (nI c) (nI t) (mst τ d) = k51 b' (nI L) (nI (c + 1)) (mst τ d') := by
  intro r
  induction r with
  | zero =>
    intro t j d b ht hj hB hcL hu
    obtain ⟨j, rfl⟩ : ∃ z, j = z + 1 := ⟨j - 1, by omega⟩
    obtain rfl : t = 4 := by omega
    refine ⟨d, b, MI_c hB (fun _ t ht _ hg => hu t ht hg), ?_⟩
    rw [f_Model_measure_73_s, if_pos (show (4 : Int32) ≤ nI 4 from (le_n (a := 4) (by omega) (by omega)).mpr (Nat.le_refl _)), bnd_e, nI_1]
  | succ r ih =>
    intro t j d b ht hj hB hcL hu
    obtain ⟨j, rfl⟩ : ∃ z, j = z + 1 := ⟨j - 1, by omega⟩
    have hgc : (τ.2.2 0) c ≠ 0 := hB.2.1 c hc (by omega)
    have hin : intr c = true := hb c hc hgc
    obtain ⟨n1, n2, n3, n4, n5⟩ := nbr_all c hc t (by omega) hin
    rw [f_Model_measure_73_s, if_neg (fun q : (4 : Int32) ≤ nI t => by have := (le_n (a := 4) (by omega) (by omega)).mp q; omega)]
    rw [M_dx m (by omega), bd_e, bnd_e, M_dy m (by omega), bd_e, bnd_e, show (12 : Int32) = nI 12 from rfl, pk_rem (by omega) (by omega) (by omega), pk_div (by omega) (by omega) (by omega), n3, n4, M_isFloor m (by omega) (by omega), bd_e]
    rw [show nI 12 * nI (nbr c t / 12) + nI (nbr c t % 12) = nI (12 * (nbr c t / 12) + nbr c t % 12) from by rw [pk_mul, nI_add]]
    rw [show 12 * (nbr c t / 12) + nbr c t % 12 = nbr c t by omega, mst_0]
    have skip : ((τ.2.2 0) (nbr c t) ≠ 0 → 0 ≤ d (nbr c t)) → ∃ (d' : Nat → Int) (b' : Int32), MI (τ.2.2 0) P d' L (c + 1) C0 b' ∧ f_Model_measure_73 m k43 k51 j b (nI L) (nI c) (nI (t + 1)) (mst τ d) = k51 b' (nI L) (nI (c + 1)) (mst τ d') := by
      intro hs
      refine ih (t + 1) j d b (by omega) (by omega) hB hcL (fun u hu2 hg => ?_)
      by_cases he : u = t
      · subst he; exact hs hg
      · exact hu u (by omega) hg
    by_cases hf : flr (τ.2.2 0) (nbr c t) = true
    · have hg : (τ.2.2 0) (nbr c t) ≠ 0 := by
        intro e
        simp [flr, e] at hf
      rw [if_neg (by rw [hf]; decide), gd_e (inb_n n2 (by omega)), tn_n (by omega), mst_2]
      have h1 := hB.1 _ n2
      by_cases hd : d (nbr c t) < 0
      · rw [if_pos (show zI (d (nbr c t)) < 0 from (zI_lt (a := d (nbr c t)) (b := 0) ⟨by omega, by omega⟩ ⟨by omega, by omega⟩).mpr hd), gd_e (inb_n n2 (by omega)), bnd_e, bnd_e]
        rw [show nI L + 1 = zI ((L : Int) + 1) from by rw [zI_nat, show (1 : Int32) = zI 1 from rfl, zI_add], mst_s, nI_1]
        have hcr : c ≠ nbr c t := fun e => by rw [← e] at hd; omega
        refine ih (t + 1) j _ 1 (by omega) (by omega) (MI_add hb hB hc hcL (by omega) hg hd) (by rw [ud_n _ _ hcr]; exact hcL) (fun u hu2 hgu => ?_)
        by_cases he : nbr c u = nbr c t
        · rw [he, ud_s]; omega
        · rw [ud_n _ _ he]
          by_cases hut : u = t
          · exact absurd (by rw [hut]) he
          · exact hu u (by omega) hgu
      · rw [if_neg (fun q : zI (d (nbr c t)) < 0 => hd ((zI_lt (a := d (nbr c t)) (b := 0) ⟨by omega, by omega⟩ ⟨by omega, by omega⟩).mp q)), bnd_e, nI_1]
        exact skip (fun _ => by omega)
    · rw [Bool.not_eq_true] at hf
      rw [if_pos (by rw [hf]; decide), bnd_e, nI_1]
      refine skip (fun hg => ?_)
      simp [flr, n2] at hf
      exact absurd hf hg
theorem M_lev_mid {m : Nat} (hm : 5 ≤ m) {τ : St} (hb : bor (τ.2.2 0)) {P L C0 : Nat} (hL : L ≤ 100) (k43 : Int32 → Int32 → St → Option (Unit × St)) :
    ∀ (r c j : Nat) (d : Nat → Int) (b : Int32), c + r = 120 → r < j → MI (τ.2.2 0) P d L c C0 b →
      ∃ (d' : Nat → Int) (b' : Int32), MI (τ.2.2 0) P d' L 120 C0 b' ∧ f_Model_measure_51 m k43 j b (nI L) (nI c) (mst τ d) = k43 b' (nI (L + 1)) (mst τ d') := by
  intro r
  induction r with
  | zero =>
    intro c j d b hc hj hB
    obtain ⟨j, rfl⟩ : ∃ z, j = z + 1 := ⟨j - 1, by omega⟩
    obtain rfl : c = 120 := by omega
    exact ⟨d, b, hB, by rw [f_Model_measure_51_s, if_pos y120, bnd_e, nI_1]⟩
  | succ r ih =>
    intro c j d b hc hj hB
    obtain ⟨j, rfl⟩ : ∃ z, j = z + 1 := ⟨j - 1, by omega⟩
    have h1 := hB.1 c (by omega)
    rw [f_Model_measure_51_s, if_neg (n120 (by omega)), gd_e (inb_n (by omega) (by omega)), tn_n (by omega), mst_2, zI_nat L]
    by_cases he : d c = L
    · rw [if_pos ((zI_eq ⟨by omega, by omega⟩ ⟨by omega, by omega⟩).mpr he), ← zI_nat L, show (0 : Int32) = nI 0 from rfl]
      obtain ⟨d', b', a1, a2⟩ := M_lev_in (m := m) hb (P := P) (L := L) (c := c) (C0 := C0) hL (by omega) k43 (fun y1 y2 y3 σ => f_Model_measure_51 m k43 j y1 y2 y3 σ) 4 0 m d b (by omega) (by omega) hB he (fun u hu => by omega)
      rw [a2]
      exact ih (c + 1) j d' b' (by omega) (by omega) a1
    · rw [if_neg (fun q => he ((zI_eq ⟨by omega, by omega⟩ ⟨by omega, by omega⟩).mp q)), ← zI_nat L, bnd_e, nI_1]
      exact ih (c + 1) j d b (by omega) (by omega) (MI_c hB (fun q => absurd q he))
theorem M_lev_out {m : Nat} (hm : 130 ≤ m) {τ : St} (hb : bor (τ.2.2 0)) {P : Nat} :
    ∀ (j L : Nat) (d : Nat → Int), 82 - cnD d < j → MI (τ.2.2 0) P d L 0 (cnD d) 0 → ∃ d' : Nat → Int, isD (τ.2.2 0) P d' ∧ (∀ p, p < 120 → d' p = -1 ∨ 0 ≤ d' p) ∧ (∀ p, p < 120 → d' p ≤ 200) ∧ f_Model_measure_43 m j 1 (nI L) (mst τ d) = some ((), mst τ d') := by
  intro j
  induction j with
  | zero => intro L d h; omega
  | succ j ih =>
    intro L d hj hB
    have hcn := MI_cn (P := P) hb hB.2.1
    have hL : L ≤ 100 := by have := hB.2.2.2.2.2.2.2; omega
    obtain ⟨d', b', a1, a2⟩ := M_lev_mid (m := m) (by omega) hb (P := P) (C0 := cnD d) hL (fun y1 y2 σ => f_Model_measure_43 m j y1 y2 σ) 120 0 m d 0 (by omega) (by omega) hB
    rw [f_Model_measure_43_s, if_neg (by decide), show f_Model_measure_51 m (fun y1 y2 σ => f_Model_measure_43 m j y1 y2 σ) m 0 (nI L) 0 (mst τ d) = _ from a2]
    have hcn' := MI_cn (P := P) hb a1.2.1
    obtain ⟨h1, h2, h3, h4, h5, h6, h7, h8⟩ := a1
    have hall : ∀ p, p < 120 → 0 ≤ d' p → d' p < (L : Int) + 1 → ∀ t, t < 4 → nbr p t < 120 → (τ.2.2 0) (nbr p t) ≠ 0 → 0 ≤ d' (nbr p t) ∧ d' (nbr p t) ≤ d' p + 1 := by
      intro p hp hdp hl t ht hn hg
      by_cases e : d' p = L
      · have a := h6 p hp hp e t ht hn hg
        rcases h1 _ hn with q | q
        · omega
        · omega
      · exact h5 p hp hdp (by omega) t ht hn hg
    obtain ⟨j, rfl⟩ : ∃ z, j = z + 1 := ⟨j - 1, by omega⟩
    rcases h7 with ⟨rfl, h7, h9⟩ | ⟨rfl, h7⟩
    · refine ⟨d', ⟨h3, h2, h4, fun p hp hdp t ht hn hg => hall p hp hdp (by have := h7 p hp; omega) t ht hn hg⟩, fun p hp => ?_, fun p hp => ?_, ?_⟩
      · rcases h1 p hp with q | q
        · exact Or.inl q
        · exact Or.inr q.1
      · have := h7 p hp; omega
      · rw [f_Model_measure_43_s, if_pos rfl]
    · refine ih (L + 1) d' (by omega) ⟨fun p hp => ?_, h2, h3, h4, fun p hp hdp hl => hall p hp hdp (by omega), fun p hp hpc => by omega, Or.inl ⟨rfl, fun p hp => ?_, rfl⟩, by have := hB.2.2.2.2.2.2.2; omega⟩
      · rcases h1 p hp with q | q
        · exact Or.inl q
        · right; omega
      · rcases h1 p hp with q | q <;> omega
theorem M_fill_d (m : Nat) (τ : St) (k : Nat → Option (Unit × St)) : ∀ (r c j : Nat), c + r = 120 → r < j → f_Model_measure_2 m j (nI c) (sB τ 2 (fl_to (-1) (τ.2.2 2) c)) = (f_Model_measure_2 m (j - r) (nI 120) (sB τ 2 (fl_to (-1) (τ.2.2 2) 120))) := by
  intro r
  induction r with
  | zero =>
    intro c j hc hj
    obtain rfl : c = 120 := by omega
    rfl
  | succ r ih =>
    intro c j hc hj
    obtain ⟨j, rfl⟩ : ∃ z, j = z + 1 := ⟨j - 1, by omega⟩
    rw [f_Model_measure_2_s, if_neg (n120 (by omega)), gd_e (inb_n (by omega) (by omega)), bnd_e, bnd_e, tn_n (by omega), sB_sA, fl_s, nI_1, ih (c + 1) j (by omega) (by omega)]
    rw [show j + 1 - (r + 1) = j - r by omega]
/-- measure: the distances from P -/
theorem M_measure {m : Nat} (hm : 130 ≤ m) {τ : St} (hb : bor (τ.2.2 0)) {P : Nat} (hP : P < 120) (hg : (τ.2.2 0) P ≠ 0) (h2 : τ.1 2 = nI (P % 12)) (h3 : τ.1 3 = nI (P / 12)) :
    ∃ d : Nat → Int, isD (τ.2.2 0) P d ∧ (∀ p, p < 120 → d p = -1 ∨ 0 ≤ d p) ∧ (∀ p, p < 120 → d p ≤ 200) ∧ f_Model_measure m τ = some ((), mst τ d) := by
  let d0 : Nat → Int := fun p => if p < 120 then -1 else ((τ.2.2 2) p).toInt
  have e0 : sB τ 2 (fl_to (-1) (τ.2.2 2) 120) = mst τ d0 := by
    unfold mst
    congr 1
    funext p
    unfold fl_to
    by_cases hp : p < 120
    · simp [d0, hp]; rfl
    · simp [d0, hp]; exact (zI_of _).symm
  have hd : ∀ p, p < 120 → p ≠ P → ud d0 P 0 p = -1 := fun p hp he => by rw [ud_n _ _ he]; simp [d0, hp]
  have hcn : cnD (ud d0 P 0) = 1 := by
    unfold cnD
    rw [cntP_one (f := fun _ => false) (r := P) hP rfl (by simp [ud_s]) (fun p hp hq => by simp [hd p hp hq])]
    rfl
  have hB : MI (τ.2.2 0) P (ud d0 P 0) 0 0 (cnD (ud d0 P 0)) 0 := by
    refine ⟨fun p hp => ?_, fun p hp hdp => ?_, ud_s _ _ _, fun p hp hdp => ?_, fun p hp hdp hl => by omega, fun p hp hpc => by omega, Or.inl ⟨rfl, fun p hp => ?_, rfl⟩, by omega⟩
    · by_cases he : p = P
      · right; rw [he, ud_s]; omega
      · left; exact hd p hp he
    · by_cases he : p = P
      · rw [he]; exact hg
      · rw [hd p hp he] at hdp; omega
    · by_cases he : p = P
      · exact Or.inl he
      · rw [hd p hp he] at hdp; omega
    · by_cases he : p = P
      · rw [he, ud_s]; omega
      · rw [hd p hp he]; omega
  obtain ⟨d, a1, a2, a3, a4⟩ := M_lev_out (m := m) hm hb (P := P) m 0 (ud d0 P 0) (by omega) hB
  refine ⟨d, a1, a2, a3, ?_⟩
  unfold f_Model_measure
  have h := M_fill_d m τ (fun _ => none) 120 0 m (by omega) (by omega)
  rw [fl_0, sB_self] at h
  rw [show f_Model_measure_2 m m 0 τ = _ from h, e0]
  obtain ⟨q, hq⟩ : ∃ z, m - 120 = z + 1 := ⟨m - 121, by omega⟩
  rw [hq, f_Model_measure_2_s, if_pos y120]
  rw [show (mst τ d0).1 = τ.1 from rfl, h2, h3, show (12 : Int32) = nI 12 from rfl, pk_mul, nI_add, show 12 * (P / 12) + P % 12 = P by omega, gd_e (inb_n hP (by omega)), bnd_e, tn_n (by omega), show (0 : Int32) = zI 0 from rfl, mst_s]
  exact a4
