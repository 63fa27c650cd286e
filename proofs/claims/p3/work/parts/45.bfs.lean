/-! PURE: the class's search, loop by loop (own work) -/
theorem BI_next {g : Nat → Int32} {P : Nat} {d : Nat → Int} {qq : Nat → Nat} {w k : Nat} (hb : bor g) (h : BI g P d qq w k) (hk : k < w) (hu : ∀ u, u < 4 → g (nbr (qq k) u) ≠ 0 → 0 ≤ d (nbr (qq k) u)) : BI g P d qq w (k + 1) := by
  obtain ⟨h1, h2, h3, h4, h5, h6, h7, h8, h9⟩ := h
  refine ⟨h1, h2, h3, h4, h5, h6, fun j hj hkw => ?_, h8, fun i hi hiw t ht hg => ?_⟩
  · have a := h7 j hj hk
    have b := h6 k (k + 1) (by omega) hkw
    omega
  · by_cases hik : i = k
    · subst hik
      have a := hu t ht hg
      have hkk := h2 i hiw
      have hr : nbr (qq i) t < 120 := (nbr_back _ hkk.1 t ht (hb _ hkk.1 hkk.2.1)).1
      obtain ⟨z, hz, e⟩ := h3 _ hr a
      have b := h7 z hz hk
      rw [e] at b
      exact ⟨a, b⟩
    · exact h9 i (by omega) hiw t ht hg
theorem BI_isD {g : Nat → Int32} {P : Nat} {d : Nat → Int} {qq : Nat → Nat} {w : Nat} (h : BI g P d qq w w) : isD g P d := by
  obtain ⟨h1, h2, h3, h4, h5, h6, h7, h8, h9⟩ := h
  refine ⟨h5.1, fun p hp hd => ?_, h8, fun p hp hd t ht _ hg => ?_⟩
  · obtain ⟨i, hi, rfl⟩ := h3 p hp hd
    exact (h2 i hi).2.1
  · obtain ⟨i, hi, rfl⟩ := h3 p hp hd
    exact h9 i hi hi t ht hg
theorem K_bfs_in {m : Nat} {σ : St} (hb : bor (σ.2.2 1)) {P k : Nat} (gr : Int32) (kont : Int32 → Int32 → St → Option (Unit × St)) :
    ∀ (r t j : Nat) (d : Nat → Int) (qq : Nat → Nat) (w : Nat) (Q : Nat → Int32), t + r = 4 → r < j → BI (σ.2.2 1) P d qq w k → k < w → (∀ i, i < w → Q i = nI (qq i)) → (∀ u, u < t → (σ.2.2 1) (nbr (qq k) u) ≠ 0 → 0 ≤ d (nbr (qq k) u)) →
      ∃ (d' : Nat → Int) (qq' : Nat → Nat) (w' : Nat) (Q' : Nat → Int32), BI (σ.2.2 1) P d' qq' w' k ∧ k < w' ∧ (∀ i, i < w' → Q' i = nI (qq' i)) ∧ qq' k = qq k ∧ d' (qq k) = d (qq k) ∧ (∀ u, u < 4 → (σ.2.2 1) (nbr (qq k) u) ≠ 0 → 0 ≤ d' (nbr (qq k) u)) ∧
        f_Distances_measure_78 m kont j (nI w) (nI k) (nI (qq k)) (nI t) (kst σ d Q gr) = kont (nI w') (nI (k + 1)) (kst σ d' Q' gr) := by
  intro r
  induction r with
  | zero =>
    intro t j d qq w Q ht hj hB hk hQ hu
    obtain ⟨j, rfl⟩ : ∃ z, j = z + 1 := ⟨j - 1, by omega⟩
    obtain rfl : t = 4 := by omega
    refine ⟨d, qq, w, Q, hB, hk, hQ, rfl, rfl, hu, ?_⟩
    rw [f_Distances_measure_78_s, if_pos (show (4 : Int32) ≤ nI 4 from (le_n (a := 4) (by omega) (by omega)).mpr (Nat.le_refl _)), bnd_e, nI_1]
  | succ r ih =>
    intro t j d qq w Q ht hj hB hk hQ hu
    obtain ⟨j, rfl⟩ : ∃ z, j = z + 1 := ⟨j - 1, by omega⟩
    have hw := BI_w hb hB
    have hkk := hB.2.1 k hk
    have hin : intr (qq k) = true := hb _ hkk.1 hkk.2.1
    have hr := (nbr_all _ hkk.1 t (by omega) hin).2.1
    rw [f_Distances_measure_78_s, if_neg (fun q : (4 : Int32) ≤ nI t => by have := (le_n (a := 4) (by omega) (by omega)).mp q; omega)]
    rw [K_nbr m hin (by omega), bd_e, K_isFloor m (by omega), bd_e]
    rw [show (kst σ d Q gr).2.2 1 = σ.2.2 1 from rfl]
    have skip : ((σ.2.2 1) (nbr (qq k) t) ≠ 0 → 0 ≤ d (nbr (qq k) t)) → ∃ (d' : Nat → Int) (qq' : Nat → Nat) (w' : Nat) (Q' : Nat → Int32), BI (σ.2.2 1) P d' qq' w' k ∧ k < w' ∧ (∀ i, i < w' → Q' i = nI (qq' i)) ∧ qq' k = qq k ∧ d' (qq k) = d (qq k) ∧ (∀ u, u < 4 → (σ.2.2 1) (nbr (qq k) u) ≠ 0 → 0 ≤ d' (nbr (qq k) u)) ∧
        f_Distances_measure_78 m kont j (nI w) (nI k) (nI (qq k)) (nI (t + 1)) (kst σ d Q gr) = kont (nI w') (nI (k + 1)) (kst σ d' Q' gr) := by
      intro hs
      refine ih (t + 1) j d qq w Q (by omega) (by omega) hB hk hQ (fun u hu2 hg => ?_)
      by_cases he : u = t
      · subst he
        exact hs hg
      · exact hu u (by omega) hg
    by_cases hf : flr (σ.2.2 1) (nbr (qq k) t) = true
    · rw [if_neg (by rw [hf]; decide), gd_e (inb_n hr (by omega)), tn_n (by omega), kst_13]
      have hg : (σ.2.2 1) (nbr (qq k) t) ≠ 0 := by
        intro e
        simp [flr, e] at hf
      rcases hB.2.2.2.1 _ hr with hd | hd
      · rw [hd, if_pos (show zI (-2) = -2 from rfl), if_neg (n120 (by omega)), gd_e (inb_n hkk.1 (by omega)), gd_e (inb_n hr (by omega)), bnd_e, tn_n (by omega), kst_13, show (1 : Int32) = zI 1 from rfl, zI_add, kst_s13, gd_e (inb_n (by omega) (by omega)), bnd_e, tn_n (by omega), kst_s14, bnd_e, bnd_e]
        rw [show nI w + zI 1 = nI (w + 1) from nI_1 w, show nI t + zI 1 = nI (t + 1) from nI_1 t]
        have hB2 := BI_add hb hB hk (show t < 4 by omega) hg hd
        have hqk : ud qq w (nbr (qq k) t) k = qq k := ud_n _ _ (by omega)
        have hne : ∀ p, 0 ≤ d p → p ≠ nbr (qq k) t := fun p h e => by rw [e] at h; omega
        have key := ih (t + 1) j (ud d (nbr (qq k) t) (d (qq k) + 1)) (ud qq w (nbr (qq k) t)) (w + 1) (upd Q w (nI (nbr (qq k) t))) (by omega) (by omega) hB2 (by omega) ?_ ?_
        · rw [hqk] at key
          obtain ⟨d', qq', w', Q', a1, a2, a3, a4, a5, a6, a7⟩ := key
          refine ⟨d', qq', w', Q', a1, a2, a3, a4, ?_, a6, a7⟩
          rw [a5, ud_n _ _ (hne _ hkk.2.2.1)]
        · intro i hi
          by_cases hiw : i = w
          · subst hiw
            simp [upd, ud]
          · simp only [upd, ud, if_neg hiw]
            exact hQ i (by omega)
        · intro u hu2 hgu
          rw [hqk] at hgu ⊢
          by_cases he : nbr (qq k) u = nbr (qq k) t
          · rw [he, ud_s]
            omega
          · rw [ud_n _ _ he]
            by_cases hut : u = t
            · exact absurd (by rw [hut]) he
            · exact hu u (by omega) hgu
      · have hle : d (nbr (qq k) t) ≤ 200 := by
          obtain ⟨i, hi, e⟩ := hB.2.2.1 _ hr hd
          have := (hB.2.1 i hi).2.2.2
          rw [e] at this
          omega
        rw [if_neg (fun q : zI (d (nbr (qq k) t)) = -2 => by
          have := (zI_eq (a := d (nbr (qq k) t)) (b := -2) ⟨by omega, by omega⟩ ⟨by omega, by omega⟩).mp (q.trans (show (-2 : Int32) = zI (-2) from rfl))
          omega), bnd_e, nI_1]
        exact skip (fun _ => hd)
    · rw [Bool.not_eq_true] at hf
      rw [if_pos (by rw [hf]; decide), bnd_e, nI_1]
      refine skip (fun hg => ?_)
      simp [flr, hr] at hf
      exact absurd hf hg
theorem K_bfs_out {m : Nat} (hm : 5 ≤ m) {σ : St} (hb : bor (σ.2.2 1)) {P : Nat} :
    ∀ (j k : Nat) (d : Nat → Int) (qq : Nat → Nat) (w : Nat) (Q : Nat → Int32) (gr : Int32), 81 - k < j → k ≤ w → BI (σ.2.2 1) P d qq w k → (∀ i, i < w → Q i = nI (qq i)) → (0 < k → gr = zI (d (qq (k - 1)))) →
      ∃ (d' : Nat → Int) (Q' : Nat → Int32) (gr' : Int), isD (σ.2.2 1) P d' ∧ (∀ p, p < 120 → d' p = -2 ∨ 0 ≤ d' p) ∧ (∀ p, p < 120 → d' p ≤ gr') ∧ (∃ p, p < 120 ∧ d' p = gr' ∧ 0 ≤ gr') ∧ gr' ≤ 200 ∧
        f_Distances_measure_42 m j (nI w) (nI k) (kst σ d Q gr) = some ((), kst σ d' Q' (zI gr')) := by
  intro j
  induction j with
  | zero => intro k d qq w Q gr h; omega
  | succ j ih =>
    intro k d qq w Q gr hj hkw hB hQ hgr
    have hw := BI_w hb hB
    by_cases hk : k < w
    · have hkk := hB.2.1 k hk
      rw [f_Distances_measure_42_s, if_neg (fun q => by have := (le_n (by omega) (by omega)).mp q; omega), if_neg (n120 (by omega)), gd_e (inb_n (by omega) (by omega)), bnd_e, tn_n (by omega), kst_14, hQ k hk, gd_e (inb_n hkk.1 (by omega)), bnd_e, tn_n (by omega), kst_13, kst_s8]
      obtain ⟨d', qq', w', Q', a1, a2, a3, a4, a5, a6, a7⟩ := K_bfs_in (m := m) hb (P := P) (k := k) (zI (d (qq k))) (fun y3 y4 σ => f_Distances_measure_42 m j y3 y4 σ) 4 0 m d qq w Q (by omega) (by omega) hB hk hQ (fun u hu => by omega)
      rw [show (0 : Int32) = nI 0 from rfl, a7]
      have hB' := BI_next hb a1 a2 (by rw [a4]; exact a6)
      exact ih (k + 1) d' qq' w' Q' (zI (d (qq k))) (by omega) (by omega) hB' a3 (fun _ => by rw [show k + 1 - 1 = k by omega, a4, a5])
    · obtain rfl : k = w := by omega
      have h5 := hB.2.2.2.2.1
      have hl := hB.2.1 (k - 1) (by omega)
      refine ⟨d, Q, d (qq (k - 1)), BI_isD hB, hB.2.2.2.1, fun p hp => ?_, ⟨_, hl.1, rfl, hl.2.2.1⟩, by omega, ?_⟩
      · rcases hB.2.2.2.1 p hp with q | q
        · omega
        · obtain ⟨i, hi, rfl⟩ := hB.2.2.1 p hp q
          exact hB.2.2.2.2.2.1 i (k - 1) (by omega) (by omega)
      · rw [f_Distances_measure_42_s, if_pos ((le_n (by omega) (by omega)).mpr (by omega)), hgr (by omega)]
theorem cnt_start {P : Nat} (hP : P < 120) : cntP (fun p => decide ((0 : Int) ≤ ud (fun _ => (-2 : Int)) P 0 p)) 120 = 1 := by
  rw [cntP_one (f := fun _ => false) (r := P) hP rfl (by simp [ud_s]) (fun p hp hq => by simp [ud, hq])]
  rfl
/-- measure: steps become the distances from P, greatest the greatest one -/
theorem K_measure {m : Nat} (hm : 130 ≤ m) {σ : St} (hb : bor (σ.2.2 1)) {P : Nat} (hP : P < 120) (hg : (σ.2.2 1) P ≠ 0) :
    ∃ (d : Nat → Int) (Q : Nat → Int32) (gr : Int), isD (σ.2.2 1) P d ∧ (∀ p, p < 120 → d p = -2 ∨ 0 ≤ d p) ∧ (∀ p, p < 120 → d p ≤ gr) ∧ (∃ p, p < 120 ∧ d p = gr ∧ 0 ≤ gr) ∧ gr ≤ 200 ∧ f_Distances_measure m (nI P) σ = some ((), kst σ d Q (zI gr)) := by
  let d0 : Nat → Int := fun p => if p < 120 then -2 else ((σ.2.2 13) p).toInt
  have e0 : sI (sB σ 13 (fl_to (-2) (σ.2.2 13) 120)) 8 0 = kst σ d0 (σ.2.2 14) 0 := by
    refine Prod.ext rfl (Prod.ext rfl ?_)
    funext j
    show (if j = 13 then fl_to (-2) (σ.2.2 13) 120 else σ.2.2 j) = (if j = 14 then σ.2.2 14 else if j = 13 then (fun p => zI (d0 p)) else σ.2.2 j)
    by_cases h14 : j = 14
    · subst h14
      simp
    · by_cases h : j = 13
      · subst h
        simp
        funext p
        unfold fl_to
        by_cases hp : p < 120
        · simp [d0, hp]; rfl
        · simp [d0, hp]; exact (zI_of _).symm
      · simp [h, h14]
  have e1 : ud d0 P 0 = fun p => if p < 120 then ud (fun _ => (-2 : Int)) P 0 p else ((σ.2.2 13) p).toInt := by
    funext p
    by_cases hp : p < 120
    · by_cases he : p = P
      · subst he; simp [ud, hp]
      · simp [ud, he, hp, d0]
    · simp [ud, show p ≠ P by omega, hp, d0]
  have hd : ∀ p, p < 120 → ud d0 P 0 p = ud (fun _ => (-2 : Int)) P 0 p := fun p hp => by rw [e1]; simp [hp]
  have hB : BI (σ.2.2 1) P (ud d0 P 0) (fun _ => P) 1 0 := by
    refine ⟨?_, ?_, ?_, ?_, ⟨ud_s _ _ _, by omega, rfl⟩, ?_, ?_, ?_, ?_⟩
    · rw [← cnt_start hP]
      exact cntP_congr (fun p hp => by rw [hd p hp])
    · intro i hi
      rw [ud_s]
      exact ⟨hP, hg, by omega, by omega⟩
    · intro p hp hdp
      by_cases he : p = P
      · exact ⟨0, by omega, he.symm⟩
      · rw [hd p hp, ud_n _ _ he] at hdp
        omega
    · intro p hp
      by_cases he : p = P
      · right; rw [he, ud_s]; omega
      · left; rw [hd p hp, ud_n _ _ he]
    · intro i j _ _; exact Int.le_refl _
    · intro j _ _; rw [ud_s]; omega
    · intro p hp hdp
      by_cases he : p = P
      · exact Or.inl he
      · rw [hd p hp, ud_n _ _ he] at hdp
        omega
    · intro i hi; omega
  obtain ⟨d, Q, gr, a1, a2, a3, a4, a5, a6⟩ := K_bfs_out (m := m) (by omega) hb (P := P) m 0 (ud d0 P 0) (fun _ => P) 1 (upd (σ.2.2 14) 0 (nI P)) 0 (by omega) (by omega) hB (fun i hi => by rw [show i = 0 by omega]; simp [upd]) (fun h => by omega)
  refine ⟨d, Q, gr, a1, a2, a3, a4, a5, ?_⟩
  unfold f_Distances_measure
  rw [K_fill_steps (by omega), bd_e, bnd_e, e0, K_isFloor m (by omega), bd_e]
  rw [show (kst σ d0 (σ.2.2 14) 0).2.2 1 = σ.2.2 1 from rfl, show flr (σ.2.2 1) P = true from by simp [flr, hP, hg]]
  rw [if_neg (by decide), gd_e (inb_n hP (by omega)), bnd_e, tn_n (by omega), show (0 : Int32) = zI 0 from rfl, kst_s13, gd_e (show inb (zI 0) 120 = true from by decide), bnd_e, show (zI 0).toNatClampNeg = 0 from rfl, kst_s14]
  exact a6
