/-! PURE: what is counted (own work) -/
theorem cnt_loop {F : Nat → Int32 → Int32 → Option (Int32 × St)} {σ : St} {f : Nat → Bool} {M : Nat} (h0 : ∀ (j : Nat) (y : Int32), F (j + 1) y (nI M) = some (y, σ)) (hs : ∀ (j : Nat) (y : Int32) (c : Nat), c < M → F (j + 1) y (nI c) = F j (if f c = true then y + 1 else y) (nI (c + 1))) : ∀ (r c j n : Nat), c + r = M → r < j → F j (nI n) (nI c) = some (nI (n + cfr f r c), σ) := by
  intro r
  induction r with
  | zero =>
    intro c j n hc hj
    obtain ⟨j, rfl⟩ : ∃ z, j = z + 1 := ⟨j - 1, by omega⟩
    obtain rfl : c = M := by omega
    rw [h0]
    rfl
  | succ r ih =>
    intro c j n hc hj
    obtain ⟨j, rfl⟩ : ∃ z, j = z + 1 := ⟨j - 1, by omega⟩
    rw [hs j _ c (by omega)]
    unfold cfr
    by_cases h : f c = true
    · rw [if_pos h, if_pos h, nI_1, ih (c + 1) j (n + 1) (by omega) (by omega), Nat.add_assoc]
    · rw [if_neg h, if_neg h, ih (c + 1) j n (by omega) (by omega), Nat.zero_add]
theorem cfr_congr {f g : Nat → Bool} : ∀ {r c : Nat}, (∀ k, c ≤ k → k < c + r → f k = g k) → cfr f r c = cfr g r c := by
  intro r
  induction r with
  | zero => intro c _; rfl
  | succ r ih =>
    intro c h
    unfold cfr
    rw [h c (Nat.le_refl _) (by omega), ih (fun k h1 h2 => h k (by omega) (by omega))]
/-- monsters that are there -/
def alv (σ : St) (y : Int32) (c : Nat) : Bool := !decide (σ.2.2 6 c ≤ 0) && (decide (y = 0) || decide (σ.2.2 8 c = 1))
theorem K_there {m : Nat} (hm : 9 ≤ m) {σ τ : St} {P N : Nat} {q : Nat → Nat} (hmm : R_m σ τ P N q) {y : Int32} (hy : y = 0 ∨ y = 1) : f_Monsters_countThere m y σ = some (nI (0 + cfr (alv σ y) N 0), σ) := by
  obtain ⟨hN, n1, n2, hMO⟩ := hmm
  refine cnt_loop (F := fun j a b => f_Monsters_countThere_4 m j y a b σ) (M := N) (fun j a => ?_) (fun j a c hc => ?_) N 0 m 0 (by omega) (by omega)
  · show f_Monsters_countThere_4 m (j + 1) y a (nI N) σ = _
    rw [f_Monsters_countThere_4_s, n1, if_pos ((le_n (by omega) (by omega)).mpr (Nat.le_refl _))]
  · show f_Monsters_countThere_4 m (j + 1) y a (nI c) σ = f_Monsters_countThere_4 m j y _ (nI (c + 1)) σ
    rw [f_Monsters_countThere_4_s, n1, if_neg (fun z => by have := (le_n (by omega) (by omega)).mp z; omega), K_isThere m (by omega) hN n1, bd_e]
    by_cases hal : σ.2.2 6 c ≤ 0
    · rw [if_pos (by simp [hal, bI]), if_neg (by simp [alv, hal]), bnd_e, nI_1]
    · rw [if_neg (by simp [hal, hc, bI])]
      rcases hy with rfl | rfl
      · rw [if_pos rfl, if_pos (by simp [alv, hal]), bnd_e, bnd_e, nI_1]
      · rw [if_neg (by decide), gd_e (inb_n (show c < 5 by omega) (by omega)), tn_n (by omega)]
        by_cases ha : σ.2.2 8 c = 1
        · rw [if_pos ha, if_pos (by simp [alv, hal, ha]), bnd_e, bnd_e, nI_1]
        · rw [if_neg ha, if_neg (by simp [alv, hal, ha]), bnd_e, nI_1]
theorem M_there {m : Nat} (hm : 9 ≤ m) {σ τ : St} {P N : Nat} {q : Nat → Nat} (hmm : R_m σ τ P N q) {y v : Int32} (hy : (y = 0 ∧ v = 3) ∨ (y = 1 ∧ v = 4)) : f_Model_count_77 m m v 0 0 τ = some (nI (0 + cfr (alv σ y) N 0), τ) := by
  obtain ⟨hN, n1, n2, hMO⟩ := hmm
  refine cnt_loop (F := fun j a b => f_Model_count_77 m j v a b τ) (M := N) (fun j a => ?_) (fun j a c hc => ?_) N 0 m 0 (by omega) (by omega)
  · show f_Model_count_77 m (j + 1) v a (nI N) τ = _
    rw [f_Model_count_77_s, n2, if_pos ((le_n (by omega) (by omega)).mpr (Nat.le_refl _))]
  · show f_Model_count_77 m (j + 1) v a (nI c) τ = f_Model_count_77 m j v _ (nI (c + 1)) τ
    obtain ⟨a1, a2, a3, a4, a5, a6, a7, a8, a9, a10, a11, a12, a13⟩ := hMO c hc
    rw [f_Model_count_77_s, n2, if_neg (fun z => by have := (le_n (by omega) (by omega)).mp z; omega), gd_e (inb_n (show c < 8 by omega) (by omega)), tn_n (by omega), a12]
    by_cases hal : σ.2.2 6 c ≤ 0
    · rw [if_pos hal, if_neg (by decide), if_neg (by simp [alv, hal]), bnd_e, nI_1]
    · rw [if_neg hal, if_pos rfl]
      rcases hy with ⟨rfl, rfl⟩ | ⟨rfl, rfl⟩
      · rw [if_pos rfl, if_pos (by simp [alv, hal]), bnd_e, bnd_e, nI_1]
      · rw [if_neg (by decide), gd_e (inb_n (show c < 8 by omega) (by omega)), ← a10]
        rcases a11 with z | z
        · rw [if_pos z, if_neg (by simp [alv, hal, z]), bnd_e, nI_1]
        · rw [if_neg (by rw [z]; decide), if_pos (by simp [alv, hal, z]), bnd_e, bnd_e, nI_1]
/-- cells that are filled -/
def fil (a : Nat → Int32) (c : Nat) : Bool := !decide (a c = 0)
theorem K_fil5 {m : Nat} (hm : 130 ≤ m) (σ : St) : f_Desk_countFilled_things m σ = some (nI (0 + cfr (fil (σ.2.2 2)) 120 0), σ) := by
  refine cnt_loop (F := fun j a b => f_Desk_countFilled_things_10 m j a 120 b σ) (M := 120) (fun j a => ?_) (fun j a c hc => ?_) 120 0 m 0 (by omega) (by omega)
  · show f_Desk_countFilled_things_10 m (j + 1) a 120 (nI 120) σ = _
    rw [f_Desk_countFilled_things_10_s, if_pos y120]
  · show f_Desk_countFilled_things_10 m (j + 1) a 120 (nI c) σ = f_Desk_countFilled_things_10 m j _ 120 (nI (c + 1)) σ
    rw [f_Desk_countFilled_things_10_s, if_neg (n120 hc), gd_e (inb_n hc (by omega)), bnd_e, tn_n (by omega)]
    by_cases h : σ.2.2 2 c = 0
    · rw [if_pos h, if_neg (by simp [fil, h]), bnd_e, nI_1]
    · rw [if_neg h, if_pos (by simp [fil, h]), bnd_e, bnd_e, nI_1]
theorem K_fil6 {m : Nat} (hm : 130 ≤ m) (σ : St) : f_Desk_countFilled_ground m σ = some (nI (0 + cfr (fil (σ.2.2 1)) 120 0), σ) := by
  refine cnt_loop (F := fun j a b => f_Desk_countFilled_ground_10 m j a 120 b σ) (M := 120) (fun j a => ?_) (fun j a c hc => ?_) 120 0 m 0 (by omega) (by omega)
  · show f_Desk_countFilled_ground_10 m (j + 1) a 120 (nI 120) σ = _
    rw [f_Desk_countFilled_ground_10_s, if_pos y120]
  · show f_Desk_countFilled_ground_10 m (j + 1) a 120 (nI c) σ = f_Desk_countFilled_ground_10 m j _ 120 (nI (c + 1)) σ
    rw [f_Desk_countFilled_ground_10_s, if_neg (n120 hc), gd_e (inb_n hc (by omega)), bnd_e, tn_n (by omega)]
    by_cases h : σ.2.2 1 c = 0
    · rw [if_pos h, if_neg (by simp [fil, h]), bnd_e, nI_1]
    · rw [if_neg h, if_pos (by simp [fil, h]), bnd_e, bnd_e, nI_1]
theorem K_fil8 {m : Nat} (hm : 130 ≤ m) (σ : St) : f_Desk_countFilled_known m σ = some (nI (0 + cfr (fil (σ.2.2 3)) 120 0), σ) := by
  refine cnt_loop (F := fun j a b => f_Desk_countFilled_known_10 m j a 120 b σ) (M := 120) (fun j a => ?_) (fun j a c hc => ?_) 120 0 m 0 (by omega) (by omega)
  · show f_Desk_countFilled_known_10 m (j + 1) a 120 (nI 120) σ = _
    rw [f_Desk_countFilled_known_10_s, if_pos y120]
  · show f_Desk_countFilled_known_10 m (j + 1) a 120 (nI c) σ = f_Desk_countFilled_known_10 m j _ 120 (nI (c + 1)) σ
    rw [f_Desk_countFilled_known_10_s, if_neg (n120 hc), gd_e (inb_n hc (by omega)), bnd_e, tn_n (by omega)]
    by_cases h : σ.2.2 3 c = 0
    · rw [if_pos h, if_neg (by simp [fil, h]), bnd_e, nI_1]
    · rw [if_neg h, if_pos (by simp [fil, h]), bnd_e, bnd_e, nI_1]
theorem K_fil7 {m : Nat} (hm : 130 ≤ m) (σ : St) {P : Nat} (hP : P < 120) : f_Level_countFloorInSight m (nI P) σ = some (nI (0 + cfr (fun c => fil (σ.2.2 1) c && sight (σ.2.2 1) P c) 120 0), σ) := by
  refine cnt_loop (F := fun j a b => f_Level_countFloorInSight_4 m j (nI P) a b σ) (M := 120) (fun j a => ?_) (fun j a c hc => ?_) 120 0 m 0 (by omega) (by omega)
  · show f_Level_countFloorInSight_4 m (j + 1) (nI P) a (nI 120) σ = _
    rw [f_Level_countFloorInSight_4_s, if_pos y120]
  · show f_Level_countFloorInSight_4 m (j + 1) (nI P) a (nI c) σ = f_Level_countFloorInSight_4 m j (nI P) _ (nI (c + 1)) σ
    rw [f_Level_countFloorInSight_4_s, if_neg (n120 hc), gd_e (inb_n hc (by omega)), tn_n (by omega)]
    by_cases h : σ.2.2 1 c = 0
    · rw [if_pos h, if_neg (by simp [fil, h]), bnd_e, nI_1]
    · rw [if_neg h, K_sight (by omega) hP hc, bd_e]
      by_cases hs : sight (σ.2.2 1) P c = true
      · rw [if_neg (by simp [hs, bI]), if_pos (by simp [fil, h, hs]), bnd_e, bnd_e, nI_1]
      · rw [Bool.not_eq_true] at hs
        rw [if_pos (by simp [hs, bI]), if_neg (by simp [hs]), bnd_e, nI_1]
theorem M_fil5 {m : Nat} (hm : 130 ≤ m) (τ : St) : f_Model_count_126 m m 5 0 0 τ = some (nI (0 + cfr (fun c => decide (0 ≤ τ.2.2 1 c)) 120 0), τ) := by
  refine cnt_loop (F := fun j a b => f_Model_count_126 m j 5 a b τ) (M := 120) (fun j a => ?_) (fun j a c hc => ?_) 120 0 m 0 (by omega) (by omega)
  · show f_Model_count_126 m (j + 1) 5 a (nI 120) τ = _
    rw [f_Model_count_126_s, if_pos y120]
  · show f_Model_count_126 m (j + 1) 5 a (nI c) τ = f_Model_count_126 m j 5 _ (nI (c + 1)) τ
    rw [f_Model_count_126_s, if_neg (n120 hc), if_pos rfl, gd_e (inb_n hc (by omega)), tn_n (by omega)]
    by_cases h : 0 ≤ τ.2.2 1 c
    · rw [if_pos h, if_pos (by simp [h]), bnd_e, bnd_e, nI_1]
    · rw [if_neg h, if_neg (by simp [h])]
      unfold f_Model_count_146 f_Model_count_161 f_Model_count_191
      rw [if_neg (by decide), if_neg (by decide), if_neg (by decide), bnd_e, nI_1]
theorem M_fil6 {m : Nat} (hm : 130 ≤ m) (τ : St) : f_Model_count_126 m m 6 0 0 τ = some (nI (0 + cfr (fil (τ.2.2 0)) 120 0), τ) := by
  refine cnt_loop (F := fun j a b => f_Model_count_126 m j 6 a b τ) (M := 120) (fun j a => ?_) (fun j a c hc => ?_) 120 0 m 0 (by omega) (by omega)
  · show f_Model_count_126 m (j + 1) 6 a (nI 120) τ = _
    rw [f_Model_count_126_s, if_pos y120]
  · show f_Model_count_126 m (j + 1) 6 a (nI c) τ = f_Model_count_126 m j 6 _ (nI (c + 1)) τ
    rw [f_Model_count_126_s, if_neg (n120 hc), if_neg (by decide)]
    unfold f_Model_count_146
    rw [if_pos rfl, gd_e (inb_n hc (by omega)), tn_n (by omega)]
    by_cases h : τ.2.2 0 c = 0
    · rw [if_pos h, if_neg (by simp [fil, h])]
      unfold f_Model_count_161 f_Model_count_191
      rw [if_neg (by decide), if_neg (by decide), bnd_e, nI_1]
    · rw [if_neg h, if_pos (by simp [fil, h]), bnd_e, bnd_e, nI_1]
theorem M_fil7 {m : Nat} (hm : 130 ≤ m) {τ : St} {P : Nat} (hP : P < 120) (h2 : τ.1 2 = nI (P % 12)) (h3 : τ.1 3 = nI (P / 12)) : f_Model_count_126 m m 7 0 0 τ = some (nI (0 + cfr (fun c => fil (τ.2.2 0) c && sight (τ.2.2 0) P c) 120 0), τ) := by
  refine cnt_loop (F := fun j a b => f_Model_count_126 m j 7 a b τ) (M := 120) (fun j a => ?_) (fun j a c hc => ?_) 120 0 m 0 (by omega) (by omega)
  · show f_Model_count_126 m (j + 1) 7 a (nI 120) τ = _
    rw [f_Model_count_126_s, if_pos y120]
  · show f_Model_count_126 m (j + 1) 7 a (nI c) τ = f_Model_count_126 m j 7 _ (nI (c + 1)) τ
    rw [f_Model_count_126_s, if_neg (n120 hc), if_neg (by decide)]
    unfold f_Model_count_146 f_Model_count_161
    rw [if_neg (by decide), if_pos rfl, gd_e (inb_n hc (by omega)), tn_n (by omega)]
    by_cases h : τ.2.2 0 c = 0
    · rw [if_pos h, if_neg (by simp [fil, h])]
      unfold f_Model_count_191
      rw [if_neg (by decide), bnd_e, nI_1]
    · rw [if_neg h, show (12 : Int32) = nI 12 from rfl, pk_rem (by omega) (by omega) (by omega), pk_div (by omega) (by omega) (by omega), M_seen (by omega) hP hc h2 h3, bd_e]
      by_cases hs : sight (τ.2.2 0) P c = true
      · rw [if_neg (by simp [hs, bI]), if_pos (by simp [fil, h, hs]), bnd_e, bnd_e, nI_1]
      · rw [Bool.not_eq_true] at hs
        rw [if_pos (by simp [hs, bI]), if_neg (by simp [hs])]
        unfold f_Model_count_191
        rw [if_neg (by decide), bnd_e, nI_1]
theorem M_fil8 {m : Nat} (hm : 130 ≤ m) (τ : St) : f_Model_count_126 m m 8 0 0 τ = some (nI (0 + cfr (fil (τ.2.2 3)) 120 0), τ) := by
  refine cnt_loop (F := fun j a b => f_Model_count_126 m j 8 a b τ) (M := 120) (fun j a => ?_) (fun j a c hc => ?_) 120 0 m 0 (by omega) (by omega)
  · show f_Model_count_126 m (j + 1) 8 a (nI 120) τ = _
    rw [f_Model_count_126_s, if_pos y120]
  · show f_Model_count_126 m (j + 1) 8 a (nI c) τ = f_Model_count_126 m j 8 _ (nI (c + 1)) τ
    rw [f_Model_count_126_s, if_neg (n120 hc), if_neg (by decide)]
    unfold f_Model_count_146 f_Model_count_161 f_Model_count_191
    rw [if_neg (by decide), if_neg (by decide), if_pos rfl, gd_e (inb_n hc (by omega)), tn_n (by omega)]
    by_cases h : τ.2.2 3 c = 0
    · rw [if_pos h, if_neg (by simp [fil, h]), bnd_e, nI_1]
    · rw [if_neg h, if_pos (by simp [fil, h]), bnd_e, bnd_e, nI_1]
/-- the greatest distance -/
theorem M_gr {m : Nat} {τ : St} {d : Nat → Int} {gr : Int} (hgr : 0 ≤ gr ∧ gr ≤ 200) (hd : ∀ p, p < 120 → -1 ≤ d p ∧ d p ≤ gr) : ∀ (r c j : Nat) (n : Int), c + r = 120 → r < j → 0 ≤ n → n ≤ gr → (n = gr ∨ ∃ p, c ≤ p ∧ p < 120 ∧ d p = gr) → f_Model_count_223 m j (zI n) (nI c) (mst τ d) = some (zI gr, mst τ d) := by
  intro r
  induction r with
  | zero =>
    intro c j n hc hj h0 h1 h2
    obtain ⟨j, rfl⟩ : ∃ z, j = z + 1 := ⟨j - 1, by omega⟩
    obtain rfl : c = 120 := by omega
    rw [f_Model_count_223_s, if_pos y120]
    rcases h2 with rfl | ⟨p, p1, p2, _⟩
    · rfl
    · omega
  | succ r ih =>
    intro c j n hc hj h0 h1 h2
    obtain ⟨j, rfl⟩ : ∃ z, j = z + 1 := ⟨j - 1, by omega⟩
    have hc2 := hd c (by omega)
    rw [f_Model_count_223_s, if_neg (n120 (by omega)), gd_e (inb_n (by omega) (by omega)), gd_e (inb_n (by omega) (by omega)), tn_n (by omega), mst_2]
    have e : zI (d c) ≤ zI n ↔ d c ≤ n := zI_le ⟨by omega, by omega⟩ ⟨by omega, by omega⟩
    by_cases h : d c ≤ n
    · rw [if_pos (e.mpr h), bnd_e, nI_1]
      refine ih (c + 1) j n (by omega) (by omega) h0 h1 ?_
      rcases h2 with z | ⟨p, p1, p2, p3⟩
      · exact Or.inl z
      · by_cases ep : p = c
        · left; rw [ep] at p3; omega
        · exact Or.inr ⟨p, by omega, p2, p3⟩
    · rw [if_neg (fun z => h (e.mp z)), bnd_e, bnd_e, nI_1]
      refine ih (c + 1) j (d c) (by omega) (by omega) (by omega) hc2.2 ?_
      rcases h2 with z | ⟨p, p1, p2, p3⟩
      · omega
      · by_cases ep : p = c
        · left; rw [ep] at p3; exact p3
        · exact Or.inr ⟨p, by omega, p2, p3⟩
theorem count_rel {m : Nat} (hm : 130 ≤ m) {r : St} {sd : Int32} {σ τ : St} {c : Nat} {T : Nat → St} (hI : IV m r sd σ τ c T) (x : Int32) :
    ∃ (a : Int32) (τ' : St), f_Desk_count m x σ = some (a, σ) ∧ f_Model_count m x τ = some (a, τ') ∧ (τ' = τ ∨ ∃ d, τ' = mst τ d) := by
  obtain ⟨i1, i2, i3, i4, i5, i6, ⟨w1, hw1, P, N, q, h, wn, e, hs, L, hR, hKN, _⟩, _⟩ := hI
  have hR0 := hR
  obtain ⟨hg, ⟨hP, p9, p2, p3, hgP⟩, hmm, ht, hkk, hd, hb, hh, hz⟩ := hR
  obtain ⟨z1, z2, z3, z4, z5, _⟩ := hz
  unfold f_Desk_count f_Model_count
  by_cases x0 : x = 0
  · rw [if_pos x0, if_pos x0, z4]; exact ⟨_, τ, rfl, rfl, Or.inl rfl⟩
  rw [if_neg x0, if_neg x0]
  by_cases x1 : x = 1
  · rw [if_pos x1, if_pos x1, i1, i2]; exact ⟨_, τ, rfl, rfl, Or.inl rfl⟩
  rw [if_neg x1, if_neg x1]
  by_cases x2 : x = 2
  · rw [if_pos x2, if_pos x2, z5]; exact ⟨_, τ, rfl, rfl, Or.inl rfl⟩
  rw [if_neg x2, if_neg x2]
  by_cases x3 : x = 3
  · rw [if_pos x3, if_pos x3, x3, K_there (by omega) hmm (Or.inl rfl), bd_e, M_there (by omega) hmm (Or.inl ⟨rfl, rfl⟩)]; exact ⟨_, τ, rfl, rfl, Or.inl rfl⟩
  rw [if_neg x3, if_neg x3]
  by_cases x4 : x = 4
  · rw [if_pos x4, if_pos x4, x4, K_there (by omega) hmm (Or.inr rfl), bd_e, M_there (by omega) hmm (Or.inr ⟨rfl, rfl⟩)]; exact ⟨_, τ, rfl, rfl, Or.inl rfl⟩
  rw [if_neg x4, if_neg x4]
  by_cases x5 : x = 5
  · rw [if_pos x5, if_pos x5, x5, K_fil5 hm, bd_e, M_fil5 hm, cfr_congr (f := fun c => decide (0 ≤ τ.2.2 1 c)) (g := fil (σ.2.2 2)) (fun k _ hk => ?_)]
    · exact ⟨_, τ, rfl, rfl, Or.inl rfl⟩
    · show decide (0 ≤ τ.2.2 1 k) = !decide (σ.2.2 2 k = 0)
      obtain ⟨t1, t2⟩ := ht k (by omega)
      rw [t1]
      rcases t2 with z | ⟨v, hv, z⟩
      · rw [z]; decide
      · rw [z, nI_1]
        simp [nI_ne0 (show 0 < v + 1 by omega) (by omega), nI_pos' (n := v) (by omega)]
  rw [if_neg x5, if_neg x5]
  by_cases x6 : x = 6
  · rw [if_pos x6, if_pos x6, x6, K_fil6 hm, bd_e, M_fil6 hm, cfr_congr (f := fil (τ.2.2 0)) (g := fil (σ.2.2 1)) (fun k _ hk => by unfold fil; rw [hg.1 k (by omega)])]; exact ⟨_, τ, rfl, rfl, Or.inl rfl⟩
  rw [if_neg x6, if_neg x6]
  by_cases x7 : x = 7
  · rw [if_pos x7, if_pos x7, x7, p9, K_fil7 hm σ hP, bd_e, M_fil7 hm hP p2 p3, cfr_congr (f := fun c => fil (τ.2.2 0) c && sight (τ.2.2 0) P c) (g := fun c => fil (σ.2.2 1) c && sight (σ.2.2 1) P c) (fun k _ hk => by simp only [fil]; rw [hg.1 k (by omega), sight_congr hg.1])]; exact ⟨_, τ, rfl, rfl, Or.inl rfl⟩
  rw [if_neg x7, if_neg x7]
  by_cases x8 : x = 8
  · rw [if_pos x8, if_pos x8, x8, K_fil8 hm, bd_e, M_fil8 hm, cfr_congr (f := fil (τ.2.2 3)) (g := fil (σ.2.2 3)) (fun k _ hk => by unfold fil; rw [hKN k (by omega)])]; exact ⟨_, τ, rfl, rfl, Or.inl rfl⟩
  rw [if_neg x8, if_neg x8]
  by_cases x9 : x = 9
  · rw [if_pos x9, if_pos x9, K_dead2 hh, bd_e, hh.2.2.2.2.2, hh.2.2.2.2.1]
    by_cases hl : h ≤ 0
    · rw [if_neg (by simp [hl, bI]), if_pos hl]; exact ⟨_, τ, rfl, rfl, Or.inl rfl⟩
    · rw [if_pos (by simp [hl, bI]), if_neg hl]
      cases wn with
      | true => rw [if_neg (by decide), if_pos rfl]; exact ⟨_, τ, rfl, rfl, Or.inl rfl⟩
      | false => rw [if_pos (show bI false = 0 from rfl), if_neg (show ¬ false = true by decide)]; exact ⟨_, τ, rfl, rfl, Or.inl rfl⟩
  rw [if_neg x9, if_neg x9]
  by_cases x10 : x = 10
  · obtain ⟨d', d, gr, m1, m2, m3, m4, m5, m6, m7, m8, ⟨p0, p1', p2', p3'⟩, m10⟩ := meas_rel (m := m) hm hR0
    rw [if_pos x10, if_pos x10, m1, bd_e, m3]
    refine ⟨zI gr, mst τ d', rfl, ?_, Or.inr ⟨d', rfl⟩⟩
    have hb7 : ∀ p, p < 120 → -1 ≤ d' p ∧ d' p ≤ gr := by
      intro p hp
      have b4 := m7 p hp
      have b5 := m5 p hp
      have b8 := m8 p hp
      by_cases h0 : 0 ≤ d' p
      · have := b4.2 (b4.1.mpr h0)
        omega
      · omega
    refine M_gr (m := m) (τ := τ) ⟨p3', m10⟩ hb7 120 0 m 0 (by omega) (by omega) (by omega) p3' (Or.inr ⟨p0, by omega, p1', ?_⟩)
    rw [← (m7 p0 p1').2 (by omega)]; exact p2'
  rw [if_neg x10, if_neg x10]
  exact ⟨_, τ, rfl, rfl, Or.inl rfl⟩
