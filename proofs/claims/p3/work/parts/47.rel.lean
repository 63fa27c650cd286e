/-! PURE: draws; how the two states go together (own work; the rows wb_ are pasted from the kit's laws/BITS) -/
theorem wb_tb (n : Nat) : (lN n).toBitVec = BitVec.ofNat 64 n := rfl
theorem wb_inj {a b : Int64} (h : a.toBitVec = b.toBitVec) : a = b := Int64.toBitVec_inj.mp h
theorem wb_tn {n : Nat} (h : n < 2 ^ 64) : (lN n).toBitVec.toNat = n := by rw [wb_tb, BitVec.toNat_ofNat, Nat.mod_eq_of_lt h]
theorem wb_of (x : Int64) : ∃ n, n < 2 ^ 64 ∧ x = lN n := ⟨x.toBitVec.toNat, x.toBitVec.isLt, wb_inj (by rw [wb_tb]; simp)⟩
theorem wb_cu : ∀ k, k < 64 → ((nI k).toInt64.toUInt64 &&& Int64.toUInt64 63) = UInt64.ofNat k := by decide +kernel
theorem wb_shr {n k : Nat} (hn : n < 2 ^ 64) (hk : k < 64) : ((lN n).toUInt64 >>> ((nI k).toInt64.toUInt64 &&& Int64.toUInt64 63)).toInt64 = lN (n / 2 ^ k) := by
  rw [wb_cu k hk]
  apply wb_inj
  apply BitVec.eq_of_toNat_eq
  show ((lN n).toUInt64 >>> UInt64.ofNat k).toNat = (BitVec.ofNat 64 _).toNat
  have h1 : (UInt64.ofNat k).toNat = k := by
    show (BitVec.ofNat 64 k).toNat = k
    rw [BitVec.toNat_ofNat, Nat.mod_eq_of_lt (by omega)]
  have h2 : (lN n).toUInt64.toNat = n := wb_tn hn
  rw [UInt64.toNat_shiftRight, h1, h2, Nat.mod_eq_of_lt hk, Nat.shiftRight_eq_div_pow, BitVec.toNat_ofNat, Nat.mod_eq_of_lt (Nat.lt_of_le_of_lt (Nat.div_le_self _ _) hn)]
def nxS (s : Int64) : Int64 := s * 6364136223846793005 + 1442695040888963407
def drw (s : Int64) (a : Nat) : Nat := s.toBitVec.toNat / 2 ^ 33 % a
theorem ush_33 (s : Int64) : ush s 33 = lN (s.toBitVec.toNat / 2 ^ 33) := by
  obtain ⟨n, hn, rfl⟩ := wb_of s
  rw [wb_tn hn]
  exact wb_shr (k := 33) hn (by omega)
theorem dr_lt (s : Int64) : s.toBitVec.toNat / 2 ^ 33 < 2 ^ 31 := by
  have := s.toBitVec.isLt
  omega
theorem dr_eq (s : Int64) {a : Nat} (h0 : 0 < a) (ha : a < 2147483648) : Int64.toInt32 (ush s 33 - ush s 33 / Int32.toInt64 (nI a) * Int32.toInt64 (nI a)) = nI (drw s a) := by
  have h1 := dr_lt s
  rw [ush_33, nI_l ha, pk_lRem (by omega) h0 (by omega), lN_i]
  rfl
theorem drw_lt (s : Int64) {a : Nat} (h0 : 0 < a) : drw s a < a := Nat.mod_lt _ h0
theorem nz_n {a : Nat} (h0 : 0 < a) (ha : a < 2147483648) : nzl (Int32.toInt64 (nI a)) = true := by
  unfold nzl
  rw [decide_eq_true_iff, nI_l ha]
  intro q
  have := (pk_lEQ (a := a) (b := 0) (by omega) (by omega)).mp q
  omega
theorem K_play (n : Nat) {a : Nat} (h0 : 0 < a) (ha : a < 2147483648) (σ : St) : f_Draws_draw_play n (nI a) σ = some (nI (drw (nxS (σ.2.1 0)) a), sL σ 0 (nxS (σ.2.1 0))) := by
  unfold f_Draws_draw_play
  rw [bnd_e, if_neg (fun q : nI a ≤ 0 => by have := (le_n (b := 0) ha (by omega)).mp q; omega), gd_e (nz_n h0 ha)]
  rw [show (sL σ 0 (σ.2.1 0 * 6364136223846793005 + 1442695040888963407)).2.1 0 = nxS (σ.2.1 0) from rfl, dr_eq _ h0 ha]
  rfl
theorem K_mk (n : Nat) {a : Nat} (h0 : 0 < a) (ha : a < 2147483648) (σ : St) : f_Draws_draw_making n (nI a) σ = some (nI (drw (nxS (σ.2.1 1)) a), sL σ 1 (nxS (σ.2.1 1))) := by
  unfold f_Draws_draw_making
  rw [bnd_e, if_neg (fun q : nI a ≤ 0 => by have := (le_n (b := 0) ha (by omega)).mp q; omega), gd_e (nz_n h0 ha)]
  rw [show (sL σ 1 (σ.2.1 1 * 6364136223846793005 + 1442695040888963407)).2.1 1 = nxS (σ.2.1 1) from rfl, dr_eq _ h0 ha]
  rfl
theorem M_play (n : Nat) {a : Nat} (h0 : 0 < a) (ha : a < 2147483648) (τ : St) : f_Model_draw n (nI a) τ = some (nI (drw (nxS (τ.2.1 1)) a), sL τ 1 (nxS (τ.2.1 1))) := by
  unfold f_Model_draw f_Model_next
  rw [bd_e, bnd_e, gd_e (nz_n h0 ha)]
  rw [show (sL τ 1 (τ.2.1 1 * 6364136223846793005 + 1442695040888963407)).2.1 1 = nxS (τ.2.1 1) from rfl, dr_eq _ h0 ha]
  rfl
theorem M_mk (n : Nat) {a : Nat} (h0 : 0 < a) (ha : a < 2147483648) (τ : St) : f_Model_make n (nI a) τ = some (nI (drw (nxS (τ.2.1 0)) a), sL τ 0 (nxS (τ.2.1 0))) := by
  unfold f_Model_make f_Model_next
  rw [bd_e, bnd_e, gd_e (nz_n h0 ha)]
  rw [show (sL τ 0 (τ.2.1 0 * 6364136223846793005 + 1442695040888963407)).2.1 0 = nxS (τ.2.1 0) from rfl, dr_eq _ h0 ha]
  rfl
/-! the two states -/
def R_g (σ τ : St) : Prop := (∀ p, p < 120 → σ.2.2 1 p = τ.2.2 0 p) ∧ bor (σ.2.2 1)
def R_p (σ τ : St) (P : Nat) : Prop := P < 120 ∧ σ.1 9 = nI P ∧ τ.1 2 = nI (P % 12) ∧ τ.1 3 = nI (P / 12) ∧ (σ.2.2 1) P ≠ 0
/-- one monster -/
def MO (σ τ : St) (P : Nat) (q : Nat → Nat) (i : Nat) : Prop :=
  q i < 120 ∧ (σ.2.2 1) (q i) ≠ 0 ∧ σ.2.2 5 i = nI (q i) ∧ τ.2.2 5 i = nI (q i % 12) ∧ τ.2.2 6 i = nI (q i / 12) ∧ σ.2.2 4 i = τ.2.2 4 i ∧ (σ.2.2 4 i = 0 ∨ σ.2.2 4 i = 1 ∨ σ.2.2 4 i = 2) ∧ σ.2.2 6 i = τ.2.2 7 i ∧ σ.2.2 7 i = τ.2.2 8 i ∧ σ.2.2 8 i = τ.2.2 9 i ∧ (σ.2.2 8 i = 0 ∨ σ.2.2 8 i = 1) ∧ τ.2.2 10 i = (if σ.2.2 6 i ≤ 0 then 1 else 0) ∧ (¬ σ.2.2 6 i ≤ 0 → q i ≠ P)
def R_m (σ τ : St) (P N : Nat) (q : Nat → Nat) : Prop := N ≤ 5 ∧ σ.1 7 = nI N ∧ τ.1 1 = nI N ∧ ∀ i, i < N → MO σ τ P q i
/-- energies of the monsters -/
def R_e (σ : St) (N b : Nat) : Prop := ∀ i, i < N → ∃ e : Nat, e < b ∧ σ.2.2 7 i = nI e
def R_t (σ τ : St) : Prop := ∀ p, p < 120 → σ.2.2 2 p = τ.2.2 1 p + 1 ∧ (τ.2.2 1 p = -1 ∨ ∃ v : Nat, v < 4 ∧ τ.2.2 1 p = nI v)
/-- what the class knows is what the reference knows once it has looked around -/
def R_k (σ τ : St) (P : Nat) : Prop := ∀ p, p < 120 → σ.2.2 3 p = (if sight (σ.2.2 1) P p = true then 1 else τ.2.2 3 p) ∧ (τ.2.2 3 p = 0 ∨ τ.2.2 3 p = 1)
def R_d (σ : St) (P : Nat) : Prop := ∃ (d : Nat → Int) (gr : Int), isD (σ.2.2 1) P d ∧ (∀ p, p < 120 → d p = -2 ∨ 0 ≤ d p) ∧ (∀ p, p < 120 → σ.2.2 13 p = zI (d p)) ∧ σ.1 8 = zI gr ∧ (∀ p, p < 120 → d p ≤ gr) ∧ (∃ p, p < 120 ∧ d p = gr ∧ 0 ≤ gr) ∧ gr ≤ 200
def R_b (σ τ : St) : Prop := ∃ B : Nat, B ≤ 4 ∧ σ.1 14 = nI B ∧ τ.1 12 = nI B ∧ ∀ k, k < B → σ.2.2 15 k = τ.2.2 15 k ∧ ∃ v : Nat, v < 4 ∧ τ.2.2 15 k = nI v
/-- health and the game's end -/
def R_h (σ τ : St) (h : Int) (w : Bool) : Prop := -1 ≤ h ∧ h ≤ 10 ∧ σ.1 10 = zI h ∧ τ.1 4 = zI (if h ≤ 0 then 0 else h) ∧ σ.1 5 = bI w ∧ τ.1 9 = (if h ≤ 0 then 1 else if w = true then 2 else 0)
/-- what else there is; e: the player's energy, hs: haste, L: the level -/
def R_s (σ τ : St) (e hs L : Nat) : Prop := σ.1 1 = τ.1 0 ∧ σ.2.1 0 = τ.2.1 1 ∧ σ.1 11 = τ.1 5 ∧ σ.1 3 = τ.1 10 ∧ σ.1 4 = τ.1 11 ∧ (e < 40 ∧ σ.1 12 = nI e ∧ τ.1 6 = nI e) ∧ (hs ≤ 6 ∧ σ.1 13 = nI hs ∧ τ.1 7 = nI hs) ∧ (1 ≤ L ∧ L ≤ 3 ∧ σ.1 2 = nI L ∧ τ.1 8 = nI L)
/-- all of it -/
def RG (σ τ : St) (P N : Nat) (q : Nat → Nat) (h : Int) (w : Bool) (e hs L : Nat) : Prop := R_g σ τ ∧ R_p σ τ P ∧ R_m σ τ P N q ∧ R_t σ τ ∧ R_k σ τ P ∧ R_d σ P ∧ R_b σ τ ∧ R_h σ τ h w ∧ R_s σ τ e hs L
theorem flr_y {g : Nat → Int32} {p : Nat} (h : flr g p = true) : p < 120 ∧ g p ≠ 0 := by
  simp [flr] at h
  exact h
theorem flr_i {g : Nat → Int32} {p : Nat} (h : p < 120) (h2 : g p ≠ 0) : flr g p = true := by simp [flr, h, h2]
theorem cell_eq : ∀ p, p < 120 → ∀ r, r < 120 → p % 12 = r % 12 → p / 12 = r / 12 → p = r := fun p _ r _ h1 h2 => by omega
/-- who stands at r: both say the same -/
def who (σ : St) (N r : Nat) : Option Nat := ff N 0 (fun k => !decide (σ.2.2 6 k ≤ 0) && decide (σ.2.2 5 k = nI r))
theorem K_who {n : Nat} (hn : 9 ≤ n) {σ τ : St} {P N : Nat} {q : Nat → Nat} (h : R_m σ τ P N q) (r : Nat) : f_Monsters_at n (nI r) σ = some (oI (-2) (who σ N r), σ) := K_at (by omega) h.1 h.2.1 (nI r)
theorem M_who {n : Nat} (hn : 9 ≤ n) {σ τ : St} {P N : Nat} {q : Nat → Nat} (h : R_m σ τ P N q) {r : Nat} (hr : r < 120) : f_Model_monsterAt n (nI (r % 12)) (nI (r / 12)) τ = some (oI (-1) (who σ N r), τ) := by
  have hN := h.1
  rw [M_at hn (show N ≤ 8 by omega) h.2.2.1]
  congr 3
  refine ff_congr (fun k _ hk => ?_)
  obtain ⟨a1, a2, a3, a4, a5, a6, a7, a8, a9, a10, a11, a12, a13⟩ := h.2.2.2 k (by omega)
  rw [a3, a4, a5, a12]
  by_cases h1 : σ.2.2 6 k ≤ 0
  · simp [h1]
  · simp only [h1, if_false, decide_true, Bool.true_and, decide_false, Bool.not_false]
    by_cases h2 : q k = r
    · subst h2; simp
    · have e1 : ¬ nI (q k) = nI r := fun e => h2 ((eq_n (by omega) (by omega)).mp e)
      simp only [e1, decide_false, Bool.and_eq_false_iff, decide_eq_false_iff_not]
      by_cases h3 : q k % 12 = r % 12
      · right
        intro e
        exact h2 (cell_eq _ a1 _ hr h3 ((eq_n (by omega) (by omega)).mp e))
      · left
        intro e
        exact h3 ((eq_n (by omega) (by omega)).mp e)
theorem who_some {σ : St} {N r k : Nat} (h : who σ N r = some k) : k < N ∧ ¬ σ.2.2 6 k ≤ 0 ∧ σ.2.2 5 k = nI r := by
  obtain ⟨_, h2, h3⟩ := ff_lt h
  simp at h3
  exact ⟨by omega, by simpa using h3.1, h3.2⟩
theorem oI_none {d : Int32} {o : Option Nat} {N : Nat} (hd : d < 0) (ho : ∀ k, o = some k → k < N) (hN : N ≤ 100) : (oI d o = d ↔ o = none) ∧ (oI d o < 0 ↔ o = none) ∧ (0 ≤ oI d o ↔ ¬ o = none) := by
  cases o with
  | none =>
    refine ⟨by simp [oI], by simp [oI, hd], ?_⟩
    simp only [oI, not_true_eq_false, iff_false]
    intro q
    exact absurd hd (by rw [Int32.not_lt]; exact q)
  | some k =>
    have hk := ho k rfl
    have h0 : ¬ nI k < 0 := lt0_n (by omega)
    refine ⟨⟨fun q => ?_, fun q => by cases q⟩, ⟨fun q => absurd q h0, fun q => by cases q⟩, ⟨fun _ q => (by cases q), fun _ => nI_pos' (by omega)⟩⟩
    exact absurd (show nI k < 0 by rw [show nI k = d from q]; exact hd) h0
