/-! PURE: hash (own work) -/
def mx (h v : Int64) : Int64 := h * 1000003 + v
def fd (g : Nat → Int64 → Int64) : Nat → Nat → Int64 → Int64
  | 0, _, y => y
  | r + 1, c, y => fd g r (c + 1) (g c y)
theorem fold_loop {F : Nat → Int64 → Int32 → Option (Int64 × St)} {R : Int64 → Option (Int64 × St)} {g : Nat → Int64 → Int64} {M : Nat} (h0 : ∀ (j : Nat) (y : Int64), F (j + 1) y (nI M) = R y) (hs : ∀ (j : Nat) (y : Int64) (c : Nat), c < M → F (j + 1) y (nI c) = F j (g c y) (nI (c + 1))) : ∀ (r c j : Nat) (y : Int64), c + r = M → r < j → F j y (nI c) = R (fd g r c y) := by
  intro r
  induction r with
  | zero =>
    intro c j y hc hj
    obtain ⟨j, rfl⟩ : ∃ z, j = z + 1 := ⟨j - 1, by omega⟩
    obtain rfl : c = M := by omega
    rw [h0]
    rfl
  | succ r ih =>
    intro c j y hc hj
    obtain ⟨j, rfl⟩ : ∃ z, j = z + 1 := ⟨j - 1, by omega⟩
    rw [hs j y c (by omega), ih (c + 1) j (g c y) (by omega) (by omega)]
    rfl
theorem fd_congr {g g' : Nat → Int64 → Int64} : ∀ {r c : Nat} {y : Int64}, (∀ k, c ≤ k → k < c + r → ∀ y, g k y = g' k y) → fd g r c y = fd g' r c y := by
  intro r
  induction r with
  | zero => intro c y _; rfl
  | succ r ih =>
    intro c y h
    show fd g r (c + 1) (g c y) = fd g' r (c + 1) (g' c y)
    rw [h c (Nat.le_refl _) (by omega), ih (fun k h1 h2 => h k (by omega) (by omega))]
def hB (a : Nat → Int32) (k : Nat) (y : Int64) : Int64 := mx y (Int32.toInt64 (a k))
def hM (σ : St) (q : Nat → Nat) (i : Nat) (y : Int64) : Int64 := if σ.2.2 6 i ≤ 0 then y else mx (mx (mx (mx (mx (mx y (Int32.toInt64 (σ.2.2 4 i))) (Int32.toInt64 (nI (q i % 12)))) (Int32.toInt64 (nI (q i / 12)))) (Int32.toInt64 (σ.2.2 6 i))) (Int32.toInt64 (σ.2.2 7 i))) (Int32.toInt64 (σ.2.2 8 i))
def hT (a : Nat → Int32) (c : Nat) (y : Int64) : Int64 := if a c < 0 then y else mx (mx y (lN (16 * (c / 12) + c % 12))) (Int32.toInt64 (a c))
def hH (L P : Nat) (hl hit : Int32) (e hs B : Nat) : Int64 := mx (mx (mx (mx (mx (mx (mx (mx 17 (Int32.toInt64 (nI L))) (Int32.toInt64 (nI (P % 12)))) (Int32.toInt64 (nI (P / 12)))) (Int32.toInt64 hl)) (Int32.toInt64 hit)) (Int32.toInt64 (nI e))) (Int32.toInt64 (nI hs))) (Int32.toInt64 (nI B))
theorem K_mixB {m : Nat} {σ : St} {B : Nat} (hB4 : B ≤ 4) (h14 : σ.1 14 = nI B) (hm : 9 ≤ m) (y : Int64) : f_Desk_mixHero_100 m m y 0 σ = some (fd (hB (σ.2.2 15)) B 0 y, σ) := by
  refine fold_loop (F := fun j a b => f_Desk_mixHero_100 m j a b σ) (R := fun a => some (a, σ)) (M := B) (fun j a => ?_) (fun j a c hc => ?_) B 0 m y (by omega) (by omega)
  · show f_Desk_mixHero_100 m (j + 1) a (nI B) σ = _
    rw [f_Desk_mixHero_100_s, h14, if_pos ((le_n (by omega) (by omega)).mpr (Nat.le_refl _))]
  · show f_Desk_mixHero_100 m (j + 1) a (nI c) σ = f_Desk_mixHero_100 m j _ (nI (c + 1)) σ
    rw [f_Desk_mixHero_100_s, h14, if_neg (fun z => by have := (le_n (by omega) (by omega)).mp z; omega), K_inBag (τ := σ) hB4 h14 (by omega), bd_e, if_pos hc]
    unfold f_Desk_mix
    rw [bd_e, bnd_e, nI_1]
    rfl
theorem K_mixM {m : Nat} (hm : 9 ≤ m) {σ τ : St} {P N : Nat} {q : Nat → Nat} (hmm : R_m σ τ P N q) (y : Int64) : f_Desk_mixMonsters m y σ = some (fd (hM σ q) N 0 y, σ) := by
  obtain ⟨hN, n1, n2, hMO⟩ := hmm
  refine fold_loop (F := fun j a b => f_Desk_mixMonsters_14 m j a b σ) (R := fun a => some (a, σ)) (M := N) (fun j a => ?_) (fun j a c hc => ?_) N 0 m y (by omega) (by omega)
  · show f_Desk_mixMonsters_14 m (j + 1) a (nI N) σ = _
    rw [f_Desk_mixMonsters_14_s, n1, if_pos ((le_n (by omega) (by omega)).mpr (Nat.le_refl _))]
  · show f_Desk_mixMonsters_14 m (j + 1) a (nI c) σ = f_Desk_mixMonsters_14 m j _ (nI (c + 1)) σ
    obtain ⟨a1, a2, a3, a4, a5, a6, a7, a8, a9, a10, a11, a12, a13⟩ := hMO c hc
    rw [f_Desk_mixMonsters_14_s, n1, if_neg (fun z => by have := (le_n (by omega) (by omega)).mp z; omega), K_isThere m (by omega) hN n1, bd_e]
    have g5 := inb_n (show c < 5 by omega) (show 5 ≤ 2147483648 by omega)
    unfold hM
    by_cases hal : σ.2.2 6 c ≤ 0
    · rw [if_pos (by simp [hal, bI]), if_pos hal, bnd_e, nI_1]
    · rw [if_neg (by simp [hal, hc, bI]), if_neg hal]
      unfold f_Desk_mix
      rw [gd_e g5, bd_e, gd_e g5, bd_e, gd_e g5, bd_e, gd_e g5, bd_e, gd_e g5, bd_e, gd_e g5, bd_e, bnd_e, tn_n (by omega), a3, show (12 : Int32) = nI 12 from rfl, pk_rem (by omega) (by omega) (by omega), pk_div (by omega) (by omega) (by omega), nI_1]
      rfl
theorem K_mixT {m : Nat} (hm : 130 ≤ m) {σ τ : St} (ht : R_t σ τ) (y : Int64) : f_Desk_mixThings m y σ = some (fd (hT (τ.2.2 1)) 120 0 y, σ) := by
  refine fold_loop (F := fun j a b => f_Desk_mixThings_17 m j a b σ) (R := fun a => some (a, σ)) (M := 120) (fun j a => ?_) (fun j a c hc => ?_) 120 0 m y (by omega) (by omega)
  · show f_Desk_mixThings_17 m (j + 1) a (nI 120) σ = _
    rw [f_Desk_mixThings_17_s, if_pos y120]
  · show f_Desk_mixThings_17 m (j + 1) a (nI c) σ = f_Desk_mixThings_17 m j _ (nI (c + 1)) σ
    have gc := inb_n hc (show 120 ≤ 2147483648 by omega)
    obtain ⟨t1, t2⟩ := ht c hc
    rw [f_Desk_mixThings_17_s, if_neg (n120 hc), gd_e gc, tn_n (by omega), t1]
    unfold hT
    rcases t2 with z | ⟨v, hv, z⟩
    · rw [z, if_pos (by decide), if_pos (by decide), bnd_e, nI_1]
    · rw [z, if_neg (by rw [nI_1]; exact nI_ne0 (by omega) (by omega)), if_neg (lt0_n (by omega))]
      unfold f_Desk_mix
      rw [bd_e, gd_e gc, bd_e, bnd_e, nI_1, t1, z]
      rw [show (12 : Int32) = nI 12 from rfl, pk_rem (by omega) (by omega) (by omega), pk_div (by omega) (by omega) (by omega), show (16 : Int32) = nI 16 from rfl, pk_mul, nI_add, nI_l (show 16 * (c / 12) + c % 12 < 2 ^ 31 by omega), show nI v + 1 - 1 = nI v from by rw [nI_1]; exact nI_pred v]
      rfl
theorem K_hash {m : Nat} (hm : 130 ≤ m) {σ τ : St} {P N : Nat} {q : Nat → Nat} {h : Int} {w : Bool} {e hs L B : Nat} (hR : RG σ τ P N q h w e hs L) (hB4 : B ≤ 4) (h14 : σ.1 14 = nI B) :
    f_Desk_hash m σ = some (mx (fd (hT (τ.2.2 1)) 120 0 (fd (hM σ q) N 0 (fd (hB (σ.2.2 15)) B 0 (hH L P (σ.1 10) (σ.1 11) e hs B)))) (σ.2.1 0), σ) := by
  obtain ⟨hg, ⟨hP, p9, p2, p3, hgP⟩, hmm, ht, hkk, hd, hb, hh, hz⟩ := hR
  obtain ⟨z1, z2, z3, z4, z5, ⟨ze, z6, z7⟩, ⟨zh, z8, z9⟩, ⟨l1, l2, l3, l4⟩⟩ := hz
  unfold f_Desk_hash f_Desk_mixHero f_Desk_mix
  rw [bd_e, bd_e, bd_e, bd_e, bd_e, bd_e, bd_e, bd_e, K_mixB hB4 h14 (by omega), bd_e, K_mixM (by omega) hmm, bd_e, K_mixT hm ht, bd_e, bd_e]
  rw [p9, l3, z6, z8, h14, show (12 : Int32) = nI 12 from rfl, pk_rem (by omega) (by omega) (by omega), pk_div (by omega) (by omega) (by omega)]
  rfl
def ix (k : Nat) : Nat := match k with
  | 0 => 8
  | 1 => 2
  | 2 => 3
  | 3 => 4
  | 4 => 5
  | 5 => 6
  | 6 => 7
  | _ => 12
theorem M_h6 {m : Nat} {τ : St} (j : Nat) (y : Int64) (k : Nat) (hk : k < 8) : f_Model_hash_6 m (j + 1) y (nI k) τ = f_Model_hash_6 m j (mx y (Int32.toInt64 (τ.1 (ix k)))) (nI (k + 1)) τ := by
  rcases (show k = 0 ∨ k = 1 ∨ k = 2 ∨ k = 3 ∨ k = 4 ∨ k = 5 ∨ k = 6 ∨ k = 7 by omega) with rfl | rfl | rfl | rfl | rfl | rfl | rfl | rfl <;> rfl
def mv (τ : St) (i k : Nat) : Int32 := match k with
  | 0 => τ.2.2 4 i
  | 1 => τ.2.2 5 i
  | 2 => τ.2.2 6 i
  | 3 => τ.2.2 7 i
  | 4 => τ.2.2 8 i
  | _ => if τ.2.2 9 i = 0 then 0 else 1
theorem M_monv {m : Nat} {τ : St} {N i : Nat} (hN : N ≤ 5) (n2 : τ.1 1 = nI N) (hi : i < N) (hg : τ.2.2 10 i = 0) {k : Nat} (hk : k < 6) : f_Model_monster m (nI i) (nI k) τ = some (mv τ i k, τ) := by
  unfold f_Model_monster
  have g8 := inb_n (show i < 8 by omega) (show 8 ≤ 2147483648 by omega)
  have ei : ¬ nI N - 1 < nI i := by
    rw [zI_nat, zI_nat, show (1 : Int32) = zI 1 from rfl, zI_sub, zI_lt ⟨by omega, by omega⟩ ⟨by omega, by omega⟩]
    omega
  rw [M_in_g, bd_e, if_neg (lt0_n (by omega)), if_neg (fun z : (5 : Int32) < nI k => by have := (lt_n (a := 5) (by omega) (by omega)).mp z; omega), if_neg (by decide), M_in_g, bd_e, n2, if_neg (lt0_n (by omega)), if_neg ei, if_neg (by decide), gd_e g8, tn_n (by omega), if_pos hg]
  rcases (show k = 0 ∨ k = 1 ∨ k = 2 ∨ k = 3 ∨ k = 4 ∨ k = 5 by omega) with rfl | rfl | rfl | rfl | rfl | rfl
  · rw [if_pos (show nI 0 = 0 from rfl), gd_e g8]; rfl
  · rw [if_neg (show ¬ nI 1 = 0 by decide), if_pos (show nI 1 = 1 from rfl), gd_e g8]; rfl
  · rw [if_neg (show ¬ nI 2 = 0 by decide), if_neg (show ¬ nI 2 = 1 by decide), if_pos (show nI 2 = 2 from rfl), gd_e g8]; rfl
  · rw [if_neg (show ¬ nI 3 = 0 by decide), if_neg (show ¬ nI 3 = 1 by decide), if_neg (show ¬ nI 3 = 2 by decide), if_pos (show nI 3 = 3 from rfl), gd_e g8]; rfl
  · rw [if_neg (show ¬ nI 4 = 0 by decide), if_neg (show ¬ nI 4 = 1 by decide), if_neg (show ¬ nI 4 = 2 by decide), if_neg (show ¬ nI 4 = 3 by decide), if_pos (show nI 4 = 4 from rfl), gd_e g8]; rfl
  · rw [if_neg (show ¬ nI 5 = 0 by decide), if_neg (show ¬ nI 5 = 1 by decide), if_neg (show ¬ nI 5 = 2 by decide), if_neg (show ¬ nI 5 = 3 by decide), if_neg (show ¬ nI 5 = 4 by decide), gd_e g8]
    show _ = some ((if τ.2.2 9 i = 0 then 0 else 1), τ)
    by_cases z : τ.2.2 9 i = 0
    · rw [if_pos z, if_pos z]
    · rw [if_neg z, if_neg z]
theorem M_hash {m : Nat} (hm : 130 ≤ m) {σ τ : St} {P N : Nat} {q : Nat → Nat} {h : Int} {w : Bool} {e hs L B : Nat} (hR : RG σ τ P N q h w e hs L) (hB4 : B ≤ 4) (h12 : τ.1 12 = nI B) (hbag : ∀ k, k < B → σ.2.2 15 k = τ.2.2 15 k) :
    f_Model_hash m τ = some (mx (fd (hT (τ.2.2 1)) 120 0 (fd (hM σ q) N 0 (fd (hB (σ.2.2 15)) B 0 (hH L P (τ.1 4) (σ.1 11) e hs B)))) (σ.2.1 0), τ) := by
  obtain ⟨hg, ⟨hP, p9, p2, p3, hgP⟩, hmm, ht, hkk, hd, hb, hh, hz⟩ := hR
  obtain ⟨z1, z2, z3, z4, z5, ⟨ze, z6, z7⟩, ⟨zh, z8, z9⟩, ⟨l1, l2, l3, l4⟩⟩ := hz
  obtain ⟨hN, n1, n2, hMO⟩ := hmm
  have s1 : ∀ y : Int64, f_Model_hash_141 m m y 0 τ = some (mx (fd (hT (τ.2.2 1)) 120 0 y) (τ.2.1 1), τ) := by
    intro y
    refine fold_loop (F := fun j a b => f_Model_hash_141 m j a b τ) (R := fun a => some (mx a (τ.2.1 1), τ)) (M := 120) (fun j a => ?_) (fun j a c hc => ?_) 120 0 m y (by omega) (by omega)
    · show f_Model_hash_141 m (j + 1) a (nI 120) τ = _
      rw [f_Model_hash_141_s, if_pos y120]
      rfl
    · show f_Model_hash_141 m (j + 1) a (nI c) τ = f_Model_hash_141 m j _ (nI (c + 1)) τ
      have gc := inb_n hc (show 120 ≤ 2147483648 by omega)
      rw [f_Model_hash_141_s, if_neg (n120 hc), gd_e gc, tn_n (by omega)]
      unfold hT
      by_cases z : τ.2.2 1 c < 0
      · rw [if_pos z, if_pos z, bnd_e, nI_1]
      · rw [if_neg z, if_neg z, gd_e gc, bnd_e, bnd_e, nI_1]
        rw [show (12 : Int32) = nI 12 from rfl, pk_rem (by omega) (by omega) (by omega), pk_div (by omega) (by omega) (by omega), show (16 : Int32) = nI 16 from rfl, pk_mul, nI_l (show 16 * (c / 12) < 2 ^ 31 by omega), nI_l (show c % 12 < 2 ^ 31 by omega), Int64.add_assoc, lN_add]
        rfl
  have s2 : ∀ y : Int64, f_Model_hash_85 m m y 0 τ = f_Model_hash_141 m m (fd (hM σ q) N 0 y) 0 τ := by
    intro y
    refine fold_loop (F := fun j a b => f_Model_hash_85 m j a b τ) (R := fun a => f_Model_hash_141 m m a 0 τ) (M := N) (fun j a => ?_) (fun j a c hc => ?_) N 0 m y (by omega) (by omega)
    · show f_Model_hash_85 m (j + 1) a (nI N) τ = _
      rw [f_Model_hash_85_s, n2, if_pos ((le_n (by omega) (by omega)).mpr (Nat.le_refl _))]
    · show f_Model_hash_85 m (j + 1) a (nI c) τ = f_Model_hash_85 m j _ (nI (c + 1)) τ
      obtain ⟨a1, a2, a3, a4, a5, a6, a7, a8, a9, a10, a11, a12, a13⟩ := hMO c hc
      have g8 := inb_n (show c < 8 by omega) (show 8 ≤ 2147483648 by omega)
      rw [f_Model_hash_85_s, n2, if_neg (fun z => by have := (le_n (by omega) (by omega)).mp z; omega)]
      by_cases hal : σ.2.2 6 c ≤ 0
      · obtain ⟨n, rfl⟩ : ∃ z, m = z + 1 := ⟨m - 1, by omega⟩
        rw [f_Model_hash_96_s, if_neg (by decide), gd_e g8, tn_n (by omega), a12, if_pos hal, if_neg (by decide), bnd_e, nI_1]
        unfold hM
        rw [if_pos hal]
      · have hg0 : τ.2.2 10 c = 0 := by rw [a12, if_neg hal]
        have inner := fold_loop (F := fun j2 a b => f_Model_hash_96 m (fun y1 y3 σ => f_Model_hash_85 m j y1 y3 σ) j2 a (nI c) b τ) (R := fun a => f_Model_hash_85 m j a (nI (c + 1)) τ) (g := fun k y => mx y (Int32.toInt64 (mv τ c k))) (M := 6) (fun j2 a => ?_) (fun j2 a k hk => ?_) 6 0 m a (by omega) (by omega)
        · refine (show f_Model_hash_96 m (fun y1 y3 σ => f_Model_hash_85 m j y1 y3 σ) m a (nI c) 0 τ = _ from inner).trans ?_
          unfold hM
          rw [if_neg hal]
          show f_Model_hash_85 m j (mx (mx (mx (mx (mx (mx a (Int32.toInt64 (τ.2.2 4 c))) (Int32.toInt64 (τ.2.2 5 c))) (Int32.toInt64 (τ.2.2 6 c))) (Int32.toInt64 (τ.2.2 7 c))) (Int32.toInt64 (τ.2.2 8 c))) (Int32.toInt64 (if τ.2.2 9 c = 0 then 0 else 1))) (nI (c + 1)) τ = _
          rw [a4, a5, ← a6, ← a8, ← a9, ← a10]
          rcases a11 with z | z
          · rw [z, if_pos rfl]
          · rw [z, if_neg (by decide)]
        · show f_Model_hash_96 m (fun y1 y3 σ => f_Model_hash_85 m j y1 y3 σ) (j2 + 1) a (nI c) (nI 6) τ = _
          rw [f_Model_hash_96_s, if_pos (show (6 : Int32) ≤ nI 6 from (le_n (a := 6) (by omega) (by omega)).mpr (Nat.le_refl _)), bnd_e, nI_1]
        · show f_Model_hash_96 m (fun y1 y3 σ => f_Model_hash_85 m j y1 y3 σ) (j2 + 1) a (nI c) (nI k) τ = f_Model_hash_96 m (fun y1 y3 σ => f_Model_hash_85 m j y1 y3 σ) j2 _ (nI c) (nI (k + 1)) τ
          rw [f_Model_hash_96_s, if_neg (fun z : (6 : Int32) ≤ nI k => by have := (le_n (a := 6) (by omega) (by omega)).mp z; omega), gd_e g8, tn_n (by omega), if_pos hg0, M_monv hN n2 hc hg0 hk, bd_e, bnd_e, bnd_e, nI_1]
          rfl
  have s3 : ∀ y : Int64, f_Model_hash_55 m m y 0 τ = f_Model_hash_85 m m (fd (hB (σ.2.2 15)) B 0 y) 0 τ := by
    intro y
    refine fold_loop (F := fun j a b => f_Model_hash_55 m j a b τ) (R := fun a => f_Model_hash_85 m m a 0 τ) (M := B) (fun j a => ?_) (fun j a c hc => ?_) B 0 m y (by omega) (by omega)
    · show f_Model_hash_55 m (j + 1) a (nI B) τ = _
      rw [f_Model_hash_55_s, h12, if_pos ((le_n (by omega) (by omega)).mpr (Nat.le_refl _))]
    · show f_Model_hash_55 m (j + 1) a (nI c) τ = f_Model_hash_55 m j _ (nI (c + 1)) τ
      rw [f_Model_hash_55_s, h12, if_neg (fun z => by have := (le_n (by omega) (by omega)).mp z; omega), gd_e (inb_n (show c < 5 by omega) (by omega)), bnd_e, bnd_e, nI_1, tn_n (by omega), ← hbag c hc]
      rfl
  have s4 : f_Model_hash_6 m m 17 0 τ = f_Model_hash_55 m m (hH L P (τ.1 4) (σ.1 11) e hs B) 0 τ := by
    have h4 := fold_loop (F := fun j a b => f_Model_hash_6 m j a b τ) (R := fun a => f_Model_hash_55 m m a 0 τ) (g := fun k y => mx y (Int32.toInt64 (τ.1 (ix k)))) (M := 8) (fun j a => ?_) (fun j a c hc => M_h6 j a c hc) 8 0 m 17 (by omega) (by omega)
    · refine (show f_Model_hash_6 m m 17 0 τ = _ from h4).trans ?_
      show f_Model_hash_55 m m (mx (mx (mx (mx (mx (mx (mx (mx 17 (Int32.toInt64 (τ.1 8))) (Int32.toInt64 (τ.1 2))) (Int32.toInt64 (τ.1 3))) (Int32.toInt64 (τ.1 4))) (Int32.toInt64 (τ.1 5))) (Int32.toInt64 (τ.1 6))) (Int32.toInt64 (τ.1 7))) (Int32.toInt64 (τ.1 12))) 0 τ = _
      rw [l4, p2, p3, ← z3, z7, z9, h12]
      rfl
    · show f_Model_hash_6 m (j + 1) a (nI 8) τ = _
      rw [f_Model_hash_6_s, if_pos (show (8 : Int32) ≤ nI 8 from (le_n (a := 8) (by omega) (by omega)).mpr (Nat.le_refl _))]
  unfold f_Model_hash
  rw [s4, s3, s2, s1, z2]
theorem hash_rel {m : Nat} (hm : 130 ≤ m) {σ τ : St} {w : Nat} (hG : G σ τ w) : ∃ a b : Int64, f_Desk_hash m σ = some (a, σ) ∧ f_Model_hash m τ = some (b, τ) ∧ (τ.1 9 = 0 → a = b) := by
  obtain ⟨P, N, q, h, wn, e, hs, L, hR, _⟩ := hG
  obtain ⟨B, hB4, b1, b2, b3⟩ := hR.2.2.2.2.2.2.1
  have hh := hR.2.2.2.2.2.2.2.1
  refine ⟨_, _, K_hash hm hR hB4 b1, M_hash hm hR hB4 b2 (fun k hk => (b3 k hk).1), fun h9 => ?_⟩
  obtain ⟨y1, y2⟩ := (st_dead hh).2.mp h9
  rw [hh.2.2.1, hh.2.2.2.1, if_neg (by omega)]
