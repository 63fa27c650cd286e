/-! PURE: what a denotation comes to (own work) -/
/-- it succeeds, with a result of which P holds -/
def Sat {α S : Type} (o : Option (α × S)) (P : α → S → Prop) : Prop := ∃ a σ, o = some (a, σ) ∧ P a σ
theorem sat_some {α S : Type} {a : α} {σ : S} {P : α → S → Prop} : Sat (some (a, σ)) P ↔ P a σ := ⟨fun ⟨_, _, h, hp⟩ => by cases h; exact hp, fun h => ⟨a, σ, rfl, h⟩⟩
theorem sat_none {α S : Type} {P : α → S → Prop} : Sat (none : Option (α × S)) P ↔ False := ⟨fun ⟨_, _, h, _⟩ => (by cases h), fun h => h.elim⟩
theorem sat_bnd {β α S : Type} {a : β} {f : β → Option (α × S)} {P : α → S → Prop} : Sat (bnd a f) P ↔ Sat (f a) P := Iff.rfl
theorem sat_gd {α S : Type} {b : Bool} {x : Option (α × S)} {P : α → S → Prop} : Sat (gd b x) P ↔ b = true ∧ Sat x P := by
  cases b with
  | true => exact ⟨fun h => ⟨rfl, h⟩, fun h => h.2⟩
  | false => exact ⟨fun h => (sat_none.mp h).elim, fun h => absurd h.1 (by decide)⟩
theorem sat_bd {β S α S' : Type} {o : Option (β × S)} {f : β → S → Option (α × S')} {P : α → S' → Prop} : Sat (bd o f) P ↔ Sat o (fun a σ => Sat (f a σ) P) := by
  cases o with
  | none => exact ⟨fun h => (sat_none.mp h).elim, fun h => (sat_none.mp h).elim⟩
  | some q => exact ⟨fun h => ⟨q.1, q.2, rfl, h⟩, fun ⟨_, _, h, hp⟩ => by cases h; exact hp⟩
theorem sat_ite {α S : Type} {c : Prop} [Decidable c] {x y : Option (α × S)} {P : α → S → Prop} : Sat (if c then x else y) P ↔ (c → Sat x P) ∧ (¬ c → Sat y P) := by
  by_cases h : c
  · rw [if_pos h]; exact ⟨fun q => ⟨fun _ => q, fun q2 => absurd h q2⟩, fun q => q.1 h⟩
  · rw [if_neg h]; exact ⟨fun q => ⟨fun q2 => absurd q2 h, fun _ => q⟩, fun q => q.2 h⟩
theorem Sat.mono {α S : Type} {o : Option (α × S)} {P Q : α → S → Prop} (h : Sat o P) (hpq : ∀ a σ, P a σ → Q a σ) : Sat o Q := by
  obtain ⟨a, σ, h1, h2⟩ := h
  exact ⟨a, σ, h1, hpq a σ h2⟩
theorem Sat.of_eq {α S : Type} {o : Option (α × S)} {a : α} {σ : S} {P : α → S → Prop} (h : o = some (a, σ)) (hp : P a σ) : Sat o P := ⟨a, σ, h, hp⟩
theorem bd_e {β S γ : Type} {a : β} {σ : S} {f : β → S → Option γ} : bd (some (a, σ)) f = f a σ := rfl
theorem bnd_e {β γ : Type} {a : β} {f : β → γ} : bnd a f = f a := rfl
theorem gd_e {β : Type} {b : Bool} {x : Option β} (h : b = true) : gd b x = x := by rw [h]; rfl
theorem upd_e (f : Nat → Int32) (k : Nat) (x : Int32) (j : Nat) : upd f k x j = if j = k then x else f j := rfl
theorem sI_1 (σ : St) (k : Nat) (v : Int32) (j : Nat) : (sI σ k v).1 j = if j = k then v else σ.1 j := rfl
theorem sI_2 (σ : St) (k : Nat) (v : Int32) : (sI σ k v).2 = σ.2 := rfl
theorem sL_1 (σ : St) (k : Nat) (v : Int64) : (sL σ k v).1 = σ.1 := rfl
theorem sL_21 (σ : St) (k : Nat) (v : Int64) (j : Nat) : (sL σ k v).2.1 j = if j = k then v else σ.2.1 j := rfl
theorem sL_22 (σ : St) (k : Nat) (v : Int64) : (sL σ k v).2.2 = σ.2.2 := rfl
theorem sA_1 (σ : St) (k i : Nat) (v : Int32) : (sA σ k i v).1 = σ.1 := rfl
theorem sA_21 (σ : St) (k i : Nat) (v : Int32) : (sA σ k i v).2.1 = σ.2.1 := rfl
theorem sA_22 (σ : St) (k i : Nat) (v : Int32) (j : Nat) : (sA σ k i v).2.2 j = if j = k then upd (σ.2.2 k) i v else σ.2.2 j := rfl
/-! small numbers: ints that stand for integers -/
def zI (z : Int) : Int32 := Int32.ofInt z
def sm (a : Int) : Prop := -2147483648 ≤ a ∧ a < 2147483648
theorem zI_add (a b : Int) : zI a + zI b = zI (a + b) := (Int32.ofInt_add a b).symm
theorem zI_sub (a b : Int) : zI a - zI b = zI (a - b) := (Int32.ofInt_sub a b).symm
theorem zI_mul (a b : Int) : zI a * zI b = zI (a * b) := (Int32.ofInt_mul a b).symm
theorem zI_neg (a : Int) : -zI a = zI (-a) := (Int32.ofInt_neg a).symm
theorem zI_T {a : Int} (h : sm a) : (zI a).toInt = a := Int32.toInt_ofInt_of_le h.1 h.2
theorem zI_of (x : Int32) : zI x.toInt = x := Int32.ofInt_toInt x
theorem zI_sm (x : Int32) : sm x.toInt := ⟨x.le_toInt, x.toInt_lt⟩
theorem zI_le {a b : Int} (ha : sm a) (hb : sm b) : zI a ≤ zI b ↔ a ≤ b := by rw [Int32.le_iff_toInt_le, zI_T ha, zI_T hb]
theorem zI_lt {a b : Int} (ha : sm a) (hb : sm b) : zI a < zI b ↔ a < b := by rw [Int32.lt_iff_toInt_lt, zI_T ha, zI_T hb]
theorem zI_eq {a b : Int} (ha : sm a) (hb : sm b) : zI a = zI b ↔ a = b := by rw [← Int32.toInt_inj, zI_T ha, zI_T hb]
theorem zI_tn {a : Int} (h : sm a) : (zI a).toNatClampNeg = a.toNat := by rw [← Int32.toNat_toInt, zI_T h]
theorem zI_nat (n : Nat) : nI n = zI (n : Int) := rfl
theorem zI_div {a b : Int} (ha : -2147483647 ≤ a ∧ a < 2147483648) (hb : sm b) (h : ¬ b = -1) : zI a / zI b = zI (a.tdiv b) := by
  have h1 := Int.natAbs_tdiv_le_natAbs a b
  obtain ⟨h2, h3⟩ := ha
  rw [← Int32.toInt_inj, Int32.toInt_div_of_ne_right _ _ (fun q => h ((zI_eq hb (by constructor <;> omega : sm (-1))).mp (by rw [q]; rfl))), zI_T (⟨by omega, h3⟩ : sm a), zI_T hb, zI_T (⟨by omega, by omega⟩ : sm (a.tdiv b))]
theorem inb_z {a : Int} {n : Nat} (h : sm a) : (inb (zI a) n = true) ↔ (0 ≤ a ∧ a < n) := by
  unfold inb
  rw [decide_eq_true_iff, zI_T h]
theorem sm_n {n : Nat} (h : n < 2147483648) : sm (n : Int) := ⟨by omega, by omega⟩
theorem inb_n {k N : Nat} (h : k < N) (hN : N ≤ 2147483648) : inb (nI k) N = true := (inb_z (sm_n (by omega))).mpr ⟨by omega, by omega⟩
theorem tn_n {k : Nat} (h : k < 2147483648) : (nI k).toNatClampNeg = k := nI_clamp h
