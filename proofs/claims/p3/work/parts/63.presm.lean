/-! PURE: what is never written (own work; printed by wip/gen/pres.py) -/

theorem pr_Model_turn {I : St → Prop} (C : ClM I) (n : Nat) (x0 : Int32) (σ : St) (h : I σ) : Pr I (f_Model_turn n x0 σ) := by
  unfold f_Model_turn
  repeat' with_reducible first | assumption | (refine pr_some ?_) | (refine pr_gd ?_) | (refine pr_ite ?_ ?_) | (refine pr_bd ?_ ?_) | (refine pr_bndS ?_ ?_) | (refine pr_bndV ?_) | (refine @clM_I _ C _ _ _ (by decide) (by decide) ?_) | (refine @clM_L _ C _ _ _ ?_) | (refine @clM_A _ C _ _ _ _ (by decide) ?_) | intro _
theorem pr_Model_in {I : St → Prop} (C : ClM I) (n : Nat) (x0 : Int32) (x1 : Int32) (x2 : Int32) (σ : St) (h : I σ) : Pr I (f_Model_in n x0 x1 x2 σ) := by
  unfold f_Model_in
  repeat' with_reducible first | assumption | (refine pr_some ?_) | (refine pr_gd ?_) | (refine pr_ite ?_ ?_) | (refine pr_bd ?_ ?_) | (refine pr_bndS ?_ ?_) | (refine pr_bndV ?_) | (refine @clM_I _ C _ _ _ (by decide) (by decide) ?_) | (refine @clM_L _ C _ _ _ ?_) | (refine @clM_A _ C _ _ _ _ (by decide) ?_) | intro _
theorem pr_Model_isKey {I : St → Prop} (C : ClM I) (n : Nat) (x0 : Int32) (σ : St) (h : I σ) : Pr I (f_Model_isKey n x0 σ) := by
  unfold f_Model_isKey
  repeat' with_reducible first | assumption | (refine pr_some ?_) | (refine pr_gd ?_) | (refine pr_ite ?_ ?_) | (refine pr_bd ?_ ?_) | (refine pr_bndS ?_ ?_) | (refine pr_bndV ?_) | apply pr_Model_turn C | apply pr_Model_in C | (refine @clM_I _ C _ _ _ (by decide) (by decide) ?_) | (refine @clM_L _ C _ _ _ ?_) | (refine @clM_A _ C _ _ _ _ (by decide) ?_) | intro _
theorem pr_Model_next {I : St → Prop} (C : ClM I) (n : Nat) (x0 : Int64) (σ : St) (h : I σ) : Pr I (f_Model_next n x0 σ) := by
  unfold f_Model_next
  repeat' with_reducible first | assumption | (refine pr_some ?_) | (refine pr_gd ?_) | (refine pr_ite ?_ ?_) | (refine pr_bd ?_ ?_) | (refine pr_bndS ?_ ?_) | (refine pr_bndV ?_) | (refine @clM_I _ C _ _ _ (by decide) (by decide) ?_) | (refine @clM_L _ C _ _ _ ?_) | (refine @clM_A _ C _ _ _ _ (by decide) ?_) | intro _
theorem pr_Model_draw {I : St → Prop} (C : ClM I) (n : Nat) (x1 : Int32) (σ : St) (h : I σ) : Pr I (f_Model_draw n x1 σ) := by
  unfold f_Model_draw
  repeat' with_reducible first | assumption | (refine pr_some ?_) | (refine pr_gd ?_) | (refine pr_ite ?_ ?_) | (refine pr_bd ?_ ?_) | (refine pr_bndS ?_ ?_) | (refine pr_bndV ?_) | apply pr_Model_next C | (refine @clM_I _ C _ _ _ (by decide) (by decide) ?_) | (refine @clM_L _ C _ _ _ ?_) | (refine @clM_A _ C _ _ _ _ (by decide) ?_) | intro _
theorem pr_Model_monsterAt_2 {I : St → Prop} (C : ClM I) (n : Nat) : ∀ (j : Nat) (y1 : Int32) (y2 : Int32) (y3 : Int32) (σ : St), I σ → Pr I (f_Model_monsterAt_2 n j y1 y2 y3 σ) := by
  intro j
  induction j with
  | zero => intro y1 y2 y3 σ _; exact pr_none
  | succ j ih =>
    intro y1 y2 y3 σ h
    rw [f_Model_monsterAt_2_s]
    repeat' with_reducible first | assumption | (refine pr_some ?_) | (refine pr_gd ?_) | (refine pr_ite ?_ ?_) | (refine pr_bd ?_ ?_) | (refine pr_bndS ?_ ?_) | (refine pr_bndV ?_) | apply ih | (refine @clM_I _ C _ _ _ (by decide) (by decide) ?_) | (refine @clM_L _ C _ _ _ ?_) | (refine @clM_A _ C _ _ _ _ (by decide) ?_) | intro _
theorem pr_Model_monsterAt {I : St → Prop} (C : ClM I) (n : Nat) (x1 : Int32) (x2 : Int32) (σ : St) (h : I σ) : Pr I (f_Model_monsterAt n x1 x2 σ) := by
  unfold f_Model_monsterAt
  repeat' with_reducible first | assumption | (refine pr_some ?_) | (refine pr_gd ?_) | (refine pr_ite ?_ ?_) | (refine pr_bd ?_ ?_) | (refine pr_bndS ?_ ?_) | (refine pr_bndV ?_) | apply pr_Model_monsterAt_2 C | (refine @clM_I _ C _ _ _ (by decide) (by decide) ?_) | (refine @clM_L _ C _ _ _ ?_) | (refine @clM_A _ C _ _ _ _ (by decide) ?_) | intro _
theorem pr_Model_uses_175 {I : St → Prop} (C : ClM I) (n : Nat) : ∀ (j : Nat) (y4 : Int32) (y5 : Int32) (σ : St), I σ → Pr I (f_Model_uses_175 n j y4 y5 σ) := by
  intro j
  induction j with
  | zero => intro y4 y5 σ _; exact pr_none
  | succ j ih =>
    intro y4 y5 σ h
    rw [f_Model_uses_175_s]
    repeat' with_reducible first | assumption | (refine pr_some ?_) | (refine pr_gd ?_) | (refine pr_ite ?_ ?_) | (refine pr_bd ?_ ?_) | (refine pr_bndS ?_ ?_) | (refine pr_bndV ?_) | apply pr_Model_monsterAt C | apply ih | (refine @clM_I _ C _ _ _ (by decide) (by decide) ?_) | (refine @clM_L _ C _ _ _ ?_) | (refine @clM_A _ C _ _ _ _ (by decide) ?_) | intro _
theorem pr_Model_uses_122 {I : St → Prop} (C : ClM I) (n : Nat) : ∀ (j : Nat) (y3 : Int32) (y4 : Int32) (σ : St), I σ → Pr I (f_Model_uses_122 n j y3 y4 σ) := by
  intro j
  induction j with
  | zero => intro y3 y4 σ _; exact pr_none
  | succ j ih =>
    intro y3 y4 σ h
    rw [f_Model_uses_122_s]
    repeat' with_reducible first | assumption | (refine pr_some ?_) | (refine pr_gd ?_) | (refine pr_ite ?_ ?_) | (refine pr_bd ?_ ?_) | (refine pr_bndS ?_ ?_) | (refine pr_bndV ?_) | apply pr_Model_draw C | apply pr_Model_uses_175 C | apply pr_Model_monsterAt C | apply ih | (refine @clM_I _ C _ _ _ (by decide) (by decide) ?_) | (refine @clM_L _ C _ _ _ ?_) | (refine @clM_A _ C _ _ _ _ (by decide) ?_) | intro _
theorem pr_Model_uses_110 {I : St → Prop} (C : ClM I) (n : Nat) (y2 : Int32) (σ : St) (h : I σ) : Pr I (f_Model_uses_110 n y2 σ) := by
  unfold f_Model_uses_110
  repeat' with_reducible first | assumption | (refine pr_some ?_) | (refine pr_gd ?_) | (refine pr_ite ?_ ?_) | (refine pr_bd ?_ ?_) | (refine pr_bndS ?_ ?_) | (refine pr_bndV ?_) | apply pr_Model_uses_122 C | (refine @clM_I _ C _ _ _ (by decide) (by decide) ?_) | (refine @clM_L _ C _ _ _ ?_) | (refine @clM_A _ C _ _ _ _ (by decide) ?_) | intro _
theorem pr_Model_uses_99 {I : St → Prop} (C : ClM I) (n : Nat) (y2 : Int32) (σ : St) (h : I σ) : Pr I (f_Model_uses_99 n y2 σ) := by
  unfold f_Model_uses_99
  repeat' with_reducible first | assumption | (refine pr_some ?_) | (refine pr_gd ?_) | (refine pr_ite ?_ ?_) | (refine pr_bd ?_ ?_) | (refine pr_bndS ?_ ?_) | (refine pr_bndV ?_) | apply pr_Model_uses_110 C | (refine @clM_I _ C _ _ _ (by decide) (by decide) ?_) | (refine @clM_L _ C _ _ _ ?_) | (refine @clM_A _ C _ _ _ _ (by decide) ?_) | intro _
theorem pr_Model_uses_84 {I : St → Prop} (C : ClM I) (n : Nat) (y2 : Int32) (σ : St) (h : I σ) : Pr I (f_Model_uses_84 n y2 σ) := by
  unfold f_Model_uses_84
  repeat' with_reducible first | assumption | (refine pr_some ?_) | (refine pr_gd ?_) | (refine pr_ite ?_ ?_) | (refine pr_bd ?_ ?_) | (refine pr_bndS ?_ ?_) | (refine pr_bndV ?_) | apply pr_Model_uses_99 C | (refine @clM_I _ C _ _ _ (by decide) (by decide) ?_) | (refine @clM_L _ C _ _ _ ?_) | (refine @clM_A _ C _ _ _ _ (by decide) ?_) | intro _
theorem pr_Model_uses_81 {I : St → Prop} (C : ClM I) (n : Nat) (y2 : Int32) (s0 : Int32) (σ : St) (h : I σ) : Pr I (f_Model_uses_81 n y2 s0 σ) := by
  unfold f_Model_uses_81
  repeat' with_reducible first | assumption | (refine pr_some ?_) | (refine pr_gd ?_) | (refine pr_ite ?_ ?_) | (refine pr_bd ?_ ?_) | (refine pr_bndS ?_ ?_) | (refine pr_bndV ?_) | apply pr_Model_uses_84 C | (refine @clM_I _ C _ _ _ (by decide) (by decide) ?_) | (refine @clM_L _ C _ _ _ ?_) | (refine @clM_A _ C _ _ _ _ (by decide) ?_) | intro _
theorem pr_Model_uses_29 {I : St → Prop} (C : ClM I) (n : Nat) : ∀ (j : Nat) (y2 : Int32) (y3 : Int32) (σ : St), I σ → Pr I (f_Model_uses_29 n j y2 y3 σ) := by
  intro j
  induction j with
  | zero => intro y2 y3 σ _; exact pr_none
  | succ j ih =>
    intro y2 y3 σ h
    rw [f_Model_uses_29_s]
    repeat' with_reducible first | assumption | (refine pr_some ?_) | (refine pr_gd ?_) | (refine pr_ite ?_ ?_) | (refine pr_bd ?_ ?_) | (refine pr_bndS ?_ ?_) | (refine pr_bndV ?_) | apply pr_Model_uses_81 C | apply pr_Model_uses_84 C | apply ih | (refine @clM_I _ C _ _ _ (by decide) (by decide) ?_) | (refine @clM_L _ C _ _ _ ?_) | (refine @clM_A _ C _ _ _ _ (by decide) ?_) | intro _
theorem pr_Model_uses {I : St → Prop} (C : ClM I) (n : Nat) (x1 : Int32) (σ : St) (h : I σ) : Pr I (f_Model_uses n x1 σ) := by
  unfold f_Model_uses
  repeat' with_reducible first | assumption | (refine pr_some ?_) | (refine pr_gd ?_) | (refine pr_ite ?_ ?_) | (refine pr_bd ?_ ?_) | (refine pr_bndS ?_ ?_) | (refine pr_bndV ?_) | apply pr_Model_uses_29 C | (refine @clM_I _ C _ _ _ (by decide) (by decide) ?_) | (refine @clM_L _ C _ _ _ ?_) | (refine @clM_A _ C _ _ _ _ (by decide) ?_) | intro _
theorem pr_Model_gets {I : St → Prop} (C : ClM I) (n : Nat) (σ : St) (h : I σ) : Pr I (f_Model_gets n σ) := by
  unfold f_Model_gets
  repeat' with_reducible first | assumption | (refine pr_some ?_) | (refine pr_gd ?_) | (refine pr_ite ?_ ?_) | (refine pr_bd ?_ ?_) | (refine pr_bndS ?_ ?_) | (refine pr_bndV ?_) | (refine @clM_I _ C _ _ _ (by decide) (by decide) ?_) | (refine @clM_L _ C _ _ _ ?_) | (refine @clM_A _ C _ _ _ _ (by decide) ?_) | intro _
theorem pr_Model_dx {I : St → Prop} (C : ClM I) (n : Nat) (x0 : Int32) (σ : St) (h : I σ) : Pr I (f_Model_dx n x0 σ) := by
  unfold f_Model_dx
  repeat' with_reducible first | assumption | (refine pr_some ?_) | (refine pr_gd ?_) | (refine pr_ite ?_ ?_) | (refine pr_bd ?_ ?_) | (refine pr_bndS ?_ ?_) | (refine pr_bndV ?_) | (refine @clM_I _ C _ _ _ (by decide) (by decide) ?_) | (refine @clM_L _ C _ _ _ ?_) | (refine @clM_A _ C _ _ _ _ (by decide) ?_) | intro _
theorem pr_Model_dy {I : St → Prop} (C : ClM I) (n : Nat) (x0 : Int32) (σ : St) (h : I σ) : Pr I (f_Model_dy n x0 σ) := by
  unfold f_Model_dy
  repeat' with_reducible first | assumption | (refine pr_some ?_) | (refine pr_gd ?_) | (refine pr_ite ?_ ?_) | (refine pr_bd ?_ ?_) | (refine pr_bndS ?_ ?_) | (refine pr_bndV ?_) | (refine @clM_I _ C _ _ _ (by decide) (by decide) ?_) | (refine @clM_L _ C _ _ _ ?_) | (refine @clM_A _ C _ _ _ _ (by decide) ?_) | intro _
theorem pr_Model_isFloor {I : St → Prop} (C : ClM I) (n : Nat) (x1 : Int32) (x2 : Int32) (σ : St) (h : I σ) : Pr I (f_Model_isFloor n x1 x2 σ) := by
  unfold f_Model_isFloor
  repeat' with_reducible first | assumption | (refine pr_some ?_) | (refine pr_gd ?_) | (refine pr_ite ?_ ?_) | (refine pr_bd ?_ ?_) | (refine pr_bndS ?_ ?_) | (refine pr_bndV ?_) | apply pr_Model_in C | (refine @clM_I _ C _ _ _ (by decide) (by decide) ?_) | (refine @clM_L _ C _ _ _ ?_) | (refine @clM_A _ C _ _ _ _ (by decide) ?_) | intro _
theorem pr_Model_goes {I : St → Prop} (C : ClM I) (n : Nat) (x1 : Int32) (σ : St) (h : I σ) : Pr I (f_Model_goes n x1 σ) := by
  unfold f_Model_goes
  repeat' with_reducible first | assumption | (refine pr_some ?_) | (refine pr_gd ?_) | (refine pr_ite ?_ ?_) | (refine pr_bd ?_ ?_) | (refine pr_bndS ?_ ?_) | (refine pr_bndV ?_) | apply pr_Model_dx C | apply pr_Model_dy C | apply pr_Model_isFloor C | apply pr_Model_monsterAt C | (refine @clM_I _ C _ _ _ (by decide) (by decide) ?_) | (refine @clM_L _ C _ _ _ ?_) | (refine @clM_A _ C _ _ _ _ (by decide) ?_) | intro _
theorem pr_Model_make {I : St → Prop} (C : ClM I) (n : Nat) (x1 : Int32) (σ : St) (h : I σ) : Pr I (f_Model_make n x1 σ) := by
  unfold f_Model_make
  repeat' with_reducible first | assumption | (refine pr_some ?_) | (refine pr_gd ?_) | (refine pr_ite ?_ ?_) | (refine pr_bd ?_ ?_) | (refine pr_bndS ?_ ?_) | (refine pr_bndV ?_) | apply pr_Model_next C | (refine @clM_I _ C _ _ _ (by decide) (by decide) ?_) | (refine @clM_L _ C _ _ _ ?_) | (refine @clM_A _ C _ _ _ _ (by decide) ?_) | intro _
theorem pr_Model_dig_55 {I : St → Prop} (C : ClM I) (n : Nat) (k12 : Int32 → Int32 → Int32 → Int32 → Int32 → St → Option (Unit × St)) (k41 : Int32 → Int32 → Int32 → Int32 → Int32 → Int32 → St → Option (Unit × St)) (y1 : Int32) (y2 : Int32) (y3 : Int32) (y4 : Int32) (y5 : Int32) (y6 : Int32) (s0 : Int32) (s1 : Int32) (hk12 : ∀ (z0 : Int32) (z1 : Int32) (z2 : Int32) (z3 : Int32) (z4 : Int32) (σ : St), I σ → Pr I (k12 z0 z1 z2 z3 z4 σ)) (hk41 : ∀ (z0 : Int32) (z1 : Int32) (z2 : Int32) (z3 : Int32) (z4 : Int32) (z5 : Int32) (σ : St), I σ → Pr I (k41 z0 z1 z2 z3 z4 z5 σ)) (σ : St) (h : I σ) : Pr I (f_Model_dig_55 n k12 k41 y1 y2 y3 y4 y5 y6 s0 s1 σ) := by
  unfold f_Model_dig_55
  repeat' with_reducible first | assumption | (refine pr_some ?_) | (refine pr_gd ?_) | (refine pr_ite ?_ ?_) | (refine pr_bd ?_ ?_) | (refine pr_bndS ?_ ?_) | (refine pr_bndV ?_) | apply hk12 | apply hk41 | (refine @clM_I _ C _ _ _ (by decide) (by decide) ?_) | (refine @clM_L _ C _ _ _ ?_) | (refine @clM_A _ C _ _ _ _ (by decide) ?_) | intro _
theorem pr_Model_dig_41 {I : St → Prop} (C : ClM I) (n : Nat) (k12 : Int32 → Int32 → Int32 → Int32 → Int32 → St → Option (Unit × St)) (hk12 : ∀ (z0 : Int32) (z1 : Int32) (z2 : Int32) (z3 : Int32) (z4 : Int32) (σ : St), I σ → Pr I (k12 z0 z1 z2 z3 z4 σ)) : ∀ (j : Nat) (y1 : Int32) (y2 : Int32) (y3 : Int32) (y4 : Int32) (y5 : Int32) (y6 : Int32) (σ : St), I σ → Pr I (f_Model_dig_41 n k12 j y1 y2 y3 y4 y5 y6 σ) := by
  intro j
  induction j with
  | zero => intro y1 y2 y3 y4 y5 y6 σ _; exact pr_none
  | succ j ih =>
    intro y1 y2 y3 y4 y5 y6 σ h
    rw [f_Model_dig_41_s]
    repeat' with_reducible first | assumption | (refine pr_some ?_) | (refine pr_gd ?_) | (refine pr_ite ?_ ?_) | (refine pr_bd ?_ ?_) | (refine pr_bndS ?_ ?_) | (refine pr_bndV ?_) | apply pr_Model_dig_55 C | apply hk12 | apply ih | (refine @clM_I _ C _ _ _ (by decide) (by decide) ?_) | (refine @clM_L _ C _ _ _ ?_) | (refine @clM_A _ C _ _ _ _ (by decide) ?_) | intro _
theorem pr_Model_dig_24 {I : St → Prop} (C : ClM I) (n : Nat) (k12 : Int32 → Int32 → Int32 → Int32 → Int32 → St → Option (Unit × St)) (y1 : Int32) (y2 : Int32) (y3 : Int32) (y4 : Int32) (y5 : Int32) (s0 : Int32) (s1 : Int32) (hk12 : ∀ (z0 : Int32) (z1 : Int32) (z2 : Int32) (z3 : Int32) (z4 : Int32) (σ : St), I σ → Pr I (k12 z0 z1 z2 z3 z4 σ)) (σ : St) (h : I σ) : Pr I (f_Model_dig_24 n k12 y1 y2 y3 y4 y5 s0 s1 σ) := by
  unfold f_Model_dig_24
  repeat' with_reducible first | assumption | (refine pr_some ?_) | (refine pr_gd ?_) | (refine pr_ite ?_ ?_) | (refine pr_bd ?_ ?_) | (refine pr_bndS ?_ ?_) | (refine pr_bndV ?_) | apply pr_Model_dig_41 C | apply hk12 | (refine @clM_I _ C _ _ _ (by decide) (by decide) ?_) | (refine @clM_L _ C _ _ _ ?_) | (refine @clM_A _ C _ _ _ _ (by decide) ?_) | intro _
theorem pr_Model_dig_12 {I : St → Prop} (C : ClM I) (n : Nat) : ∀ (j : Nat) (y1 : Int32) (y2 : Int32) (y3 : Int32) (y4 : Int32) (y5 : Int32) (σ : St), I σ → Pr I (f_Model_dig_12 n j y1 y2 y3 y4 y5 σ) := by
  intro j
  induction j with
  | zero => intro y1 y2 y3 y4 y5 σ _; exact pr_none
  | succ j ih =>
    intro y1 y2 y3 y4 y5 σ h
    rw [f_Model_dig_12_s]
    repeat' with_reducible first | assumption | (refine pr_some ?_) | (refine pr_gd ?_) | (refine pr_ite ?_ ?_) | (refine pr_bd ?_ ?_) | (refine pr_bndS ?_ ?_) | (refine pr_bndV ?_) | apply pr_Model_dig_24 C | apply ih | (refine @clM_I _ C _ _ _ (by decide) (by decide) ?_) | (refine @clM_L _ C _ _ _ ?_) | (refine @clM_A _ C _ _ _ _ (by decide) ?_) | intro _
theorem pr_Model_dig {I : St → Prop} (C : ClM I) (n : Nat) (x1 : Int32) (x2 : Int32) (x3 : Int32) (x4 : Int32) (σ : St) (h : I σ) : Pr I (f_Model_dig n x1 x2 x3 x4 σ) := by
  unfold f_Model_dig
  repeat' with_reducible first | assumption | (refine pr_some ?_) | (refine pr_gd ?_) | (refine pr_ite ?_ ?_) | (refine pr_bd ?_ ?_) | (refine pr_bndS ?_ ?_) | (refine pr_bndV ?_) | apply pr_Model_dig_12 C | (refine @clM_I _ C _ _ _ (by decide) (by decide) ?_) | (refine @clM_L _ C _ _ _ ?_) | (refine @clM_A _ C _ _ _ _ (by decide) ?_) | intro _
theorem pr_Model_way {I : St → Prop} (C : ClM I) (n : Nat) (x1 : Int32) (x2 : Int32) (σ : St) (h : I σ) : Pr I (f_Model_way n x1 x2 σ) := by
  unfold f_Model_way
  repeat' with_reducible first | assumption | (refine pr_some ?_) | (refine pr_gd ?_) | (refine pr_ite ?_ ?_) | (refine pr_bd ?_ ?_) | (refine pr_bndS ?_ ?_) | (refine pr_bndV ?_) | apply pr_Model_make C | apply pr_Model_dig C | (refine @clM_I _ C _ _ _ (by decide) (by decide) ?_) | (refine @clM_L _ C _ _ _ ?_) | (refine @clM_A _ C _ _ _ _ (by decide) ?_) | intro _
theorem pr_Model_isNear {I : St → Prop} (C : ClM I) (n : Nat) (x1 : Int32) (x2 : Int32) (σ : St) (h : I σ) : Pr I (f_Model_isNear n x1 x2 σ) := by
  unfold f_Model_isNear
  repeat' with_reducible first | assumption | (refine pr_some ?_) | (refine pr_gd ?_) | (refine pr_ite ?_ ?_) | (refine pr_bd ?_ ?_) | (refine pr_bndS ?_ ?_) | (refine pr_bndV ?_) | apply pr_Model_in C | (refine @clM_I _ C _ _ _ (by decide) (by decide) ?_) | (refine @clM_L _ C _ _ _ ?_) | (refine @clM_A _ C _ _ _ _ (by decide) ?_) | intro _
theorem pr_Model_down {I : St → Prop} (C : ClM I) (n : Nat) (x0 : Int32) (x1 : Int32) (σ : St) (h : I σ) : Pr I (f_Model_down n x0 x1 σ) := by
  unfold f_Model_down
  repeat' with_reducible first | assumption | (refine pr_some ?_) | (refine pr_gd ?_) | (refine pr_ite ?_ ?_) | (refine pr_bd ?_ ?_) | (refine pr_bndS ?_ ?_) | (refine pr_bndV ?_) | (refine @clM_I _ C _ _ _ (by decide) (by decide) ?_) | (refine @clM_L _ C _ _ _ ?_) | (refine @clM_A _ C _ _ _ _ (by decide) ?_) | intro _
theorem pr_Model_isClear_60 {I : St → Prop} (C : ClM I) (n : Nat) : ∀ (j : Nat) (y1 : Int32) (y2 : Int32) (y5 : Int32) (y6 : Int32) (y9 : Int32) (y10 : Int32) (σ : St), I σ → Pr I (f_Model_isClear_60 n j y1 y2 y5 y6 y9 y10 σ) := by
  intro j
  induction j with
  | zero => intro y1 y2 y5 y6 y9 y10 σ _; exact pr_none
  | succ j ih =>
    intro y1 y2 y5 y6 y9 y10 σ h
    rw [f_Model_isClear_60_s]
    repeat' with_reducible first | assumption | (refine pr_some ?_) | (refine pr_gd ?_) | (refine pr_ite ?_ ?_) | (refine pr_bd ?_ ?_) | (refine pr_bndS ?_ ?_) | (refine pr_bndV ?_) | apply pr_Model_down C | apply pr_Model_isFloor C | apply ih | (refine @clM_I _ C _ _ _ (by decide) (by decide) ?_) | (refine @clM_L _ C _ _ _ ?_) | (refine @clM_A _ C _ _ _ _ (by decide) ?_) | intro _
theorem pr_Model_isClear_39 {I : St → Prop} (C : ClM I) (n : Nat) (y1 : Int32) (y2 : Int32) (y5 : Int32) (y6 : Int32) (y7 : Int32) (s0 : Int32) (σ : St) (h : I σ) : Pr I (f_Model_isClear_39 n y1 y2 y5 y6 y7 s0 σ) := by
  unfold f_Model_isClear_39
  repeat' with_reducible first | assumption | (refine pr_some ?_) | (refine pr_gd ?_) | (refine pr_ite ?_ ?_) | (refine pr_bd ?_ ?_) | (refine pr_bndS ?_ ?_) | (refine pr_bndV ?_) | apply pr_Model_isClear_60 C | (refine @clM_I _ C _ _ _ (by decide) (by decide) ?_) | (refine @clM_L _ C _ _ _ ?_) | (refine @clM_A _ C _ _ _ _ (by decide) ?_) | intro _
theorem pr_Model_isClear_24 {I : St → Prop} (C : ClM I) (n : Nat) (y1 : Int32) (y2 : Int32) (y5 : Int32) (y6 : Int32) (s0 : Int32) (σ : St) (h : I σ) : Pr I (f_Model_isClear_24 n y1 y2 y5 y6 s0 σ) := by
  unfold f_Model_isClear_24
  repeat' with_reducible first | assumption | (refine pr_some ?_) | (refine pr_gd ?_) | (refine pr_ite ?_ ?_) | (refine pr_bd ?_ ?_) | (refine pr_bndS ?_ ?_) | (refine pr_bndV ?_) | apply pr_Model_isClear_39 C | (refine @clM_I _ C _ _ _ (by decide) (by decide) ?_) | (refine @clM_L _ C _ _ _ ?_) | (refine @clM_A _ C _ _ _ _ (by decide) ?_) | intro _
theorem pr_Model_isClear {I : St → Prop} (C : ClM I) (n : Nat) (x1 : Int32) (x2 : Int32) (x3 : Int32) (x4 : Int32) (σ : St) (h : I σ) : Pr I (f_Model_isClear n x1 x2 x3 x4 σ) := by
  unfold f_Model_isClear
  repeat' with_reducible first | assumption | (refine pr_some ?_) | (refine pr_gd ?_) | (refine pr_ite ?_ ?_) | (refine pr_bd ?_ ?_) | (refine pr_bndS ?_ ?_) | (refine pr_bndV ?_) | apply pr_Model_isClear_24 C | (refine @clM_I _ C _ _ _ (by decide) (by decide) ?_) | (refine @clM_L _ C _ _ _ ?_) | (refine @clM_A _ C _ _ _ _ (by decide) ?_) | intro _
theorem pr_Model_isSeen {I : St → Prop} (C : ClM I) (n : Nat) (x1 : Int32) (x2 : Int32) (σ : St) (h : I σ) : Pr I (f_Model_isSeen n x1 x2 σ) := by
  unfold f_Model_isSeen
  repeat' with_reducible first | assumption | (refine pr_some ?_) | (refine pr_gd ?_) | (refine pr_ite ?_ ?_) | (refine pr_bd ?_ ?_) | (refine pr_bndS ?_ ?_) | (refine pr_bndV ?_) | apply pr_Model_isNear C | apply pr_Model_isClear C | (refine @clM_I _ C _ _ _ (by decide) (by decide) ?_) | (refine @clM_L _ C _ _ _ ?_) | (refine @clM_A _ C _ _ _ _ (by decide) ?_) | intro _
theorem pr_Model_know_2 {I : St → Prop} (C : ClM I) (n : Nat) : ∀ (j : Nat) (y1 : Int32) (σ : St), I σ → Pr I (f_Model_know_2 n j y1 σ) := by
  intro j
  induction j with
  | zero => intro y1 σ _; exact pr_none
  | succ j ih =>
    intro y1 σ h
    rw [f_Model_know_2_s]
    repeat' with_reducible first | assumption | (refine pr_some ?_) | (refine pr_gd ?_) | (refine pr_ite ?_ ?_) | (refine pr_bd ?_ ?_) | (refine pr_bndS ?_ ?_) | (refine pr_bndV ?_) | apply pr_Model_isSeen C | apply ih | (refine @clM_I _ C _ _ _ (by decide) (by decide) ?_) | (refine @clM_L _ C _ _ _ ?_) | (refine @clM_A _ C _ _ _ _ (by decide) ?_) | intro _
theorem pr_Model_know {I : St → Prop} (C : ClM I) (n : Nat) (σ : St) (h : I σ) : Pr I (f_Model_know n σ) := by
  unfold f_Model_know
  repeat' with_reducible first | assumption | (refine pr_some ?_) | (refine pr_gd ?_) | (refine pr_ite ?_ ?_) | (refine pr_bd ?_ ?_) | (refine pr_bndS ?_ ?_) | (refine pr_bndV ?_) | apply pr_Model_know_2 C | (refine @clM_I _ C _ _ _ (by decide) (by decide) ?_) | (refine @clM_L _ C _ _ _ ?_) | (refine @clM_A _ C _ _ _ _ (by decide) ?_) | intro _
theorem pr_Model_build_456 {I : St → Prop} (C : ClM I) (n : Nat) (k314 : Int32 → Int32 → St → Option (Unit × St)) (y1 : Int32) (y4 : Int32) (s0 : Int32) (s1 : Int32) (hk314 : ∀ (z0 : Int32) (z1 : Int32) (σ : St), I σ → Pr I (k314 z0 z1 σ)) (σ : St) (h : I σ) : Pr I (f_Model_build_456 n k314 y1 y4 s0 s1 σ) := by
  unfold f_Model_build_456
  repeat' with_reducible first | assumption | (refine pr_some ?_) | (refine pr_gd ?_) | (refine pr_ite ?_ ?_) | (refine pr_bd ?_ ?_) | (refine pr_bndS ?_ ?_) | (refine pr_bndV ?_) | apply hk314 | (refine @clM_I _ C _ _ _ (by decide) (by decide) ?_) | (refine @clM_L _ C _ _ _ ?_) | (refine @clM_A _ C _ _ _ _ (by decide) ?_) | intro _
theorem pr_Model_build_506 {I : St → Prop} (C : ClM I) (n : Nat) : ∀ (j : Nat) (y4 : Int32) (σ : St), I σ → Pr I (f_Model_build_506 n j y4 σ) := by
  intro j
  induction j with
  | zero => intro y4 σ _; exact pr_none
  | succ j ih =>
    intro y4 σ h
    rw [f_Model_build_506_s]
    repeat' with_reducible first | assumption | (refine pr_some ?_) | (refine pr_gd ?_) | (refine pr_ite ?_ ?_) | (refine pr_bd ?_ ?_) | (refine pr_bndS ?_ ?_) | (refine pr_bndV ?_) | apply pr_Model_know C | apply pr_Model_make C | apply ih | (refine @clM_I _ C _ _ _ (by decide) (by decide) ?_) | (refine @clM_L _ C _ _ _ ?_) | (refine @clM_A _ C _ _ _ _ (by decide) ?_) | intro _
theorem pr_Model_build_314 {I : St → Prop} (C : ClM I) (n : Nat) : ∀ (j : Nat) (y1 : Int32) (y4 : Int32) (σ : St), I σ → Pr I (f_Model_build_314 n j y1 y4 σ) := by
  intro j
  induction j with
  | zero => intro y1 y4 σ _; exact pr_none
  | succ j ih =>
    intro y1 y4 σ h
    rw [f_Model_build_314_s]
    repeat' with_reducible first | assumption | (refine pr_some ?_) | (refine pr_gd ?_) | (refine pr_ite ?_ ?_) | (refine pr_bd ?_ ?_) | (refine pr_bndS ?_ ?_) | (refine pr_bndV ?_) | apply pr_Model_build_506 C | apply pr_Model_make C | apply pr_Model_monsterAt C | apply pr_Model_build_456 C | apply ih | (refine @clM_I _ C _ _ _ (by decide) (by decide) ?_) | (refine @clM_L _ C _ _ _ ?_) | (refine @clM_A _ C _ _ _ _ (by decide) ?_) | intro _
theorem pr_Model_build_60 {I : St → Prop} (C : ClM I) (n : Nat) : ∀ (j : Nat) (y1 : Int32) (y2 : Int32) (σ : St), I σ → Pr I (f_Model_build_60 n j y1 y2 σ) := by
  intro j
  induction j with
  | zero => intro y1 y2 σ _; exact pr_none
  | succ j ih =>
    intro y1 y2 σ h
    rw [f_Model_build_60_s]
    repeat' with_reducible first | assumption | (refine pr_some ?_) | (refine pr_gd ?_) | (refine pr_ite ?_ ?_) | (refine pr_bd ?_ ?_) | (refine pr_bndS ?_ ?_) | (refine pr_bndV ?_) | apply pr_Model_way C | apply pr_Model_make C | apply pr_Model_build_314 C | apply pr_Model_dig C | apply ih | (refine @clM_I _ C _ _ _ (by decide) (by decide) ?_) | (refine @clM_L _ C _ _ _ ?_) | (refine @clM_A _ C _ _ _ _ (by decide) ?_) | intro _
theorem pr_Model_build_25 {I : St → Prop} (C : ClM I) (n : Nat) : ∀ (j : Nat) (y1 : Int32) (y2 : Int32) (σ : St), I σ → Pr I (f_Model_build_25 n j y1 y2 σ) := by
  intro j
  induction j with
  | zero => intro y1 y2 σ _; exact pr_none
  | succ j ih =>
    intro y1 y2 σ h
    rw [f_Model_build_25_s]
    repeat' with_reducible first | assumption | (refine pr_some ?_) | (refine pr_gd ?_) | (refine pr_ite ?_ ?_) | (refine pr_bd ?_ ?_) | (refine pr_bndS ?_ ?_) | (refine pr_bndV ?_) | apply pr_Model_build_60 C | apply ih | (refine @clM_I _ C _ _ _ (by decide) (by decide) ?_) | (refine @clM_L _ C _ _ _ ?_) | (refine @clM_A _ C _ _ _ _ (by decide) ?_) | intro _
theorem pr_Model_build {I : St → Prop} (C : ClM I) (n : Nat) (x1 : Int32) (σ : St) (h : I σ) : Pr I (f_Model_build n x1 σ) := by
  unfold f_Model_build
  repeat' with_reducible first | assumption | (refine pr_some ?_) | (refine pr_gd ?_) | (refine pr_ite ?_ ?_) | (refine pr_bd ?_ ?_) | (refine pr_bndS ?_ ?_) | (refine pr_bndV ?_) | apply pr_Model_build_25 C | (refine @clM_I _ C _ _ _ (by decide) (by decide) ?_) | (refine @clM_L _ C _ _ _ ?_) | (refine @clM_A _ C _ _ _ _ (by decide) ?_) | intro _
theorem pr_Model_measure_73 {I : St → Prop} (C : ClM I) (n : Nat) (k43 : Int32 → Int32 → St → Option (Unit × St)) (k51 : Int32 → Int32 → Int32 → St → Option (Unit × St)) (hk43 : ∀ (z0 : Int32) (z1 : Int32) (σ : St), I σ → Pr I (k43 z0 z1 σ)) (hk51 : ∀ (z0 : Int32) (z1 : Int32) (z2 : Int32) (σ : St), I σ → Pr I (k51 z0 z1 z2 σ)) : ∀ (j : Nat) (y1 : Int32) (y2 : Int32) (y3 : Int32) (y4 : Int32) (σ : St), I σ → Pr I (f_Model_measure_73 n k43 k51 j y1 y2 y3 y4 σ) := by
  intro j
  induction j with
  | zero => intro y1 y2 y3 y4 σ _; exact pr_none
  | succ j ih =>
    intro y1 y2 y3 y4 σ h
    rw [f_Model_measure_73_s]
    repeat' with_reducible first | assumption | (refine pr_some ?_) | (refine pr_gd ?_) | (refine pr_ite ?_ ?_) | (refine pr_bd ?_ ?_) | (refine pr_bndS ?_ ?_) | (refine pr_bndV ?_) | apply pr_Model_dx C | apply pr_Model_dy C | apply pr_Model_isFloor C | apply hk43 | apply hk51 | apply ih | (refine @clM_I _ C _ _ _ (by decide) (by decide) ?_) | (refine @clM_L _ C _ _ _ ?_) | (refine @clM_A _ C _ _ _ _ (by decide) ?_) | intro _
theorem pr_Model_measure_51 {I : St → Prop} (C : ClM I) (n : Nat) (k43 : Int32 → Int32 → St → Option (Unit × St)) (hk43 : ∀ (z0 : Int32) (z1 : Int32) (σ : St), I σ → Pr I (k43 z0 z1 σ)) : ∀ (j : Nat) (y1 : Int32) (y2 : Int32) (y3 : Int32) (σ : St), I σ → Pr I (f_Model_measure_51 n k43 j y1 y2 y3 σ) := by
  intro j
  induction j with
  | zero => intro y1 y2 y3 σ _; exact pr_none
  | succ j ih =>
    intro y1 y2 y3 σ h
    rw [f_Model_measure_51_s]
    repeat' with_reducible first | assumption | (refine pr_some ?_) | (refine pr_gd ?_) | (refine pr_ite ?_ ?_) | (refine pr_bd ?_ ?_) | (refine pr_bndS ?_ ?_) | (refine pr_bndV ?_) | apply pr_Model_measure_73 C | apply hk43 | apply ih | (refine @clM_I _ C _ _ _ (by decide) (by decide) ?_) | (refine @clM_L _ C _ _ _ ?_) | (refine @clM_A _ C _ _ _ _ (by decide) ?_) | intro _
theorem pr_Model_measure_43 {I : St → Prop} (C : ClM I) (n : Nat) : ∀ (j : Nat) (y1 : Int32) (y2 : Int32) (σ : St), I σ → Pr I (f_Model_measure_43 n j y1 y2 σ) := by
  intro j
  induction j with
  | zero => intro y1 y2 σ _; exact pr_none
  | succ j ih =>
    intro y1 y2 σ h
    rw [f_Model_measure_43_s]
    repeat' with_reducible first | assumption | (refine pr_some ?_) | (refine pr_gd ?_) | (refine pr_ite ?_ ?_) | (refine pr_bd ?_ ?_) | (refine pr_bndS ?_ ?_) | (refine pr_bndV ?_) | apply pr_Model_measure_51 C | apply ih | (refine @clM_I _ C _ _ _ (by decide) (by decide) ?_) | (refine @clM_L _ C _ _ _ ?_) | (refine @clM_A _ C _ _ _ _ (by decide) ?_) | intro _
theorem pr_Model_measure_2 {I : St → Prop} (C : ClM I) (n : Nat) : ∀ (j : Nat) (y1 : Int32) (σ : St), I σ → Pr I (f_Model_measure_2 n j y1 σ) := by
  intro j
  induction j with
  | zero => intro y1 σ _; exact pr_none
  | succ j ih =>
    intro y1 σ h
    rw [f_Model_measure_2_s]
    repeat' with_reducible first | assumption | (refine pr_some ?_) | (refine pr_gd ?_) | (refine pr_ite ?_ ?_) | (refine pr_bd ?_ ?_) | (refine pr_bndS ?_ ?_) | (refine pr_bndV ?_) | apply pr_Model_measure_43 C | apply ih | (refine @clM_I _ C _ _ _ (by decide) (by decide) ?_) | (refine @clM_L _ C _ _ _ ?_) | (refine @clM_A _ C _ _ _ _ (by decide) ?_) | intro _
theorem pr_Model_measure {I : St → Prop} (C : ClM I) (n : Nat) (σ : St) (h : I σ) : Pr I (f_Model_measure n σ) := by
  unfold f_Model_measure
  repeat' with_reducible first | assumption | (refine pr_some ?_) | (refine pr_gd ?_) | (refine pr_ite ?_ ?_) | (refine pr_bd ?_ ?_) | (refine pr_bndS ?_ ?_) | (refine pr_bndV ?_) | apply pr_Model_measure_2 C | (refine @clM_I _ C _ _ _ (by decide) (by decide) ?_) | (refine @clM_L _ C _ _ _ ?_) | (refine @clM_A _ C _ _ _ _ (by decide) ?_) | intro _
theorem pr_Model_wound_20 {I : St → Prop} (C : ClM I) (n : Nat) (s0 : Int32) (s1 : Int32) (σ : St) (h : I σ) : Pr I (f_Model_wound_20 n s0 s1 σ) := by
  unfold f_Model_wound_20
  repeat' with_reducible first | assumption | (refine pr_some ?_) | (refine pr_gd ?_) | (refine pr_ite ?_ ?_) | (refine pr_bd ?_ ?_) | (refine pr_bndS ?_ ?_) | (refine pr_bndV ?_) | (refine @clM_I _ C _ _ _ (by decide) (by decide) ?_) | (refine @clM_L _ C _ _ _ ?_) | (refine @clM_A _ C _ _ _ _ (by decide) ?_) | intro _
theorem pr_Model_wound {I : St → Prop} (C : ClM I) (n : Nat) (x1 : Int32) (σ : St) (h : I σ) : Pr I (f_Model_wound n x1 σ) := by
  unfold f_Model_wound
  repeat' with_reducible first | assumption | (refine pr_some ?_) | (refine pr_gd ?_) | (refine pr_ite ?_ ?_) | (refine pr_bd ?_ ?_) | (refine pr_bndS ?_ ?_) | (refine pr_bndV ?_) | apply pr_Model_wound_20 C | (refine @clM_I _ C _ _ _ (by decide) (by decide) ?_) | (refine @clM_L _ C _ _ _ ?_) | (refine @clM_A _ C _ _ _ _ (by decide) ?_) | intro _
theorem pr_Model_put {I : St → Prop} (C : ClM I) (n : Nat) (x1 : Int32) (x2 : Int32) (x3 : Int32) (σ : St) (h : I σ) : Pr I (f_Model_put n x1 x2 x3 σ) := by
  unfold f_Model_put
  repeat' with_reducible first | assumption | (refine pr_some ?_) | (refine pr_gd ?_) | (refine pr_ite ?_ ?_) | (refine pr_bd ?_ ?_) | (refine pr_bndS ?_ ?_) | (refine pr_bndV ?_) | (refine @clM_I _ C _ _ _ (by decide) (by decide) ?_) | (refine @clM_L _ C _ _ _ ?_) | (refine @clM_A _ C _ _ _ _ (by decide) ?_) | intro _
theorem pr_Model_acts_129 {I : St → Prop} (C : ClM I) (n : Nat) (y1 : Int32) (y3 : Int32) (y4 : Int32) (σ : St) (h : I σ) : Pr I (f_Model_acts_129 n y1 y3 y4 σ) := by
  unfold f_Model_acts_129
  repeat' with_reducible first | assumption | (refine pr_some ?_) | (refine pr_gd ?_) | (refine pr_ite ?_ ?_) | (refine pr_bd ?_ ?_) | (refine pr_bndS ?_ ?_) | (refine pr_bndV ?_) | apply pr_Model_isFloor C | apply pr_Model_monsterAt C | apply pr_Model_put C | (refine @clM_I _ C _ _ _ (by decide) (by decide) ?_) | (refine @clM_L _ C _ _ _ ?_) | (refine @clM_A _ C _ _ _ _ (by decide) ?_) | intro _
theorem pr_Model_acts_412 {I : St → Prop} (C : ClM I) (n : Nat) (y1 : Int32) (y6 : Int32) (y7 : Int32) (σ : St) (h : I σ) : Pr I (f_Model_acts_412 n y1 y6 y7 σ) := by
  unfold f_Model_acts_412
  repeat' with_reducible first | assumption | (refine pr_some ?_) | (refine pr_gd ?_) | (refine pr_ite ?_ ?_) | (refine pr_bd ?_ ?_) | (refine pr_bndS ?_ ?_) | (refine pr_bndV ?_) | apply pr_Model_put C | (refine @clM_I _ C _ _ _ (by decide) (by decide) ?_) | (refine @clM_L _ C _ _ _ ?_) | (refine @clM_A _ C _ _ _ _ (by decide) ?_) | intro _
theorem pr_Model_acts_360 {I : St → Prop} (C : ClM I) (n : Nat) (y1 : Int32) (y3 : Int32) (σ : St) (h : I σ) : Pr I (f_Model_acts_360 n y1 y3 σ) := by
  unfold f_Model_acts_360
  repeat' with_reducible first | assumption | (refine pr_some ?_) | (refine pr_gd ?_) | (refine pr_ite ?_ ?_) | (refine pr_bd ?_ ?_) | (refine pr_bndS ?_ ?_) | (refine pr_bndV ?_) | apply pr_Model_dx C | apply pr_Model_dy C | apply pr_Model_wound C | apply pr_Model_acts_412 C | (refine @clM_I _ C _ _ _ (by decide) (by decide) ?_) | (refine @clM_L _ C _ _ _ ?_) | (refine @clM_A _ C _ _ _ _ (by decide) ?_) | intro _
theorem pr_Model_acts_219 {I : St → Prop} (C : ClM I) (n : Nat) : ∀ (j : Nat) (y1 : Int32) (y2 : Int32) (y3 : Int32) (y4 : Int32) (y5 : Int32) (y6 : Int32) (σ : St), I σ → Pr I (f_Model_acts_219 n j y1 y2 y3 y4 y5 y6 σ) := by
  intro j
  induction j with
  | zero => intro y1 y2 y3 y4 y5 y6 σ _; exact pr_none
  | succ j ih =>
    intro y1 y2 y3 y4 y5 y6 σ h
    rw [f_Model_acts_219_s]
    repeat' with_reducible first | assumption | (refine pr_some ?_) | (refine pr_gd ?_) | (refine pr_ite ?_ ?_) | (refine pr_bd ?_ ?_) | (refine pr_bndS ?_ ?_) | (refine pr_bndV ?_) | apply pr_Model_acts_360 C | apply pr_Model_dx C | apply pr_Model_dy C | apply pr_Model_isFloor C | apply pr_Model_monsterAt C | apply ih | (refine @clM_I _ C _ _ _ (by decide) (by decide) ?_) | (refine @clM_L _ C _ _ _ ?_) | (refine @clM_A _ C _ _ _ _ (by decide) ?_) | intro _
theorem pr_Model_acts_187 {I : St → Prop} (C : ClM I) (n : Nat) (y1 : Int32) (s0 : Int32) (σ : St) (h : I σ) : Pr I (f_Model_acts_187 n y1 s0 σ) := by
  unfold f_Model_acts_187
  repeat' with_reducible first | assumption | (refine pr_some ?_) | (refine pr_gd ?_) | (refine pr_ite ?_ ?_) | (refine pr_bd ?_ ?_) | (refine pr_bndS ?_ ?_) | (refine pr_bndV ?_) | apply pr_Model_acts_219 C | (refine @clM_I _ C _ _ _ (by decide) (by decide) ?_) | (refine @clM_L _ C _ _ _ ?_) | (refine @clM_A _ C _ _ _ _ (by decide) ?_) | intro _
theorem pr_Model_acts_186 {I : St → Prop} (C : ClM I) (n : Nat) (y1 : Int32) (σ : St) (h : I σ) : Pr I (f_Model_acts_186 n y1 σ) := by
  unfold f_Model_acts_186
  repeat' with_reducible first | assumption | (refine pr_some ?_) | (refine pr_gd ?_) | (refine pr_ite ?_ ?_) | (refine pr_bd ?_ ?_) | (refine pr_bndS ?_ ?_) | (refine pr_bndV ?_) | apply pr_Model_acts_187 C | (refine @clM_I _ C _ _ _ (by decide) (by decide) ?_) | (refine @clM_L _ C _ _ _ ?_) | (refine @clM_A _ C _ _ _ _ (by decide) ?_) | intro _
theorem pr_Model_acts {I : St → Prop} (C : ClM I) (n : Nat) (x1 : Int32) (σ : St) (h : I σ) : Pr I (f_Model_acts n x1 σ) := by
  unfold f_Model_acts
  repeat' with_reducible first | assumption | (refine pr_some ?_) | (refine pr_gd ?_) | (refine pr_ite ?_ ?_) | (refine pr_bd ?_ ?_) | (refine pr_bndS ?_ ?_) | (refine pr_bndV ?_) | apply pr_Model_isNear C | apply pr_Model_isClear C | apply pr_Model_draw C | apply pr_Model_dx C | apply pr_Model_dy C | apply pr_Model_wound C | apply pr_Model_acts_129 C | apply pr_Model_measure C | apply pr_Model_acts_186 C | apply pr_Model_acts_187 C | (refine @clM_I _ C _ _ _ (by decide) (by decide) ?_) | (refine @clM_L _ C _ _ _ ?_) | (refine @clM_A _ C _ _ _ _ (by decide) ?_) | intro _
theorem pr_Model_pass_139 {I : St → Prop} (C : ClM I) (n : Nat) (k11 : St → Option (Unit × St)) (k79 : Int32 → St → Option (Unit × St)) (hk11 : ∀ (σ : St), I σ → Pr I (k11 σ)) (hk79 : ∀ (z0 : Int32) (σ : St), I σ → Pr I (k79 z0 σ)) : ∀ (j : Nat) (y1 : Int32) (σ : St), I σ → Pr I (f_Model_pass_139 n k11 k79 j y1 σ) := by
  intro j
  induction j with
  | zero => intro y1 σ _; exact pr_none
  | succ j ih =>
    intro y1 σ h
    rw [f_Model_pass_139_s]
    repeat' with_reducible first | assumption | (refine pr_some ?_) | (refine pr_gd ?_) | (refine pr_ite ?_ ?_) | (refine pr_bd ?_ ?_) | (refine pr_bndS ?_ ?_) | (refine pr_bndV ?_) | apply pr_Model_acts C | apply hk11 | apply hk79 | apply ih | (refine @clM_I _ C _ _ _ (by decide) (by decide) ?_) | (refine @clM_L _ C _ _ _ ?_) | (refine @clM_A _ C _ _ _ _ (by decide) ?_) | intro _
theorem pr_Model_pass_137 {I : St → Prop} (C : ClM I) (n : Nat) (k11 : St → Option (Unit × St)) (k79 : Int32 → St → Option (Unit × St)) (y1 : Int32) (s0 : Int32) (s1 : Int32) (s2 : Int32) (hk11 : ∀ (σ : St), I σ → Pr I (k11 σ)) (hk79 : ∀ (z0 : Int32) (σ : St), I σ → Pr I (k79 z0 σ)) (σ : St) (h : I σ) : Pr I (f_Model_pass_137 n k11 k79 y1 s0 s1 s2 σ) := by
  unfold f_Model_pass_137
  repeat' with_reducible first | assumption | (refine pr_some ?_) | (refine pr_gd ?_) | (refine pr_ite ?_ ?_) | (refine pr_bd ?_ ?_) | (refine pr_bndS ?_ ?_) | (refine pr_bndV ?_) | apply pr_Model_pass_139 C | apply hk11 | apply hk79 | (refine @clM_I _ C _ _ _ (by decide) (by decide) ?_) | (refine @clM_L _ C _ _ _ ?_) | (refine @clM_A _ C _ _ _ _ (by decide) ?_) | intro _
theorem pr_Model_pass_79 {I : St → Prop} (C : ClM I) (n : Nat) (k11 : St → Option (Unit × St)) (hk11 : ∀ (σ : St), I σ → Pr I (k11 σ)) : ∀ (j : Nat) (y1 : Int32) (σ : St), I σ → Pr I (f_Model_pass_79 n k11 j y1 σ) := by
  intro j
  induction j with
  | zero => intro y1 σ _; exact pr_none
  | succ j ih =>
    intro y1 σ h
    rw [f_Model_pass_79_s]
    repeat' with_reducible first | assumption | (refine pr_some ?_) | (refine pr_gd ?_) | (refine pr_ite ?_ ?_) | (refine pr_bd ?_ ?_) | (refine pr_bndS ?_ ?_) | (refine pr_bndV ?_) | apply pr_Model_pass_137 C | apply hk11 | apply ih | (refine @clM_I _ C _ _ _ (by decide) (by decide) ?_) | (refine @clM_L _ C _ _ _ ?_) | (refine @clM_A _ C _ _ _ _ (by decide) ?_) | intro _
theorem pr_Model_pass_56 {I : St → Prop} (C : ClM I) (n : Nat) (k11 : St → Option (Unit × St)) (s0 : Int32) (s1 : Int32) (hk11 : ∀ (σ : St), I σ → Pr I (k11 σ)) (σ : St) (h : I σ) : Pr I (f_Model_pass_56 n k11 s0 s1 σ) := by
  unfold f_Model_pass_56
  repeat' with_reducible first | assumption | (refine pr_some ?_) | (refine pr_gd ?_) | (refine pr_ite ?_ ?_) | (refine pr_bd ?_ ?_) | (refine pr_bndS ?_ ?_) | (refine pr_bndV ?_) | apply pr_Model_pass_79 C | apply hk11 | (refine @clM_I _ C _ _ _ (by decide) (by decide) ?_) | (refine @clM_L _ C _ _ _ ?_) | (refine @clM_A _ C _ _ _ _ (by decide) ?_) | intro _
theorem pr_Model_pass_11 {I : St → Prop} (C : ClM I) (n : Nat) : ∀ (j : Nat) (σ : St), I σ → Pr I (f_Model_pass_11 n j σ) := by
  intro j
  induction j with
  | zero => intro σ _; exact pr_none
  | succ j ih =>
    intro σ h
    rw [f_Model_pass_11_s]
    repeat' with_reducible first | assumption | (refine pr_some ?_) | (refine pr_gd ?_) | (refine pr_ite ?_ ?_) | (refine pr_bd ?_ ?_) | (refine pr_bndS ?_ ?_) | (refine pr_bndV ?_) | apply pr_Model_pass_56 C | apply ih | (refine @clM_I _ C _ _ _ (by decide) (by decide) ?_) | (refine @clM_L _ C _ _ _ ?_) | (refine @clM_A _ C _ _ _ _ (by decide) ?_) | intro _
theorem pr_Model_pass {I : St → Prop} (C : ClM I) (n : Nat) (σ : St) (h : I σ) : Pr I (f_Model_pass n σ) := by
  unfold f_Model_pass
  repeat' with_reducible first | assumption | (refine pr_some ?_) | (refine pr_gd ?_) | (refine pr_ite ?_ ?_) | (refine pr_bd ?_ ?_) | (refine pr_bndS ?_ ?_) | (refine pr_bndV ?_) | apply pr_Model_pass_11 C | (refine @clM_I _ C _ _ _ (by decide) (by decide) ?_) | (refine @clM_L _ C _ _ _ ?_) | (refine @clM_A _ C _ _ _ _ (by decide) ?_) | intro _
theorem pr_Model_does_117 {I : St → Prop} (C : ClM I) (n : Nat) (y2 : Int32) (s0 : Int32) (σ : St) (h : I σ) : Pr I (f_Model_does_117 n y2 s0 σ) := by
  unfold f_Model_does_117
  repeat' with_reducible first | assumption | (refine pr_some ?_) | (refine pr_gd ?_) | (refine pr_ite ?_ ?_) | (refine pr_bd ?_ ?_) | (refine pr_bndS ?_ ?_) | (refine pr_bndV ?_) | apply pr_Model_pass C | apply pr_Model_know C | (refine @clM_I _ C _ _ _ (by decide) (by decide) ?_) | (refine @clM_L _ C _ _ _ ?_) | (refine @clM_A _ C _ _ _ _ (by decide) ?_) | intro _
theorem pr_Model_does_112 {I : St → Prop} (C : ClM I) (n : Nat) (y2 : Int32) (σ : St) (h : I σ) : Pr I (f_Model_does_112 n y2 σ) := by
  unfold f_Model_does_112
  repeat' with_reducible first | assumption | (refine pr_some ?_) | (refine pr_gd ?_) | (refine pr_ite ?_ ?_) | (refine pr_bd ?_ ?_) | (refine pr_bndS ?_ ?_) | (refine pr_bndV ?_) | apply pr_Model_does_117 C | (refine @clM_I _ C _ _ _ (by decide) (by decide) ?_) | (refine @clM_L _ C _ _ _ ?_) | (refine @clM_A _ C _ _ _ _ (by decide) ?_) | intro _
theorem pr_Model_does_116 {I : St → Prop} (C : ClM I) (n : Nat) (y2 : Int32) (σ : St) (h : I σ) : Pr I (f_Model_does_116 n y2 σ) := by
  unfold f_Model_does_116
  repeat' with_reducible first | assumption | (refine pr_some ?_) | (refine pr_gd ?_) | (refine pr_ite ?_ ?_) | (refine pr_bd ?_ ?_) | (refine pr_bndS ?_ ?_) | (refine pr_bndV ?_) | apply pr_Model_does_117 C | (refine @clM_I _ C _ _ _ (by decide) (by decide) ?_) | (refine @clM_L _ C _ _ _ ?_) | (refine @clM_A _ C _ _ _ _ (by decide) ?_) | intro _
theorem pr_Model_does {I : St → Prop} (C : ClM I) (n : Nat) (x1 : Int32) (σ : St) (h : I σ) : Pr I (f_Model_does n x1 σ) := by
  unfold f_Model_does
  repeat' with_reducible first | assumption | (refine pr_some ?_) | (refine pr_gd ?_) | (refine pr_ite ?_ ?_) | (refine pr_bd ?_ ?_) | (refine pr_bndS ?_ ?_) | (refine pr_bndV ?_) | apply pr_Model_build C | apply pr_Model_turn C | apply pr_Model_does_112 C | apply pr_Model_gets C | apply pr_Model_does_116 C | apply pr_Model_uses C | apply pr_Model_goes C | apply pr_Model_does_117 C | (refine @clM_I _ C _ _ _ (by decide) (by decide) ?_) | (refine @clM_L _ C _ _ _ ?_) | (refine @clM_A _ C _ _ _ _ (by decide) ?_) | intro _
theorem pr_Model_monster {I : St → Prop} (C : ClM I) (n : Nat) (x1 : Int32) (x2 : Int32) (σ : St) (h : I σ) : Pr I (f_Model_monster n x1 x2 σ) := by
  unfold f_Model_monster
  repeat' with_reducible first | assumption | (refine pr_some ?_) | (refine pr_gd ?_) | (refine pr_ite ?_ ?_) | (refine pr_bd ?_ ?_) | (refine pr_bndS ?_ ?_) | (refine pr_bndV ?_) | apply pr_Model_in C | (refine @clM_I _ C _ _ _ (by decide) (by decide) ?_) | (refine @clM_L _ C _ _ _ ?_) | (refine @clM_A _ C _ _ _ _ (by decide) ?_) | intro _
