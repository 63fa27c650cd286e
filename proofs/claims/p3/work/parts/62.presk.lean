/-! PURE: what is never written (own work; printed by wip/gen/pres.py) -/
def Pr {α : Type} (I : St → Prop) (o : Option (α × St)) : Prop := (∀ a σ, o = some (a, σ) → I σ) ∧ True
theorem pr_none {α : Type} {I : St → Prop} : Pr I (none : Option (α × St)) := ⟨fun _ _ z => (by cases z), trivial⟩
theorem pr_some {α : Type} {I : St → Prop} {a : α} {σ : St} (h : I σ) : Pr I (some (a, σ)) := ⟨fun _ _ z => (by cases z; exact h), trivial⟩
theorem pr_gd {α : Type} {I : St → Prop} {b : Bool} {x : Option (α × St)} (h : Pr I x) : Pr I (gd b x) := by
  cases b with
  | true => exact h
  | false => exact pr_none
theorem pr_ite {α : Type} {I : St → Prop} {c : Prop} [Decidable c] {x y : Option (α × St)} (h1 : Pr I x) (h2 : Pr I y) : Pr I (if c then x else y) := by
  by_cases q : c
  · rw [if_pos q]; exact h1
  · rw [if_neg q]; exact h2
theorem pr_bd {α β : Type} {I : St → Prop} {o : Option (β × St)} {f : β → St → Option (α × St)} (h1 : Pr I o) (h2 : ∀ a σ, I σ → Pr I (f a σ)) : Pr I (bd o f) := by
  cases o with
  | none => exact pr_none
  | some q => exact h2 q.1 q.2 (h1.1 q.1 q.2 rfl)
theorem pr_bndS {α : Type} {I : St → Prop} {σ : St} {f : St → Option (α × St)} (h1 : I σ) (h2 : ∀ σ, I σ → Pr I (f σ)) : Pr I (bnd σ f) := h2 σ h1
theorem pr_bndV {α β : Type} {I : St → Prop} {v : β} {f : β → Option (α × St)} (h2 : ∀ v, Pr I (f v)) : Pr I (bnd v f) := h2 v
def ClK (I : St → Prop) : Prop := (∀ (σ : St) (k : Nat) (v : Int32), k ≠ 0 → k ≠ 1 → I σ → I (sI σ k v)) ∧ (∀ (σ : St) (k : Nat) (v : Int64), I σ → I (sL σ k v)) ∧ (∀ (σ : St) (k i : Nat) (v : Int32), k ≠ 0 → I σ → I (sA σ k i v))
def ClM (I : St → Prop) : Prop := (∀ (σ : St) (k : Nat) (v : Int32), k ≠ 0 → k ≠ 13 → I σ → I (sI σ k v)) ∧ (∀ (σ : St) (k : Nat) (v : Int64), I σ → I (sL σ k v)) ∧ (∀ (σ : St) (k i : Nat) (v : Int32), k ≠ 16 → I σ → I (sA σ k i v))
theorem clK_I {I : St → Prop} (C : ClK I) {σ : St} {k : Nat} {v : Int32} (h0 : k ≠ 0) (h1 : k ≠ 1) (h : I σ) : I (sI σ k v) := C.1 σ k v h0 h1 h
theorem clK_L {I : St → Prop} (C : ClK I) {σ : St} {k : Nat} {v : Int64} (h : I σ) : I (sL σ k v) := C.2.1 σ k v h
theorem clK_A {I : St → Prop} (C : ClK I) {σ : St} {k i : Nat} {v : Int32} (h0 : k ≠ 0) (h : I σ) : I (sA σ k i v) := C.2.2 σ k i v h0 h
theorem clM_I {I : St → Prop} (C : ClM I) {σ : St} {k : Nat} {v : Int32} (h0 : k ≠ 0) (h1 : k ≠ 13) (h : I σ) : I (sI σ k v) := C.1 σ k v h0 h1 h
theorem clM_L {I : St → Prop} (C : ClM I) {σ : St} {k : Nat} {v : Int64} (h : I σ) : I (sL σ k v) := C.2.1 σ k v h
theorem clM_A {I : St → Prop} (C : ClM I) {σ : St} {k i : Nat} {v : Int32} (h0 : k ≠ 16) (h : I σ) : I (sA σ k i v) := C.2.2 σ k i v h0 h

theorem pr_Hero_isDead {I : St → Prop} (C : ClK I) (n : Nat) (σ : St) (h : I σ) : Pr I (f_Hero_isDead n σ) := by
  unfold f_Hero_isDead
  repeat' with_reducible first | assumption | (refine pr_some ?_) | (refine pr_gd ?_) | (refine pr_ite ?_ ?_) | (refine pr_bd ?_ ?_) | (refine pr_bndS ?_ ?_) | (refine pr_bndV ?_) | (refine @clK_I _ C _ _ _ (by decide) (by decide) ?_) | (refine @clK_L _ C _ _ _ ?_) | (refine @clK_A _ C _ _ _ _ (by decide) ?_) | intro _
theorem pr_Level_isCell {I : St → Prop} (C : ClK I) (n : Nat) (x0 : Int32) (σ : St) (h : I σ) : Pr I (f_Level_isCell n x0 σ) := by
  unfold f_Level_isCell
  repeat' with_reducible first | assumption | (refine pr_some ?_) | (refine pr_gd ?_) | (refine pr_ite ?_ ?_) | (refine pr_bd ?_ ?_) | (refine pr_bndS ?_ ?_) | (refine pr_bndV ?_) | (refine @clK_I _ C _ _ _ (by decide) (by decide) ?_) | (refine @clK_L _ C _ _ _ ?_) | (refine @clK_A _ C _ _ _ _ (by decide) ?_) | intro _
theorem pr_Level_hasStairs {I : St → Prop} (C : ClK I) (n : Nat) (x1 : Int32) (σ : St) (h : I σ) : Pr I (f_Level_hasStairs n x1 σ) := by
  unfold f_Level_hasStairs
  repeat' with_reducible first | assumption | (refine pr_some ?_) | (refine pr_gd ?_) | (refine pr_ite ?_ ?_) | (refine pr_bd ?_ ?_) | (refine pr_bndS ?_ ?_) | (refine pr_bndV ?_) | apply pr_Level_isCell C | (refine @clK_I _ C _ _ _ (by decide) (by decide) ?_) | (refine @clK_L _ C _ _ _ ?_) | (refine @clK_A _ C _ _ _ _ (by decide) ?_) | intro _
theorem pr_Arrays_fill_ground_5 {I : St → Prop} (C : ClK I) (n : Nat) : ∀ (j : Nat) (y1 : Int32) (y2 : Int32) (y3 : Int32) (σ : St), I σ → Pr I (f_Arrays_fill_ground_5 n j y1 y2 y3 σ) := by
  intro j
  induction j with
  | zero => intro y1 y2 y3 σ _; exact pr_none
  | succ j ih =>
    intro y1 y2 y3 σ h
    rw [f_Arrays_fill_ground_5_s]
    repeat' with_reducible first | assumption | (refine pr_some ?_) | (refine pr_gd ?_) | (refine pr_ite ?_ ?_) | (refine pr_bd ?_ ?_) | (refine pr_bndS ?_ ?_) | (refine pr_bndV ?_) | apply ih | (refine @clK_I _ C _ _ _ (by decide) (by decide) ?_) | (refine @clK_L _ C _ _ _ ?_) | (refine @clK_A _ C _ _ _ _ (by decide) ?_) | intro _
theorem pr_Arrays_fill_ground {I : St → Prop} (C : ClK I) (n : Nat) (x1 : Int32) (σ : St) (h : I σ) : Pr I (f_Arrays_fill_ground n x1 σ) := by
  unfold f_Arrays_fill_ground
  repeat' with_reducible first | assumption | (refine pr_some ?_) | (refine pr_gd ?_) | (refine pr_ite ?_ ?_) | (refine pr_bd ?_ ?_) | (refine pr_bndS ?_ ?_) | (refine pr_bndV ?_) | apply pr_Arrays_fill_ground_5 C | (refine @clK_I _ C _ _ _ (by decide) (by decide) ?_) | (refine @clK_L _ C _ _ _ ?_) | (refine @clK_A _ C _ _ _ _ (by decide) ?_) | intro _
theorem pr_Arrays_fill_things_5 {I : St → Prop} (C : ClK I) (n : Nat) : ∀ (j : Nat) (y1 : Int32) (y2 : Int32) (y3 : Int32) (σ : St), I σ → Pr I (f_Arrays_fill_things_5 n j y1 y2 y3 σ) := by
  intro j
  induction j with
  | zero => intro y1 y2 y3 σ _; exact pr_none
  | succ j ih =>
    intro y1 y2 y3 σ h
    rw [f_Arrays_fill_things_5_s]
    repeat' with_reducible first | assumption | (refine pr_some ?_) | (refine pr_gd ?_) | (refine pr_ite ?_ ?_) | (refine pr_bd ?_ ?_) | (refine pr_bndS ?_ ?_) | (refine pr_bndV ?_) | apply ih | (refine @clK_I _ C _ _ _ (by decide) (by decide) ?_) | (refine @clK_L _ C _ _ _ ?_) | (refine @clK_A _ C _ _ _ _ (by decide) ?_) | intro _
theorem pr_Arrays_fill_things {I : St → Prop} (C : ClK I) (n : Nat) (x1 : Int32) (σ : St) (h : I σ) : Pr I (f_Arrays_fill_things n x1 σ) := by
  unfold f_Arrays_fill_things
  repeat' with_reducible first | assumption | (refine pr_some ?_) | (refine pr_gd ?_) | (refine pr_ite ?_ ?_) | (refine pr_bd ?_ ?_) | (refine pr_bndS ?_ ?_) | (refine pr_bndV ?_) | apply pr_Arrays_fill_things_5 C | (refine @clK_I _ C _ _ _ (by decide) (by decide) ?_) | (refine @clK_L _ C _ _ _ ?_) | (refine @clK_A _ C _ _ _ _ (by decide) ?_) | intro _
theorem pr_Arrays_fill_known_5 {I : St → Prop} (C : ClK I) (n : Nat) : ∀ (j : Nat) (y1 : Int32) (y2 : Int32) (y3 : Int32) (σ : St), I σ → Pr I (f_Arrays_fill_known_5 n j y1 y2 y3 σ) := by
  intro j
  induction j with
  | zero => intro y1 y2 y3 σ _; exact pr_none
  | succ j ih =>
    intro y1 y2 y3 σ h
    rw [f_Arrays_fill_known_5_s]
    repeat' with_reducible first | assumption | (refine pr_some ?_) | (refine pr_gd ?_) | (refine pr_ite ?_ ?_) | (refine pr_bd ?_ ?_) | (refine pr_bndS ?_ ?_) | (refine pr_bndV ?_) | apply ih | (refine @clK_I _ C _ _ _ (by decide) (by decide) ?_) | (refine @clK_L _ C _ _ _ ?_) | (refine @clK_A _ C _ _ _ _ (by decide) ?_) | intro _
theorem pr_Arrays_fill_known {I : St → Prop} (C : ClK I) (n : Nat) (x1 : Int32) (σ : St) (h : I σ) : Pr I (f_Arrays_fill_known n x1 σ) := by
  unfold f_Arrays_fill_known
  repeat' with_reducible first | assumption | (refine pr_some ?_) | (refine pr_gd ?_) | (refine pr_ite ?_ ?_) | (refine pr_bd ?_ ?_) | (refine pr_bndS ?_ ?_) | (refine pr_bndV ?_) | apply pr_Arrays_fill_known_5 C | (refine @clK_I _ C _ _ _ (by decide) (by decide) ?_) | (refine @clK_L _ C _ _ _ ?_) | (refine @clK_A _ C _ _ _ _ (by decide) ?_) | intro _
theorem pr_Level_clear {I : St → Prop} (C : ClK I) (n : Nat) (σ : St) (h : I σ) : Pr I (f_Level_clear n σ) := by
  unfold f_Level_clear
  repeat' with_reducible first | assumption | (refine pr_some ?_) | (refine pr_gd ?_) | (refine pr_ite ?_ ?_) | (refine pr_bd ?_ ?_) | (refine pr_bndS ?_ ?_) | (refine pr_bndV ?_) | apply pr_Arrays_fill_ground C | apply pr_Arrays_fill_things C | apply pr_Arrays_fill_known C | (refine @clK_I _ C _ _ _ (by decide) (by decide) ?_) | (refine @clK_L _ C _ _ _ ?_) | (refine @clK_A _ C _ _ _ _ (by decide) ?_) | intro _
theorem pr_Monsters_clear {I : St → Prop} (C : ClK I) (n : Nat) (σ : St) (h : I σ) : Pr I (f_Monsters_clear n σ) := by
  unfold f_Monsters_clear
  repeat' with_reducible first | assumption | (refine pr_some ?_) | (refine pr_gd ?_) | (refine pr_ite ?_ ?_) | (refine pr_bd ?_ ?_) | (refine pr_bndS ?_ ?_) | (refine pr_bndV ?_) | (refine @clK_I _ C _ _ _ (by decide) (by decide) ?_) | (refine @clK_L _ C _ _ _ ?_) | (refine @clK_A _ C _ _ _ _ (by decide) ?_) | intro _
theorem pr_Maker_centreColumn {I : St → Prop} (C : ClK I) (n : Nat) (x1 : Int32) (σ : St) (h : I σ) : Pr I (f_Maker_centreColumn n x1 σ) := by
  unfold f_Maker_centreColumn
  repeat' with_reducible first | assumption | (refine pr_some ?_) | (refine pr_gd ?_) | (refine pr_ite ?_ ?_) | (refine pr_bd ?_ ?_) | (refine pr_bndS ?_ ?_) | (refine pr_bndV ?_) | (refine @clK_I _ C _ _ _ (by decide) (by decide) ?_) | (refine @clK_L _ C _ _ _ ?_) | (refine @clK_A _ C _ _ _ _ (by decide) ?_) | intro _
theorem pr_Maker_centreRow {I : St → Prop} (C : ClK I) (n : Nat) (x1 : Int32) (σ : St) (h : I σ) : Pr I (f_Maker_centreRow n x1 σ) := by
  unfold f_Maker_centreRow
  repeat' with_reducible first | assumption | (refine pr_some ?_) | (refine pr_gd ?_) | (refine pr_ite ?_ ?_) | (refine pr_bd ?_ ?_) | (refine pr_bndS ?_ ?_) | (refine pr_bndV ?_) | (refine @clK_I _ C _ _ _ (by decide) (by decide) ?_) | (refine @clK_L _ C _ _ _ ?_) | (refine @clK_A _ C _ _ _ _ (by decide) ?_) | intro _
theorem pr_Draws_draw_making {I : St → Prop} (C : ClK I) (n : Nat) (x1 : Int32) (σ : St) (h : I σ) : Pr I (f_Draws_draw_making n x1 σ) := by
  unfold f_Draws_draw_making
  repeat' with_reducible first | assumption | (refine pr_some ?_) | (refine pr_gd ?_) | (refine pr_ite ?_ ?_) | (refine pr_bd ?_ ?_) | (refine pr_bndS ?_ ?_) | (refine pr_bndV ?_) | (refine @clK_I _ C _ _ _ (by decide) (by decide) ?_) | (refine @clK_L _ C _ _ _ ?_) | (refine @clK_A _ C _ _ _ _ (by decide) ?_) | intro _
theorem pr_Level_setGround {I : St → Prop} (C : ClK I) (n : Nat) (x1 : Int32) (x2 : Int32) (σ : St) (h : I σ) : Pr I (f_Level_setGround n x1 x2 σ) := by
  unfold f_Level_setGround
  repeat' with_reducible first | assumption | (refine pr_some ?_) | (refine pr_gd ?_) | (refine pr_ite ?_ ?_) | (refine pr_bd ?_ ?_) | (refine pr_bndS ?_ ?_) | (refine pr_bndV ?_) | (refine @clK_I _ C _ _ _ (by decide) (by decide) ?_) | (refine @clK_L _ C _ _ _ ?_) | (refine @clK_A _ C _ _ _ _ (by decide) ?_) | intro _
theorem pr_Maker_digRow_7 {I : St → Prop} (C : ClK I) (n : Nat) : ∀ (j : Nat) (y1 : Int32) (y2 : Int32) (y3 : Int32) (y5 : Int32) (σ : St), I σ → Pr I (f_Maker_digRow_7 n j y1 y2 y3 y5 σ) := by
  intro j
  induction j with
  | zero => intro y1 y2 y3 y5 σ _; exact pr_none
  | succ j ih =>
    intro y1 y2 y3 y5 σ h
    rw [f_Maker_digRow_7_s]
    repeat' with_reducible first | assumption | (refine pr_some ?_) | (refine pr_gd ?_) | (refine pr_ite ?_ ?_) | (refine pr_bd ?_ ?_) | (refine pr_bndS ?_ ?_) | (refine pr_bndV ?_) | apply pr_Level_setGround C | apply ih | (refine @clK_I _ C _ _ _ (by decide) (by decide) ?_) | (refine @clK_L _ C _ _ _ ?_) | (refine @clK_A _ C _ _ _ _ (by decide) ?_) | intro _
theorem pr_Maker_digRow {I : St → Prop} (C : ClK I) (n : Nat) (x1 : Int32) (x2 : Int32) (x3 : Int32) (σ : St) (h : I σ) : Pr I (f_Maker_digRow n x1 x2 x3 σ) := by
  unfold f_Maker_digRow
  repeat' with_reducible first | assumption | (refine pr_some ?_) | (refine pr_gd ?_) | (refine pr_ite ?_ ?_) | (refine pr_bd ?_ ?_) | (refine pr_bndS ?_ ?_) | (refine pr_bndV ?_) | apply pr_Maker_digRow_7 C | (refine @clK_I _ C _ _ _ (by decide) (by decide) ?_) | (refine @clK_L _ C _ _ _ ?_) | (refine @clK_A _ C _ _ _ _ (by decide) ?_) | intro _
theorem pr_Maker_digColumn_7 {I : St → Prop} (C : ClK I) (n : Nat) : ∀ (j : Nat) (y1 : Int32) (y2 : Int32) (y3 : Int32) (y5 : Int32) (σ : St), I σ → Pr I (f_Maker_digColumn_7 n j y1 y2 y3 y5 σ) := by
  intro j
  induction j with
  | zero => intro y1 y2 y3 y5 σ _; exact pr_none
  | succ j ih =>
    intro y1 y2 y3 y5 σ h
    rw [f_Maker_digColumn_7_s]
    repeat' with_reducible first | assumption | (refine pr_some ?_) | (refine pr_gd ?_) | (refine pr_ite ?_ ?_) | (refine pr_bd ?_ ?_) | (refine pr_bndS ?_ ?_) | (refine pr_bndV ?_) | apply pr_Level_setGround C | apply ih | (refine @clK_I _ C _ _ _ (by decide) (by decide) ?_) | (refine @clK_L _ C _ _ _ ?_) | (refine @clK_A _ C _ _ _ _ (by decide) ?_) | intro _
theorem pr_Maker_digColumn {I : St → Prop} (C : ClK I) (n : Nat) (x1 : Int32) (x2 : Int32) (x3 : Int32) (σ : St) (h : I σ) : Pr I (f_Maker_digColumn n x1 x2 x3 σ) := by
  unfold f_Maker_digColumn
  repeat' with_reducible first | assumption | (refine pr_some ?_) | (refine pr_gd ?_) | (refine pr_ite ?_ ?_) | (refine pr_bd ?_ ?_) | (refine pr_bndS ?_ ?_) | (refine pr_bndV ?_) | apply pr_Maker_digColumn_7 C | (refine @clK_I _ C _ _ _ (by decide) (by decide) ?_) | (refine @clK_L _ C _ _ _ ?_) | (refine @clK_A _ C _ _ _ _ (by decide) ?_) | intro _
theorem pr_Maker_digWay_80 {I : St → Prop} (C : ClK I) (n : Nat) (y5 : Int32) (y7 : Int32) (s0 : Int32) (σ : St) (h : I σ) : Pr I (f_Maker_digWay_80 n y5 y7 s0 σ) := by
  unfold f_Maker_digWay_80
  repeat' with_reducible first | assumption | (refine pr_some ?_) | (refine pr_gd ?_) | (refine pr_ite ?_ ?_) | (refine pr_bd ?_ ?_) | (refine pr_bndS ?_ ?_) | (refine pr_bndV ?_) | apply pr_Maker_digColumn C | (refine @clK_I _ C _ _ _ (by decide) (by decide) ?_) | (refine @clK_L _ C _ _ _ ?_) | (refine @clK_A _ C _ _ _ _ (by decide) ?_) | intro _
theorem pr_Maker_digWay_59 {I : St → Prop} (C : ClK I) (n : Nat) (y4 : Int32) (y5 : Int32) (y6 : Int32) (y7 : Int32) (y8 : Int32) (s0 : Int32) (σ : St) (h : I σ) : Pr I (f_Maker_digWay_59 n y4 y5 y6 y7 y8 s0 σ) := by
  unfold f_Maker_digWay_59
  repeat' with_reducible first | assumption | (refine pr_some ?_) | (refine pr_gd ?_) | (refine pr_ite ?_ ?_) | (refine pr_bd ?_ ?_) | (refine pr_bndS ?_ ?_) | (refine pr_bndV ?_) | apply pr_Maker_digRow C | apply pr_Maker_digWay_80 C | (refine @clK_I _ C _ _ _ (by decide) (by decide) ?_) | (refine @clK_L _ C _ _ _ ?_) | (refine @clK_A _ C _ _ _ _ (by decide) ?_) | intro _
theorem pr_Maker_digWay_44 {I : St → Prop} (C : ClK I) (n : Nat) (y4 : Int32) (y5 : Int32) (y6 : Int32) (y7 : Int32) (s0 : Int32) (σ : St) (h : I σ) : Pr I (f_Maker_digWay_44 n y4 y5 y6 y7 s0 σ) := by
  unfold f_Maker_digWay_44
  repeat' with_reducible first | assumption | (refine pr_some ?_) | (refine pr_gd ?_) | (refine pr_ite ?_ ?_) | (refine pr_bd ?_ ?_) | (refine pr_bndS ?_ ?_) | (refine pr_bndV ?_) | apply pr_Maker_digWay_59 C | (refine @clK_I _ C _ _ _ (by decide) (by decide) ?_) | (refine @clK_L _ C _ _ _ ?_) | (refine @clK_A _ C _ _ _ _ (by decide) ?_) | intro _
theorem pr_Maker_digWay {I : St → Prop} (C : ClK I) (n : Nat) (x1 : Int32) (x2 : Int32) (σ : St) (h : I σ) : Pr I (f_Maker_digWay n x1 x2 σ) := by
  unfold f_Maker_digWay
  repeat' with_reducible first | assumption | (refine pr_some ?_) | (refine pr_gd ?_) | (refine pr_ite ?_ ?_) | (refine pr_bd ?_ ?_) | (refine pr_bndS ?_ ?_) | (refine pr_bndV ?_) | apply pr_Maker_centreColumn C | apply pr_Maker_centreRow C | apply pr_Draws_draw_making C | apply pr_Maker_digWay_44 C | (refine @clK_I _ C _ _ _ (by decide) (by decide) ?_) | (refine @clK_L _ C _ _ _ ?_) | (refine @clK_A _ C _ _ _ _ (by decide) ?_) | intro _
theorem pr_Maker_drawPlace {I : St → Prop} (C : ClK I) (n : Nat) (x1 : Int32) (σ : St) (h : I σ) : Pr I (f_Maker_drawPlace n x1 σ) := by
  unfold f_Maker_drawPlace
  repeat' with_reducible first | assumption | (refine pr_some ?_) | (refine pr_gd ?_) | (refine pr_ite ?_ ?_) | (refine pr_bd ?_ ?_) | (refine pr_bndS ?_ ?_) | (refine pr_bndV ?_) | apply pr_Draws_draw_making C | (refine @clK_I _ C _ _ _ (by decide) (by decide) ?_) | (refine @clK_L _ C _ _ _ ?_) | (refine @clK_A _ C _ _ _ _ (by decide) ?_) | intro _
theorem pr_Maker_digRoom_98 {I : St → Prop} (C : ClK I) (n : Nat) : ∀ (j : Nat) (y1 : Int32) (y3 : Int32) (σ : St), I σ → Pr I (f_Maker_digRoom_98 n j y1 y3 σ) := by
  intro j
  induction j with
  | zero => intro y1 y3 σ _; exact pr_none
  | succ j ih =>
    intro y1 y3 σ h
    rw [f_Maker_digRoom_98_s]
    repeat' with_reducible first | assumption | (refine pr_some ?_) | (refine pr_gd ?_) | (refine pr_ite ?_ ?_) | (refine pr_bd ?_ ?_) | (refine pr_bndS ?_ ?_) | (refine pr_bndV ?_) | apply pr_Maker_digRow C | apply ih | (refine @clK_I _ C _ _ _ (by decide) (by decide) ?_) | (refine @clK_L _ C _ _ _ ?_) | (refine @clK_A _ C _ _ _ _ (by decide) ?_) | intro _
theorem pr_Maker_digRoom {I : St → Prop} (C : ClK I) (n : Nat) (x1 : Int32) (σ : St) (h : I σ) : Pr I (f_Maker_digRoom n x1 σ) := by
  unfold f_Maker_digRoom
  repeat' with_reducible first | assumption | (refine pr_some ?_) | (refine pr_gd ?_) | (refine pr_ite ?_ ?_) | (refine pr_bd ?_ ?_) | (refine pr_bndS ?_ ?_) | (refine pr_bndV ?_) | apply pr_Draws_draw_making C | apply pr_Maker_digRoom_98 C | (refine @clK_I _ C _ _ _ (by decide) (by decide) ?_) | (refine @clK_L _ C _ _ _ ?_) | (refine @clK_A _ C _ _ _ _ (by decide) ?_) | intro _
theorem pr_Monsters_at_2 {I : St → Prop} (C : ClK I) (n : Nat) : ∀ (j : Nat) (y1 : Int32) (y2 : Int32) (σ : St), I σ → Pr I (f_Monsters_at_2 n j y1 y2 σ) := by
  intro j
  induction j with
  | zero => intro y1 y2 σ _; exact pr_none
  | succ j ih =>
    intro y1 y2 σ h
    rw [f_Monsters_at_2_s]
    repeat' with_reducible first | assumption | (refine pr_some ?_) | (refine pr_gd ?_) | (refine pr_ite ?_ ?_) | (refine pr_bd ?_ ?_) | (refine pr_bndS ?_ ?_) | (refine pr_bndV ?_) | apply ih | (refine @clK_I _ C _ _ _ (by decide) (by decide) ?_) | (refine @clK_L _ C _ _ _ ?_) | (refine @clK_A _ C _ _ _ _ (by decide) ?_) | intro _
theorem pr_Monsters_at {I : St → Prop} (C : ClK I) (n : Nat) (x1 : Int32) (σ : St) (h : I σ) : Pr I (f_Monsters_at n x1 σ) := by
  unfold f_Monsters_at
  repeat' with_reducible first | assumption | (refine pr_some ?_) | (refine pr_gd ?_) | (refine pr_ite ?_ ?_) | (refine pr_bd ?_ ?_) | (refine pr_bndS ?_ ?_) | (refine pr_bndV ?_) | apply pr_Monsters_at_2 C | (refine @clK_I _ C _ _ _ (by decide) (by decide) ?_) | (refine @clK_L _ C _ _ _ ?_) | (refine @clK_A _ C _ _ _ _ (by decide) ?_) | intro _
theorem pr_Monsters_add {I : St → Prop} (C : ClK I) (n : Nat) (x1 : Int32) (x2 : Int32) (σ : St) (h : I σ) : Pr I (f_Monsters_add n x1 x2 σ) := by
  unfold f_Monsters_add
  repeat' with_reducible first | assumption | (refine pr_some ?_) | (refine pr_gd ?_) | (refine pr_ite ?_ ?_) | (refine pr_bd ?_ ?_) | (refine pr_bndS ?_ ?_) | (refine pr_bndV ?_) | apply pr_Monsters_at C | (refine @clK_I _ C _ _ _ (by decide) (by decide) ?_) | (refine @clK_L _ C _ _ _ ?_) | (refine @clK_A _ C _ _ _ _ (by decide) ?_) | intro _
theorem pr_Level_layThing {I : St → Prop} (C : ClK I) (n : Nat) (x1 : Int32) (x2 : Int32) (σ : St) (h : I σ) : Pr I (f_Level_layThing n x1 x2 σ) := by
  unfold f_Level_layThing
  repeat' with_reducible first | assumption | (refine pr_some ?_) | (refine pr_gd ?_) | (refine pr_ite ?_ ?_) | (refine pr_bd ?_ ?_) | (refine pr_bndS ?_ ?_) | (refine pr_bndV ?_) | apply pr_Level_isCell C | (refine @clK_I _ C _ _ _ (by decide) (by decide) ?_) | (refine @clK_L _ C _ _ _ ?_) | (refine @clK_A _ C _ _ _ _ (by decide) ?_) | intro _
theorem pr_Maker_make_149 {I : St → Prop} (C : ClK I) (n : Nat) : ∀ (j : Nat) (y5 : Int32) (σ : St), I σ → Pr I (f_Maker_make_149 n j y5 σ) := by
  intro j
  induction j with
  | zero => intro y5 σ _; exact pr_none
  | succ j ih =>
    intro y5 σ h
    rw [f_Maker_make_149_s]
    repeat' with_reducible first | assumption | (refine pr_some ?_) | (refine pr_gd ?_) | (refine pr_ite ?_ ?_) | (refine pr_bd ?_ ?_) | (refine pr_bndS ?_ ?_) | (refine pr_bndV ?_) | apply pr_Draws_draw_making C | apply pr_Maker_drawPlace C | apply pr_Level_layThing C | apply ih | (refine @clK_I _ C _ _ _ (by decide) (by decide) ?_) | (refine @clK_L _ C _ _ _ ?_) | (refine @clK_A _ C _ _ _ _ (by decide) ?_) | intro _
theorem pr_Maker_make_101 {I : St → Prop} (C : ClK I) (n : Nat) : ∀ (j : Nat) (y2 : Int32) (y5 : Int32) (σ : St), I σ → Pr I (f_Maker_make_101 n j y2 y5 σ) := by
  intro j
  induction j with
  | zero => intro y2 y5 σ _; exact pr_none
  | succ j ih =>
    intro y2 y5 σ h
    rw [f_Maker_make_101_s]
    repeat' with_reducible first | assumption | (refine pr_some ?_) | (refine pr_gd ?_) | (refine pr_ite ?_ ?_) | (refine pr_bd ?_ ?_) | (refine pr_bndS ?_ ?_) | (refine pr_bndV ?_) | apply pr_Maker_make_149 C | apply pr_Draws_draw_making C | apply pr_Maker_drawPlace C | apply pr_Monsters_add C | apply ih | (refine @clK_I _ C _ _ _ (by decide) (by decide) ?_) | (refine @clK_L _ C _ _ _ ?_) | (refine @clK_A _ C _ _ _ _ (by decide) ?_) | intro _
theorem pr_Maker_make_30 {I : St → Prop} (C : ClK I) (n : Nat) : ∀ (j : Nat) (y2 : Int32) (y5 : Int32) (σ : St), I σ → Pr I (f_Maker_make_30 n j y2 y5 σ) := by
  intro j
  induction j with
  | zero => intro y2 y5 σ _; exact pr_none
  | succ j ih =>
    intro y2 y5 σ h
    rw [f_Maker_make_30_s]
    repeat' with_reducible first | assumption | (refine pr_some ?_) | (refine pr_gd ?_) | (refine pr_ite ?_ ?_) | (refine pr_bd ?_ ?_) | (refine pr_bndS ?_ ?_) | (refine pr_bndV ?_) | apply pr_Maker_digWay C | apply pr_Maker_drawPlace C | apply pr_Level_setGround C | apply pr_Maker_centreRow C | apply pr_Maker_centreColumn C | apply pr_Maker_make_101 C | apply pr_Maker_digRoom C | apply ih | (refine @clK_I _ C _ _ _ (by decide) (by decide) ?_) | (refine @clK_L _ C _ _ _ ?_) | (refine @clK_A _ C _ _ _ _ (by decide) ?_) | intro _
theorem pr_Maker_make {I : St → Prop} (C : ClK I) (n : Nat) (x1 : Int32) (x2 : Int32) (σ : St) (h : I σ) : Pr I (f_Maker_make n x1 x2 σ) := by
  unfold f_Maker_make
  repeat' with_reducible first | assumption | (refine pr_some ?_) | (refine pr_gd ?_) | (refine pr_ite ?_ ?_) | (refine pr_bd ?_ ?_) | (refine pr_bndS ?_ ?_) | (refine pr_bndV ?_) | apply pr_Level_clear C | apply pr_Monsters_clear C | apply pr_Maker_make_30 C | (refine @clK_I _ C _ _ _ (by decide) (by decide) ?_) | (refine @clK_L _ C _ _ _ ?_) | (refine @clK_A _ C _ _ _ _ (by decide) ?_) | intro _
theorem pr_Math_floorDiv {I : St → Prop} (C : ClK I) (n : Nat) (x0 : Int32) (x1 : Int32) (σ : St) (h : I σ) : Pr I (f_Math_floorDiv n x0 x1 σ) := by
  unfold f_Math_floorDiv
  repeat' with_reducible first | assumption | (refine pr_some ?_) | (refine pr_gd ?_) | (refine pr_ite ?_ ?_) | (refine pr_bd ?_ ?_) | (refine pr_bndS ?_ ?_) | (refine pr_bndV ?_) | (refine @clK_I _ C _ _ _ (by decide) (by decide) ?_) | (refine @clK_L _ C _ _ _ ?_) | (refine @clK_A _ C _ _ _ _ (by decide) ?_) | intro _
theorem pr_Level_isFloor {I : St → Prop} (C : ClK I) (n : Nat) (x1 : Int32) (σ : St) (h : I σ) : Pr I (f_Level_isFloor n x1 σ) := by
  unfold f_Level_isFloor
  repeat' with_reducible first | assumption | (refine pr_some ?_) | (refine pr_gd ?_) | (refine pr_ite ?_ ?_) | (refine pr_bd ?_ ?_) | (refine pr_bndS ?_ ?_) | (refine pr_bndV ?_) | (refine @clK_I _ C _ _ _ (by decide) (by decide) ?_) | (refine @clK_L _ C _ _ _ ?_) | (refine @clK_A _ C _ _ _ _ (by decide) ?_) | intro _
theorem pr_Level_inSight_54 {I : St → Prop} (C : ClK I) (n : Nat) : ∀ (j : Nat) (y3 : Int32) (y4 : Int32) (y5 : Int32) (y6 : Int32) (y7 : Int32) (y8 : Int32) (σ : St), I σ → Pr I (f_Level_inSight_54 n j y3 y4 y5 y6 y7 y8 σ) := by
  intro j
  induction j with
  | zero => intro y3 y4 y5 y6 y7 y8 σ _; exact pr_none
  | succ j ih =>
    intro y3 y4 y5 y6 y7 y8 σ h
    rw [f_Level_inSight_54_s]
    repeat' with_reducible first | assumption | (refine pr_some ?_) | (refine pr_gd ?_) | (refine pr_ite ?_ ?_) | (refine pr_bd ?_ ?_) | (refine pr_bndS ?_ ?_) | (refine pr_bndV ?_) | apply pr_Math_floorDiv C | apply pr_Level_isFloor C | apply ih | (refine @clK_I _ C _ _ _ (by decide) (by decide) ?_) | (refine @clK_L _ C _ _ _ ?_) | (refine @clK_A _ C _ _ _ _ (by decide) ?_) | intro _
theorem pr_Level_inSight {I : St → Prop} (C : ClK I) (n : Nat) (x1 : Int32) (x2 : Int32) (σ : St) (h : I σ) : Pr I (f_Level_inSight n x1 x2 σ) := by
  unfold f_Level_inSight
  repeat' with_reducible first | assumption | (refine pr_some ?_) | (refine pr_gd ?_) | (refine pr_ite ?_ ?_) | (refine pr_bd ?_ ?_) | (refine pr_bndS ?_ ?_) | (refine pr_bndV ?_) | apply pr_Level_inSight_54 C | (refine @clK_I _ C _ _ _ (by decide) (by decide) ?_) | (refine @clK_L _ C _ _ _ ?_) | (refine @clK_A _ C _ _ _ _ (by decide) ?_) | intro _
theorem pr_Level_learnFrom_2 {I : St → Prop} (C : ClK I) (n : Nat) : ∀ (j : Nat) (y1 : Int32) (y2 : Int32) (σ : St), I σ → Pr I (f_Level_learnFrom_2 n j y1 y2 σ) := by
  intro j
  induction j with
  | zero => intro y1 y2 σ _; exact pr_none
  | succ j ih =>
    intro y1 y2 σ h
    rw [f_Level_learnFrom_2_s]
    repeat' with_reducible first | assumption | (refine pr_some ?_) | (refine pr_gd ?_) | (refine pr_ite ?_ ?_) | (refine pr_bd ?_ ?_) | (refine pr_bndS ?_ ?_) | (refine pr_bndV ?_) | apply pr_Level_inSight C | apply ih | (refine @clK_I _ C _ _ _ (by decide) (by decide) ?_) | (refine @clK_L _ C _ _ _ ?_) | (refine @clK_A _ C _ _ _ _ (by decide) ?_) | intro _
theorem pr_Level_learnFrom {I : St → Prop} (C : ClK I) (n : Nat) (x1 : Int32) (σ : St) (h : I σ) : Pr I (f_Level_learnFrom n x1 σ) := by
  unfold f_Level_learnFrom
  repeat' with_reducible first | assumption | (refine pr_some ?_) | (refine pr_gd ?_) | (refine pr_ite ?_ ?_) | (refine pr_bd ?_ ?_) | (refine pr_bndS ?_ ?_) | (refine pr_bndV ?_) | apply pr_Level_learnFrom_2 C | (refine @clK_I _ C _ _ _ (by decide) (by decide) ?_) | (refine @clK_L _ C _ _ _ ?_) | (refine @clK_A _ C _ _ _ _ (by decide) ?_) | intro _
theorem pr_Arrays_fill_steps_5 {I : St → Prop} (C : ClK I) (n : Nat) : ∀ (j : Nat) (y1 : Int32) (y2 : Int32) (y3 : Int32) (σ : St), I σ → Pr I (f_Arrays_fill_steps_5 n j y1 y2 y3 σ) := by
  intro j
  induction j with
  | zero => intro y1 y2 y3 σ _; exact pr_none
  | succ j ih =>
    intro y1 y2 y3 σ h
    rw [f_Arrays_fill_steps_5_s]
    repeat' with_reducible first | assumption | (refine pr_some ?_) | (refine pr_gd ?_) | (refine pr_ite ?_ ?_) | (refine pr_bd ?_ ?_) | (refine pr_bndS ?_ ?_) | (refine pr_bndV ?_) | apply ih | (refine @clK_I _ C _ _ _ (by decide) (by decide) ?_) | (refine @clK_L _ C _ _ _ ?_) | (refine @clK_A _ C _ _ _ _ (by decide) ?_) | intro _
theorem pr_Arrays_fill_steps {I : St → Prop} (C : ClK I) (n : Nat) (x1 : Int32) (σ : St) (h : I σ) : Pr I (f_Arrays_fill_steps n x1 σ) := by
  unfold f_Arrays_fill_steps
  repeat' with_reducible first | assumption | (refine pr_some ?_) | (refine pr_gd ?_) | (refine pr_ite ?_ ?_) | (refine pr_bd ?_ ?_) | (refine pr_bndS ?_ ?_) | (refine pr_bndV ?_) | apply pr_Arrays_fill_steps_5 C | (refine @clK_I _ C _ _ _ (by decide) (by decide) ?_) | (refine @clK_L _ C _ _ _ ?_) | (refine @clK_A _ C _ _ _ _ (by decide) ?_) | intro _
theorem pr_Level_neighbour {I : St → Prop} (C : ClK I) (n : Nat) (x0 : Int32) (x1 : Int32) (σ : St) (h : I σ) : Pr I (f_Level_neighbour n x0 x1 σ) := by
  unfold f_Level_neighbour
  repeat' with_reducible first | assumption | (refine pr_some ?_) | (refine pr_gd ?_) | (refine pr_ite ?_ ?_) | (refine pr_bd ?_ ?_) | (refine pr_bndS ?_ ?_) | (refine pr_bndV ?_) | (refine @clK_I _ C _ _ _ (by decide) (by decide) ?_) | (refine @clK_L _ C _ _ _ ?_) | (refine @clK_A _ C _ _ _ _ (by decide) ?_) | intro _
theorem pr_Distances_measure_78 {I : St → Prop} (C : ClK I) (n : Nat) (k42 : Int32 → Int32 → St → Option (Unit × St)) (hk42 : ∀ (z0 : Int32) (z1 : Int32) (σ : St), I σ → Pr I (k42 z0 z1 σ)) : ∀ (j : Nat) (y3 : Int32) (y4 : Int32) (y5 : Int32) (y6 : Int32) (σ : St), I σ → Pr I (f_Distances_measure_78 n k42 j y3 y4 y5 y6 σ) := by
  intro j
  induction j with
  | zero => intro y3 y4 y5 y6 σ _; exact pr_none
  | succ j ih =>
    intro y3 y4 y5 y6 σ h
    rw [f_Distances_measure_78_s]
    repeat' with_reducible first | assumption | (refine pr_some ?_) | (refine pr_gd ?_) | (refine pr_ite ?_ ?_) | (refine pr_bd ?_ ?_) | (refine pr_bndS ?_ ?_) | (refine pr_bndV ?_) | apply pr_Level_neighbour C | apply pr_Level_isFloor C | apply hk42 | apply ih | (refine @clK_I _ C _ _ _ (by decide) (by decide) ?_) | (refine @clK_L _ C _ _ _ ?_) | (refine @clK_A _ C _ _ _ _ (by decide) ?_) | intro _
theorem pr_Distances_measure_42 {I : St → Prop} (C : ClK I) (n : Nat) : ∀ (j : Nat) (y3 : Int32) (y4 : Int32) (σ : St), I σ → Pr I (f_Distances_measure_42 n j y3 y4 σ) := by
  intro j
  induction j with
  | zero => intro y3 y4 σ _; exact pr_none
  | succ j ih =>
    intro y3 y4 σ h
    rw [f_Distances_measure_42_s]
    repeat' with_reducible first | assumption | (refine pr_some ?_) | (refine pr_gd ?_) | (refine pr_ite ?_ ?_) | (refine pr_bd ?_ ?_) | (refine pr_bndS ?_ ?_) | (refine pr_bndV ?_) | apply pr_Distances_measure_78 C | apply ih | (refine @clK_I _ C _ _ _ (by decide) (by decide) ?_) | (refine @clK_L _ C _ _ _ ?_) | (refine @clK_A _ C _ _ _ _ (by decide) ?_) | intro _
theorem pr_Distances_measure {I : St → Prop} (C : ClK I) (n : Nat) (x1 : Int32) (σ : St) (h : I σ) : Pr I (f_Distances_measure n x1 σ) := by
  unfold f_Distances_measure
  repeat' with_reducible first | assumption | (refine pr_some ?_) | (refine pr_gd ?_) | (refine pr_ite ?_ ?_) | (refine pr_bd ?_ ?_) | (refine pr_bndS ?_ ?_) | (refine pr_bndV ?_) | apply pr_Arrays_fill_steps C | apply pr_Level_isFloor C | apply pr_Distances_measure_42 C | (refine @clK_I _ C _ _ _ (by decide) (by decide) ?_) | (refine @clK_L _ C _ _ _ ?_) | (refine @clK_A _ C _ _ _ _ (by decide) ?_) | intro _
theorem pr_Game_arrive {I : St → Prop} (C : ClK I) (n : Nat) (x1 : Int32) (σ : St) (h : I σ) : Pr I (f_Game_arrive n x1 σ) := by
  unfold f_Game_arrive
  repeat' with_reducible first | assumption | (refine pr_some ?_) | (refine pr_gd ?_) | (refine pr_ite ?_ ?_) | (refine pr_bd ?_ ?_) | (refine pr_bndS ?_ ?_) | (refine pr_bndV ?_) | apply pr_Level_learnFrom C | apply pr_Distances_measure C | (refine @clK_I _ C _ _ _ (by decide) (by decide) ?_) | (refine @clK_L _ C _ _ _ ?_) | (refine @clK_A _ C _ _ _ _ (by decide) ?_) | intro _
theorem pr_Game_descend {I : St → Prop} (C : ClK I) (n : Nat) (σ : St) (h : I σ) : Pr I (f_Game_descend n σ) := by
  unfold f_Game_descend
  repeat' with_reducible first | assumption | (refine pr_some ?_) | (refine pr_gd ?_) | (refine pr_ite ?_ ?_) | (refine pr_bd ?_ ?_) | (refine pr_bndS ?_ ?_) | (refine pr_bndV ?_) | apply pr_Level_hasStairs C | apply pr_Maker_make C | apply pr_Game_arrive C | (refine @clK_I _ C _ _ _ (by decide) (by decide) ?_) | (refine @clK_L _ C _ _ _ ?_) | (refine @clK_A _ C _ _ _ _ (by decide) ?_) | intro _
theorem pr_Hero_thingInBag {I : St → Prop} (C : ClK I) (n : Nat) (x1 : Int32) (σ : St) (h : I σ) : Pr I (f_Hero_thingInBag n x1 σ) := by
  unfold f_Hero_thingInBag
  repeat' with_reducible first | assumption | (refine pr_some ?_) | (refine pr_gd ?_) | (refine pr_ite ?_ ?_) | (refine pr_bd ?_ ?_) | (refine pr_bndS ?_ ?_) | (refine pr_bndV ?_) | (refine @clK_I _ C _ _ _ (by decide) (by decide) ?_) | (refine @clK_L _ C _ _ _ ?_) | (refine @clK_A _ C _ _ _ _ (by decide) ?_) | intro _
theorem pr_Hero_dropFromBag_23 {I : St → Prop} (C : ClK I) (n : Nat) : ∀ (j : Nat) (y2 : Int32) (σ : St), I σ → Pr I (f_Hero_dropFromBag_23 n j y2 σ) := by
  intro j
  induction j with
  | zero => intro y2 σ _; exact pr_none
  | succ j ih =>
    intro y2 σ h
    rw [f_Hero_dropFromBag_23_s]
    repeat' with_reducible first | assumption | (refine pr_some ?_) | (refine pr_gd ?_) | (refine pr_ite ?_ ?_) | (refine pr_bd ?_ ?_) | (refine pr_bndS ?_ ?_) | (refine pr_bndV ?_) | apply ih | (refine @clK_I _ C _ _ _ (by decide) (by decide) ?_) | (refine @clK_L _ C _ _ _ ?_) | (refine @clK_A _ C _ _ _ _ (by decide) ?_) | intro _
theorem pr_Hero_dropFromBag {I : St → Prop} (C : ClK I) (n : Nat) (x1 : Int32) (σ : St) (h : I σ) : Pr I (f_Hero_dropFromBag n x1 σ) := by
  unfold f_Hero_dropFromBag
  repeat' with_reducible first | assumption | (refine pr_some ?_) | (refine pr_gd ?_) | (refine pr_ite ?_ ?_) | (refine pr_bd ?_ ?_) | (refine pr_bndS ?_ ?_) | (refine pr_bndV ?_) | apply pr_Hero_dropFromBag_23 C | (refine @clK_I _ C _ _ _ (by decide) (by decide) ?_) | (refine @clK_L _ C _ _ _ ?_) | (refine @clK_A _ C _ _ _ _ (by decide) ?_) | intro _
theorem pr_Draws_draw_play {I : St → Prop} (C : ClK I) (n : Nat) (x1 : Int32) (σ : St) (h : I σ) : Pr I (f_Draws_draw_play n x1 σ) := by
  unfold f_Draws_draw_play
  repeat' with_reducible first | assumption | (refine pr_some ?_) | (refine pr_gd ?_) | (refine pr_ite ?_ ?_) | (refine pr_bd ?_ ?_) | (refine pr_bndS ?_ ?_) | (refine pr_bndV ?_) | (refine @clK_I _ C _ _ _ (by decide) (by decide) ?_) | (refine @clK_L _ C _ _ _ ?_) | (refine @clK_A _ C _ _ _ _ (by decide) ?_) | intro _
theorem pr_Game_isFree {I : St → Prop} (C : ClK I) (n : Nat) (x1 : Int32) (σ : St) (h : I σ) : Pr I (f_Game_isFree n x1 σ) := by
  unfold f_Game_isFree
  repeat' with_reducible first | assumption | (refine pr_some ?_) | (refine pr_gd ?_) | (refine pr_ite ?_ ?_) | (refine pr_bd ?_ ?_) | (refine pr_bndS ?_ ?_) | (refine pr_bndV ?_) | apply pr_Level_isFloor C | apply pr_Monsters_at C | (refine @clK_I _ C _ _ _ (by decide) (by decide) ?_) | (refine @clK_L _ C _ _ _ ?_) | (refine @clK_A _ C _ _ _ _ (by decide) ?_) | intro _
theorem pr_Game_drawFreePlace_38 {I : St → Prop} (C : ClK I) (n : Nat) : ∀ (j : Nat) (y2 : Int32) (y3 : Int32) (σ : St), I σ → Pr I (f_Game_drawFreePlace_38 n j y2 y3 σ) := by
  intro j
  induction j with
  | zero => intro y2 y3 σ _; exact pr_none
  | succ j ih =>
    intro y2 y3 σ h
    rw [f_Game_drawFreePlace_38_s]
    repeat' with_reducible first | assumption | (refine pr_some ?_) | (refine pr_gd ?_) | (refine pr_ite ?_ ?_) | (refine pr_bd ?_ ?_) | (refine pr_bndS ?_ ?_) | (refine pr_bndV ?_) | apply pr_Game_isFree C | apply ih | (refine @clK_I _ C _ _ _ (by decide) (by decide) ?_) | (refine @clK_L _ C _ _ _ ?_) | (refine @clK_A _ C _ _ _ _ (by decide) ?_) | intro _
theorem pr_Game_drawFreePlace_4 {I : St → Prop} (C : ClK I) (n : Nat) : ∀ (j : Nat) (y1 : Int32) (y2 : Int32) (σ : St), I σ → Pr I (f_Game_drawFreePlace_4 n j y1 y2 σ) := by
  intro j
  induction j with
  | zero => intro y1 y2 σ _; exact pr_none
  | succ j ih =>
    intro y1 y2 σ h
    rw [f_Game_drawFreePlace_4_s]
    repeat' with_reducible first | assumption | (refine pr_some ?_) | (refine pr_gd ?_) | (refine pr_ite ?_ ?_) | (refine pr_bd ?_ ?_) | (refine pr_bndS ?_ ?_) | (refine pr_bndV ?_) | apply pr_Draws_draw_play C | apply pr_Game_drawFreePlace_38 C | apply pr_Game_isFree C | apply ih | (refine @clK_I _ C _ _ _ (by decide) (by decide) ?_) | (refine @clK_L _ C _ _ _ ?_) | (refine @clK_A _ C _ _ _ _ (by decide) ?_) | intro _
theorem pr_Game_drawFreePlace {I : St → Prop} (C : ClK I) (n : Nat) (σ : St) (h : I σ) : Pr I (f_Game_drawFreePlace n σ) := by
  unfold f_Game_drawFreePlace
  repeat' with_reducible first | assumption | (refine pr_some ?_) | (refine pr_gd ?_) | (refine pr_ite ?_ ?_) | (refine pr_bd ?_ ?_) | (refine pr_bndS ?_ ?_) | (refine pr_bndV ?_) | apply pr_Game_drawFreePlace_4 C | (refine @clK_I _ C _ _ _ (by decide) (by decide) ?_) | (refine @clK_L _ C _ _ _ ?_) | (refine @clK_A _ C _ _ _ _ (by decide) ?_) | intro _
theorem pr_Game_useThing {I : St → Prop} (C : ClK I) (n : Nat) (x1 : Int32) (σ : St) (h : I σ) : Pr I (f_Game_useThing n x1 σ) := by
  unfold f_Game_useThing
  repeat' with_reducible first | assumption | (refine pr_some ?_) | (refine pr_gd ?_) | (refine pr_ite ?_ ?_) | (refine pr_bd ?_ ?_) | (refine pr_bndS ?_ ?_) | (refine pr_bndV ?_) | apply pr_Hero_thingInBag C | apply pr_Hero_dropFromBag C | apply pr_Game_drawFreePlace C | apply pr_Game_arrive C | (refine @clK_I _ C _ _ _ (by decide) (by decide) ?_) | (refine @clK_L _ C _ _ _ ?_) | (refine @clK_A _ C _ _ _ _ (by decide) ?_) | intro _
theorem pr_Level_thingAt {I : St → Prop} (C : ClK I) (n : Nat) (x1 : Int32) (σ : St) (h : I σ) : Pr I (f_Level_thingAt n x1 σ) := by
  unfold f_Level_thingAt
  repeat' with_reducible first | assumption | (refine pr_some ?_) | (refine pr_gd ?_) | (refine pr_ite ?_ ?_) | (refine pr_bd ?_ ?_) | (refine pr_bndS ?_ ?_) | (refine pr_bndV ?_) | apply pr_Level_isCell C | (refine @clK_I _ C _ _ _ (by decide) (by decide) ?_) | (refine @clK_L _ C _ _ _ ?_) | (refine @clK_A _ C _ _ _ _ (by decide) ?_) | intro _
theorem pr_Hero_bagIsFull {I : St → Prop} (C : ClK I) (n : Nat) (σ : St) (h : I σ) : Pr I (f_Hero_bagIsFull n σ) := by
  unfold f_Hero_bagIsFull
  repeat' with_reducible first | assumption | (refine pr_some ?_) | (refine pr_gd ?_) | (refine pr_ite ?_ ?_) | (refine pr_bd ?_ ?_) | (refine pr_bndS ?_ ?_) | (refine pr_bndV ?_) | (refine @clK_I _ C _ _ _ (by decide) (by decide) ?_) | (refine @clK_L _ C _ _ _ ?_) | (refine @clK_A _ C _ _ _ _ (by decide) ?_) | intro _
theorem pr_Hero_putInBag {I : St → Prop} (C : ClK I) (n : Nat) (x1 : Int32) (σ : St) (h : I σ) : Pr I (f_Hero_putInBag n x1 σ) := by
  unfold f_Hero_putInBag
  repeat' with_reducible first | assumption | (refine pr_some ?_) | (refine pr_gd ?_) | (refine pr_ite ?_ ?_) | (refine pr_bd ?_ ?_) | (refine pr_bndS ?_ ?_) | (refine pr_bndV ?_) | apply pr_Hero_bagIsFull C | (refine @clK_I _ C _ _ _ (by decide) (by decide) ?_) | (refine @clK_L _ C _ _ _ ?_) | (refine @clK_A _ C _ _ _ _ (by decide) ?_) | intro _
theorem pr_Level_takeThing {I : St → Prop} (C : ClK I) (n : Nat) (x1 : Int32) (σ : St) (h : I σ) : Pr I (f_Level_takeThing n x1 σ) := by
  unfold f_Level_takeThing
  repeat' with_reducible first | assumption | (refine pr_some ?_) | (refine pr_gd ?_) | (refine pr_ite ?_ ?_) | (refine pr_bd ?_ ?_) | (refine pr_bndS ?_ ?_) | (refine pr_bndV ?_) | apply pr_Level_isCell C | (refine @clK_I _ C _ _ _ (by decide) (by decide) ?_) | (refine @clK_L _ C _ _ _ ?_) | (refine @clK_A _ C _ _ _ _ (by decide) ?_) | intro _
theorem pr_Game_pickUp {I : St → Prop} (C : ClK I) (n : Nat) (σ : St) (h : I σ) : Pr I (f_Game_pickUp n σ) := by
  unfold f_Game_pickUp
  repeat' with_reducible first | assumption | (refine pr_some ?_) | (refine pr_gd ?_) | (refine pr_ite ?_ ?_) | (refine pr_bd ?_ ?_) | (refine pr_bndS ?_ ?_) | (refine pr_bndV ?_) | apply pr_Level_thingAt C | apply pr_Hero_bagIsFull C | apply pr_Hero_putInBag C | apply pr_Level_takeThing C | (refine @clK_I _ C _ _ _ (by decide) (by decide) ?_) | (refine @clK_L _ C _ _ _ ?_) | (refine @clK_A _ C _ _ _ _ (by decide) ?_) | intro _
theorem pr_Monsters_isThere {I : St → Prop} (C : ClK I) (n : Nat) (x1 : Int32) (σ : St) (h : I σ) : Pr I (f_Monsters_isThere n x1 σ) := by
  unfold f_Monsters_isThere
  repeat' with_reducible first | assumption | (refine pr_some ?_) | (refine pr_gd ?_) | (refine pr_ite ?_ ?_) | (refine pr_bd ?_ ?_) | (refine pr_bndS ?_ ?_) | (refine pr_bndV ?_) | (refine @clK_I _ C _ _ _ (by decide) (by decide) ?_) | (refine @clK_L _ C _ _ _ ?_) | (refine @clK_A _ C _ _ _ _ (by decide) ?_) | intro _
theorem pr_Monsters_strike {I : St → Prop} (C : ClK I) (n : Nat) (x1 : Int32) (x2 : Int32) (σ : St) (h : I σ) : Pr I (f_Monsters_strike n x1 x2 σ) := by
  unfold f_Monsters_strike
  repeat' with_reducible first | assumption | (refine pr_some ?_) | (refine pr_gd ?_) | (refine pr_ite ?_ ?_) | (refine pr_bd ?_ ?_) | (refine pr_bndS ?_ ?_) | (refine pr_bndV ?_) | apply pr_Monsters_isThere C | (refine @clK_I _ C _ _ _ (by decide) (by decide) ?_) | (refine @clK_L _ C _ _ _ ?_) | (refine @clK_A _ C _ _ _ _ (by decide) ?_) | intro _
theorem pr_Game_walk {I : St → Prop} (C : ClK I) (n : Nat) (x1 : Int32) (σ : St) (h : I σ) : Pr I (f_Game_walk n x1 σ) := by
  unfold f_Game_walk
  repeat' with_reducible first | assumption | (refine pr_some ?_) | (refine pr_gd ?_) | (refine pr_ite ?_ ?_) | (refine pr_bd ?_ ?_) | (refine pr_bndS ?_ ?_) | (refine pr_bndV ?_) | apply pr_Level_neighbour C | apply pr_Level_isFloor C | apply pr_Monsters_at C | apply pr_Game_arrive C | apply pr_Monsters_strike C | (refine @clK_I _ C _ _ _ (by decide) (by decide) ?_) | (refine @clK_L _ C _ _ _ ?_) | (refine @clK_A _ C _ _ _ _ (by decide) ?_) | intro _
theorem pr_Distances_from {I : St → Prop} (C : ClK I) (n : Nat) (x1 : Int32) (σ : St) (h : I σ) : Pr I (f_Distances_from n x1 σ) := by
  unfold f_Distances_from
  repeat' with_reducible first | assumption | (refine pr_some ?_) | (refine pr_gd ?_) | (refine pr_ite ?_ ?_) | (refine pr_bd ?_ ?_) | (refine pr_bndS ?_ ?_) | (refine pr_bndV ?_) | (refine @clK_I _ C _ _ _ (by decide) (by decide) ?_) | (refine @clK_L _ C _ _ _ ?_) | (refine @clK_A _ C _ _ _ _ (by decide) ?_) | intro _
theorem pr_Game_bestStep_5 {I : St → Prop} (C : ClK I) (n : Nat) : ∀ (j : Nat) (y1 : Int32) (y2 : Int32) (y3 : Int32) (y4 : Int32) (σ : St), I σ → Pr I (f_Game_bestStep_5 n j y1 y2 y3 y4 σ) := by
  intro j
  induction j with
  | zero => intro y1 y2 y3 y4 σ _; exact pr_none
  | succ j ih =>
    intro y1 y2 y3 y4 σ h
    rw [f_Game_bestStep_5_s]
    repeat' with_reducible first | assumption | (refine pr_some ?_) | (refine pr_gd ?_) | (refine pr_ite ?_ ?_) | (refine pr_bd ?_ ?_) | (refine pr_bndS ?_ ?_) | (refine pr_bndV ?_) | apply pr_Level_neighbour C | apply pr_Level_isFloor C | apply pr_Monsters_at C | apply pr_Distances_from C | apply ih | (refine @clK_I _ C _ _ _ (by decide) (by decide) ?_) | (refine @clK_L _ C _ _ _ ?_) | (refine @clK_A _ C _ _ _ _ (by decide) ?_) | intro _
theorem pr_Game_bestStep {I : St → Prop} (C : ClK I) (n : Nat) (x1 : Int32) (x2 : Int32) (σ : St) (h : I σ) : Pr I (f_Game_bestStep n x1 x2 σ) := by
  unfold f_Game_bestStep
  repeat' with_reducible first | assumption | (refine pr_some ?_) | (refine pr_gd ?_) | (refine pr_ite ?_ ?_) | (refine pr_bd ?_ ?_) | (refine pr_bndS ?_ ?_) | (refine pr_bndV ?_) | apply pr_Game_bestStep_5 C | (refine @clK_I _ C _ _ _ (by decide) (by decide) ?_) | (refine @clK_L _ C _ _ _ ?_) | (refine @clK_A _ C _ _ _ _ (by decide) ?_) | intro _
theorem pr_Game_goOrHit {I : St → Prop} (C : ClK I) (n : Nat) (x1 : Int32) (x2 : Int32) (σ : St) (h : I σ) : Pr I (f_Game_goOrHit n x1 x2 σ) := by
  unfold f_Game_goOrHit
  repeat' with_reducible first | assumption | (refine pr_some ?_) | (refine pr_gd ?_) | (refine pr_ite ?_ ?_) | (refine pr_bd ?_ ?_) | (refine pr_bndS ?_ ?_) | (refine pr_bndV ?_) | apply pr_Level_isFloor C | apply pr_Monsters_at C | (refine @clK_I _ C _ _ _ (by decide) (by decide) ?_) | (refine @clK_L _ C _ _ _ ?_) | (refine @clK_A _ C _ _ _ _ (by decide) ?_) | intro _
theorem pr_Game_act_63 {I : St → Prop} (C : ClK I) (n : Nat) (s0 : Int32) (s1 : Int32) (σ : St) (h : I σ) : Pr I (f_Game_act_63 n s0 s1 σ) := by
  unfold f_Game_act_63
  repeat' with_reducible first | assumption | (refine pr_some ?_) | (refine pr_gd ?_) | (refine pr_ite ?_ ?_) | (refine pr_bd ?_ ?_) | (refine pr_bndS ?_ ?_) | (refine pr_bndV ?_) | (refine @clK_I _ C _ _ _ (by decide) (by decide) ?_) | (refine @clK_L _ C _ _ _ ?_) | (refine @clK_A _ C _ _ _ _ (by decide) ?_) | intro _
theorem pr_Game_act_124 {I : St → Prop} (C : ClK I) (n : Nat) (y1 : Int32) (y3 : Int32) (σ : St) (h : I σ) : Pr I (f_Game_act_124 n y1 y3 σ) := by
  unfold f_Game_act_124
  repeat' with_reducible first | assumption | (refine pr_some ?_) | (refine pr_gd ?_) | (refine pr_ite ?_ ?_) | (refine pr_bd ?_ ?_) | (refine pr_bndS ?_ ?_) | (refine pr_bndV ?_) | apply pr_Game_bestStep C | apply pr_Game_goOrHit C | (refine @clK_I _ C _ _ _ (by decide) (by decide) ?_) | (refine @clK_L _ C _ _ _ ?_) | (refine @clK_A _ C _ _ _ _ (by decide) ?_) | intro _
theorem pr_Game_act {I : St → Prop} (C : ClK I) (n : Nat) (x1 : Int32) (σ : St) (h : I σ) : Pr I (f_Game_act n x1 σ) := by
  unfold f_Game_act
  repeat' with_reducible first | assumption | (refine pr_some ?_) | (refine pr_gd ?_) | (refine pr_ite ?_ ?_) | (refine pr_bd ?_ ?_) | (refine pr_bndS ?_ ?_) | (refine pr_bndV ?_) | apply pr_Level_inSight C | apply pr_Game_act_63 C | apply pr_Draws_draw_play C | apply pr_Level_neighbour C | apply pr_Game_goOrHit C | apply pr_Game_act_124 C | apply pr_Game_bestStep C | (refine @clK_I _ C _ _ _ (by decide) (by decide) ?_) | (refine @clK_L _ C _ _ _ ?_) | (refine @clK_A _ C _ _ _ _ (by decide) ?_) | intro _
theorem pr_Game_takeTurns_39 {I : St → Prop} (C : ClK I) (n : Nat) : ∀ (j : Nat) (y1 : Int32) (y2 : Int32) (σ : St), I σ → Pr I (f_Game_takeTurns_39 n j y1 y2 σ) := by
  intro j
  induction j with
  | zero => intro y1 y2 σ _; exact pr_none
  | succ j ih =>
    intro y1 y2 σ h
    rw [f_Game_takeTurns_39_s]
    repeat' with_reducible first | assumption | (refine pr_some ?_) | (refine pr_gd ?_) | (refine pr_ite ?_ ?_) | (refine pr_bd ?_ ?_) | (refine pr_bndS ?_ ?_) | (refine pr_bndV ?_) | apply pr_Hero_isDead C | apply pr_Game_act C | apply ih | (refine @clK_I _ C _ _ _ (by decide) (by decide) ?_) | (refine @clK_L _ C _ _ _ ?_) | (refine @clK_A _ C _ _ _ _ (by decide) ?_) | intro _
theorem pr_Game_takeTurns {I : St → Prop} (C : ClK I) (n : Nat) (x1 : Int32) (σ : St) (h : I σ) : Pr I (f_Game_takeTurns n x1 σ) := by
  unfold f_Game_takeTurns
  repeat' with_reducible first | assumption | (refine pr_some ?_) | (refine pr_gd ?_) | (refine pr_ite ?_ ?_) | (refine pr_bd ?_ ?_) | (refine pr_bndS ?_ ?_) | (refine pr_bndV ?_) | apply pr_Monsters_isThere C | apply pr_Game_takeTurns_39 C | (refine @clK_I _ C _ _ _ (by decide) (by decide) ?_) | (refine @clK_L _ C _ _ _ ?_) | (refine @clK_A _ C _ _ _ _ (by decide) ?_) | intro _
theorem pr_Game_passTime_111 {I : St → Prop} (C : ClK I) (n : Nat) (k16 : Int32 → St → Option (Unit × St)) (hk16 : ∀ (z0 : Int32) (σ : St), I σ → Pr I (k16 z0 σ)) : ∀ (j : Nat) (y1 : Int32) (y2 : Int32) (σ : St), I σ → Pr I (f_Game_passTime_111 n k16 j y1 y2 σ) := by
  intro j
  induction j with
  | zero => intro y1 y2 σ _; exact pr_none
  | succ j ih =>
    intro y1 y2 σ h
    rw [f_Game_passTime_111_s]
    repeat' with_reducible first | assumption | (refine pr_some ?_) | (refine pr_gd ?_) | (refine pr_ite ?_ ?_) | (refine pr_bd ?_ ?_) | (refine pr_bndS ?_ ?_) | (refine pr_bndV ?_) | apply pr_Game_takeTurns C | apply hk16 | apply ih | (refine @clK_I _ C _ _ _ (by decide) (by decide) ?_) | (refine @clK_L _ C _ _ _ ?_) | (refine @clK_A _ C _ _ _ _ (by decide) ?_) | intro _
theorem pr_Game_passTime_16 {I : St → Prop} (C : ClK I) (n : Nat) : ∀ (j : Nat) (y1 : Int32) (σ : St), I σ → Pr I (f_Game_passTime_16 n j y1 σ) := by
  intro j
  induction j with
  | zero => intro y1 σ _; exact pr_none
  | succ j ih =>
    intro y1 σ h
    rw [f_Game_passTime_16_s]
    repeat' with_reducible first | assumption | (refine pr_some ?_) | (refine pr_gd ?_) | (refine pr_ite ?_ ?_) | (refine pr_bd ?_ ?_) | (refine pr_bndS ?_ ?_) | (refine pr_bndV ?_) | apply pr_Hero_isDead C | apply pr_Game_passTime_111 C | apply ih | (refine @clK_I _ C _ _ _ (by decide) (by decide) ?_) | (refine @clK_L _ C _ _ _ ?_) | (refine @clK_A _ C _ _ _ _ (by decide) ?_) | intro _
theorem pr_Game_passTime {I : St → Prop} (C : ClK I) (n : Nat) (σ : St) (h : I σ) : Pr I (f_Game_passTime n σ) := by
  unfold f_Game_passTime
  repeat' with_reducible first | assumption | (refine pr_some ?_) | (refine pr_gd ?_) | (refine pr_ite ?_ ?_) | (refine pr_bd ?_ ?_) | (refine pr_bndS ?_ ?_) | (refine pr_bndV ?_) | apply pr_Game_passTime_16 C | (refine @clK_I _ C _ _ _ (by decide) (by decide) ?_) | (refine @clK_L _ C _ _ _ ?_) | (refine @clK_A _ C _ _ _ _ (by decide) ?_) | intro _
theorem pr_Game_press_203 {I : St → Prop} (C : ClK I) (n : Nat) (y2 : Int32) (σ : St) (h : I σ) : Pr I (f_Game_press_203 n y2 σ) := by
  unfold f_Game_press_203
  repeat' with_reducible first | assumption | (refine pr_some ?_) | (refine pr_gd ?_) | (refine pr_ite ?_ ?_) | (refine pr_bd ?_ ?_) | (refine pr_bndS ?_ ?_) | (refine pr_bndV ?_) | apply pr_Hero_isDead C | (refine @clK_I _ C _ _ _ (by decide) (by decide) ?_) | (refine @clK_L _ C _ _ _ ?_) | (refine @clK_A _ C _ _ _ _ (by decide) ?_) | intro _
theorem pr_Game_press_199 {I : St → Prop} (C : ClK I) (n : Nat) (y2 : Int32) (σ : St) (h : I σ) : Pr I (f_Game_press_199 n y2 σ) := by
  unfold f_Game_press_199
  repeat' with_reducible first | assumption | (refine pr_some ?_) | (refine pr_gd ?_) | (refine pr_ite ?_ ?_) | (refine pr_bd ?_ ?_) | (refine pr_bndS ?_ ?_) | (refine pr_bndV ?_) | apply pr_Game_passTime C | apply pr_Game_press_203 C | (refine @clK_I _ C _ _ _ (by decide) (by decide) ?_) | (refine @clK_L _ C _ _ _ ?_) | (refine @clK_A _ C _ _ _ _ (by decide) ?_) | intro _
theorem pr_Game_press_182 {I : St → Prop} (C : ClK I) (n : Nat) (y1 : Int32) (s0 : Int32) (σ : St) (h : I σ) : Pr I (f_Game_press_182 n y1 s0 σ) := by
  unfold f_Game_press_182
  repeat' with_reducible first | assumption | (refine pr_some ?_) | (refine pr_gd ?_) | (refine pr_ite ?_ ?_) | (refine pr_bd ?_ ?_) | (refine pr_bndS ?_ ?_) | (refine pr_bndV ?_) | apply pr_Game_press_203 C | apply pr_Game_press_199 C | (refine @clK_I _ C _ _ _ (by decide) (by decide) ?_) | (refine @clK_L _ C _ _ _ ?_) | (refine @clK_A _ C _ _ _ _ (by decide) ?_) | intro _
theorem pr_Game_press {I : St → Prop} (C : ClK I) (n : Nat) (x1 : Int32) (σ : St) (h : I σ) : Pr I (f_Game_press n x1 σ) := by
  unfold f_Game_press
  repeat' with_reducible first | assumption | (refine pr_some ?_) | (refine pr_gd ?_) | (refine pr_ite ?_ ?_) | (refine pr_bd ?_ ?_) | (refine pr_bndS ?_ ?_) | (refine pr_bndV ?_) | apply pr_Hero_isDead C | apply pr_Game_press_182 C | apply pr_Game_descend C | apply pr_Game_useThing C | apply pr_Game_pickUp C | apply pr_Game_walk C | (refine @clK_I _ C _ _ _ (by decide) (by decide) ?_) | (refine @clK_L _ C _ _ _ ?_) | (refine @clK_A _ C _ _ _ _ (by decide) ?_) | intro _
theorem pr_Hero_reset {I : St → Prop} (C : ClK I) (n : Nat) (σ : St) (h : I σ) : Pr I (f_Hero_reset n σ) := by
  unfold f_Hero_reset
  repeat' with_reducible first | assumption | (refine pr_some ?_) | (refine pr_gd ?_) | (refine pr_ite ?_ ?_) | (refine pr_bd ?_ ?_) | (refine pr_bndS ?_ ?_) | (refine pr_bndV ?_) | (refine @clK_I _ C _ _ _ (by decide) (by decide) ?_) | (refine @clK_L _ C _ _ _ ?_) | (refine @clK_A _ C _ _ _ _ (by decide) ?_) | intro _
theorem pr_Game_begin {I : St → Prop} (C : ClK I) (n : Nat) (σ : St) (h : I σ) : Pr I (f_Game_begin n σ) := by
  unfold f_Game_begin
  repeat' with_reducible first | assumption | (refine pr_some ?_) | (refine pr_gd ?_) | (refine pr_ite ?_ ?_) | (refine pr_bd ?_ ?_) | (refine pr_bndS ?_ ?_) | (refine pr_bndV ?_) | apply pr_Hero_reset C | apply pr_Maker_make C | apply pr_Game_arrive C | (refine @clK_I _ C _ _ _ (by decide) (by decide) ?_) | (refine @clK_L _ C _ _ _ ?_) | (refine @clK_A _ C _ _ _ _ (by decide) ?_) | intro _
theorem pr_Monsters_countThere_4 {I : St → Prop} (C : ClK I) (n : Nat) : ∀ (j : Nat) (y1 : Int32) (y2 : Int32) (y3 : Int32) (σ : St), I σ → Pr I (f_Monsters_countThere_4 n j y1 y2 y3 σ) := by
  intro j
  induction j with
  | zero => intro y1 y2 y3 σ _; exact pr_none
  | succ j ih =>
    intro y1 y2 y3 σ h
    rw [f_Monsters_countThere_4_s]
    repeat' with_reducible first | assumption | (refine pr_some ?_) | (refine pr_gd ?_) | (refine pr_ite ?_ ?_) | (refine pr_bd ?_ ?_) | (refine pr_bndS ?_ ?_) | (refine pr_bndV ?_) | apply pr_Monsters_isThere C | apply ih | (refine @clK_I _ C _ _ _ (by decide) (by decide) ?_) | (refine @clK_L _ C _ _ _ ?_) | (refine @clK_A _ C _ _ _ _ (by decide) ?_) | intro _
theorem pr_Monsters_countThere {I : St → Prop} (C : ClK I) (n : Nat) (x1 : Int32) (σ : St) (h : I σ) : Pr I (f_Monsters_countThere n x1 σ) := by
  unfold f_Monsters_countThere
  repeat' with_reducible first | assumption | (refine pr_some ?_) | (refine pr_gd ?_) | (refine pr_ite ?_ ?_) | (refine pr_bd ?_ ?_) | (refine pr_bndS ?_ ?_) | (refine pr_bndV ?_) | apply pr_Monsters_countThere_4 C | (refine @clK_I _ C _ _ _ (by decide) (by decide) ?_) | (refine @clK_L _ C _ _ _ ?_) | (refine @clK_A _ C _ _ _ _ (by decide) ?_) | intro _
theorem pr_Level_countFloorInSight_4 {I : St → Prop} (C : ClK I) (n : Nat) : ∀ (j : Nat) (y1 : Int32) (y2 : Int32) (y3 : Int32) (σ : St), I σ → Pr I (f_Level_countFloorInSight_4 n j y1 y2 y3 σ) := by
  intro j
  induction j with
  | zero => intro y1 y2 y3 σ _; exact pr_none
  | succ j ih =>
    intro y1 y2 y3 σ h
    rw [f_Level_countFloorInSight_4_s]
    repeat' with_reducible first | assumption | (refine pr_some ?_) | (refine pr_gd ?_) | (refine pr_ite ?_ ?_) | (refine pr_bd ?_ ?_) | (refine pr_bndS ?_ ?_) | (refine pr_bndV ?_) | apply pr_Level_inSight C | apply ih | (refine @clK_I _ C _ _ _ (by decide) (by decide) ?_) | (refine @clK_L _ C _ _ _ ?_) | (refine @clK_A _ C _ _ _ _ (by decide) ?_) | intro _
theorem pr_Level_countFloorInSight {I : St → Prop} (C : ClK I) (n : Nat) (x1 : Int32) (σ : St) (h : I σ) : Pr I (f_Level_countFloorInSight n x1 σ) := by
  unfold f_Level_countFloorInSight
  repeat' with_reducible first | assumption | (refine pr_some ?_) | (refine pr_gd ?_) | (refine pr_ite ?_ ?_) | (refine pr_bd ?_ ?_) | (refine pr_bndS ?_ ?_) | (refine pr_bndV ?_) | apply pr_Level_countFloorInSight_4 C | (refine @clK_I _ C _ _ _ (by decide) (by decide) ?_) | (refine @clK_L _ C _ _ _ ?_) | (refine @clK_A _ C _ _ _ _ (by decide) ?_) | intro _
