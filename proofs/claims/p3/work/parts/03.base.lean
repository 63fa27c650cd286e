/-! BASE: the words that every method gets; a world with its frame; contracts over whole worlds; rows for calls (own work). -/
def TB : List Cond := lw_tbl.filter goodWord
theorem tb_in {w : Cond} (h : w ∈ lw_tbl) (hg : goodWord w = true) : w ∈ TB := List.mem_filter.mpr ⟨h, hg⟩
theorem tb_good {w : Cond} (h : w ∈ TB) : (w.onTables && w.keeps) = true ∨ ∃ ty, w = .arrayClass ty := good_of_word (List.mem_filter.mp h).2
theorem tb_tbl {w : Cond} (h : w ∈ TB) : w ∈ lw_tbl := (List.mem_filter.mp h).1
theorem tb_tables {w : Cond} (i : Nat) (h : tables_1[i]? = some w) (hg : goodWord w = true) : w ∈ TB := tb_in (List.mem_append_right _ (List.mem_of_getElem? h)) hg
abbrev tyL (cA : Nat → ClassId) : List (ClassId × FieldType) := [(cA 0, .int), (cA 1, .boolean)]
/-- static tables that nobody writes -/
abbrev TabT : Type := String × String × Nat × (Nat → Int32)
def SZ (tb : List TabT) (tz : Nat → Nat) (A : Nat → Prop) (U : State) (H : Heap) : Prop := ∀ (k : Nat) (q : TabT), tb[k]? = some q → va_Z q.1 q.2.1 "[I" (.ref (tz k)) A U H ∧ va_T .int (tz k) q.2.2.1 (fun j => .int (q.2.2.2 j)) A U H
theorem SZ.moved {tb : List TabT} {tz : Nat → Nat} {A : Nat → Prop} {u U : State} {H : Heap} (hvm : u.vm.Alike U.vm) (h : SZ tb tz A u H) : SZ tb tz A U H := fun k q hq => ⟨va_Z.moved hvm (h k q hq).1, va_T.moved hvm (h k q hq).2⟩
theorem SZ.kept {tb : List TabT} {tz : Nat → Nat} {A : Nat → Prop} {U : State} {H H1 : Heap} (h : SZ tb tz A U H) (hq : ∀ a : Nat, a < H.size → ¬ A a → H1[a]? = H[a]?) : SZ tb tz A U H1 := fun k q hk => ⟨(h k q hk).1.kept hq, (h k q hk).2.kept hq⟩
theorem SZ.narrow {tb : List TabT} {tz : Nat → Nat} {A B : Nat → Prop} {U : State} {H : Heap} (h : SZ tb tz A U H) (hAB : ∀ q, B q → A q) : SZ tb tz B U H := fun k q hk => ⟨(h k q hk).1.narrow hAB, (h k q hk).2.narrow hAB⟩
/-- the fixed things of a walk -/
def CX (p : Program) (s : State) (m : MethodId) (args : Array Value) (c : Code) (cc : ByteArray) (own : String) (D : va_G) (cA : Nat → ClassId) : Prop := p.tables.exec = Jvm.exec ∧ c.code = cc ∧ s.vm.findClass own = some m.cls ∧ (∀ w ∈ TB, w.before args s = true) ∧ va_K D classes (tyL cA) s
/-- a world in the heap, its cells apart and its own, nothing else changed -/
def WD (D : va_G) (A : Nat → Prop) (s : State) (ws : va_W) (H : Heap) (locs : List Loc) : Prop := va_P D classes ws H ∧ va_D A ws ∧ va_S A s.heap H locs
def PW (D : va_G) (cA : Nat → ClassId) (tz : Nat → Nat) (ws : va_W) (sz : Nat) (U : State) : Prop := U.heap.size = sz ∧ va_P D classes ws U.heap ∧ va_K D classes (tyL cA) U ∧ va_D (fun _ => True) ws ∧ SZ stb tz (va_A ws sz) U U.heap
def AW (D : va_G) (cA : Nat → ClassId) (A : Nat → Prop) (ws : va_W) (t : State) : Prop := va_P D classes ws t.heap ∧ va_K D classes (tyL cA) t ∧ va_D A ws
theorem PW_blind {av : List Value} {D : va_G} {cA : Nat → ClassId} {tz : Nat → Nat} {ws : va_W} {sz : Nat} : FrameBlind (va_Pc av (PW D cA tz ws sz)) := fun a U g mk q => by
  obtain ⟨q0, q1, qP, qK, qD, qZ⟩ := q
  exact ⟨q0, q1, qP, va_K.moved (u := U) (U := U.calling g mk a) (Vm.Alike.refl U.vm) qK, qD, SZ.moved (u := U) (U := U.calling g mk a) (Vm.Alike.refl U.vm) qZ⟩
/-- contracts: from the world w σ the method answers r and leaves w σ' -/
def Ki {S : Type} (l : Launch) (D : va_G) (cA : Nat → ClassId) (tz : Nat → Nat) (w : S → va_W) (y : MethodName) (wc : List Cond) (rm : Room) (av : List Value) (σ : S) (r : Int32) (σ' : S) : Prop := ∀ sz : Nat, Met l y wc rm (va_Pc av (PW D cA tz (w σ) sz)) (va_Qi (fun (r2 : Int32) (_ : Unit) => r2 = r) (fun _ t => AW D cA (va_A (w σ) sz) (w σ') t) (va_A (w σ) sz)) 0 0 (va_A (w σ) sz)
def Kl {S : Type} (l : Launch) (D : va_G) (cA : Nat → ClassId) (tz : Nat → Nat) (w : S → va_W) (y : MethodName) (wc : List Cond) (rm : Room) (av : List Value) (σ : S) (r : Int64) (σ' : S) : Prop := ∀ sz : Nat, Met l y wc rm (va_Pc av (PW D cA tz (w σ) sz)) (va_Ql (fun (r2 : Int64) (_ : Unit) => r2 = r) (fun _ t => AW D cA (va_A (w σ) sz) (w σ') t) (va_A (w σ) sz)) 0 0 (va_A (w σ) sz)
def Kv {S : Type} (l : Launch) (D : va_G) (cA : Nat → ClassId) (tz : Nat → Nat) (w : S → va_W) (y : MethodName) (wc : List Cond) (rm : Room) (av : List Value) (σ : S) (σ' : S) : Prop := ∀ sz : Nat, Met l y wc rm (va_Pc av (PW D cA tz (w σ) sz)) (va_Qv (fun (_ : Unit) => True) (fun _ t => AW D cA (va_A (w σ) sz) (w σ') t) (va_A (w σ) sz)) 0 0 (va_A (w σ) sz)
/-! pure words of the denotations -/
def bnd {α β : Type} (a : α) (f : α → β) : β := f a
def gd {β : Type} (b : Bool) (x : Option β) : Option β := match b with
  | true => x
  | false => none
def bd {α S β : Type} (o : Option (α × S)) (f : α → S → Option β) : Option β := match o with
  | some (r, σ) => f r σ
  | none => none
def inb (i : Int32) (n : Nat) : Bool := decide (0 ≤ i.toInt ∧ i.toInt < n)
def nzi (y : Int32) : Bool := decide (¬ y = 0)
def nzl (y : Int64) : Bool := decide (¬ y = 0)
def isb (y : Int32) : Bool := decide (y = 0 ∨ y = 1)
def ush (x : Int64) (y : Int32) : Int64 := (x.toUInt64 >>> (y.toInt64.toUInt64 &&& Int64.toUInt64 63)).toInt64
theorem nm_b {α β : Type} {a x : α} {f : α → β} {r : β} (h : bnd a f = r) (e : x = a) : f x = r := by subst e; exact h
theorem gd_s {β : Type} {b : Bool} {x : Option β} {r : β} (h : gd b x = some r) : b = true ∧ x = some r := by
  cases b with
  | true => exact ⟨rfl, h⟩
  | false => exact absurd h (fun z => by cases z)
theorem bd_s {α S β : Type} {o : Option (α × S)} {f : α → S → Option β} {r : β} (h : bd o f = some r) : ∃ a σ, o = some (a, σ) ∧ f a σ = some r := by
  cases o with
  | none => exact absurd h (fun z => by cases z)
  | some q => exact ⟨q.1, q.2, rfl, h⟩
theorem inb_s {i : Int32} {n : Nat} (h : inb i n = true) : vp_in i n := vp_in_iff.mpr (of_decide_eq_true h)
theorem nzi_s {y : Int32} (h : nzi y = true) : ¬ y = 0 := of_decide_eq_true h
theorem nzl_s {y : Int64} (h : nzl y = true) : ¬ y = 0 := of_decide_eq_true h
theorem isb_s {y : Int32} (h : isb y = true) : narrow .boolean (.int y) = .int y := by
  rcases (of_decide_eq_true h : y = 0 ∨ y = 1) with rfl | rfl <;> rfl
theorem it {β : Type} {c : Prop} [Decidable c] {a b r : β} (hc : c) (h : (if c then a else b) = r) : a = r := by rw [if_pos hc] at h; exact h
theorem ie {β : Type} {c : Prop} [Decidable c] {a b r : β} (hc : ¬ c) (h : (if c then a else b) = r) : b = r := by rw [if_neg hc] at h; exact h
theorem us {β : Type} {a b r : β} (h : a = b) (h2 : a = r) : b = r := h.symm.trans h2
section XRows
variable {p : Program} {l : Launch} {e : Env} {R : Room} {s : State} {m : MethodId} {args : Array Value} {below : List Frame} {meth : Method} {c : Code} {H : Heap} {locs : List Loc} {cells slots : Nat} {Q : State → Prop}
variable {cc : ByteArray} {pc : Nat} {ls : Array Slot} {rest : List Value} {D : va_G} {cA : Nat → ClassId} {tz : Nat → Nat} {A : Nat → Prop} {ws : va_W} {own : String} {index : Nat}
theorem x_get (X : CX p s m args c cc own D cA) (h : WD D A s ws H locs) (q0 k : Nat) {a ci N : Nat} {fs : List Value} {C : String} {T : u_T} {v : Value} (he : ws[q0]? = some (a, .inr (ci, fs))) (hc : classes[ci]? = some (C, T, N)) (hin : ∀ x ∈ u_ws C T N, x ∈ TB) (hk : k < N) (hv : fs[k]? = some v) (hl : Cond.fieldLink own index (T k).1 (T k).2.1 (T k).2.2.1 ∈ TB) (hdg : decode cc pc = .ok (.getfield index, 3))
    (kk : W p l e R s m args below meth c H locs cells slots Q (F0 m (pc + 3) ls (v :: rest))) : W p l e R s m args below meth c H locs cells slots Q (F0 m pc ls (.ref a :: rest)) :=
  va_get (D := D) X.1 X.2.1 X.2.2.2.1 hin X.2.2.1 X.2.2.2.2 h.1 q0 he hc k hk (X.2.2.2.1 _ hl) (fun _ h9 => h9) hv hdg kk
theorem x_put (X : CX p s m args c cc own D cA) (h : WD D A s ws H locs) (q0 k : Nat) {a ci N : Nat} {fs : List Value} {C : String} {T : u_T} {v : Value} {ws' : va_W} (he : ws[q0]? = some (a, .inr (ci, fs))) (hc : classes[ci]? = some (C, T, N)) (hin : ∀ x ∈ u_ws C T N, x ∈ TB) (hk : k < N) (ty0 : Nat → FieldType) (hty : ∀ k, k < N → parseFieldDescriptor (T k).2.2.1 = some (ty0 k)) (hnm : ∀ a, a < N → ∀ b, b < N → a ≠ b → (T a).2.1 ≠ (T b).2.1) (hfin : (T k).2.2.2 = false) {ty : FieldType} (hd : parseFieldDescriptor (T k).2.2.1 = some ty) (hn : narrow ty v = v) (hfit : fits ty v = true) (hlen : k < fs.length) (hws : ws.set q0 (a, .inr (ci, fs.set k v)) = ws') (hl : Cond.fieldLink own index (T k).1 (T k).2.1 (T k).2.2.1 ∈ TB) (hdg : decode cc pc = .ok (.putfield index, 3))
    (kk : ∀ (H1 : Heap) (locs1 : List Loc), WD D A s ws' H1 locs1 → W p l e R s m args below meth c H1 locs1 cells slots Q (F0 m (pc + 3) ls rest)) : W p l e R s m args below meth c H locs cells slots Q (F0 m pc ls (v :: .ref a :: rest)) := by
  subst hws
  exact va_put (D := D) X.1 X.2.1 X.2.2.2.1 hin ty0 hty hnm X.2.2.1 X.2.2.2.2 h.1 h.2.1 h.2.2 q0 he hc k hk (X.2.2.2.1 _ hl) (fun _ h9 => h9) hfin hd hn hfit hlen hdg (fun H1 locs1 hP hD hS => kk H1 locs1 ⟨hP, hD, hS⟩)
theorem x_iald (X : CX p s m args c cc own D cA) (h : WD D A s ws H locs) (q0 : Nat) {a n : Nat} {f : Nat → Int32} (ha : ws[q0]? = some (a, .inl (cA 0, n, .inl f))) {i : Int32} (hin : vp_in i n) (hdg : decode cc pc = .ok (.iaload, 1))
    (kk : W p l e R s m args below meth c H locs cells slots Q (F0 m (pc + 1) ls (.int (f i.toNatClampNeg) :: rest))) : W p l e R s m args below meth c H locs cells slots Q (F0 m pc ls (.int i :: .ref a :: rest)) :=
  va_iald X.1 X.2.1 X.2.2.2.2 h.1 q0 0 ha rfl hin hdg kk
theorem x_iast (X : CX p s m args c cc own D cA) (h : WD D A s ws H locs) (q0 : Nat) {a n : Nat} {f : Nat → Int32} {ws' : va_W} (ha : ws[q0]? = some (a, .inl (cA 0, n, .inl f))) {i x : Int32} (hin : vp_in i n) (hws : ws.set q0 (a, .inl (cA 0, n, .inl (upd f i.toNatClampNeg x))) = ws') (hdg : decode cc pc = .ok (.iastore, 1))
    (kk : ∀ (H1 : Heap) (locs1 : List Loc), WD D A s ws' H1 locs1 → W p l e R s m args below meth c H1 locs1 cells slots Q (F0 m (pc + 1) ls rest)) : W p l e R s m args below meth c H locs cells slots Q (F0 m pc ls (.int x :: .int i :: .ref a :: rest)) := by
  subst hws
  exact va_iast X.1 X.2.1 X.2.2.2.2 h.1 h.2.1 h.2.2 q0 0 ha rfl hin hdg (fun H1 locs1 hP hD hS => kk H1 locs1 ⟨hP, hD, hS⟩)
theorem x_zald (X : CX p s m args c cc own D cA) (h : WD D A s ws H locs) (q0 : Nat) {a n : Nat} {f : Nat → Int32} (ha : ws[q0]? = some (a, .inl (cA 1, n, .inl f))) {i : Int32} (hin : vp_in i n) (hdg : decode cc pc = .ok (.baload, 1))
    (kk : W p l e R s m args below meth c H locs cells slots Q (F0 m (pc + 1) ls (.int (f i.toNatClampNeg) :: rest))) : W p l e R s m args below meth c H locs cells slots Q (F0 m pc ls (.int i :: .ref a :: rest)) :=
  va_zald X.1 X.2.1 X.2.2.2.2 h.1 q0 1 ha rfl hin hdg kk
theorem x_zast (X : CX p s m args c cc own D cA) (h : WD D A s ws H locs) (q0 : Nat) {a n : Nat} {f : Nat → Int32} {ws' : va_W} (ha : ws[q0]? = some (a, .inl (cA 1, n, .inl f))) {i x : Int32} (hin : vp_in i n) (hz : vp_nar .boolean x = x) (hws : ws.set q0 (a, .inl (cA 1, n, .inl (upd f i.toNatClampNeg x))) = ws') (hdg : decode cc pc = .ok (.bastore, 1))
    (kk : ∀ (H1 : Heap) (locs1 : List Loc), WD D A s ws' H1 locs1 → W p l e R s m args below meth c H1 locs1 cells slots Q (F0 m (pc + 1) ls rest)) : W p l e R s m args below meth c H locs cells slots Q (F0 m pc ls (.int x :: .int i :: .ref a :: rest)) := by
  subst hws
  refine va_zast X.1 X.2.1 X.2.2.2.2 h.1 h.2.1 h.2.2 q0 1 ha rfl hin hdg (fun H1 locs1 hP hD hS => ?_)
  rw [hz] at hP hD
  exact kk H1 locs1 ⟨hP, hD, hS⟩
theorem x_alen (X : CX p s m args c cc own D cA) (h : WD D A s ws H locs) (q0 : Nat) {a n : Nat} {f : Nat → Int32} (ha : ws[q0]? = some (a, .inl (cA 0, n, .inl f))) {v : Int32} (hv : Int32.ofNat n = v) (hdg : decode cc pc = .ok (.arraylength, 1))
    (kk : W p l e R s m args below meth c H locs cells slots Q (F0 m (pc + 1) ls (.int v :: rest))) : W p l e R s m args below meth c H locs cells slots Q (F0 m pc ls (.ref a :: rest)) :=
  va_alen X.1 X.2.1 X.2.2.2.2 h.1 q0 0 ha rfl hv hdg kk
theorem x_alenz (X : CX p s m args c cc own D cA) (h : WD D A s ws H locs) (q0 : Nat) {a n : Nat} {f : Nat → Int32} (ha : ws[q0]? = some (a, .inl (cA 1, n, .inl f))) {v : Int32} (hv : Int32.ofNat n = v) (hdg : decode cc pc = .ok (.arraylength, 1))
    (kk : W p l e R s m args below meth c H locs cells slots Q (F0 m (pc + 1) ls (.int v :: rest))) : W p l e R s m args below meth c H locs cells slots Q (F0 m pc ls (.ref a :: rest)) :=
  va_alen X.1 X.2.1 X.2.2.2.2 h.1 q0 1 ha rfl hv hdg kk
theorem x_gets (X : CX p s m args c cc own D cA) {tb : List TabT} (hZ : SZ tb tz A s s.heap) (h : WD D A s ws H locs) (k : Nat) {q : TabT} (hk : tb[k]? = some q) (hl : Cond.fieldLink own index q.1 q.2.1 "[I" ∈ TB) (hdg : decode cc pc = .ok (.getstatic index, 3))
    (kk : W p l e R s m args below meth c H locs cells slots Q (F0 m (pc + 3) ls (.ref (tz k) :: rest))) : W p l e R s m args below meth c H locs cells slots Q (F0 m pc ls rest) :=
  va_gets X.1 X.2.1 (hZ k q hk).1 h.2.2 X.2.2.1 (X.2.2.2.1 _ hl) (fun _ h9 => h9) hdg kk
theorem x_ti (X : CX p s m args c cc own D cA) {tb : List TabT} (hZ : SZ tb tz A s s.heap) (h : WD D A s ws H locs) (k : Nat) {q : TabT} (hk : tb[k]? = some q) {i : Int32} (hin : vp_in i q.2.2.1) (hdg : decode cc pc = .ok (.iaload, 1))
    (kk : W p l e R s m args below meth c H locs cells slots Q (F0 m (pc + 1) ls (.int (q.2.2.2 i.toNatClampNeg) :: rest))) : W p l e R s m args below meth c H locs cells slots Q (F0 m pc ls (.int i :: .ref (tz k) :: rest)) :=
  va_ti X.1 X.2.1 (hZ k q hk).2 h.2.2 hin rfl hdg kk
theorem x_tlen (X : CX p s m args c cc own D cA) {tb : List TabT} (hZ : SZ tb tz A s s.heap) (h : WD D A s ws H locs) (k : Nat) {q : TabT} (hk : tb[k]? = some q) {v : Int32} (hv : Int32.ofNat q.2.2.1 = v) (hdg : decode cc pc = .ok (.arraylength, 1))
    (kk : W p l e R s m args below meth c H locs cells slots Q (F0 m (pc + 1) ls (.int v :: rest))) : W p l e R s m args below meth c H locs cells slots Q (F0 m pc ls (.ref (tz k) :: rest)) :=
  va_tlen X.1 X.2.1 (hZ k q hk).2 h.2.2 hv hdg kk
theorem x_fr (hA : ∀ q, s.heap.size ≤ q → A q) (h : WD D A s ws H locs) : ∀ q, va_A ws H.size q → A q := by
  intro q hq
  rcases hq with ⟨k, e, hk⟩ | hq
  · exact h.2.1.2 k _ hk
  · exact hA q (Nat.le_trans h.2.2.1 hq)
theorem x_pre (X : CX p s m args c cc own D cA) (hZ : SZ stb tz A s s.heap) (hA : ∀ q, s.heap.size ≤ q → A q) (h : WD D A s ws H locs) (U : State) (hU : U.heap = H) (hW : s.WarmedH U.vm) : PW D cA tz ws H.size U := by
  refine ⟨by rw [hU], by rw [hU]; exact h.1, va_K.moved hW.alike X.2.2.2.2, h.2.1.weaken (fun _ _ _ _ => trivial), ?_⟩
  rw [hU]
  exact ((hZ.kept (fun a h1 h2 => h.2.2.2.1 a h1 h2)).narrow (x_fr hA h)).moved hW.alike
variable {y : MethodName} {bytes : ByteArray} {maxL nL n : Nat} {ret : Option FieldType} {rm : Room} {As st : List Value} {S : Type} {w : S → va_W} {σ σ' : S} {b ci q0 : Nat} {C : String} {fs : List Value} {q : vw_C}
/-- what the tables say of a callee -/
abbrev KV (y : MethodName) (bytes : ByteArray) (maxL : Nat) (ret : Option FieldType) : Prop := Cond.code y bytes maxL ret ∈ TB ∧ Cond.instanceMethod y ∈ TB ∧ Cond.selects y.cls y y ∈ TB ∧ Cond.initialized y.cls ∈ TB
abbrev KS (y : MethodName) (bytes : ByteArray) (maxL : Nat) (ret : Option FieldType) : Prop := Cond.code y bytes maxL ret ∈ TB ∧ Cond.static y ∈ TB ∧ Cond.initialized y.cls ∈ TB
abbrev KD (y : MethodName) (n : Nat) : Prop := y.cls ≠ "java/lang/invoke/MethodHandle" ∧ y.cls ≠ "java/lang/invoke/VarHandle" ∧ (parseMethodDescriptor y.desc).map (fun d => d.parameters.length) = some n
theorem g_V (K : KV y bytes maxL ret) (hm : Cond.methodLink own index y ∈ TB) : GoodIn TB (wsV own index y.cls y (.code y bytes maxL ret :: TB)) := by
  intro w hw
  have hin : w ∈ TB := by
    simp only [wsV, List.cons_append, List.nil_append, List.mem_cons] at hw
    rcases hw with rfl | rfl | rfl | rfl | rfl | hw
    · exact hm
    · exact K.2.1
    · exact K.2.2.1
    · exact K.2.2.2
    · exact K.1
    · exact hw
  exact ⟨hin, tb_good hin⟩
theorem g_S (K : KS y bytes maxL ret) (hm : Cond.methodLink own index y ∈ TB) : GoodIn TB (va_wsS own index y (.code y bytes maxL ret :: TB)) := by
  intro w hw
  have hin : w ∈ TB := by
    simp only [va_wsS, List.cons_append, List.nil_append, List.mem_cons] at hw
    rcases hw with rfl | rfl | rfl | rfl | hw
    · exact hm
    · exact K.2.1
    · exact K.2.2
    · exact K.1
    · exact hw
  exact ⟨hin, tb_good hin⟩
theorem x_Vi {r : Int32} (X : CX p s m args c cc own D cA) (hml : c.maxLocals = nL) (hsz : ls.size = nL) (hZ : SZ stb tz A s s.heap) (hA : ∀ q, s.heap.size ≤ q → A q) (h : WD D A s (w σ) H locs) (hM : Ki l D cA tz w y (.code y bytes maxL ret :: TB) rm (.ref b :: As) σ r σ') (K : KV y bytes maxL ret) (hm : Cond.methodLink own index y ∈ TB) (hd : KD y n) (hrm : rm.cells = 0 ∧ rm.slots = 0 ∧ rm.frames + 1 ≤ R.frames ∧ 8 + (maxL + 11) + rm.locals ≤ R.locals)
    (q0 : Nat) (he : (w σ)[q0]? = some (b, .inr (ci, fs))) (hc : classes[ci]? = some q) (hqC : q.1 = y.cls) (hn : As.length = n) (hst : st = As.reverse ++ .ref b :: rest) (hro : (rest.map fun v => v.category).sum ≤ 8) (hdg : decode cc pc = .ok (.invokevirtual index, 3))
    (kk : ∀ (H1 : Heap) (locs1 : List Loc), WD D A s (w σ') H1 locs1 → W p l e R s m args below meth c H1 locs1 0 0 Q (F0 m (pc + 3) ls (.int r :: rest))) : W p l e R s m args below meth c H locs 0 0 Q (F0 m pc ls st) := by
  subst hst
  have hFc := x_fr hA h
  refine va_calli (va_runV (As := As) (rest := rest) (C := y.cls) ⟨X.1, X.2.1, hml, X.2.2.1, X.2.2.2.1⟩ (hM H.size) (cwV n X.2.2.2.1 (g_V K hm) rfl hrm.1 hrm.2.1 ⟨rfl, hd⟩ hrm.2.2) ⟨PW_blind, by rw [← hqC]; exact va_recv X.2.2.2.2 h.1 hc he, fun U hU hW => ⟨rfl, x_pre X hZ hA h U hU hW⟩⟩ rfl hn hsz rfl (lv_room hro) hdg ⟨Nat.zero_le _, Nat.zero_le _⟩) h.2.2 (fun q _ h => hFc q h) hFc (fun r2 u t H1 locs1 ht hvm hw hB hz1 hk1 hS => ?_)
  subst hw
  obtain ⟨hP1, hK1, hD1⟩ := hB
  rw [ht] at hP1
  exact kk H1 locs1 ⟨hP1, hD1.weaken (fun _ q _ hq => hFc q.1 hq), hS⟩
theorem x_Vl {r : Int64} (X : CX p s m args c cc own D cA) (hml : c.maxLocals = nL) (hsz : ls.size = nL) (hZ : SZ stb tz A s s.heap) (hA : ∀ q, s.heap.size ≤ q → A q) (h : WD D A s (w σ) H locs) (hM : Kl l D cA tz w y (.code y bytes maxL ret :: TB) rm (.ref b :: As) σ r σ') (K : KV y bytes maxL ret) (hm : Cond.methodLink own index y ∈ TB) (hd : KD y n) (hrm : rm.cells = 0 ∧ rm.slots = 0 ∧ rm.frames + 1 ≤ R.frames ∧ 8 + (maxL + 11) + rm.locals ≤ R.locals)
    (q0 : Nat) (he : (w σ)[q0]? = some (b, .inr (ci, fs))) (hc : classes[ci]? = some q) (hqC : q.1 = y.cls) (hn : As.length = n) (hst : st = As.reverse ++ .ref b :: rest) (hro : (rest.map fun v => v.category).sum ≤ 8) (hdg : decode cc pc = .ok (.invokevirtual index, 3))
    (kk : ∀ (H1 : Heap) (locs1 : List Loc), WD D A s (w σ') H1 locs1 → W p l e R s m args below meth c H1 locs1 0 0 Q (F0 m (pc + 3) ls (.long r :: rest))) : W p l e R s m args below meth c H locs 0 0 Q (F0 m pc ls st) := by
  subst hst
  have hFc := x_fr hA h
  refine va_calll (va_runV (As := As) (rest := rest) (C := y.cls) ⟨X.1, X.2.1, hml, X.2.2.1, X.2.2.2.1⟩ (hM H.size) (cwV n X.2.2.2.1 (g_V K hm) rfl hrm.1 hrm.2.1 ⟨rfl, hd⟩ hrm.2.2) ⟨PW_blind, by rw [← hqC]; exact va_recv X.2.2.2.2 h.1 hc he, fun U hU hW => ⟨rfl, x_pre X hZ hA h U hU hW⟩⟩ rfl hn hsz rfl (lv_room hro) hdg ⟨Nat.zero_le _, Nat.zero_le _⟩) h.2.2 (fun q _ h => hFc q h) hFc (fun r2 u t H1 locs1 ht hvm hw hB hz1 hk1 hS => ?_)
  subst hw
  obtain ⟨hP1, hK1, hD1⟩ := hB
  rw [ht] at hP1
  exact kk H1 locs1 ⟨hP1, hD1.weaken (fun _ q _ hq => hFc q.1 hq), hS⟩
theorem x_Vv (X : CX p s m args c cc own D cA) (hml : c.maxLocals = nL) (hsz : ls.size = nL) (hZ : SZ stb tz A s s.heap) (hA : ∀ q, s.heap.size ≤ q → A q) (h : WD D A s (w σ) H locs) (hM : Kv l D cA tz w y (.code y bytes maxL ret :: TB) rm (.ref b :: As) σ σ') (K : KV y bytes maxL ret) (hm : Cond.methodLink own index y ∈ TB) (hd : KD y n) (hrm : rm.cells = 0 ∧ rm.slots = 0 ∧ rm.frames + 1 ≤ R.frames ∧ 8 + (maxL + 11) + rm.locals ≤ R.locals)
    (q0 : Nat) (he : (w σ)[q0]? = some (b, .inr (ci, fs))) (hc : classes[ci]? = some q) (hqC : q.1 = y.cls) (hn : As.length = n) (hst : st = As.reverse ++ .ref b :: rest) (hro : (rest.map fun v => v.category).sum ≤ 8) (hdg : decode cc pc = .ok (.invokevirtual index, 3))
    (kk : ∀ (H1 : Heap) (locs1 : List Loc), WD D A s (w σ') H1 locs1 → W p l e R s m args below meth c H1 locs1 0 0 Q (F0 m (pc + 3) ls rest)) : W p l e R s m args below meth c H locs 0 0 Q (F0 m pc ls st) := by
  subst hst
  have hFc := x_fr hA h
  refine va_callv (va_runV (As := As) (rest := rest) (C := y.cls) ⟨X.1, X.2.1, hml, X.2.2.1, X.2.2.2.1⟩ (hM H.size) (cwV n X.2.2.2.1 (g_V K hm) rfl hrm.1 hrm.2.1 ⟨rfl, hd⟩ hrm.2.2) ⟨PW_blind, by rw [← hqC]; exact va_recv X.2.2.2.2 h.1 hc he, fun U hU hW => ⟨rfl, x_pre X hZ hA h U hU hW⟩⟩ rfl hn hsz rfl (lv_room hro) hdg ⟨Nat.zero_le _, Nat.zero_le _⟩) h.2.2 (fun q _ h => hFc q h) hFc (fun u t H1 locs1 ht hvm hw hB hz1 hk1 hS => ?_)
  obtain ⟨hP1, hK1, hD1⟩ := hB
  rw [ht] at hP1
  exact kk H1 locs1 ⟨hP1, hD1.weaken (fun _ q _ hq => hFc q.1 hq), hS⟩
theorem x_Si {r : Int32} (X : CX p s m args c cc own D cA) (hml : c.maxLocals = nL) (hsz : ls.size = nL) (hZ : SZ stb tz A s s.heap) (hA : ∀ q, s.heap.size ≤ q → A q) (h : WD D A s (w σ) H locs) (hM : Ki l D cA tz w y (.code y bytes maxL ret :: TB) rm As σ r σ') (K : KS y bytes maxL ret) (hm : Cond.methodLink own index y ∈ TB) (hd : KD y n) (hrm : rm.cells = 0 ∧ rm.slots = 0 ∧ rm.frames + 1 ≤ R.frames ∧ 8 + (maxL + 11) + rm.locals ≤ R.locals)
    (hn : As.length = n) (hst : st = As.reverse ++ rest) (hro : (rest.map fun v => v.category).sum ≤ 8) (hdg : decode cc pc = .ok (.invokestatic index, 3))
    (kk : ∀ (H1 : Heap) (locs1 : List Loc), WD D A s (w σ') H1 locs1 → W p l e R s m args below meth c H1 locs1 0 0 Q (F0 m (pc + 3) ls (.int r :: rest))) : W p l e R s m args below meth c H locs 0 0 Q (F0 m pc ls st) := by
  subst hst
  have hFc := x_fr hA h
  refine va_calli (va_runS (As := As) (rest := rest) ⟨X.1, X.2.1, hml, X.2.2.1, X.2.2.2.1⟩ (hM H.size) (va_cwS n X.2.2.2.1 (g_S K hm) rfl hrm.1 hrm.2.1 hd hrm.2.2) ⟨PW_blind, fun U hU hW => ⟨rfl, x_pre X hZ hA h U hU hW⟩⟩ rfl hn hsz rfl (lv_room hro) hdg ⟨Nat.zero_le _, Nat.zero_le _⟩) h.2.2 (fun q _ h => hFc q h) hFc (fun r2 u t H1 locs1 ht hvm hw hB hz1 hk1 hS => ?_)
  subst hw
  obtain ⟨hP1, hK1, hD1⟩ := hB
  rw [ht] at hP1
  exact kk H1 locs1 ⟨hP1, hD1.weaken (fun _ q _ hq => hFc q.1 hq), hS⟩
theorem x_Sl {r : Int64} (X : CX p s m args c cc own D cA) (hml : c.maxLocals = nL) (hsz : ls.size = nL) (hZ : SZ stb tz A s s.heap) (hA : ∀ q, s.heap.size ≤ q → A q) (h : WD D A s (w σ) H locs) (hM : Kl l D cA tz w y (.code y bytes maxL ret :: TB) rm As σ r σ') (K : KS y bytes maxL ret) (hm : Cond.methodLink own index y ∈ TB) (hd : KD y n) (hrm : rm.cells = 0 ∧ rm.slots = 0 ∧ rm.frames + 1 ≤ R.frames ∧ 8 + (maxL + 11) + rm.locals ≤ R.locals)
    (hn : As.length = n) (hst : st = As.reverse ++ rest) (hro : (rest.map fun v => v.category).sum ≤ 8) (hdg : decode cc pc = .ok (.invokestatic index, 3))
    (kk : ∀ (H1 : Heap) (locs1 : List Loc), WD D A s (w σ') H1 locs1 → W p l e R s m args below meth c H1 locs1 0 0 Q (F0 m (pc + 3) ls (.long r :: rest))) : W p l e R s m args below meth c H locs 0 0 Q (F0 m pc ls st) := by
  subst hst
  have hFc := x_fr hA h
  refine va_calll (va_runS (As := As) (rest := rest) ⟨X.1, X.2.1, hml, X.2.2.1, X.2.2.2.1⟩ (hM H.size) (va_cwS n X.2.2.2.1 (g_S K hm) rfl hrm.1 hrm.2.1 hd hrm.2.2) ⟨PW_blind, fun U hU hW => ⟨rfl, x_pre X hZ hA h U hU hW⟩⟩ rfl hn hsz rfl (lv_room hro) hdg ⟨Nat.zero_le _, Nat.zero_le _⟩) h.2.2 (fun q _ h => hFc q h) hFc (fun r2 u t H1 locs1 ht hvm hw hB hz1 hk1 hS => ?_)
  subst hw
  obtain ⟨hP1, hK1, hD1⟩ := hB
  rw [ht] at hP1
  exact kk H1 locs1 ⟨hP1, hD1.weaken (fun _ q _ hq => hFc q.1 hq), hS⟩
theorem x_Sv (X : CX p s m args c cc own D cA) (hml : c.maxLocals = nL) (hsz : ls.size = nL) (hZ : SZ stb tz A s s.heap) (hA : ∀ q, s.heap.size ≤ q → A q) (h : WD D A s (w σ) H locs) (hM : Kv l D cA tz w y (.code y bytes maxL ret :: TB) rm As σ σ') (K : KS y bytes maxL ret) (hm : Cond.methodLink own index y ∈ TB) (hd : KD y n) (hrm : rm.cells = 0 ∧ rm.slots = 0 ∧ rm.frames + 1 ≤ R.frames ∧ 8 + (maxL + 11) + rm.locals ≤ R.locals)
    (hn : As.length = n) (hst : st = As.reverse ++ rest) (hro : (rest.map fun v => v.category).sum ≤ 8) (hdg : decode cc pc = .ok (.invokestatic index, 3))
    (kk : ∀ (H1 : Heap) (locs1 : List Loc), WD D A s (w σ') H1 locs1 → W p l e R s m args below meth c H1 locs1 0 0 Q (F0 m (pc + 3) ls rest)) : W p l e R s m args below meth c H locs 0 0 Q (F0 m pc ls st) := by
  subst hst
  have hFc := x_fr hA h
  refine va_callv (va_runS (As := As) (rest := rest) ⟨X.1, X.2.1, hml, X.2.2.1, X.2.2.2.1⟩ (hM H.size) (va_cwS n X.2.2.2.1 (g_S K hm) rfl hrm.1 hrm.2.1 hd hrm.2.2) ⟨PW_blind, fun U hU hW => ⟨rfl, x_pre X hZ hA h U hU hW⟩⟩ rfl hn hsz rfl (lv_room hro) hdg ⟨Nat.zero_le _, Nat.zero_le _⟩) h.2.2 (fun q _ h => hFc q h) hFc (fun u t H1 locs1 ht hvm hw hB hz1 hk1 hS => ?_)
  obtain ⟨hP1, hK1, hD1⟩ := hB
  rw [ht] at hP1
  exact kk H1 locs1 ⟨hP1, hD1.weaken (fun _ q _ hq => hFc q.1 hq), hS⟩
end XRows
theorem pr_inj {α β : Type} {a c : α} {b d : β} (h : some (a, b) = some (c, d)) : a = c ∧ b = d := by
  cases h; exact ⟨rfl, rfl⟩
section XOpen
variable {l : Launch} {D : va_G} {cA : Nat → ClassId} {tz : Nat → Nat} {y : MethodName} {cc : ByteArray} {maxL : Nat} {rm : Room} {av : List Value} {S : Type} {w : S → va_W} {σ σ' : S} {own : String}
theorem x_openi {r : Int32} (hown : y.cls = own) (hpl : plainName y.cls = true)
    (body : ∀ (p : Program) (e : Env) (s : State) (m : MethodId) (args : Array Value) (below : List Frame) (meth : Method) (c : Code) (A : Nat → Prop) (Q : State → Prop), CX p s m args c cc own D cA → c.maxLocals = maxL → SZ stb tz A s s.heap → (∀ q, s.heap.size ≤ q → A q) → ∀ (H : Heap) (locs : List Loc) (ls : Array Slot), WD D A s (w σ) H locs → lv_has ls maxL (lv_args 0 av) →
      (∀ (v : Int32) (σ2 : S) (H : Heap) (locs : List Loc) (pc : Nat) (ls : Array Slot), some (v, σ2) = some (r, σ') → WD D A s (w σ2) H locs → decode cc pc = .ok (.ireturn, 1) → W p l e rm s m args below meth c H locs 0 0 Q (F0 m pc ls [.int v])) → W p l e rm s m args below meth c H locs 0 0 Q (F0 m 0 ls [])) (hsl : (lg_sl av).length ≤ maxL := by exact Nat.le_of_ble_eq_true rfl) :
    Ki l D cA tz w y (.code y cc maxL (some .int) :: TB) rm av σ r σ' := by
  intro sz
  refine Met.ofW (cc := cc) (maxL := maxL) (ret := some .int) hpl rfl ?_
  intro p e s m args below meth c s₁ B hml hv
  obtain ⟨rfl, hsz, hP, hK, hD0, hZ⟩ := hv
  subst hsz
  subst hown
  have hts := atoms_spec (ws := Cond.code y cc maxL (some .int) :: TB) B.pre
  have hl := lv_entry av (n := maxL) hsl
  rw [lg_entry_eq]
  have X : CX p s m av.toArray c cc y.cls D cA := ⟨B.exec, B.bytes, findClass_of_methodNamed B.named, fun w hw => hts w (List.mem_cons_of_mem _ hw), hK⟩
  refine body p e s m av.toArray below meth c (va_A (w σ) s.heap.size) _ X hml hZ (fun q h => Or.inr h) s.heap [] _ ⟨hP, hD0.self, va_S.rf⟩ hl (fun v σ2 H locs pc ls hv h hdg => ?_)
  obtain ⟨rfl, rfl⟩ := pr_inj hv
  have hlocks := B.notSynchronized
  exact W.iret B.exec B.bytes B.returns (fun t ht hW => ⟨⟨_, (), rfl, rfl, by rw [ht]; exact h.1, va_K.moved hW.alike hK, h.2.1⟩, h.2.2.F ht⟩) h.2.2.2.2 hdg
theorem x_openf {r : Int32} (hown : y.cls = own) (hpl : plainFor y = true)
    (body : ∀ (p : Program) (e : Env) (s : State) (m : MethodId) (args : Array Value) (below : List Frame) (meth : Method) (c : Code) (A : Nat → Prop) (Q : State → Prop), CX p s m args c cc own D cA → c.maxLocals = maxL → SZ stb tz A s s.heap → (∀ q, s.heap.size ≤ q → A q) → ∀ (H : Heap) (locs : List Loc) (ls : Array Slot), WD D A s (w σ) H locs → lv_has ls maxL (lv_args 0 av) →
      (∀ (v : Int32) (σ2 : S) (H : Heap) (locs : List Loc) (pc : Nat) (ls : Array Slot), some (v, σ2) = some (r, σ') → WD D A s (w σ2) H locs → decode cc pc = .ok (.ireturn, 1) → W p l e rm s m args below meth c H locs 0 0 Q (F0 m pc ls [.int v])) → W p l e rm s m args below meth c H locs 0 0 Q (F0 m 0 ls [])) (hsl : (lg_sl av).length ≤ maxL := by exact Nat.le_of_ble_eq_true rfl) :
    Ki l D cA tz w y (.code y cc maxL (some .int) :: TB) rm av σ r σ' := by
  intro sz
  refine va_MetF (cc := cc) (maxL := maxL) (ret := some .int) hpl rfl ?_
  intro p e s m args below meth c s₁ B hml hv
  obtain ⟨rfl, hsz, hP, hK, hD0, hZ⟩ := hv
  subst hsz
  subst hown
  have hts := atoms_spec (ws := Cond.code y cc maxL (some .int) :: TB) B.pre
  have hl := lv_entry av (n := maxL) hsl
  rw [lg_entry_eq]
  have X : CX p s m av.toArray c cc y.cls D cA := ⟨B.exec, B.bytes, findClass_of_methodNamed B.named, fun w hw => hts w (List.mem_cons_of_mem _ hw), hK⟩
  refine body p e s m av.toArray below meth c (va_A (w σ) s.heap.size) _ X hml hZ (fun q h => Or.inr h) s.heap [] _ ⟨hP, hD0.self, va_S.rf⟩ hl (fun v σ2 H locs pc ls hv h hdg => ?_)
  obtain ⟨rfl, rfl⟩ := pr_inj hv
  have hlocks := B.notSynchronized
  exact W.iret B.exec B.bytes B.returns (fun t ht hW => ⟨⟨_, (), rfl, rfl, by rw [ht]; exact h.1, va_K.moved hW.alike hK, h.2.1⟩, h.2.2.F ht⟩) h.2.2.2.2 hdg
theorem x_openz {r : Int32} (hown : y.cls = own) (hpl : plainName y.cls = true)
    (body : ∀ (p : Program) (e : Env) (s : State) (m : MethodId) (args : Array Value) (below : List Frame) (meth : Method) (c : Code) (A : Nat → Prop) (Q : State → Prop), CX p s m args c cc own D cA → c.maxLocals = maxL → SZ stb tz A s s.heap → (∀ q, s.heap.size ≤ q → A q) → ∀ (H : Heap) (locs : List Loc) (ls : Array Slot), WD D A s (w σ) H locs → lv_has ls maxL (lv_args 0 av) →
      (∀ (v : Int32) (σ2 : S) (H : Heap) (locs : List Loc) (pc : Nat) (ls : Array Slot), narrow .boolean (.int v) = .int v → some (v, σ2) = some (r, σ') → WD D A s (w σ2) H locs → decode cc pc = .ok (.ireturn, 1) → W p l e rm s m args below meth c H locs 0 0 Q (F0 m pc ls [.int v])) → W p l e rm s m args below meth c H locs 0 0 Q (F0 m 0 ls [])) (hsl : (lg_sl av).length ≤ maxL := by exact Nat.le_of_ble_eq_true rfl) :
    Ki l D cA tz w y (.code y cc maxL (some .boolean) :: TB) rm av σ r σ' := by
  intro sz
  refine Met.ofW (cc := cc) (maxL := maxL) (ret := some .boolean) hpl rfl ?_
  intro p e s m args below meth c s₁ B hml hv
  obtain ⟨rfl, hsz, hP, hK, hD0, hZ⟩ := hv
  subst hsz
  subst hown
  have hts := atoms_spec (ws := Cond.code y cc maxL (some .boolean) :: TB) B.pre
  have hl := lv_entry av (n := maxL) hsl
  rw [lg_entry_eq]
  have X : CX p s m av.toArray c cc y.cls D cA := ⟨B.exec, B.bytes, findClass_of_methodNamed B.named, fun w hw => hts w (List.mem_cons_of_mem _ hw), hK⟩
  refine body p e s m av.toArray below meth c (va_A (w σ) s.heap.size) _ X hml hZ (fun q h => Or.inr h) s.heap [] _ ⟨hP, hD0.self, va_S.rf⟩ hl (fun v σ2 H locs pc ls hz hv h hdg => ?_)
  obtain ⟨rfl, rfl⟩ := pr_inj hv
  have hlocks := B.notSynchronized
  exact W.zret B.exec B.bytes B.returns hz (fun t ht hW => ⟨⟨_, (), rfl, rfl, by rw [ht]; exact h.1, va_K.moved hW.alike hK, h.2.1⟩, h.2.2.F ht⟩) h.2.2.2.2 hdg
theorem x_openl {r : Int64} (hown : y.cls = own) (hpl : plainName y.cls = true)
    (body : ∀ (p : Program) (e : Env) (s : State) (m : MethodId) (args : Array Value) (below : List Frame) (meth : Method) (c : Code) (A : Nat → Prop) (Q : State → Prop), CX p s m args c cc own D cA → c.maxLocals = maxL → SZ stb tz A s s.heap → (∀ q, s.heap.size ≤ q → A q) → ∀ (H : Heap) (locs : List Loc) (ls : Array Slot), WD D A s (w σ) H locs → lv_has ls maxL (lv_args 0 av) →
      (∀ (v : Int64) (σ2 : S) (H : Heap) (locs : List Loc) (pc : Nat) (ls : Array Slot), some (v, σ2) = some (r, σ') → WD D A s (w σ2) H locs → decode cc pc = .ok (.lreturn, 1) → W p l e rm s m args below meth c H locs 0 0 Q (F0 m pc ls [.long v])) → W p l e rm s m args below meth c H locs 0 0 Q (F0 m 0 ls [])) (hsl : (lg_sl av).length ≤ maxL := by exact Nat.le_of_ble_eq_true rfl) :
    Kl l D cA tz w y (.code y cc maxL (some .long) :: TB) rm av σ r σ' := by
  intro sz
  refine Met.ofW (cc := cc) (maxL := maxL) (ret := some .long) hpl rfl ?_
  intro p e s m args below meth c s₁ B hml hv
  obtain ⟨rfl, hsz, hP, hK, hD0, hZ⟩ := hv
  subst hsz
  subst hown
  have hts := atoms_spec (ws := Cond.code y cc maxL (some .long) :: TB) B.pre
  have hl := lv_entry av (n := maxL) hsl
  rw [lg_entry_eq]
  have X : CX p s m av.toArray c cc y.cls D cA := ⟨B.exec, B.bytes, findClass_of_methodNamed B.named, fun w hw => hts w (List.mem_cons_of_mem _ hw), hK⟩
  refine body p e s m av.toArray below meth c (va_A (w σ) s.heap.size) _ X hml hZ (fun q h => Or.inr h) s.heap [] _ ⟨hP, hD0.self, va_S.rf⟩ hl (fun v σ2 H locs pc ls hv h hdg => ?_)
  obtain ⟨rfl, rfl⟩ := pr_inj hv
  have hlocks := B.notSynchronized
  exact W.lret B.exec B.bytes B.returns (fun t ht hW => ⟨⟨_, (), rfl, rfl, by rw [ht]; exact h.1, va_K.moved hW.alike hK, h.2.1⟩, h.2.2.F ht⟩) h.2.2.2.2 hdg
theorem x_openv {r : Unit} (hown : y.cls = own) (hpl : plainName y.cls = true)
    (body : ∀ (p : Program) (e : Env) (s : State) (m : MethodId) (args : Array Value) (below : List Frame) (meth : Method) (c : Code) (A : Nat → Prop) (Q : State → Prop), CX p s m args c cc own D cA → c.maxLocals = maxL → SZ stb tz A s s.heap → (∀ q, s.heap.size ≤ q → A q) → ∀ (H : Heap) (locs : List Loc) (ls : Array Slot), WD D A s (w σ) H locs → lv_has ls maxL (lv_args 0 av) →
      (∀ (σ2 : S) (H : Heap) (locs : List Loc) (pc : Nat) (ls : Array Slot), some ((), σ2) = some (r, σ') → WD D A s (w σ2) H locs → decode cc pc = .ok (.return_, 1) → W p l e rm s m args below meth c H locs 0 0 Q (F0 m pc ls [])) → W p l e rm s m args below meth c H locs 0 0 Q (F0 m 0 ls [])) (hsl : (lg_sl av).length ≤ maxL := by exact Nat.le_of_ble_eq_true rfl) :
    Kv l D cA tz w y (.code y cc maxL none :: TB) rm av σ σ' := by
  intro sz
  refine Met.ofW (cc := cc) (maxL := maxL) (ret := none) hpl rfl ?_
  intro p e s m args below meth c s₁ B hml hv
  obtain ⟨rfl, hsz, hP, hK, hD0, hZ⟩ := hv
  subst hsz
  subst hown
  have hts := atoms_spec (ws := Cond.code y cc maxL none :: TB) B.pre
  have hl := lv_entry av (n := maxL) hsl
  rw [lg_entry_eq]
  have X : CX p s m av.toArray c cc y.cls D cA := ⟨B.exec, B.bytes, findClass_of_methodNamed B.named, fun w hw => hts w (List.mem_cons_of_mem _ hw), hK⟩
  refine body p e s m av.toArray below meth c (va_A (w σ) s.heap.size) _ X hml hZ (fun q h => Or.inr h) s.heap [] _ ⟨hP, hD0.self, va_S.rf⟩ hl (fun σ2 H locs pc ls hv h hdg => ?_)
  obtain ⟨-, rfl⟩ := pr_inj hv
  have hlocks := B.notSynchronized
  exact W.vret B.exec B.bytes B.returns (fun t ht hW => ⟨⟨(), rfl, trivial, by rw [ht]; exact h.1, va_K.moved hW.alike hK, h.2.1⟩, h.2.2.F ht⟩) h.2.2.2.2 hdg
end XOpen
/-! rows for methods that make cells: constructors (own work) -/
/-- a constructor's contract: from the cells ws0 it leaves Wf q, q being the addresses of what it has made -/
def Kc (l : Launch) (D : va_G) (cA : Nat → ClassId) (tz : Nat → Nat) (y : MethodName) (wc : List Cond) (rm : Room) (av : List Value) (ws0 : va_W) (Wf : (Nat → Nat) → va_W) (mc ms : Nat) : Prop := ∀ sz : Nat, Met l y wc rm (va_Pc av (PW D cA tz ws0 sz)) (va_Qv (fun (_ : Unit) => True) (fun _ t => ∃ q : Nat → Nat, AW D cA (va_A ws0 sz) (Wf q) t) (va_A ws0 sz)) mc ms (va_A ws0 sz)
section XCtor
variable {p : Program} {l : Launch} {e : Env} {R : Room} {s : State} {m : MethodId} {args : Array Value} {below : List Frame} {meth : Method} {c : Code} {H : Heap} {locs : List Loc} {cells slots : Nat} {Q : State → Prop}
variable {cc : ByteArray} {pc : Nat} {ls : Array Slot} {rest : List Value} {D : va_G} {cA : Nat → ClassId} {tz : Nat → Nat} {A : Nat → Prop} {ws : va_W} {own : String} {index nL : Nat}
theorem x_putF (X : CX p s m args c cc own D cA) (h : WD D A s ws H locs) (q0 k : Nat) {a ci N : Nat} {fs : List Value} {C : String} {T : u_T} {v : Value} {ws' : va_W} (he : ws[q0]? = some (a, .inr (ci, fs))) (hc : classes[ci]? = some (C, T, N)) (hin : ∀ x ∈ u_ws C T N, x ∈ TB) (hk : k < N) (ty0 : Nat → FieldType) (hty : ∀ k, k < N → parseFieldDescriptor (T k).2.2.1 = some (ty0 k)) (hnm : ∀ a, a < N → ∀ b, b < N → a ≠ b → (T a).2.1 ≠ (T b).2.1) (hfin : (T k).2.2.2 = true) (hi : meth.name = "<init>") (hdecl : (T k).1 = own) {ty : FieldType} (hd : parseFieldDescriptor (T k).2.2.1 = some ty) (hn : narrow ty v = v) (hfit : fits ty v = true) (hlen : k < fs.length) (hws : ws.set q0 (a, .inr (ci, fs.set k v)) = ws') (hl : Cond.fieldLink own index (T k).1 (T k).2.1 (T k).2.2.1 ∈ TB) (hdg : decode cc pc = .ok (.putfield index, 3))
    (kk : ∀ (H1 : Heap) (locs1 : List Loc), WD D A s ws' H1 locs1 → W p l e R s m args below meth c H1 locs1 cells slots Q (F0 m (pc + 3) ls rest)) : W p l e R s m args below meth c H locs cells slots Q (F0 m pc ls (v :: .ref a :: rest)) := by
  subst hws
  exact va_putF (D := D) X.1 X.2.1 X.2.2.2.1 hin ty0 hty hnm X.2.2.1 X.2.2.2.2 h.1 h.2.1 h.2.2 q0 he hc k hk (X.2.2.2.1 _ hl) (fun _ h9 => h9) hfin hi hdecl hd hn hfit hlen hdg (fun H1 locs1 hP hD hS => kk H1 locs1 ⟨hP, hD, hS⟩)
theorem x_new (X : CX p s m args c cc own D cA) (hA : ∀ q, s.heap.size ≤ q → A q) (h : WD D A s ws H locs) (ci : Nat) {C : String} {T : u_T} {N : Nat} (hc : classes[ci]? = some (C, T, N)) (hin : ∀ x ∈ u_ws C T N, x ∈ TB) (ty : Nat → FieldType) (hty : ∀ k, k < N → parseFieldDescriptor (T k).2.2.1 = some (ty k)) (hcl : Cond.classLink own index C ∈ TB) (hinst : Cond.instantiable C N ∈ TB) (hini : Cond.initialized C ∈ TB) (fs : List Value) (hfs : ∀ j, j < N → defaultValue (ty j) = vp_V fs j) {cells2 slots2 : Nat} (hc2 : cells + 1 = cells2) (hs2 : slots + N = slots2) (hcells : cells2 ≤ R.cells) (hslots : slots2 ≤ R.slots) {ws2 : Nat → va_W} (hws : ∀ q, ws ++ [(q, .inr (ci, fs))] = ws2 q) (hdg : decode cc pc = .ok (.new index, 3))
    (kk : ∀ (q : Nat) (H1 : Heap), WD D A s (ws2 q) H1 locs → W p l e R s m args below meth c H1 locs cells2 slots2 Q (F0 m (pc + 3) ls (.ref q :: rest))) : W p l e R s m args below meth c H locs cells slots Q (F0 m pc ls rest) := by
  subst hc2; subst hs2
  exact va_new (D := D) X.1 X.2.1 X.2.2.2.1 hin ty hty X.2.2.1 (X.2.2.2.1 _ hcl) (X.2.2.2.1 _ hinst) (X.2.2.2.1 _ hini) X.2.2.2.2 h.1 h.2.1 h.2.2 hA hc hfs hcells hslots hdg (fun q H1 hP hD hS => kk q H1 ⟨hws q ▸ hP, hws q ▸ hD, hS⟩)
theorem x_newa (X : CX p s m args c cc own D cA) (hA : ∀ q, s.heap.size ≤ q → A q) (h : WD D A s ws H locs) (harr : Cond.arrayClass .int ∈ TB) {n : Int32} (N : Nat) (hn : ¬ n < 0) (hN : n.toNatClampNeg = N) (hby : N * 4 ≤ 536870912) {cells2 slots2 : Nat} (hc2 : cells + 1 = cells2) (hs2 : slots + N = slots2) (hcells : cells2 ≤ R.cells) (hslots : slots2 ≤ R.slots) {ws2 : Nat → va_W} (hws : ∀ q, ws ++ [(q, .inl (cA 0, N, .inl (fun _ => 0)))] = ws2 q) (hdg : decode cc pc = .ok (.newarray .int, 2))
    (kk : ∀ (q : Nat) (H1 : Heap), WD D A s (ws2 q) H1 locs → W p l e R s m args below meth c H1 locs cells2 slots2 Q (F0 m (pc + 2) ls (.ref q :: rest))) : W p l e R s m args below meth c H locs cells slots Q (F0 m pc ls (.int n :: rest)) := by
  subst hc2; subst hs2
  refine va_newa (D := D) (atype := .int) (ty := .int) (a0 := (N, .inl (fun _ => 0))) X.1 X.2.1 (X.2.2.2.1 _ harr) rfl X.2.2.2.2 h.1 h.2.1 h.2.2 hA (fun _ => rfl) hn hN hby hcells hslots hdg (fun q cB H1 hK hP hD hS => ?_)
  have e1 : s.vm.findClass ("[" ++ FieldType.int.toString) = some (cA 0) := (hK.2 0 _ rfl).2
  have e2 : s.vm.findClass ("[" ++ FieldType.int.toString) = some cB := (hK.2 2 _ rfl).2
  have e3 : cB = cA 0 := Option.some.inj (e2.symm.trans e1)
  subst e3
  exact kk q H1 ⟨hws q ▸ hP, hws q ▸ hD, hS⟩
theorem x_newz (X : CX p s m args c cc own D cA) (hA : ∀ q, s.heap.size ≤ q → A q) (h : WD D A s ws H locs) (harr : Cond.arrayClass .boolean ∈ TB) {n : Int32} (N : Nat) (hn : ¬ n < 0) (hN : n.toNatClampNeg = N) (hby : N * 1 ≤ 536870912) {cells2 slots2 : Nat} (hc2 : cells + 1 = cells2) (hs2 : slots + N = slots2) (hcells : cells2 ≤ R.cells) (hslots : slots2 ≤ R.slots) {ws2 : Nat → va_W} (hws : ∀ q, ws ++ [(q, .inl (cA 1, N, .inl (fun _ => 0)))] = ws2 q) (hdg : decode cc pc = .ok (.newarray .boolean, 2))
    (kk : ∀ (q : Nat) (H1 : Heap), WD D A s (ws2 q) H1 locs → W p l e R s m args below meth c H1 locs cells2 slots2 Q (F0 m (pc + 2) ls (.ref q :: rest))) : W p l e R s m args below meth c H locs cells slots Q (F0 m pc ls (.int n :: rest)) := by
  subst hc2; subst hs2
  refine va_newa (D := D) (atype := .boolean) (ty := .boolean) (a0 := (N, .inl (fun _ => 0))) X.1 X.2.1 (X.2.2.2.1 _ harr) rfl X.2.2.2.2 h.1 h.2.1 h.2.2 hA (fun _ => rfl) hn hN hby hcells hslots hdg (fun q cB H1 hK hP hD hS => ?_)
  have e1 : s.vm.findClass ("[" ++ FieldType.boolean.toString) = some (cA 1) := (hK.2 1 _ rfl).2
  have e2 : s.vm.findClass ("[" ++ FieldType.boolean.toString) = some cB := (hK.2 2 _ rfl).2
  have e3 : cB = cA 1 := Option.some.inj (e2.symm.trans e1)
  subst e3
  exact kk q H1 ⟨hws q ▸ hP, hws q ▸ hD, hS⟩
theorem x_obj (X : CX p s m args c cc own D cA) (hml : c.maxLocals = nL) (hsz : ls.size = nL) (hm : Cond.methodLink own index objectInit ∈ TB) (hi : Cond.instanceMethod objectInit ∈ TB) (hk : Cond.code objectInit ⟨#[0xb1]⟩ 1 none ∈ TB) {a : Nat} (hdg : decode cc pc = .ok (.invokespecial index, 3)) (hf : 1 ≤ R.frames) (hl : (rest.map fun v => v.category).sum + 12 ≤ R.locals)
    (kk : W p l e R s m args below meth c H locs cells slots Q (F0 m (pc + 3) ls rest)) : W p l e R s m args below meth c H locs cells slots Q (F0 m pc ls (.ref a :: rest)) :=
  W.objInit X.1 X.2.1 X.2.2.1 (X.2.2.2.1 _ hm) (X.2.2.2.1 _ hi) (X.2.2.2.1 _ hk) rfl (hsz.trans hml.symm) rfl hdg hf (by show 2 * 0 + _ + 12 ≤ _; omega) kk
theorem x_frS (hA : ∀ q, s.heap.size ≤ q → A q) (h : WD D A s ws H locs) {wc : va_W} (isC : List Nat) (hC : isC.map (fun i => ws[i]?) = wc.map some) : ∀ q, va_A wc H.size q → A q := va_free h.2.1 h.2.2 hA isC hC
theorem x_preS (X : CX p s m args c cc own D cA) (hZ : SZ stb tz A s s.heap) (hA : ∀ q, s.heap.size ≤ q → A q) (h : WD D A s ws H locs) {wc : va_W} (isC : List Nat) (hn : va_nd isC = true) (hC : isC.map (fun i => ws[i]?) = wc.map some) (hC2 : isC.filterMap (fun i => ws[i]?) = wc) (U : State) (hU : U.heap = H) (hW : s.WarmedH U.vm) : PW D cA tz wc H.size U := by
  refine ⟨by rw [hU], by rw [hU]; exact h.1.sub isC hC2, va_K.moved hW.alike X.2.2.2.2, (h.2.1.sub isC hn hC).weaken (fun _ _ _ _ => trivial), ?_⟩
  rw [hU]
  exact ((hZ.kept (fun a h1 h2 => h.2.2.2.1 a h1 h2)).narrow (x_frS hA h isC hC)).moved hW.alike
variable {y : MethodName} {bytes : ByteArray} {maxL n : Nat} {ret : Option FieldType} {rm : Room} {As st : List Value} {b mc ms : Nat}
abbrev KI (y : MethodName) (bytes : ByteArray) (maxL : Nat) (ret : Option FieldType) : Prop := Cond.code y bytes maxL ret ∈ TB ∧ Cond.instanceMethod y ∈ TB ∧ Cond.initialized y.cls ∈ TB
theorem g_I (K : Cond.code y bytes maxL ret ∈ TB) : GoodIn TB (.code y bytes maxL ret :: TB) := by
  intro w hw
  have hin : w ∈ TB := by
    simp only [List.mem_cons] at hw
    rcases hw with rfl | hw
    · exact K
    · exact hw
  exact ⟨hin, tb_good hin⟩
theorem x_Iv (X : CX p s m args c cc own D cA) (hml : c.maxLocals = nL) (hsz : ls.size = nL) (hZ : SZ stb tz A s s.heap) (hA : ∀ q, s.heap.size ≤ q → A q) (h : WD D A s ws H locs) {wc wr : va_W} {Wf : (Nat → Nat) → va_W} (hM : Kc l D cA tz y (.code y bytes maxL none :: TB) rm (.ref b :: As) wc Wf mc ms) (K : KI y bytes maxL none) (hm : Cond.methodLink own index y ∈ TB) (hd : KD y n) (hy : y.name = "<init>") (hrm : rm.cells = mc ∧ rm.slots = ms ∧ rm.frames + 1 ≤ R.frames ∧ 8 + (maxL + 11) + rm.locals ≤ R.locals)
    (isC isR : List Nat) (hC : isC.map (fun i => ws[i]?) = wc.map some) (hC2 : isC.filterMap (fun i => ws[i]?) = wc) (hnC : va_nd isC = true) (hR : isR.map (fun i => ws[i]?) = wr.map some) (hnR : va_nd isR = true) (hdis : ∀ i ∈ isR, i ∉ isC) {cells2 slots2 : Nat} (hc2 : cells + mc = cells2) (hs2 : slots + ms = slots2) (hcells : cells2 ≤ R.cells) (hslots : slots2 ≤ R.slots) {ws2 : (Nat → Nat) → va_W} (hws : ∀ q, wr ++ Wf q = ws2 q) (hn : As.length = n) (hst : st = As.reverse ++ .ref b :: rest) (hro : (rest.map fun v => v.category).sum ≤ 8) (hdg : decode cc pc = .ok (.invokespecial index, 3))
    (kk : ∀ (q : Nat → Nat) (H1 : Heap) (locs1 : List Loc), WD D A s (ws2 q) H1 locs1 → W p l e R s m args below meth c H1 locs1 cells2 slots2 Q (F0 m (pc + 3) ls rest)) : W p l e R s m args below meth c H locs cells slots Q (F0 m pc ls st) := by
  subst hst; subst hc2; subst hs2
  have hFc := x_frS hA h isC hC
  refine va_callv (va_runI (As := As) (rest := rest) ⟨X.1, X.2.1, hml, X.2.2.1, X.2.2.2.1⟩ (hM H.size) (cwI n X.2.2.2.1 (g_I K.1) rfl hrm.1 hrm.2.1 (X.2.2.2.1 _ K.2.2) (X.2.2.2.1 _ hm) (X.2.2.2.1 _ K.2.1) hy hd hrm.2.2) ⟨PW_blind, fun U hU hW => ⟨rfl, x_preS X hZ hA h isC hnC hC hC2 U hU hW⟩⟩ rfl hn hsz rfl (lv_room hro) hdg ⟨hcells, hslots⟩) h.2.2 (fun q _ h => hFc q h) hFc (fun u t H1 locs1 ht hvm hw hB hz1 hk1 hS => ?_)
  obtain ⟨q, hP1, hK1, hD1⟩ := hB
  rw [ht] at hP1
  obtain ⟨hP, hD⟩ := va_join (wr := wr) (w1 := Wf q) h.1 h.2.1 isC isR hC hR hnR hdis hk1 hFc hP1 hD1
  exact kk q H1 locs1 ⟨hws q ▸ hP, hws q ▸ hD, hS⟩
theorem x_Mv (X : CX p s m args c cc own D cA) (hml : c.maxLocals = nL) (hsz : ls.size = nL) (hZ : SZ stb tz A s s.heap) (hA : ∀ q, s.heap.size ≤ q → A q) (h : WD D A s ws H locs) {wc wr : va_W} {Wf : (Nat → Nat) → va_W} (hM : Kc l D cA tz y (.code y bytes maxL none :: TB) rm (.ref b :: As) wc Wf mc ms) (K : KV y bytes maxL none) (hm : Cond.methodLink own index y ∈ TB) (hd : KD y n) (q0 : Nat) {ci : Nat} {fs : List Value} {q9 : vw_C} (he : ws[q0]? = some (b, .inr (ci, fs))) (hcl : classes[ci]? = some q9) (hqC : q9.1 = y.cls) (hrm : rm.cells = mc ∧ rm.slots = ms ∧ rm.frames + 1 ≤ R.frames ∧ 8 + (maxL + 11) + rm.locals ≤ R.locals)
    (isC isR : List Nat) (hC : isC.map (fun i => ws[i]?) = wc.map some) (hC2 : isC.filterMap (fun i => ws[i]?) = wc) (hnC : va_nd isC = true) (hR : isR.map (fun i => ws[i]?) = wr.map some) (hnR : va_nd isR = true) (hdis : ∀ i ∈ isR, i ∉ isC) {cells2 slots2 : Nat} (hc2 : cells + mc = cells2) (hs2 : slots + ms = slots2) (hcells : cells2 ≤ R.cells) (hslots : slots2 ≤ R.slots) {ws2 : (Nat → Nat) → va_W} (hws : ∀ q, wr ++ Wf q = ws2 q) (hn : As.length = n) (hst : st = As.reverse ++ .ref b :: rest) (hro : (rest.map fun v => v.category).sum ≤ 8) (hdg : decode cc pc = .ok (.invokevirtual index, 3))
    (kk : ∀ (q : Nat → Nat) (H1 : Heap) (locs1 : List Loc), WD D A s (ws2 q) H1 locs1 → W p l e R s m args below meth c H1 locs1 cells2 slots2 Q (F0 m (pc + 3) ls rest)) : W p l e R s m args below meth c H locs cells slots Q (F0 m pc ls st) := by
  subst hst; subst hc2; subst hs2
  have hFc := x_frS hA h isC hC
  refine va_callv (va_runV (As := As) (rest := rest) (C := y.cls) ⟨X.1, X.2.1, hml, X.2.2.1, X.2.2.2.1⟩ (hM H.size) (cwV n X.2.2.2.1 (g_V K hm) rfl hrm.1 hrm.2.1 ⟨rfl, hd⟩ hrm.2.2) ⟨PW_blind, by rw [← hqC]; exact va_recv X.2.2.2.2 h.1 hcl he, fun U hU hW => ⟨rfl, x_preS X hZ hA h isC hnC hC hC2 U hU hW⟩⟩ rfl hn hsz rfl (lv_room hro) hdg ⟨hcells, hslots⟩) h.2.2 (fun q _ h => hFc q h) hFc (fun u t H1 locs1 ht hvm hw hB hz1 hk1 hS => ?_)
  obtain ⟨q, hP1, hK1, hD1⟩ := hB
  rw [ht] at hP1
  obtain ⟨hP, hD⟩ := va_join (wr := wr) (w1 := Wf q) h.1 h.2.1 isC isR hC hR hnR hdis hk1 hFc hP1 hD1
  exact kk q H1 locs1 ⟨hws q ▸ hP, hws q ▸ hD, hS⟩
end XCtor
section XOpenC
variable {l : Launch} {D : va_G} {cA : Nat → ClassId} {tz : Nat → Nat} {y : MethodName} {cc : ByteArray} {maxL : Nat} {rm : Room} {av : List Value} {ws0 : va_W} {Wf : (Nat → Nat) → va_W} {mc ms : Nat} {own : String}
theorem x_openc (hown : y.cls = own) (hpl : plainName y.cls = true) (hnm : y.name = "<init>")
    (body : ∀ (p : Program) (e : Env) (s : State) (m : MethodId) (args : Array Value) (below : List Frame) (meth : Method) (c : Code) (A : Nat → Prop) (Q : State → Prop), CX p s m args c cc own D cA → c.maxLocals = maxL → meth.name = "<init>" → SZ stb tz A s s.heap → (∀ q, s.heap.size ≤ q → A q) → ∀ (H : Heap) (locs : List Loc) (ls : Array Slot), WD D A s ws0 H locs → lv_has ls maxL (lv_args 0 av) →
      (∀ (q : Nat → Nat) (H : Heap) (locs : List Loc) (pc : Nat) (ls : Array Slot), WD D A s (Wf q) H locs → decode cc pc = .ok (.return_, 1) → W p l e rm s m args below meth c H locs mc ms Q (F0 m pc ls [])) → W p l e rm s m args below meth c H locs 0 0 Q (F0 m 0 ls [])) (hsl : (lg_sl av).length ≤ maxL := by exact Nat.le_of_ble_eq_true rfl) :
    Kc l D cA tz y (.code y cc maxL none :: TB) rm av ws0 Wf mc ms := by
  intro sz
  refine Met.ofW (cc := cc) (maxL := maxL) (ret := none) hpl rfl ?_
  intro p e s m args below meth c s₁ B hml hv
  obtain ⟨rfl, hsz, hP, hK, hD0, hZ⟩ := hv
  subst hsz
  subst hown
  have hts := atoms_spec (ws := Cond.code y cc maxL none :: TB) B.pre
  have hl := lv_entry av (n := maxL) hsl
  rw [lg_entry_eq]
  have hin : meth.name = "<init>" := by rw [(name_of_methodNamed B.named B.method).1]; exact hnm
  have X : CX p s m av.toArray c cc y.cls D cA := ⟨B.exec, B.bytes, findClass_of_methodNamed B.named, fun w hw => hts w (List.mem_cons_of_mem _ hw), hK⟩
  refine body p e s m av.toArray below meth c (va_A ws0 s.heap.size) _ X hml hin hZ (fun q h => Or.inr h) s.heap [] _ ⟨hP, hD0.self, va_S.rf⟩ hl (fun q H locs pc ls h hdg => ?_)
  have hlocks := B.notSynchronized
  exact W.vret B.exec B.bytes B.returns (fun t ht hW => ⟨⟨(), rfl, trivial, q, by rw [ht]; exact h.1, va_K.moved hW.alike hK, h.2.1⟩, h.2.2.F ht⟩) h.2.2.2.2 hdg
theorem x_opend (hown : y.cls = own) (hpl : plainName y.cls = true)
    (body : ∀ (p : Program) (e : Env) (s : State) (m : MethodId) (args : Array Value) (below : List Frame) (meth : Method) (c : Code) (A : Nat → Prop) (Q : State → Prop), CX p s m args c cc own D cA → c.maxLocals = maxL → SZ stb tz A s s.heap → (∀ q, s.heap.size ≤ q → A q) → ∀ (H : Heap) (locs : List Loc) (ls : Array Slot), WD D A s ws0 H locs → lv_has ls maxL (lv_args 0 av) →
      (∀ (q : Nat → Nat) (H : Heap) (locs : List Loc) (pc : Nat) (ls : Array Slot), WD D A s (Wf q) H locs → decode cc pc = .ok (.return_, 1) → W p l e rm s m args below meth c H locs mc ms Q (F0 m pc ls [])) → W p l e rm s m args below meth c H locs 0 0 Q (F0 m 0 ls [])) (hsl : (lg_sl av).length ≤ maxL := by exact Nat.le_of_ble_eq_true rfl) :
    Kc l D cA tz y (.code y cc maxL none :: TB) rm av ws0 Wf mc ms := by
  intro sz
  refine Met.ofW (cc := cc) (maxL := maxL) (ret := none) hpl rfl ?_
  intro p e s m args below meth c s₁ B hml hv
  obtain ⟨rfl, hsz, hP, hK, hD0, hZ⟩ := hv
  subst hsz
  subst hown
  have hts := atoms_spec (ws := Cond.code y cc maxL none :: TB) B.pre
  have hl := lv_entry av (n := maxL) hsl
  rw [lg_entry_eq]
  have X : CX p s m av.toArray c cc y.cls D cA := ⟨B.exec, B.bytes, findClass_of_methodNamed B.named, fun w hw => hts w (List.mem_cons_of_mem _ hw), hK⟩
  refine body p e s m av.toArray below meth c (va_A ws0 s.heap.size) _ X hml hZ (fun q h => Or.inr h) s.heap [] _ ⟨hP, hD0.self, va_S.rf⟩ hl (fun q H locs pc ls h hdg => ?_)
  have hlocks := B.notSynchronized
  exact W.vret B.exec B.bytes B.returns (fun t ht hW => ⟨⟨(), rfl, trivial, q, by rw [ht]; exact h.1, va_K.moved hW.alike hK, h.2.1⟩, h.2.2.F ht⟩) h.2.2.2.2 hdg
end XOpenC

