/-! rows for calls where cells have been made already, and for calls with a frame (own work) -/
section XFrame
variable {p : Program} {l : Launch} {e : Env} {R : Room} {s : State} {m : MethodId} {args : Array Value} {below : List Frame} {meth : Method} {c : Code} {H : Heap} {locs : List Loc} {cells slots : Nat} {Q : State → Prop}
variable {cc : ByteArray} {pc : Nat} {ls : Array Slot} {rest : List Value} {D : va_G} {cA : Nat → ClassId} {tz : Nat → Nat} {A : Nat → Prop} {own : String} {index nL : Nat}
variable {y : MethodName} {bytes : ByteArray} {maxL n : Nat} {ret : Option FieldType} {rm : Room} {As st : List Value} {S : Type} {w : S → va_W} {σ σ' : S} {b ci : Nat} {fs : List Value} {q : vw_C}
theorem x_Vv2 (X : CX p s m args c cc own D cA) (hml : c.maxLocals = nL) (hsz : ls.size = nL) (hZ : SZ stb tz A s s.heap) (hA : ∀ q, s.heap.size ≤ q → A q) (h : WD D A s (w σ) H locs) (hM : Kv l D cA tz w y (.code y bytes maxL ret :: TB) rm (.ref b :: As) σ σ') (K : KV y bytes maxL ret) (hm : Cond.methodLink own index y ∈ TB) (hd : KD y n) (hrm : rm.cells = 0 ∧ rm.slots = 0 ∧ rm.frames + 1 ≤ R.frames ∧ 8 + (maxL + 11) + rm.locals ≤ R.locals)
    (q0 : Nat) (he : (w σ)[q0]? = some (b, .inr (ci, fs))) (hc : classes[ci]? = some q) (hqC : q.1 = y.cls) (hn : As.length = n) (hst : st = As.reverse ++ .ref b :: rest) (hro : (rest.map fun v => v.category).sum ≤ 8) (hcells : cells ≤ R.cells) (hslots : slots ≤ R.slots) (hdg : decode cc pc = .ok (.invokevirtual index, 3))
    (kk : ∀ (H1 : Heap) (locs1 : List Loc), WD D A s (w σ') H1 locs1 → W p l e R s m args below meth c H1 locs1 cells slots Q (F0 m (pc + 3) ls rest)) : W p l e R s m args below meth c H locs cells slots Q (F0 m pc ls st) := by
  subst hst
  have hFc := x_fr hA h
  refine va_callv (va_runV (As := As) (rest := rest) (C := y.cls) ⟨X.1, X.2.1, hml, X.2.2.1, X.2.2.2.1⟩ (hM H.size) (cwV n X.2.2.2.1 (g_V K hm) rfl hrm.1 hrm.2.1 ⟨rfl, hd⟩ hrm.2.2) ⟨PW_blind, by rw [← hqC]; exact va_recv X.2.2.2.2 h.1 hc he, fun U hU hW => ⟨rfl, x_pre X hZ hA h U hU hW⟩⟩ rfl hn hsz rfl (lv_room hro) hdg ⟨hcells, hslots⟩) h.2.2 (fun q _ h => hFc q h) hFc (fun u t H1 locs1 ht hvm hw hB hz1 hk1 hS => ?_)
  obtain ⟨hP1, hK1, hD1⟩ := hB
  rw [ht] at hP1
  exact kk H1 locs1 ⟨hP1, hD1.weaken (fun _ q _ hq => hFc q.1 hq), hS⟩
/-- the callee's cells stand first, the rest behind them; afterwards the rest stands first -/
theorem x_FVi {r : Int32} (X : CX p s m args c cc own D cA) (hml : c.maxLocals = nL) (hsz : ls.size = nL) (hZ : SZ stb tz A s s.heap) (hA : ∀ q, s.heap.size ≤ q → A q) {ws wr : va_W} (h : WD D A s ws H locs) (hM : Ki l D cA tz w y (.code y bytes maxL ret :: TB) rm (.ref b :: As) σ r σ') (K : KV y bytes maxL ret) (hm : Cond.methodLink own index y ∈ TB) (hd : KD y n) (hrm : rm.cells = 0 ∧ rm.slots = 0 ∧ rm.frames + 1 ≤ R.frames ∧ 8 + (maxL + 11) + rm.locals ≤ R.locals)
    (isC isR : List Nat) (hC : isC.map (fun i => ws[i]?) = (w σ).map some) (hC2 : isC.filterMap (fun i => ws[i]?) = w σ) (hnC : va_nd isC = true) (hR : isR.map (fun i => ws[i]?) = wr.map some) (hnR : va_nd isR = true) (hdis : ∀ i ∈ isR, i ∉ isC)
    (q0 : Nat) (he : ws[q0]? = some (b, .inr (ci, fs))) (hc : classes[ci]? = some q) (hqC : q.1 = y.cls) (hn : As.length = n) (hst : st = As.reverse ++ .ref b :: rest) (hro : (rest.map fun v => v.category).sum ≤ 8) (hcells : cells ≤ R.cells) (hslots : slots ≤ R.slots) (hdg : decode cc pc = .ok (.invokevirtual index, 3))
    (kk : ∀ (H1 : Heap) (locs1 : List Loc), WD D A s (wr ++ w σ') H1 locs1 → W p l e R s m args below meth c H1 locs1 cells slots Q (F0 m (pc + 3) ls (.int r :: rest))) : W p l e R s m args below meth c H locs cells slots Q (F0 m pc ls st) := by
  subst hst
  have hFc := x_frS hA h isC hC
  refine va_calli (va_runV (As := As) (rest := rest) (C := y.cls) ⟨X.1, X.2.1, hml, X.2.2.1, X.2.2.2.1⟩ (hM H.size) (cwV n X.2.2.2.1 (g_V K hm) rfl hrm.1 hrm.2.1 ⟨rfl, hd⟩ hrm.2.2) ⟨PW_blind, by rw [← hqC]; exact va_recv X.2.2.2.2 h.1 hc he, fun U hU hW => ⟨rfl, x_preS X hZ hA h isC hnC hC hC2 U hU hW⟩⟩ rfl hn hsz rfl (lv_room hro) hdg ⟨hcells, hslots⟩) h.2.2 (fun q _ h => hFc q h) hFc (fun r2 u t H1 locs1 ht hvm hw hB hz1 hk1 hS => ?_)
  subst hw
  obtain ⟨hP1, hK1, hD1⟩ := hB
  rw [ht] at hP1
  obtain ⟨hP, hD⟩ := va_join (wr := wr) (w1 := w σ') h.1 h.2.1 isC isR hC hR hnR hdis hk1 hFc hP1 hD1
  exact kk H1 locs1 ⟨hP, hD, hS⟩
theorem x_FVl {r : Int64} (X : CX p s m args c cc own D cA) (hml : c.maxLocals = nL) (hsz : ls.size = nL) (hZ : SZ stb tz A s s.heap) (hA : ∀ q, s.heap.size ≤ q → A q) {ws wr : va_W} (h : WD D A s ws H locs) (hM : Kl l D cA tz w y (.code y bytes maxL ret :: TB) rm (.ref b :: As) σ r σ') (K : KV y bytes maxL ret) (hm : Cond.methodLink own index y ∈ TB) (hd : KD y n) (hrm : rm.cells = 0 ∧ rm.slots = 0 ∧ rm.frames + 1 ≤ R.frames ∧ 8 + (maxL + 11) + rm.locals ≤ R.locals)
    (isC isR : List Nat) (hC : isC.map (fun i => ws[i]?) = (w σ).map some) (hC2 : isC.filterMap (fun i => ws[i]?) = w σ) (hnC : va_nd isC = true) (hR : isR.map (fun i => ws[i]?) = wr.map some) (hnR : va_nd isR = true) (hdis : ∀ i ∈ isR, i ∉ isC)
    (q0 : Nat) (he : ws[q0]? = some (b, .inr (ci, fs))) (hc : classes[ci]? = some q) (hqC : q.1 = y.cls) (hn : As.length = n) (hst : st = As.reverse ++ .ref b :: rest) (hro : (rest.map fun v => v.category).sum ≤ 8) (hcells : cells ≤ R.cells) (hslots : slots ≤ R.slots) (hdg : decode cc pc = .ok (.invokevirtual index, 3))
    (kk : ∀ (H1 : Heap) (locs1 : List Loc), WD D A s (wr ++ w σ') H1 locs1 → W p l e R s m args below meth c H1 locs1 cells slots Q (F0 m (pc + 3) ls (.long r :: rest))) : W p l e R s m args below meth c H locs cells slots Q (F0 m pc ls st) := by
  subst hst
  have hFc := x_frS hA h isC hC
  refine va_calll (va_runV (As := As) (rest := rest) (C := y.cls) ⟨X.1, X.2.1, hml, X.2.2.1, X.2.2.2.1⟩ (hM H.size) (cwV n X.2.2.2.1 (g_V K hm) rfl hrm.1 hrm.2.1 ⟨rfl, hd⟩ hrm.2.2) ⟨PW_blind, by rw [← hqC]; exact va_recv X.2.2.2.2 h.1 hc he, fun U hU hW => ⟨rfl, x_preS X hZ hA h isC hnC hC hC2 U hU hW⟩⟩ rfl hn hsz rfl (lv_room hro) hdg ⟨hcells, hslots⟩) h.2.2 (fun q _ h => hFc q h) hFc (fun r2 u t H1 locs1 ht hvm hw hB hz1 hk1 hS => ?_)
  subst hw
  obtain ⟨hP1, hK1, hD1⟩ := hB
  rw [ht] at hP1
  obtain ⟨hP, hD⟩ := va_join (wr := wr) (w1 := w σ') h.1 h.2.1 isC isR hC hR hnR hdis hk1 hFc hP1 hD1
  exact kk H1 locs1 ⟨hP, hD, hS⟩
end XFrame
def adf (h0 : Nat) (q : Nat → Nat) (k : Nat) : Nat := match k with
  | 0 => h0
  | k + 1 => q k

