theorem begin_fr {m : Nat} {x : Int32} {τ : St} (h : f_Model_begin m (s0M x) = some ((), τ)) : τ.1 13 = 0 ∧ τ.1 0 = x := by
  have z := h
  unfold f_Model_begin at z
  simp only [bnd_e] at z
  have y := pr_Model_build (mfr_cl 0 (fun _ => 0) x) m 1 (sI (sI (sI (sI (sI (sI (sI (sI (sL (s0M x) 1 (Int32.toInt64 ((s0M x).1 0))) 4 10) 5 1) 7 0) 12 0) 9 0) 10 0) 11 0) 13 0) ⟨rfl, rfl, rfl⟩
  have w := (pr_bd y (fun _ _ h => pr_some h)).1 _ _ z
  exact ⟨w.1, w.2.2⟩
set_option maxHeartbeats 8000000 in
set_option maxRecDepth 100000 in
theorem whole_start {p : Program} {e : Env} {s : State} {m : MethodId} {below : List Frame} {meth : Method} {c : Code} (l : Launch) {b L : Nat} {xs : Nat → Int32} (hL : L ≤ 2049) (C0 : lw_At p s m meth c b L xs) : W p l e room_1 s m #[Value.ref b] below meth c s.heap [] 0 0 (lw_Z below #[Value.ref b] s) (entryFrame m ([Value.ref b] : List Value).toArray 4) := by
  obtain ⟨hx, hb, hr, hml, hown, hts0, hX, hbl, hlocks, hgv⟩ := id C0
  have hts : ∀ w ∈ TB, w.before #[Value.ref b] s = true := fun w hw => hts0 w (tb_tbl hw)
  have hA : ∀ q : Nat, s.heap.size ≤ q → (fun q : Nat => s.heap.size ≤ q) q := fun _ h => h
  have hbA : ¬ (fun q : Nat => s.heap.size ≤ q) b := Nat.not_le.mpr hbl
  obtain ⟨c0, iS0, hKn0⟩ := u_known (C := R_Desk) (T := F_Desk) (N := 3) (n := 3) hts i_Desk (hts _ in_Desk)
  obtain ⟨c1, iS1, hKn1⟩ := u_known (C := R_Game) (T := F_Game) (N := 11) (n := 11) hts i_Game (hts _ in_Game)
  obtain ⟨c2, iS2, hKn2⟩ := u_known (C := R_Draws) (T := F_Draws) (N := 1) (n := 1) hts i_Draws (hts _ in_Draws)
  obtain ⟨c3, iS3, hKn3⟩ := u_known (C := R_Maker) (T := F_Maker) (N := 5) (n := 5) hts i_Maker (hts _ in_Maker)
  obtain ⟨c4, iS4, hKn4⟩ := u_known (C := R_Level) (T := F_Level) (N := 4) (n := 4) hts i_Level (hts _ in_Level)
  obtain ⟨c5, iS5, hKn5⟩ := u_known (C := R_Monsters) (T := F_Monsters) (N := 6) (n := 6) hts i_Monsters (hts _ in_Monsters)
  obtain ⟨c6, iS6, hKn6⟩ := u_known (C := R_Distances) (T := F_Distances) (N := 3) (n := 3) hts i_Distances (hts _ in_Distances)
  obtain ⟨c7, iS7, hKn7⟩ := u_known (C := R_Hero) (T := F_Hero) (N := 7) (n := 7) hts i_Hero (hts _ in_Hero)
  obtain ⟨c8, iS8, hKn8⟩ := u_known (C := R_Model) (T := F_Model) (N := 33) (n := 33) hts i_Model (hts _ in_Model)
  obtain ⟨dC, dI, hKc⟩ : ∃ (dC : Nat → ClassId) (dI : Nat → Nat → Nat), ∀ (k : Nat) (q : vw_C), classes[k]? = some q → u_Kn s q.1 q.2.1 q.2.2 (dC k) (dI k) := by
    refine ⟨fun k => match k with | 0 => c0 | 1 => c1 | 2 => c2 | 3 => c3 | 4 => c4 | 5 => c5 | 6 => c6 | 7 => c7 | _ => c8, fun k => match k with | 0 => iS0 | 1 => iS1 | 2 => iS2 | 3 => iS3 | 4 => iS4 | 5 => iS5 | 6 => iS6 | 7 => iS7 | _ => iS8, ?_⟩
    intro k q hq
    match k, hq with
    | 0, hq => cases hq; exact hKn0
    | 1, hq => cases hq; exact hKn1
    | 2, hq => cases hq; exact hKn2
    | 3, hq => cases hq; exact hKn3
    | 4, hq => cases hq; exact hKn4
    | 5, hq => cases hq; exact hKn5
    | 6, hq => cases hq; exact hKn6
    | 7, hq => cases hq; exact hKn7
    | 8, hq => cases hq; exact hKn8
    | k + 9, hq => simp [classes] at hq
  obtain ⟨a0, hA0, hN0⟩ := ka_of (hts _ ar_int)
  obtain ⟨a1, hA1, hN1⟩ := ka_of (hts _ ar_boolean)
  obtain ⟨cA, ec0, ec1⟩ : ∃ cA : Nat → ClassId, cA 0 = a0 ∧ cA 1 = a1 := ⟨fun k => match k with | 0 => a0 | _ => a1, rfl, rfl⟩
  have hK : va_K (dC, dI) classes (tyL cA) s := by
    refine ⟨hKc, fun k q h => ?_⟩
    match k, h with
    | 0, h => cases h; exact ⟨by rw [ec0]; exact hA0, by show s.vm.findClass _ = some (cA 0); rw [ec0]; exact hN0⟩
    | 1, h => cases h; exact ⟨by rw [ec1]; exact hA1, by show s.vm.findClass _ = some (cA 1); rw [ec1]; exact hN1⟩
    | k + 2, h => simp [tyL] at h
  obtain ⟨tz, hZ⟩ := tz_of (A := fun q : Nat => s.heap.size ≤ q) hgv hts0 (fun a h => Nat.not_le.mpr h)
  have X : CX p s m #[Value.ref b] c code R_law (dC, dI) cA := ⟨hx, hb, hown, hts, hK⟩
  have h : WD (dC, dI) (fun q : Nat => s.heap.size ≤ q) s [] s.heap [] := ⟨fun k q h => by simp at h, ⟨fun i j p q h => by simp at h, fun k q h => by simp at h⟩, va_S.rf⟩
  have hl := lv_entry ([.ref b]) (n := 4) (Nat.le_of_ble_eq_true rfl)
  rw [lg_entry_eq]
  generalize (lg_sl ([.ref b]) ++ List.replicate (4 - (lg_sl ([.ref b])).length) Slot.unset).toArray = ls at hl ⊢
  have hl : lv_has ls 4 [(0, .ref b)] := hl
  obtain ⟨sd, hsd⟩ : ∃ z : Int32, z = (if L = 0 then 0 else xs 0) := ⟨_, rfl⟩
  obtain ⟨σ0, τ0, g1, g2, g3, g4⟩ := begin_rel (m := 1000) (by omega) (σ := s0K sd) (τ := s0M sd) rfl
  refine x_new X hA h 0 (T := F_Desk) (N := 3) (ws2 := fun qk => [(qk, .inr (0, [.null, .null, .int 0]))]) rfl i_Desk t_Desk t_Desk_ok m_c_Law_7 in_Desk ini_Desk [.null, .null, .int 0] dv_Desk (cells2 := 1) (slots2 := 3) rfl rfl (Nat.le_of_ble_eq_true rfl) (Nat.le_of_ble_eq_true rfl) (fun _ => rfl) d_law_0 (fun qk H h => ?_)
  refine lv_dup hx hb d_law_3 rfl ?_
  refine lv_aload_n hx hb d_law_4 rfl (lv_at hl 0 rfl) ?_
  refine lv_iconst (v := 0) hx hb d_law_5 (by decide) ?_
  have hFn : ∀ q, va_A [] H.size q → (fun q : Nat => s.heap.size ≤ q) q := x_frS hA h (wc := []) [] rfl
  refine va_calli (va_runS (As := [.ref b, .int 0]) (rest := [.ref qk, .ref qk]) ⟨hx, hb, hml, hown, hts⟩ (c_Law_cell l b L H.size xs (by omega)) (va_cwS 2 hts (g_S k_Law_cell m_m_Law_9) rfl rfl rfl kd_Law_cell ⟨Nat.le_of_ble_eq_true rfl, Nat.le_of_ble_eq_true rfl⟩) ⟨fun a U g mk q => by obtain ⟨q0, q1, qX, qb⟩ := q; exact ⟨q0, q1, va_X.moved (u := U) (U := U.calling g mk a) (Vm.Alike.refl U.vm) qX, qb⟩, fun U hU hW => ⟨rfl, by rw [hU], by rw [hU]; exact (va_X.kept hX (h.2.2.2.1 b hbl hbA)).moved hW.alike, Nat.lt_of_lt_of_le hbl h.2.2.1⟩⟩ rfl rfl hl.1 rfl (lv_room (Nat.le_of_ble_eq_true rfl)) d_law_6 ⟨Nat.le_of_ble_eq_true rfl, Nat.le_of_ble_eq_true rfl⟩) h.2.2 (fun q _ z => hFn q z) hFn (fun r2 u t H1 locs1 ht hvm hw hB hz1 hk1 hS => ?_)
  rw [← hsd] at hw
  rw [hw]
  have h : WD (dC, dI) (fun q : Nat => s.heap.size ≤ q) s ([(qk, .inr (0, [.null, .null, .int 0]))]) H1 locs1 := by
    obtain ⟨hP, hD⟩ := va_join (wr := [(qk, .inr (0, [.null, .null, .int 0]))]) (w1 := []) (wc := []) h.1 h.2.1 [] [0] rfl rfl (by decide) (by decide) hk1 hFn (fun k q z => by simp at z) ⟨fun i j p q z => by simp at z, fun k q z => by simp at z⟩
    rw [List.append_nil] at hP hD
    exact ⟨hP, hD, hS⟩
  generalize H1 = H at h ⊢
  generalize locs1 = locs at h ⊢
  refine x_Iv (As := [.int sd]) (rest := [.ref qk]) (ws2 := fun q => wl (adf qk q) cA σ0) X hml hl.1 hZ hA h (c_Desk_init l (dC, dI) cA tz qk sd 1000 σ0 g1) k_Desk_init m_m_Law_15 kd_Desk_init rfl ⟨rfl, rfl, Nat.le_of_ble_eq_true rfl, Nat.le_of_ble_eq_true rfl⟩ [0] [] rfl rfl (by decide) (wr := []) rfl (by decide) (by decide) (cells2 := 25) (slots2 := 1198) rfl rfl (Nat.le_of_ble_eq_true rfl) (Nat.le_of_ble_eq_true rfl) (fun _ => rfl) rfl rfl (Nat.le_of_ble_eq_true rfl) d_law_9 (fun qa H locs h => ?_)
  have h : WD (dC, dI) (fun q : Nat => s.heap.size ≤ q) s (wl (adf qk qa) cA σ0) H locs := h
  refine lv_astore_n (lv' := [(1, .ref qk), (0, .ref b)]) hx hb d_law_12 rfl hl (by decide) rfl (fun ls hl => ?_)
  refine x_new X hA h 8 (T := F_Model) (N := 33) (ws2 := fun qm => wl (adf qk qa) cA σ0 ++ [(qm, .inr (8, [.int 0, .long 0, .long 0, .null, .null, .null, .null, .null, .null, .null, .null, .null, .null, .null, .int 0, .null, .null, .null, .null, .int 0, .int 0, .int 0, .int 0, .int 0, .int 0, .int 0, .int 0, .int 0, .int 0, .null, .int 0, .null, .int 0]))]) rfl i_Model t_Model t_Model_ok m_c_Law_18 in_Model ini_Model [.int 0, .long 0, .long 0, .null, .null, .null, .null, .null, .null, .null, .null, .null, .null, .null, .int 0, .null, .null, .null, .null, .int 0, .int 0, .int 0, .int 0, .int 0, .int 0, .int 0, .int 0, .int 0, .int 0, .null, .int 0, .null, .int 0] dv_Model (cells2 := 26) (slots2 := 1231) rfl rfl (Nat.le_of_ble_eq_true rfl) (Nat.le_of_ble_eq_true rfl) (fun _ => rfl) d_law_13 (fun qm H h => ?_)
  refine lv_dup hx hb d_law_16 rfl ?_
  refine lv_aload_n hx hb d_law_17 rfl (lv_at hl 1 rfl) ?_
  refine lv_iconst (v := 0) hx hb d_law_18 (by decide) ?_
  clear hFn
  have hFn : ∀ q, va_A [] H.size q → (fun q : Nat => s.heap.size ≤ q) q := x_frS hA h (wc := []) [] rfl
  refine va_calli (va_runS (As := [.ref b, .int 0]) (rest := [.ref qm, .ref qm]) ⟨hx, hb, hml, hown, hts⟩ (c_Law_cell l b L H.size xs (by omega)) (va_cwS 2 hts (g_S k_Law_cell m_m_Law_9) rfl rfl rfl kd_Law_cell ⟨Nat.le_of_ble_eq_true rfl, Nat.le_of_ble_eq_true rfl⟩) ⟨fun a U g mk q => by obtain ⟨q0, q1, qX, qb⟩ := q; exact ⟨q0, q1, va_X.moved (u := U) (U := U.calling g mk a) (Vm.Alike.refl U.vm) qX, qb⟩, fun U hU hW => ⟨rfl, by rw [hU], by rw [hU]; exact (va_X.kept hX (h.2.2.2.1 b hbl hbA)).moved hW.alike, Nat.lt_of_lt_of_le hbl h.2.2.1⟩⟩ rfl rfl hl.1 rfl (lv_room (Nat.le_of_ble_eq_true rfl)) d_law_19 ⟨Nat.le_of_ble_eq_true rfl, Nat.le_of_ble_eq_true rfl⟩) h.2.2 (fun q _ z => hFn q z) hFn (fun r3 u t H1 locs1 ht hvm hw hB hz1 hk1 hS => ?_)
  rw [← hsd] at hw
  rw [hw]
  have h : WD (dC, dI) (fun q : Nat => s.heap.size ≤ q) s (wl (adf qk qa) cA σ0 ++ [(qm, .inr (8, [.int 0, .long 0, .long 0, .null, .null, .null, .null, .null, .null, .null, .null, .null, .null, .null, .int 0, .null, .null, .null, .null, .int 0, .int 0, .int 0, .int 0, .int 0, .int 0, .int 0, .int 0, .int 0, .int 0, .null, .int 0, .null, .int 0]))]) H1 locs1 := by
    obtain ⟨hP, hD⟩ := va_join (wr := wl (adf qk qa) cA σ0 ++ [(qm, .inr (8, [.int 0, .long 0, .long 0, .null, .null, .null, .null, .null, .null, .null, .null, .null, .null, .null, .int 0, .null, .null, .null, .null, .int 0, .int 0, .int 0, .int 0, .int 0, .int 0, .int 0, .int 0, .int 0, .int 0, .null, .int 0, .null, .int 0]))]) (w1 := []) (wc := []) h.1 h.2.1 [] [0, 1, 2, 3, 4, 5, 6, 7, 8, 9, 10, 11, 12, 13, 14, 15, 16, 17, 18, 19, 20, 21, 22, 23, 24, 25] rfl rfl (by decide) (by decide) hk1 hFn (fun k q z => by simp at z) ⟨fun i j p q z => by simp at z, fun k q z => by simp at z⟩
    rw [List.append_nil] at hP hD
    exact ⟨hP, hD, hS⟩
  generalize H1 = H at h ⊢
  generalize locs1 = locs at h ⊢
  refine x_Iv (As := [.int sd]) (rest := [.ref qm]) (ws2 := fun q => wl (adf qk qa) cA σ0 ++ wm (adf qm q) cA τ0) X hml hl.1 hZ hA h (c_Model_init l (dC, dI) cA tz qm sd 1000 τ0 g2) k_Model_init m_m_Law_20 kd_Model_init rfl ⟨rfl, rfl, Nat.le_of_ble_eq_true rfl, Nat.le_of_ble_eq_true rfl⟩ [25] [0, 1, 2, 3, 4, 5, 6, 7, 8, 9, 10, 11, 12, 13, 14, 15, 16, 17, 18, 19, 20, 21, 22, 23, 24] rfl rfl (by decide) (wr := wl (adf qk qa) cA σ0) rfl (by decide) (by decide) (cells2 := 43) (slots2 := 2308) rfl rfl (Nat.le_of_ble_eq_true rfl) (Nat.le_of_ble_eq_true rfl) (fun _ => rfl) rfl rfl (Nat.le_of_ble_eq_true rfl) d_law_22 (fun qb H locs h => ?_)
  have h : WD (dC, dI) (fun q : Nat => s.heap.size ≤ q) s (wl (adf qk qa) cA σ0 ++ wm (adf qm qb) cA τ0) H locs := h
  refine lv_astore_n (lv' := [(2, .ref qm), (1, .ref qk), (0, .ref b)]) hx hb d_law_25 rfl hl (by decide) rfl (fun ls hl => ?_)
  refine lv_iconst (v := 1) hx hb d_law_26 (by decide) ?_
  refine lv_istore_n (lv' := [(3, .int 1), (2, .ref qm), (1, .ref qk), (0, .ref b)]) hx hb d_law_27 rfl hl (by decide) rfl (fun ls hl => ?_)
  have hIV : IV 1000 (s0M sd) sd σ0 τ0 0 (fun _ => τ0) := by
    have fk : kfr 0 (fun _ => 0) sd σ0 := (pr_Game_begin (kfr_cl _ _ _) 1000 (s0K sd) ⟨rfl, rfl, rfl⟩).1 _ _ g1
    have fm : τ0.1 13 = 0 ∧ τ0.1 0 = sd := begin_fr (m := 1000) g2
    exact ⟨fk.1, fm.1, fun k hk => absurd hk (by omega), fk.2.2, fm.2, rfl, ⟨0, by omega, g3⟩, ⟨0, by omega, g3⟩, g2, fun k hk => absurd hk (by omega)⟩
  exact law_loop (adK := adf qk qa) (adM := adf qm qb) hL C0 X hZ (fu := 1000) (by omega) (L + 2) 0 (by omega) (by omega) σ0 τ0 0 (fun _ => τ0) hIV (by omega) (fun _ => g4) H locs ls h (lv_sub hl [3, 2, 1, 0] rfl)
