def F_X5_switchOn (σ : FS) (run : Int32) : Int32 × Int32 × (FS) × (Int32) := (if (F_X5_isOn run) = 0 then (match (F_X3_start σ) with | (r_7, u_6) => (0, r_7, u_6, r_7)) else (2, 0, σ, run))
set_option maxHeartbeats 4000000 in
set_option maxRecDepth 100000 in
theorem c_X5_switchOn (l : Launch) (hl9 : l.stackTraces = false) (D : va_G) (cA : ClassId) (b s0 f w s2 f2 w2 t0 d db e0 : Nat) (sz : Nat) (σ : FS) (ρ : FS) (τ : TS) (δ : DS) (run : Int32) : vx_Met l yX5_switchOn wsX5_switchOn ({ frames := 6, cells := 1, slots := 6, locals := 137 }) (va_Pc [.ref b] (bx_prx D [(cA, .int)] (wBo cA b s0 f w s2 f2 w2 t0 d db e0 σ ρ τ δ run) sz)) (va_Qi (fun r u => (0, r, u) = F_X5_switchOn σ run) (fun u t => bx_at D (wBo cA b s0 f w s2 f2 w2 t0 d db e0 u.1 ρ τ δ u.2) (va_A (wBo cA b s0 f w s2 f2 w2 t0 d db e0 σ ρ τ δ run) sz) t) (va_A (wBo cA b s0 f w s2 f2 w2 t0 d db e0 σ ρ τ δ run) sz)) (bx_XC (F_X5_switchOn σ run).1) 1 6 (va_A (wBo cA b s0 f w s2 f2 w2 t0 d db e0 σ ρ τ δ run) sz) := by
  refine vx_ofW (cc := cX5_switchOn) (maxL := 1) (ret := (some .int)) (by decide) rfl ?_
  intro p e s m args below meth c s₁ B hml hnx hv
  obtain ⟨rfl, hsz, hP, hK, hD0, hG, hZ⟩ := hv
  have hx := B.exec
  have hb := B.bytes
  have hr := B.returns
  have hts := atoms_spec (ws := wsX5_switchOn) B.pre
  have hown : s.vm.findClass RX5 = some m.cls := findClass_of_methodNamed B.named
  have hlocks := B.notSynchronized
  subst hsz
  have hD := hD0.self (sz := s.heap.size)
  generalize hAe : va_A (wBo cA b s0 f w s2 f2 w2 t0 d db e0 σ ρ τ δ run) s.heap.size = A at hD ⊢
  have hA : ∀ q : Nat, s.heap.size ≤ q → A q := fun q h => by rw [← hAe]; exact Or.inr h
  have hS : va_S A s.heap s.heap [] := va_S.rf
  have hD : va_D A [(b, .inr (5, [.ref s0, .ref s2, .ref t0, .ref d, .ref e0, .int run])), (s0, .inr (3, [.ref f])), (f, .inr (2, [.ref w, .int σ.2.1, .int σ.2.2])), (w, .inl (cA, 66, .inl σ.1)), (s2, .inr (3, [.ref f2])), (f2, .inr (2, [.ref w2, .int ρ.2.1, .int ρ.2.2])), (w2, .inl (cA, 66, .inl ρ.1)), (t0, .inr (4, [.int τ.1, .int τ.2.1, .int τ.2.2.1, .int τ.2.2.2.1, .int τ.2.2.2.2.1, .int τ.2.2.2.2.2])), (d, .inr (1, [.int δ.1, .ref db])), (db, .inl (cA, 24, .inl δ.2)), (e0, .inr (0, [.ref d, .ref s0]))] := hD
  have hP : va_P D vwCl [(b, .inr (5, [.ref s0, .ref s2, .ref t0, .ref d, .ref e0, .int run])), (s0, .inr (3, [.ref f])), (f, .inr (2, [.ref w, .int σ.2.1, .int σ.2.2])), (w, .inl (cA, 66, .inl σ.1)), (s2, .inr (3, [.ref f2])), (f2, .inr (2, [.ref w2, .int ρ.2.1, .int ρ.2.2])), (w2, .inl (cA, 66, .inl ρ.1)), (t0, .inr (4, [.int τ.1, .int τ.2.1, .int τ.2.2.1, .int τ.2.2.2.1, .int τ.2.2.2.2.1, .int τ.2.2.2.2.2])), (d, .inr (1, [.int δ.1, .ref db])), (db, .inl (cA, 24, .inl δ.2)), (e0, .inr (0, [.ref d, .ref s0]))] s.heap := hP
  have hl := lv_entry ([.ref b]) (n := 1) (Nat.le_of_ble_eq_true rfl)
  rw [lg_entry_eq]
  generalize (lg_sl ([.ref b]) ++ List.replicate (1 - (lg_sl ([.ref b])).length) Slot.unset).toArray = ls at hl ⊢
  have hl : lv_has ls 1 [(0, .ref b)] := hl
  have hi5 : ∀ w ∈ u_ws RX5 TX5 6, w ∈ wsX5_switchOn := by decide +kernel
  refine lv_aload_n hx hb dX5_switchOn_0 rfl (lv_at hl 0 rfl) ?_
  refine bx_ri (va_runV (As := []) (rest := []) ⟨hx, hb, hml, hown, hts⟩ (c_X5_isOn l D cA b s0 f w s2 f2 w2 t0 d db e0 σ ρ τ δ run) (cwV 0 hts gX5_switchOn_X5_isOn rfl rfl rfl (by decide +kernel) ⟨Nat.le_of_ble_eq_true rfl, Nat.le_of_ble_eq_true rfl⟩) (bx_pvr (ci := 5) (q0 := 0) hK hG (hP.sub (ws' := [(b, .inr (5, [.ref s0, .ref s2, .ref t0, .ref d, .ref e0, .int run])), (s0, .inr (3, [.ref f])), (f, .inr (2, [.ref w, .int σ.2.1, .int σ.2.2])), (w, .inl (cA, 66, .inl σ.1)), (s2, .inr (3, [.ref f2])), (f2, .inr (2, [.ref w2, .int ρ.2.1, .int ρ.2.2])), (w2, .inl (cA, 66, .inl ρ.1)), (t0, .inr (4, [.int τ.1, .int τ.2.1, .int τ.2.2.1, .int τ.2.2.2.1, .int τ.2.2.2.2.1, .int τ.2.2.2.2.2])), (d, .inr (1, [.int δ.1, .ref db])), (db, .inl (cA, 24, .inl δ.2)), (e0, .inr (0, [.ref d, .ref s0]))]) [0, 1, 2, 3, 4, 5, 6, 7, 8, 9, 10] rfl) rfl rfl) rfl rfl hl.1 rfl (lv_room (Nat.le_of_ble_eq_true rfl)) dX5_switchOn_1 ⟨Nat.zero_le _, Nat.zero_le _⟩) (fun r_1 h_2 => ?_)
  obtain ⟨h_2, b_3⟩ := h_2
  have h_2 := h_2.symm
  subst h_2
  refine lv_if_eq (tgt := 17) hx hb dX5_switchOn_4 (by decide) (fun c_4 => ?_) (fun c_4 => ?_)
  · skip
    refine lv_aload_n hx hb dX5_switchOn_17 rfl (lv_at hl 0 rfl) ?_
    refine lv_aload_n hx hb dX5_switchOn_18 rfl (lv_at hl 0 rfl) ?_
    refine va_get (D := D) (ci := 5) (v := .ref s0) (C := RX5) (T := TX5) (N := 6) hx hb hts hi5 hown hK hP 0 rfl rfl 0 (by decide) (hts (.fieldLink RX5 10 "Bootstay" "store" "LBootstay$Store;") (by decide +kernel)) (fun _ h9 => h9) rfl dX5_switchOn_19 ?_
    refine bx_wi (wc := [(s0, .inr (3, [.ref f])), (f, .inr (2, [.ref w, .int σ.2.1, .int σ.2.2])), (w, .inl (cA, 66, .inl σ.1))]) (wr := [(b, .inr (5, [.ref s0, .ref s2, .ref t0, .ref d, .ref e0, .int run])), (s2, .inr (3, [.ref f2])), (f2, .inr (2, [.ref w2, .int ρ.2.1, .int ρ.2.2])), (w2, .inl (cA, 66, .inl ρ.1)), (t0, .inr (4, [.int τ.1, .int τ.2.1, .int τ.2.2.1, .int τ.2.2.2.1, .int τ.2.2.2.2.1, .int τ.2.2.2.2.2])), (d, .inr (1, [.int δ.1, .ref db])), (db, .inl (cA, 24, .inl δ.2)), (e0, .inr (0, [.ref d, .ref s0]))]) (wf := fun (u : (FS)) => [(s0, .inr (3, [.ref f])), (f, .inr (2, [.ref w, .int u.2.1, .int u.2.2])), (w, .inl (cA, 66, .inl u.1))]) (wn := fun (u : (FS)) => [(b, .inr (5, [.ref s0, .ref s2, .ref t0, .ref d, .ref e0, .int run])), (s0, .inr (3, [.ref f])), (f, .inr (2, [.ref w, .int u.2.1, .int u.2.2])), (w, .inl (cA, 66, .inl u.1)), (s2, .inr (3, [.ref f2])), (f2, .inr (2, [.ref w2, .int ρ.2.1, .int ρ.2.2])), (w2, .inl (cA, 66, .inl ρ.1)), (t0, .inr (4, [.int τ.1, .int τ.2.1, .int τ.2.2.1, .int τ.2.2.2.1, .int τ.2.2.2.2.1, .int τ.2.2.2.2.2])), (d, .inr (1, [.int δ.1, .ref db])), (db, .inl (cA, 24, .inl δ.2)), (e0, .inr (0, [.ref d, .ref s0]))]) hP hD hS hA [1, 2, 3] [0, 4, 5, 6, 7, 8, 9, 10] [0, 8, 9, 10, 1, 2, 3, 4, 5, 6, 7] rfl rfl (by decide) (by decide) (fun u => rfl) (by decide) (va_runV (As := []) (rest := [.ref b]) ⟨hx, hb, hml, hown, hts⟩ (c_X3_start l D cA s0 f w s.heap.size σ) (cwV 0 hts gX5_switchOn_X3_start rfl rfl rfl (by decide +kernel) ⟨Nat.le_of_ble_eq_true rfl, Nat.le_of_ble_eq_true rfl⟩) (bx_pv (ci := 3) (q0 := 0) hK hG (hP.sub (ws' := [(s0, .inr (3, [.ref f])), (f, .inr (2, [.ref w, .int σ.2.1, .int σ.2.2])), (w, .inl (cA, 66, .inl σ.1))]) [1, 2, 3] rfl) (hD.sub (ws' := [(s0, .inr (3, [.ref f])), (f, .inr (2, [.ref w, .int σ.2.1, .int σ.2.2])), (w, .inl (cA, 66, .inl σ.1))]) [1, 2, 3] (by decide) rfl) rfl rfl) rfl rfl hl.1 rfl (lv_room (Nat.le_of_ble_eq_true rfl)) dX5_switchOn_22 ⟨Nat.zero_le _, Nat.zero_le _⟩) (fun r_7 u_6 H locs h_5 hP hD hS => ?_)
    have hP : va_P D vwCl [(b, .inr (5, [.ref s0, .ref s2, .ref t0, .ref d, .ref e0, .int run])), (s0, .inr (3, [.ref f])), (f, .inr (2, [.ref w, .int u_6.2.1, .int u_6.2.2])), (w, .inl (cA, 66, .inl u_6.1)), (s2, .inr (3, [.ref f2])), (f2, .inr (2, [.ref w2, .int ρ.2.1, .int ρ.2.2])), (w2, .inl (cA, 66, .inl ρ.1)), (t0, .inr (4, [.int τ.1, .int τ.2.1, .int τ.2.2.1, .int τ.2.2.2.1, .int τ.2.2.2.2.1, .int τ.2.2.2.2.2])), (d, .inr (1, [.int δ.1, .ref db])), (db, .inl (cA, 24, .inl δ.2)), (e0, .inr (0, [.ref d, .ref s0]))] H := hP
    have hD : va_D A [(b, .inr (5, [.ref s0, .ref s2, .ref t0, .ref d, .ref e0, .int run])), (s0, .inr (3, [.ref f])), (f, .inr (2, [.ref w, .int u_6.2.1, .int u_6.2.2])), (w, .inl (cA, 66, .inl u_6.1)), (s2, .inr (3, [.ref f2])), (f2, .inr (2, [.ref w2, .int ρ.2.1, .int ρ.2.2])), (w2, .inl (cA, 66, .inl ρ.1)), (t0, .inr (4, [.int τ.1, .int τ.2.1, .int τ.2.2.1, .int τ.2.2.2.1, .int τ.2.2.2.2.1, .int τ.2.2.2.2.2])), (d, .inr (1, [.int δ.1, .ref db])), (db, .inl (cA, 24, .inl δ.2)), (e0, .inr (0, [.ref d, .ref s0]))] := hD
    refine va_put (D := D) (ci := 5) (v := .int r_7) (ty := .int) (C := RX5) (T := TX5) (N := 6) hx hb hts hi5 tyX5 tyX5_ok nmX5 hown hK hP hD hS 0 rfl rfl 5 (by decide) (hts (.fieldLink RX5 42 "Bootstay" "runningSlot" "I") (by decide +kernel)) (fun _ h9 => h9) rfl (by decide +kernel) rfl rfl (Nat.le_of_ble_eq_true rfl) dX5_switchOn_25 (fun H locs hP hD hS => ?_)
    have hP : va_P D vwCl [(b, .inr (5, [.ref s0, .ref s2, .ref t0, .ref d, .ref e0, .int r_7])), (s0, .inr (3, [.ref f])), (f, .inr (2, [.ref w, .int u_6.2.1, .int u_6.2.2])), (w, .inl (cA, 66, .inl u_6.1)), (s2, .inr (3, [.ref f2])), (f2, .inr (2, [.ref w2, .int ρ.2.1, .int ρ.2.2])), (w2, .inl (cA, 66, .inl ρ.1)), (t0, .inr (4, [.int τ.1, .int τ.2.1, .int τ.2.2.1, .int τ.2.2.2.1, .int τ.2.2.2.2.1, .int τ.2.2.2.2.2])), (d, .inr (1, [.int δ.1, .ref db])), (db, .inl (cA, 24, .inl δ.2)), (e0, .inr (0, [.ref d, .ref s0]))] H := hP
    have hD : va_D A [(b, .inr (5, [.ref s0, .ref s2, .ref t0, .ref d, .ref e0, .int r_7])), (s0, .inr (3, [.ref f])), (f, .inr (2, [.ref w, .int u_6.2.1, .int u_6.2.2])), (w, .inl (cA, 66, .inl u_6.1)), (s2, .inr (3, [.ref f2])), (f2, .inr (2, [.ref w2, .int ρ.2.1, .int ρ.2.2])), (w2, .inl (cA, 66, .inl ρ.1)), (t0, .inr (4, [.int τ.1, .int τ.2.1, .int τ.2.2.1, .int τ.2.2.2.1, .int τ.2.2.2.2.1, .int τ.2.2.2.2.2])), (d, .inr (1, [.int δ.1, .ref db])), (db, .inl (cA, 24, .inl δ.2)), (e0, .inr (0, [.ref d, .ref s0]))] := hD
    refine lv_aload_n hx hb dX5_switchOn_28 rfl (lv_at hl 0 rfl) ?_
    refine va_get (D := D) (ci := 5) (v := .int r_7) (C := RX5) (T := TX5) (N := 6) hx hb hts hi5 hown hK hP 0 rfl rfl 5 (by decide) (hts (.fieldLink RX5 42 "Bootstay" "runningSlot" "I") (by decide +kernel)) (fun _ h9 => h9) rfl dX5_switchOn_29 ?_
    refine vx_ret ?_
    refine W.widen (k := 1) (n := 6) (Nat.zero_le _) (Nat.zero_le _) ?_
    exact W.iret (v := r_7) hx hb hr (fun t ht hW => ⟨⟨r_7, (u_6, r_7), rfl, (by simp only [F_X5_switchOn, if_pos c_4, ← h_5]), ⟨by rw [ht]; exact hP, hD⟩⟩, hS.F ht⟩) hS.2.2 dX5_switchOn_32
  · skip
    obtain ⟨sa, hstr⟩ := hG.2.2 (52, "the device is on") (by decide +kernel)
    exact vx_throwS hx hb hl9 (own := RX5) (cls := bx_ise) (text := "the device is on") (names := ["java/lang/RuntimeException", "java/lang/Exception"]) (ic := 54) (A := fun _ => False) hown (by decide +kernel) (by decide +kernel) (hts (.classLink RX5 50 bx_ise) (by decide +kernel)) (hts (.initialized bx_ise) (by decide +kernel)) hstr (bx_hat2 hG (fun w hw => hts w (by first | exact List.mem_cons_of_mem _ (List.mem_append_right _ hw) | exact List.mem_cons_of_mem _ (List.mem_append_left _ (List.mem_append_right _ hw)) | exact List.mem_cons_of_mem _ (List.mem_append_left _ (List.mem_append_left _ (List.mem_append_right _ hw)))))) bx_hg2 hZ.1 hZ.2 va_S.rf (by rw [hml]; exact hl.1) dX5_switchOn_7 dX5_switchOn_10 dX5_switchOn_11 dX5_switchOn_13 dX5_switchOn_16 (fun x h => (hnx x h).elim) (Nat.le_of_ble_eq_true rfl) (Nat.le_of_ble_eq_true rfl) (Nat.le_of_ble_eq_true rfl) (Nat.le_of_ble_eq_true rfl) hlocks (fun t hvm hz hk => ⟨(by simp only [F_X5_switchOn, if_neg c_4]; exact bx_e2), hz, fun q h _ => hk q h⟩) (fun _ h => nomatch h) (Nat.le_of_ble_eq_true rfl) (Nat.le_of_ble_eq_true rfl)
def F_X5_switchOff (τ : TS) (run : Int32) : Int32 × Int32 × (TS) × (Int32) := (if (F_X5_requireOn run) = 0 then (match (F_X5_losePower τ) with | (τ5, run6) => (0, run, τ5, run6)) else ((F_X5_requireOn run), 0, τ, run))
set_option maxHeartbeats 4000000 in
set_option maxRecDepth 100000 in
theorem c_X5_switchOff (l : Launch) (hl9 : l.stackTraces = false) (D : va_G) (cA : ClassId) (b s0 f w s2 f2 w2 t0 d db e0 : Nat) (sz : Nat) (σ : FS) (ρ : FS) (τ : TS) (δ : DS) (run : Int32) : vx_Met l yX5_switchOff wsX5_switchOff ({ frames := 7, cells := 1, slots := 6, locals := 110 }) (va_Pc [.ref b] (bx_prx D [(cA, .int)] (wBo cA b s0 f w s2 f2 w2 t0 d db e0 σ ρ τ δ run) sz)) (va_Qi (fun r u => (0, r, u) = F_X5_switchOff τ run) (fun u t => bx_at D (wBo cA b s0 f w s2 f2 w2 t0 d db e0 σ ρ u.1 δ u.2) (va_A (wBo cA b s0 f w s2 f2 w2 t0 d db e0 σ ρ τ δ run) sz) t) (va_A (wBo cA b s0 f w s2 f2 w2 t0 d db e0 σ ρ τ δ run) sz)) (bx_XC (F_X5_switchOff τ run).1) 1 6 (va_A (wBo cA b s0 f w s2 f2 w2 t0 d db e0 σ ρ τ δ run) sz) := by
  refine vx_ofW (cc := cX5_switchOff) (maxL := 2) (ret := (some .int)) (by decide) rfl ?_
  intro p e s m args below meth c s₁ B hml hnx hv
  obtain ⟨rfl, hsz, hP, hK, hD0, hG, hZ⟩ := hv
  have hx := B.exec
  have hb := B.bytes
  have hr := B.returns
  have hts := atoms_spec (ws := wsX5_switchOff) B.pre
  have hown : s.vm.findClass RX5 = some m.cls := findClass_of_methodNamed B.named
  have hlocks := B.notSynchronized
  subst hsz
  have hD := hD0.self (sz := s.heap.size)
  generalize hAe : va_A (wBo cA b s0 f w s2 f2 w2 t0 d db e0 σ ρ τ δ run) s.heap.size = A at hD ⊢
  have hA : ∀ q : Nat, s.heap.size ≤ q → A q := fun q h => by rw [← hAe]; exact Or.inr h
  have hS : va_S A s.heap s.heap [] := va_S.rf
  have hD : va_D A [(b, .inr (5, [.ref s0, .ref s2, .ref t0, .ref d, .ref e0, .int run])), (s0, .inr (3, [.ref f])), (f, .inr (2, [.ref w, .int σ.2.1, .int σ.2.2])), (w, .inl (cA, 66, .inl σ.1)), (s2, .inr (3, [.ref f2])), (f2, .inr (2, [.ref w2, .int ρ.2.1, .int ρ.2.2])), (w2, .inl (cA, 66, .inl ρ.1)), (t0, .inr (4, [.int τ.1, .int τ.2.1, .int τ.2.2.1, .int τ.2.2.2.1, .int τ.2.2.2.2.1, .int τ.2.2.2.2.2])), (d, .inr (1, [.int δ.1, .ref db])), (db, .inl (cA, 24, .inl δ.2)), (e0, .inr (0, [.ref d, .ref s0]))] := hD
  have hP : va_P D vwCl [(b, .inr (5, [.ref s0, .ref s2, .ref t0, .ref d, .ref e0, .int run])), (s0, .inr (3, [.ref f])), (f, .inr (2, [.ref w, .int σ.2.1, .int σ.2.2])), (w, .inl (cA, 66, .inl σ.1)), (s2, .inr (3, [.ref f2])), (f2, .inr (2, [.ref w2, .int ρ.2.1, .int ρ.2.2])), (w2, .inl (cA, 66, .inl ρ.1)), (t0, .inr (4, [.int τ.1, .int τ.2.1, .int τ.2.2.1, .int τ.2.2.2.1, .int τ.2.2.2.2.1, .int τ.2.2.2.2.2])), (d, .inr (1, [.int δ.1, .ref db])), (db, .inl (cA, 24, .inl δ.2)), (e0, .inr (0, [.ref d, .ref s0]))] s.heap := hP
  have hl := lv_entry ([.ref b]) (n := 2) (Nat.le_of_ble_eq_true rfl)
  rw [lg_entry_eq]
  generalize (lg_sl ([.ref b]) ++ List.replicate (2 - (lg_sl ([.ref b])).length) Slot.unset).toArray = ls at hl ⊢
  have hl : lv_has ls 2 [(0, .ref b)] := hl
  have hi5 : ∀ w ∈ u_ws RX5 TX5 6, w ∈ wsX5_switchOff := by decide +kernel
  refine lv_aload_n hx hb dX5_switchOff_0 rfl (lv_at hl 0 rfl) ?_
  refine bx_xsv (vx_runV (As := []) (rest := []) ⟨hx, hb, hml, hown, hts⟩ (c_X5_requireOn l hl9 D cA b s0 f w s2 f2 w2 t0 d db e0 σ ρ τ δ run) (cwV 0 hts gX5_switchOff_X5_requireOn rfl rfl rfl (by decide +kernel) ⟨Nat.le_of_ble_eq_true rfl, Nat.le_of_ble_eq_true rfl⟩) (bx_pvrx (ci := 5) (q0 := 0) hK hG hZ (hP.sub (ws' := [(b, .inr (5, [.ref s0, .ref s2, .ref t0, .ref d, .ref e0, .int run])), (s0, .inr (3, [.ref f])), (f, .inr (2, [.ref w, .int σ.2.1, .int σ.2.2])), (w, .inl (cA, 66, .inl σ.1)), (s2, .inr (3, [.ref f2])), (f2, .inr (2, [.ref w2, .int ρ.2.1, .int ρ.2.2])), (w2, .inl (cA, 66, .inl ρ.1)), (t0, .inr (4, [.int τ.1, .int τ.2.1, .int τ.2.2.1, .int τ.2.2.2.1, .int τ.2.2.2.2.1, .int τ.2.2.2.2.2])), (d, .inr (1, [.int δ.1, .ref db])), (db, .inl (cA, 24, .inl δ.2)), (e0, .inr (0, [.ref d, .ref s0]))]) [0, 1, 2, 3, 4, 5, 6, 7, 8, 9, 10] rfl) rfl rfl) rfl rfl hl.1 rfl (lv_room (Nat.le_of_ble_eq_true rfl)) dX5_switchOff_1 ⟨Nat.le_of_ble_eq_true rfl, Nat.le_of_ble_eq_true rfl⟩) hS (fun _ h => h.elim) (fun E ce q9 H1 locs E_2 hz9 hk9 hS hce hcv hcl => ?_) (fun e_1 => ?_)
  · skip
    refine vx_out (fun x h => (hnx x h).elim) hlocks hce hcv hcl (fun t ht hvm => ⟨(by simp only [F_X5_switchOff, if_neg (bx_ne E_2)]; exact E_2), by rw [ht]; exact hz9, fun q h _ => by rw [ht]; exact hk9 q h⟩) hS.2.2 (Nat.le_of_ble_eq_true rfl) (Nat.le_of_ble_eq_true rfl)
  · skip
    refine lv_aload_n hx hb dX5_switchOff_4 rfl (lv_at hl 0 rfl) ?_
    refine va_get (D := D) (ci := 5) (v := .int run) (C := RX5) (T := TX5) (N := 6) hx hb hts hi5 hown hK hP 0 rfl rfl 5 (by decide) (hts (.fieldLink RX5 42 "Bootstay" "runningSlot" "I") (by decide +kernel)) (fun _ h9 => h9) rfl dX5_switchOff_5 ?_
    refine lv_istore_n (lv' := [(1, .int run), (0, .ref b)]) hx hb dX5_switchOff_8 rfl hl (by decide) rfl (fun ls hl => ?_)
    refine lv_aload_n hx hb dX5_switchOff_9 rfl (lv_at hl 1 rfl) ?_
    refine bx_wv (wc := [(b, .inr (5, [.ref s0, .ref s2, .ref t0, .ref d, .ref e0, .int run])), (s0, .inr (3, [.ref f])), (f, .inr (2, [.ref w, .int σ.2.1, .int σ.2.2])), (w, .inl (cA, 66, .inl σ.1)), (s2, .inr (3, [.ref f2])), (f2, .inr (2, [.ref w2, .int ρ.2.1, .int ρ.2.2])), (w2, .inl (cA, 66, .inl ρ.1)), (t0, .inr (4, [.int τ.1, .int τ.2.1, .int τ.2.2.1, .int τ.2.2.2.1, .int τ.2.2.2.2.1, .int τ.2.2.2.2.2])), (d, .inr (1, [.int δ.1, .ref db])), (db, .inl (cA, 24, .inl δ.2)), (e0, .inr (0, [.ref d, .ref s0]))]) (wr := []) (wf := fun (u : (TS) × (Int32)) => [(b, .inr (5, [.ref s0, .ref s2, .ref t0, .ref d, .ref e0, .int u.2])), (s0, .inr (3, [.ref f])), (f, .inr (2, [.ref w, .int σ.2.1, .int σ.2.2])), (w, .inl (cA, 66, .inl σ.1)), (s2, .inr (3, [.ref f2])), (f2, .inr (2, [.ref w2, .int ρ.2.1, .int ρ.2.2])), (w2, .inl (cA, 66, .inl ρ.1)), (t0, .inr (4, [.int u.1.1, .int u.1.2.1, .int u.1.2.2.1, .int u.1.2.2.2.1, .int u.1.2.2.2.2.1, .int u.1.2.2.2.2.2])), (d, .inr (1, [.int δ.1, .ref db])), (db, .inl (cA, 24, .inl δ.2)), (e0, .inr (0, [.ref d, .ref s0]))]) (wn := fun (u : (TS) × (Int32)) => [(b, .inr (5, [.ref s0, .ref s2, .ref t0, .ref d, .ref e0, .int u.2])), (s0, .inr (3, [.ref f])), (f, .inr (2, [.ref w, .int σ.2.1, .int σ.2.2])), (w, .inl (cA, 66, .inl σ.1)), (s2, .inr (3, [.ref f2])), (f2, .inr (2, [.ref w2, .int ρ.2.1, .int ρ.2.2])), (w2, .inl (cA, 66, .inl ρ.1)), (t0, .inr (4, [.int u.1.1, .int u.1.2.1, .int u.1.2.2.1, .int u.1.2.2.2.1, .int u.1.2.2.2.2.1, .int u.1.2.2.2.2.2])), (d, .inr (1, [.int δ.1, .ref db])), (db, .inl (cA, 24, .inl δ.2)), (e0, .inr (0, [.ref d, .ref s0]))]) hP hD hS hA [0, 1, 2, 3, 4, 5, 6, 7, 8, 9, 10] [] [0, 1, 2, 3, 4, 5, 6, 7, 8, 9, 10] rfl rfl (by decide) (by decide) (fun u => rfl) (by decide) (va_runV (As := []) (rest := []) ⟨hx, hb, hml, hown, hts⟩ (c_X5_losePower l D cA b s0 f w s2 f2 w2 t0 d db e0 s.heap.size σ ρ τ δ run) (cwV 0 hts gX5_switchOff_X5_losePower rfl rfl rfl (by decide +kernel) ⟨Nat.le_of_ble_eq_true rfl, Nat.le_of_ble_eq_true rfl⟩) (bx_pv (ci := 5) (q0 := 0) hK hG (hP.sub (ws' := [(b, .inr (5, [.ref s0, .ref s2, .ref t0, .ref d, .ref e0, .int run])), (s0, .inr (3, [.ref f])), (f, .inr (2, [.ref w, .int σ.2.1, .int σ.2.2])), (w, .inl (cA, 66, .inl σ.1)), (s2, .inr (3, [.ref f2])), (f2, .inr (2, [.ref w2, .int ρ.2.1, .int ρ.2.2])), (w2, .inl (cA, 66, .inl ρ.1)), (t0, .inr (4, [.int τ.1, .int τ.2.1, .int τ.2.2.1, .int τ.2.2.2.1, .int τ.2.2.2.2.1, .int τ.2.2.2.2.2])), (d, .inr (1, [.int δ.1, .ref db])), (db, .inl (cA, 24, .inl δ.2)), (e0, .inr (0, [.ref d, .ref s0]))]) [0, 1, 2, 3, 4, 5, 6, 7, 8, 9, 10] rfl) (hD.sub (ws' := [(b, .inr (5, [.ref s0, .ref s2, .ref t0, .ref d, .ref e0, .int run])), (s0, .inr (3, [.ref f])), (f, .inr (2, [.ref w, .int σ.2.1, .int σ.2.2])), (w, .inl (cA, 66, .inl σ.1)), (s2, .inr (3, [.ref f2])), (f2, .inr (2, [.ref w2, .int ρ.2.1, .int ρ.2.2])), (w2, .inl (cA, 66, .inl ρ.1)), (t0, .inr (4, [.int τ.1, .int τ.2.1, .int τ.2.2.1, .int τ.2.2.2.1, .int τ.2.2.2.2.1, .int τ.2.2.2.2.2])), (d, .inr (1, [.int δ.1, .ref db])), (db, .inl (cA, 24, .inl δ.2)), (e0, .inr (0, [.ref d, .ref s0]))]) [0, 1, 2, 3, 4, 5, 6, 7, 8, 9, 10] (by decide) rfl) rfl rfl) rfl rfl hl.1 rfl (lv_room (Nat.le_of_ble_eq_true rfl)) dX5_switchOff_10 ⟨Nat.zero_le _, Nat.zero_le _⟩) (fun  u_4 H locs h_3 hP hD hS => ?_)
    obtain ⟨τ5, run6⟩ := u_4
    have hP : va_P D vwCl [(b, .inr (5, [.ref s0, .ref s2, .ref t0, .ref d, .ref e0, .int run6])), (s0, .inr (3, [.ref f])), (f, .inr (2, [.ref w, .int σ.2.1, .int σ.2.2])), (w, .inl (cA, 66, .inl σ.1)), (s2, .inr (3, [.ref f2])), (f2, .inr (2, [.ref w2, .int ρ.2.1, .int ρ.2.2])), (w2, .inl (cA, 66, .inl ρ.1)), (t0, .inr (4, [.int τ5.1, .int τ5.2.1, .int τ5.2.2.1, .int τ5.2.2.2.1, .int τ5.2.2.2.2.1, .int τ5.2.2.2.2.2])), (d, .inr (1, [.int δ.1, .ref db])), (db, .inl (cA, 24, .inl δ.2)), (e0, .inr (0, [.ref d, .ref s0]))] H := hP
    have hD : va_D A [(b, .inr (5, [.ref s0, .ref s2, .ref t0, .ref d, .ref e0, .int run6])), (s0, .inr (3, [.ref f])), (f, .inr (2, [.ref w, .int σ.2.1, .int σ.2.2])), (w, .inl (cA, 66, .inl σ.1)), (s2, .inr (3, [.ref f2])), (f2, .inr (2, [.ref w2, .int ρ.2.1, .int ρ.2.2])), (w2, .inl (cA, 66, .inl ρ.1)), (t0, .inr (4, [.int τ5.1, .int τ5.2.1, .int τ5.2.2.1, .int τ5.2.2.2.1, .int τ5.2.2.2.2.1, .int τ5.2.2.2.2.2])), (d, .inr (1, [.int δ.1, .ref db])), (db, .inl (cA, 24, .inl δ.2)), (e0, .inr (0, [.ref d, .ref s0]))] := hD
    refine lv_iload_n hx hb dX5_switchOff_13 rfl (lv_at hl 0 rfl) ?_
    refine vx_ret ?_
    refine W.widen (k := 1) (n := 6) (Nat.zero_le _) (Nat.zero_le _) ?_
    exact W.iret (v := run) hx hb hr (fun t ht hW => ⟨⟨run, (τ5, run6), rfl, (by simp only [F_X5_switchOff, if_pos e_1, ← h_3]), ⟨by rw [ht]; exact hP, hD⟩⟩, hS.F ht⟩) hS.2.2 dX5_switchOff_14
def F_X5_failAfter (σ : FS) (p0 : Int32) : Int32 × (FS) := (if (F_X5_requireWithin p0 (-1) 1000) = 0 then (let u_4 := (F_X2_chooseFailure σ p0); (0, u_4)) else ((F_X5_requireWithin p0 (-1) 1000), σ))
set_option maxHeartbeats 4000000 in
set_option maxRecDepth 100000 in
theorem c_X5_failAfter (l : Launch) (hl9 : l.stackTraces = false) (D : va_G) (cA : ClassId) (b s0 f w s2 f2 w2 t0 d db e0 : Nat) (sz : Nat) (σ : FS) (ρ : FS) (τ : TS) (δ : DS) (run : Int32) (p0 : Int32) : vx_Met l yX5_failAfter wsX5_failAfter ({ frames := 7, cells := 1, slots := 6, locals := 112 }) (va_Pc [.ref b, .int p0] (bx_prx D [(cA, .int)] (wBo cA b s0 f w s2 f2 w2 t0 d db e0 σ ρ τ δ run) sz)) (va_Qv (fun u => (0, u) = F_X5_failAfter σ p0) (fun u t => bx_at D (wBo cA b s0 f w s2 f2 w2 t0 d db e0 u ρ τ δ run) (va_A (wBo cA b s0 f w s2 f2 w2 t0 d db e0 σ ρ τ δ run) sz) t) (va_A (wBo cA b s0 f w s2 f2 w2 t0 d db e0 σ ρ τ δ run) sz)) (bx_XC (F_X5_failAfter σ p0).1) 1 6 (va_A (wBo cA b s0 f w s2 f2 w2 t0 d db e0 σ ρ τ δ run) sz) := by
  refine vx_ofW (cc := cX5_failAfter) (maxL := 2) (ret := none) (by decide) rfl ?_
  intro p e s m args below meth c s₁ B hml hnx hv
  obtain ⟨rfl, hsz, hP, hK, hD0, hG, hZ⟩ := hv
  have hx := B.exec
  have hb := B.bytes
  have hr := B.returns
  have hts := atoms_spec (ws := wsX5_failAfter) B.pre
  have hown : s.vm.findClass RX5 = some m.cls := findClass_of_methodNamed B.named
  have hlocks := B.notSynchronized
  subst hsz
  have hD := hD0.self (sz := s.heap.size)
  generalize hAe : va_A (wBo cA b s0 f w s2 f2 w2 t0 d db e0 σ ρ τ δ run) s.heap.size = A at hD ⊢
  have hA : ∀ q : Nat, s.heap.size ≤ q → A q := fun q h => by rw [← hAe]; exact Or.inr h
  have hS : va_S A s.heap s.heap [] := va_S.rf
  have hD : va_D A [(b, .inr (5, [.ref s0, .ref s2, .ref t0, .ref d, .ref e0, .int run])), (s0, .inr (3, [.ref f])), (f, .inr (2, [.ref w, .int σ.2.1, .int σ.2.2])), (w, .inl (cA, 66, .inl σ.1)), (s2, .inr (3, [.ref f2])), (f2, .inr (2, [.ref w2, .int ρ.2.1, .int ρ.2.2])), (w2, .inl (cA, 66, .inl ρ.1)), (t0, .inr (4, [.int τ.1, .int τ.2.1, .int τ.2.2.1, .int τ.2.2.2.1, .int τ.2.2.2.2.1, .int τ.2.2.2.2.2])), (d, .inr (1, [.int δ.1, .ref db])), (db, .inl (cA, 24, .inl δ.2)), (e0, .inr (0, [.ref d, .ref s0]))] := hD
  have hP : va_P D vwCl [(b, .inr (5, [.ref s0, .ref s2, .ref t0, .ref d, .ref e0, .int run])), (s0, .inr (3, [.ref f])), (f, .inr (2, [.ref w, .int σ.2.1, .int σ.2.2])), (w, .inl (cA, 66, .inl σ.1)), (s2, .inr (3, [.ref f2])), (f2, .inr (2, [.ref w2, .int ρ.2.1, .int ρ.2.2])), (w2, .inl (cA, 66, .inl ρ.1)), (t0, .inr (4, [.int τ.1, .int τ.2.1, .int τ.2.2.1, .int τ.2.2.2.1, .int τ.2.2.2.2.1, .int τ.2.2.2.2.2])), (d, .inr (1, [.int δ.1, .ref db])), (db, .inl (cA, 24, .inl δ.2)), (e0, .inr (0, [.ref d, .ref s0]))] s.heap := hP
  have hl := lv_entry ([.ref b, .int p0]) (n := 2) (Nat.le_of_ble_eq_true rfl)
  rw [lg_entry_eq]
  generalize (lg_sl ([.ref b, .int p0]) ++ List.replicate (2 - (lg_sl ([.ref b, .int p0])).length) Slot.unset).toArray = ls at hl ⊢
  have hl : lv_has ls 2 [(0, .ref b), (1, .int p0)] := hl
  have hi3 : ∀ w ∈ u_ws RX3 TX3 1, w ∈ wsX5_failAfter := by decide +kernel
  have hi5 : ∀ w ∈ u_ws RX5 TX5 6, w ∈ wsX5_failAfter := by decide +kernel
  refine lv_iload_n hx hb dX5_failAfter_0 rfl (lv_at hl 1 rfl) ?_
  refine lv_iconst (v := (-1)) hx hb dX5_failAfter_1 (by decide) ?_
  refine lv_sipush (v := 1000) hx hb dX5_failAfter_2 (by decide) ?_
  refine bx_xsv (vx_runS (As := [.int p0, .int (-1), .int 1000]) (rest := []) ⟨hx, hb, hml, hown, hts⟩ (c_X5_requireWithin l hl9 D p0 (-1) 1000) (va_cwS 3 hts gX5_failAfter_X5_requireWithin rfl rfl rfl (by decide +kernel) ⟨Nat.le_of_ble_eq_true rfl, Nat.le_of_ble_eq_true rfl⟩) (bx_psrx (hK.sub (tys' := []) [] rfl) hG hZ (hP.sub (ws' := []) [] rfl)) rfl rfl hl.1 rfl (lv_room (Nat.le_of_ble_eq_true rfl)) dX5_failAfter_5 ⟨Nat.le_of_ble_eq_true rfl, Nat.le_of_ble_eq_true rfl⟩) hS (fun _ h => h.elim) (fun E ce q9 H1 locs E_2 hz9 hk9 hS hce hcv hcl => ?_) (fun e_1 => ?_)
  · skip
    refine vx_out (fun x h => (hnx x h).elim) hlocks hce hcv hcl (fun t ht hvm => ⟨(by simp only [F_X5_failAfter, if_neg (bx_ne E_2)]; exact E_2), by rw [ht]; exact hz9, fun q h _ => by rw [ht]; exact hk9 q h⟩) hS.2.2 (Nat.le_of_ble_eq_true rfl) (Nat.le_of_ble_eq_true rfl)
  · skip
    refine lv_aload_n hx hb dX5_failAfter_8 rfl (lv_at hl 0 rfl) ?_
    refine va_get (D := D) (ci := 5) (v := .ref s0) (C := RX5) (T := TX5) (N := 6) hx hb hts hi5 hown hK hP 0 rfl rfl 0 (by decide) (hts (.fieldLink RX5 10 "Bootstay" "store" "LBootstay$Store;") (by decide +kernel)) (fun _ h9 => h9) rfl dX5_failAfter_9 ?_
    refine va_get (D := D) (ci := 3) (v := .ref f) (C := RX3) (T := TX3) (N := 1) hx hb hts hi3 hown hK hP 1 rfl rfl 0 (by decide) (hts (.fieldLink RX5 71 "Bootstay$Store" "flash" "LBootstay$Flash;") (by decide +kernel)) (fun _ h9 => h9) rfl dX5_failAfter_12 ?_
    refine lv_iload_n hx hb dX5_failAfter_15 rfl (lv_at hl 1 rfl) ?_
    refine bx_wv (wc := [(f, .inr (2, [.ref w, .int σ.2.1, .int σ.2.2])), (w, .inl (cA, 66, .inl σ.1))]) (wr := [(b, .inr (5, [.ref s0, .ref s2, .ref t0, .ref d, .ref e0, .int run])), (s0, .inr (3, [.ref f])), (s2, .inr (3, [.ref f2])), (f2, .inr (2, [.ref w2, .int ρ.2.1, .int ρ.2.2])), (w2, .inl (cA, 66, .inl ρ.1)), (t0, .inr (4, [.int τ.1, .int τ.2.1, .int τ.2.2.1, .int τ.2.2.2.1, .int τ.2.2.2.2.1, .int τ.2.2.2.2.2])), (d, .inr (1, [.int δ.1, .ref db])), (db, .inl (cA, 24, .inl δ.2)), (e0, .inr (0, [.ref d, .ref s0]))]) (wf := fun (u : (FS)) => [(f, .inr (2, [.ref w, .int u.2.1, .int u.2.2])), (w, .inl (cA, 66, .inl u.1))]) (wn := fun (u : (FS)) => [(b, .inr (5, [.ref s0, .ref s2, .ref t0, .ref d, .ref e0, .int run])), (s0, .inr (3, [.ref f])), (f, .inr (2, [.ref w, .int u.2.1, .int u.2.2])), (w, .inl (cA, 66, .inl u.1)), (s2, .inr (3, [.ref f2])), (f2, .inr (2, [.ref w2, .int ρ.2.1, .int ρ.2.2])), (w2, .inl (cA, 66, .inl ρ.1)), (t0, .inr (4, [.int τ.1, .int τ.2.1, .int τ.2.2.1, .int τ.2.2.2.1, .int τ.2.2.2.2.1, .int τ.2.2.2.2.2])), (d, .inr (1, [.int δ.1, .ref db])), (db, .inl (cA, 24, .inl δ.2)), (e0, .inr (0, [.ref d, .ref s0]))]) hP hD hS hA [2, 3] [0, 1, 4, 5, 6, 7, 8, 9, 10] [0, 1, 9, 10, 2, 3, 4, 5, 6, 7, 8] rfl rfl (by decide) (by decide) (fun u => rfl) (by decide) (va_runV (As := [.int p0]) (rest := []) ⟨hx, hb, hml, hown, hts⟩ (c_X2_chooseFailure l D cA f w s.heap.size σ p0) (cwV 1 hts gX5_failAfter_X2_chooseFailure rfl rfl rfl (by decide +kernel) ⟨Nat.le_of_ble_eq_true rfl, Nat.le_of_ble_eq_true rfl⟩) (bx_pv (ci := 2) (q0 := 0) hK hG (hP.sub (ws' := [(f, .inr (2, [.ref w, .int σ.2.1, .int σ.2.2])), (w, .inl (cA, 66, .inl σ.1))]) [2, 3] rfl) (hD.sub (ws' := [(f, .inr (2, [.ref w, .int σ.2.1, .int σ.2.2])), (w, .inl (cA, 66, .inl σ.1))]) [2, 3] (by decide) rfl) rfl rfl) rfl rfl hl.1 rfl (lv_room (Nat.le_of_ble_eq_true rfl)) dX5_failAfter_16 ⟨Nat.zero_le _, Nat.zero_le _⟩) (fun  u_4 H locs h_3 hP hD hS => ?_)
    have hP : va_P D vwCl [(b, .inr (5, [.ref s0, .ref s2, .ref t0, .ref d, .ref e0, .int run])), (s0, .inr (3, [.ref f])), (f, .inr (2, [.ref w, .int u_4.2.1, .int u_4.2.2])), (w, .inl (cA, 66, .inl u_4.1)), (s2, .inr (3, [.ref f2])), (f2, .inr (2, [.ref w2, .int ρ.2.1, .int ρ.2.2])), (w2, .inl (cA, 66, .inl ρ.1)), (t0, .inr (4, [.int τ.1, .int τ.2.1, .int τ.2.2.1, .int τ.2.2.2.1, .int τ.2.2.2.2.1, .int τ.2.2.2.2.2])), (d, .inr (1, [.int δ.1, .ref db])), (db, .inl (cA, 24, .inl δ.2)), (e0, .inr (0, [.ref d, .ref s0]))] H := hP
    have hD : va_D A [(b, .inr (5, [.ref s0, .ref s2, .ref t0, .ref d, .ref e0, .int run])), (s0, .inr (3, [.ref f])), (f, .inr (2, [.ref w, .int u_4.2.1, .int u_4.2.2])), (w, .inl (cA, 66, .inl u_4.1)), (s2, .inr (3, [.ref f2])), (f2, .inr (2, [.ref w2, .int ρ.2.1, .int ρ.2.2])), (w2, .inl (cA, 66, .inl ρ.1)), (t0, .inr (4, [.int τ.1, .int τ.2.1, .int τ.2.2.1, .int τ.2.2.2.1, .int τ.2.2.2.2.1, .int τ.2.2.2.2.2])), (d, .inr (1, [.int δ.1, .ref db])), (db, .inl (cA, 24, .inl δ.2)), (e0, .inr (0, [.ref d, .ref s0]))] := hD
    refine vx_ret ?_
    refine W.widen (k := 1) (n := 6) (Nat.zero_le _) (Nat.zero_le _) ?_
    exact W.vret hx hb hr (fun t ht hW => ⟨⟨u_4, rfl, (by simp only [F_X5_failAfter, if_pos e_1, ← h_3]), ⟨by rw [ht]; exact hP, hD⟩⟩, hS.F ht⟩) hS.2.2 dX5_failAfter_19
def F_X5_isOnTrial (σ : FS) (run : Int32) : Int32 := (if (F_X5_isOn run) = 0 then 0 else (if run = (F_X3_confirmedSlot σ) then 0 else 1))
set_option maxHeartbeats 4000000 in
set_option maxRecDepth 100000 in
theorem c_X5_isOnTrial (l : Launch) (D : va_G) (cA : ClassId) (b s0 f w s2 f2 w2 t0 d db e0 : Nat) (σ : FS) (ρ : FS) (τ : TS) (δ : DS) (run : Int32) : Met l yX5_isOnTrial wsX5_isOnTrial ({ frames := 5, cells := 0, slots := 0, locals := 104 }) (va_Pc [.ref b] (bx_ro D [(cA, .int)] (wBo cA b s0 f w s2 f2 w2 t0 d db e0 σ ρ τ δ run))) (vp_Si (fun r => r = F_X5_isOnTrial σ run ∧ (r = 0 ∨ r = 1))) 0 0 (fun _ => False) := by
  refine Met.ofW (cc := cX5_isOnTrial) (maxL := 1) (ret := (some .boolean)) (by decide) rfl ?_
  intro p e s m args below meth c s₁ B hml hv
  obtain ⟨rfl, hP, hK, hG⟩ := hv
  have hx := B.exec
  have hb := B.bytes
  have hr := B.returns
  have hts := atoms_spec (ws := wsX5_isOnTrial) B.pre
  have hown : s.vm.findClass RX5 = some m.cls := findClass_of_methodNamed B.named
  have hlocks := B.notSynchronized
  have hP : va_P D vwCl [(b, .inr (5, [.ref s0, .ref s2, .ref t0, .ref d, .ref e0, .int run])), (s0, .inr (3, [.ref f])), (f, .inr (2, [.ref w, .int σ.2.1, .int σ.2.2])), (w, .inl (cA, 66, .inl σ.1)), (s2, .inr (3, [.ref f2])), (f2, .inr (2, [.ref w2, .int ρ.2.1, .int ρ.2.2])), (w2, .inl (cA, 66, .inl ρ.1)), (t0, .inr (4, [.int τ.1, .int τ.2.1, .int τ.2.2.1, .int τ.2.2.2.1, .int τ.2.2.2.2.1, .int τ.2.2.2.2.2])), (d, .inr (1, [.int δ.1, .ref db])), (db, .inl (cA, 24, .inl δ.2)), (e0, .inr (0, [.ref d, .ref s0]))] s.heap := hP
  have hl := lv_entry ([.ref b]) (n := 1) (Nat.le_of_ble_eq_true rfl)
  rw [lg_entry_eq]
  generalize (lg_sl ([.ref b]) ++ List.replicate (1 - (lg_sl ([.ref b])).length) Slot.unset).toArray = ls at hl ⊢
  have hl : lv_has ls 1 [(0, .ref b)] := hl
  have hi5 : ∀ w ∈ u_ws RX5 TX5 6, w ∈ wsX5_isOnTrial := by decide +kernel
  refine lv_aload_n hx hb dX5_isOnTrial_0 rfl (lv_at hl 0 rfl) ?_
  refine bx_ri (va_runV (As := []) (rest := []) ⟨hx, hb, hml, hown, hts⟩ (c_X5_isOn l D cA b s0 f w s2 f2 w2 t0 d db e0 σ ρ τ δ run) (cwV 0 hts gX5_isOnTrial_X5_isOn rfl rfl rfl (by decide +kernel) ⟨Nat.le_of_ble_eq_true rfl, Nat.le_of_ble_eq_true rfl⟩) (bx_pvr (ci := 5) (q0 := 0) hK hG (hP.sub (ws' := [(b, .inr (5, [.ref s0, .ref s2, .ref t0, .ref d, .ref e0, .int run])), (s0, .inr (3, [.ref f])), (f, .inr (2, [.ref w, .int σ.2.1, .int σ.2.2])), (w, .inl (cA, 66, .inl σ.1)), (s2, .inr (3, [.ref f2])), (f2, .inr (2, [.ref w2, .int ρ.2.1, .int ρ.2.2])), (w2, .inl (cA, 66, .inl ρ.1)), (t0, .inr (4, [.int τ.1, .int τ.2.1, .int τ.2.2.1, .int τ.2.2.2.1, .int τ.2.2.2.2.1, .int τ.2.2.2.2.2])), (d, .inr (1, [.int δ.1, .ref db])), (db, .inl (cA, 24, .inl δ.2)), (e0, .inr (0, [.ref d, .ref s0]))]) [0, 1, 2, 3, 4, 5, 6, 7, 8, 9, 10] rfl) rfl rfl) rfl rfl hl.1 rfl (lv_room (Nat.le_of_ble_eq_true rfl)) dX5_isOnTrial_1 ⟨Nat.zero_le _, Nat.zero_le _⟩) (fun r_1 h_2 => ?_)
  obtain ⟨h_2, b_3⟩ := h_2
  have h_2 := h_2.symm
  subst h_2
  refine lv_if_eq (tgt := 25) hx hb dX5_isOnTrial_4 (by decide) (fun c_4 => ?_) (fun c_4 => ?_)
  · skip
    refine lv_iconst (v := 0) hx hb dX5_isOnTrial_25 (by decide) ?_
    exact W.zret (v := 0) hx hb hr rfl (fun t ht hW => ⟨0, rfl, ⟨(by simp only [F_X5_isOnTrial, if_pos c_4]), (by decide)⟩, ht⟩) (fun _ h => nomatch h) dX5_isOnTrial_26
  · skip
    refine lv_aload_n hx hb dX5_isOnTrial_7 rfl (lv_at hl 0 rfl) ?_
    refine va_get (D := D) (ci := 5) (v := .int run) (C := RX5) (T := TX5) (N := 6) hx hb hts hi5 hown hK hP 0 rfl rfl 5 (by decide) (hts (.fieldLink RX5 42 "Bootstay" "runningSlot" "I") (by decide +kernel)) (fun _ h9 => h9) rfl dX5_isOnTrial_8 ?_
    refine lv_aload_n hx hb dX5_isOnTrial_11 rfl (lv_at hl 0 rfl) ?_
    refine va_get (D := D) (ci := 5) (v := .ref s0) (C := RX5) (T := TX5) (N := 6) hx hb hts hi5 hown hK hP 0 rfl rfl 0 (by decide) (hts (.fieldLink RX5 10 "Bootstay" "store" "LBootstay$Store;") (by decide +kernel)) (fun _ h9 => h9) rfl dX5_isOnTrial_12 ?_
    refine bx_ri (va_runV (As := []) (rest := [.int run]) ⟨hx, hb, hml, hown, hts⟩ (c_X3_confirmedSlot l D cA s0 f w σ) (cwV 0 hts gX5_isOnTrial_X3_confirmedSlot rfl rfl rfl (by decide +kernel) ⟨Nat.le_of_ble_eq_true rfl, Nat.le_of_ble_eq_true rfl⟩) (bx_pvr (ci := 3) (q0 := 0) hK hG (hP.sub (ws' := [(s0, .inr (3, [.ref f])), (f, .inr (2, [.ref w, .int σ.2.1, .int σ.2.2])), (w, .inl (cA, 66, .inl σ.1))]) [1, 2, 3] rfl) rfl rfl) rfl rfl hl.1 rfl (lv_room (Nat.le_of_ble_eq_true rfl)) dX5_isOnTrial_15 ⟨Nat.zero_le _, Nat.zero_le _⟩) (fun r_5 h_6 => ?_)
    have h_6 := h_6.symm
    subst h_6
    refine lv_icmp_eq (tgt := 25) hx hb dX5_isOnTrial_18 (by decide) (fun c_7 => ?_) (fun c_7 => ?_)
    · skip
      refine lv_iconst (v := 0) hx hb dX5_isOnTrial_25 (by decide) ?_
      exact W.zret (v := 0) hx hb hr rfl (fun t ht hW => ⟨0, rfl, ⟨(by simp only [F_X5_isOnTrial, if_neg c_4, if_pos c_7]), (by decide)⟩, ht⟩) (fun _ h => nomatch h) dX5_isOnTrial_26
    · skip
      refine lv_iconst (v := 1) hx hb dX5_isOnTrial_21 (by decide) ?_
      refine lv_goto (tgt := 26) hx hb dX5_isOnTrial_22 (by decide) ?_
      exact W.zret (v := 1) hx hb hr rfl (fun t ht hW => ⟨1, rfl, ⟨(by simp only [F_X5_isOnTrial, if_neg c_4, if_neg c_7]), (by decide)⟩, ht⟩) (fun _ h => nomatch h) dX5_isOnTrial_26
def F_X5_writes (σ : FS) : Int32 := (F_X2_begunWrites σ)
set_option maxHeartbeats 4000000 in
set_option maxRecDepth 100000 in
theorem c_X5_writes (l : Launch) (D : va_G) (cA : ClassId) (b s0 f w s2 f2 w2 t0 d db e0 : Nat) (σ : FS) (ρ : FS) (τ : TS) (δ : DS) (run : Int32) : Met l yX5_writes wsX5_writes ({ frames := 1, cells := 0, slots := 0, locals := 20 }) (va_Pc [.ref b] (bx_ro D [(cA, .int)] (wBo cA b s0 f w s2 f2 w2 t0 d db e0 σ ρ τ δ run))) (vp_Si (fun r => r = F_X5_writes σ)) 0 0 (fun _ => False) := by
  refine Met.ofW (cc := cX5_writes) (maxL := 1) (ret := (some .int)) (by decide) rfl ?_
  intro p e s m args below meth c s₁ B hml hv
  obtain ⟨rfl, hP, hK, hG⟩ := hv
  have hx := B.exec
  have hb := B.bytes
  have hr := B.returns
  have hts := atoms_spec (ws := wsX5_writes) B.pre
  have hown : s.vm.findClass RX5 = some m.cls := findClass_of_methodNamed B.named
  have hlocks := B.notSynchronized
  have hP : va_P D vwCl [(b, .inr (5, [.ref s0, .ref s2, .ref t0, .ref d, .ref e0, .int run])), (s0, .inr (3, [.ref f])), (f, .inr (2, [.ref w, .int σ.2.1, .int σ.2.2])), (w, .inl (cA, 66, .inl σ.1)), (s2, .inr (3, [.ref f2])), (f2, .inr (2, [.ref w2, .int ρ.2.1, .int ρ.2.2])), (w2, .inl (cA, 66, .inl ρ.1)), (t0, .inr (4, [.int τ.1, .int τ.2.1, .int τ.2.2.1, .int τ.2.2.2.1, .int τ.2.2.2.2.1, .int τ.2.2.2.2.2])), (d, .inr (1, [.int δ.1, .ref db])), (db, .inl (cA, 24, .inl δ.2)), (e0, .inr (0, [.ref d, .ref s0]))] s.heap := hP
  have hl := lv_entry ([.ref b]) (n := 1) (Nat.le_of_ble_eq_true rfl)
  rw [lg_entry_eq]
  generalize (lg_sl ([.ref b]) ++ List.replicate (1 - (lg_sl ([.ref b])).length) Slot.unset).toArray = ls at hl ⊢
  have hl : lv_has ls 1 [(0, .ref b)] := hl
  have hi3 : ∀ w ∈ u_ws RX3 TX3 1, w ∈ wsX5_writes := by decide +kernel
  have hi5 : ∀ w ∈ u_ws RX5 TX5 6, w ∈ wsX5_writes := by decide +kernel
  refine lv_aload_n hx hb dX5_writes_0 rfl (lv_at hl 0 rfl) ?_
  refine va_get (D := D) (ci := 5) (v := .ref s0) (C := RX5) (T := TX5) (N := 6) hx hb hts hi5 hown hK hP 0 rfl rfl 0 (by decide) (hts (.fieldLink RX5 10 "Bootstay" "store" "LBootstay$Store;") (by decide +kernel)) (fun _ h9 => h9) rfl dX5_writes_1 ?_
  refine va_get (D := D) (ci := 3) (v := .ref f) (C := RX3) (T := TX3) (N := 1) hx hb hts hi3 hown hK hP 1 rfl rfl 0 (by decide) (hts (.fieldLink RX5 71 "Bootstay$Store" "flash" "LBootstay$Flash;") (by decide +kernel)) (fun _ h9 => h9) rfl dX5_writes_4 ?_
  refine bx_ri (va_runV (As := []) (rest := []) ⟨hx, hb, hml, hown, hts⟩ (c_X2_begunWrites l D cA f w σ) (cwV 0 hts gX5_writes_X2_begunWrites rfl rfl rfl (by decide +kernel) ⟨Nat.le_of_ble_eq_true rfl, Nat.le_of_ble_eq_true rfl⟩) (bx_pvr (ci := 2) (q0 := 0) hK hG (hP.sub (ws' := [(f, .inr (2, [.ref w, .int σ.2.1, .int σ.2.2])), (w, .inl (cA, 66, .inl σ.1))]) [2, 3] rfl) rfl rfl) rfl rfl hl.1 rfl (lv_room (Nat.le_of_ble_eq_true rfl)) dX5_writes_7 ⟨Nat.zero_le _, Nat.zero_le _⟩) (fun r_1 h_2 => ?_)
  have h_2 := h_2.symm
  subst h_2
  exact W.iret (v := (F_X2_begunWrites σ)) hx hb hr (fun t ht hW => ⟨(F_X2_begunWrites σ), rfl, rfl, ht⟩) (fun _ h => nomatch h) dX5_writes_10
def F_X5_offer (σ : FS) (τ : TS) (run : Int32) (p0 : Int32) (p1 : Int32) (p2 : Int32) (p3 : Int32) : Int32 × Int32 × (FS) × (TS) × (Int32) := (if (F_X5_requireWithin p0 1 9999) = 0 then (if (F_X5_requireWithin p1 1 24) = 0 then (if (F_X5_requireWithin p2 0 65520) = 0 then (if (F_X5_requireWithin p3 0 9999) = 0 then (if (F_X5_requireOn run) = 0 then (if (F_X3_isTrialDue σ) = 0 then (if p0 ≤ (F_X3_slotWord σ run 1) then (2, 0, σ, τ, run) else (if (F_X3_recordCounter σ) ≤ p3 then (let u_22 := (F_X4_begin p0 p1 p2 p3); (match (F_X3_writeSlotWord σ (F_X5_idleSlot run) 0 0) with | (r_28, u_27) => (match (F_X5_stayOn u_22 run r_28) with | (r_33, τ34, run35) => (0, r_33, u_27, τ34, run35)))) else (2, 0, σ, τ, run))) else (2, 0, σ, τ, run)) else ((F_X5_requireOn run), 0, σ, τ, run)) else ((F_X5_requireWithin p3 0 9999), 0, σ, τ, run)) else ((F_X5_requireWithin p2 0 65520), 0, σ, τ, run)) else ((F_X5_requireWithin p1 1 24), 0, σ, τ, run)) else ((F_X5_requireWithin p0 1 9999), 0, σ, τ, run))
set_option maxHeartbeats 4000000 in
set_option maxRecDepth 100000 in
theorem c_X5_offer (l : Launch) (hl9 : l.stackTraces = false) (D : va_G) (cA : ClassId) (b s0 f w s2 f2 w2 t0 d db e0 : Nat) (sz : Nat) (σ : FS) (ρ : FS) (τ : TS) (δ : DS) (run : Int32) (p0 : Int32) (p1 : Int32) (p2 : Int32) (p3 : Int32) : vx_Met l yX5_offer wsX5_offer ({ frames := 7, cells := 1, slots := 6, locals := 112 }) (va_Pc [.ref b, .int p0, .int p1, .int p2, .int p3] (bx_prx D [(cA, .int)] (wBo cA b s0 f w s2 f2 w2 t0 d db e0 σ ρ τ δ run) sz)) (va_Qi (fun r u => (0, r, u) = F_X5_offer σ τ run p0 p1 p2 p3 ∧ (r = 0 ∨ r = 1)) (fun u t => bx_at D (wBo cA b s0 f w s2 f2 w2 t0 d db e0 u.1 ρ u.2.1 δ u.2.2) (va_A (wBo cA b s0 f w s2 f2 w2 t0 d db e0 σ ρ τ δ run) sz) t) (va_A (wBo cA b s0 f w s2 f2 w2 t0 d db e0 σ ρ τ δ run) sz)) (bx_XC (F_X5_offer σ τ run p0 p1 p2 p3).1) 1 6 (va_A (wBo cA b s0 f w s2 f2 w2 t0 d db e0 σ ρ τ δ run) sz) := by
  refine vx_ofW (cc := cX5_offer) (maxL := 5) (ret := (some .boolean)) (by decide) rfl ?_
  intro p e s m args below meth c s₁ B hml hnx hv
  obtain ⟨rfl, hsz, hP, hK, hD0, hG, hZ⟩ := hv
  have hx := B.exec
  have hb := B.bytes
  have hr := B.returns
  have hts := atoms_spec (ws := wsX5_offer) B.pre
  have hown : s.vm.findClass RX5 = some m.cls := findClass_of_methodNamed B.named
  have hlocks := B.notSynchronized
  subst hsz
  have hD := hD0.self (sz := s.heap.size)
  generalize hAe : va_A (wBo cA b s0 f w s2 f2 w2 t0 d db e0 σ ρ τ δ run) s.heap.size = A at hD ⊢
  have hA : ∀ q : Nat, s.heap.size ≤ q → A q := fun q h => by rw [← hAe]; exact Or.inr h
  have hS : va_S A s.heap s.heap [] := va_S.rf
  have hD : va_D A [(b, .inr (5, [.ref s0, .ref s2, .ref t0, .ref d, .ref e0, .int run])), (s0, .inr (3, [.ref f])), (f, .inr (2, [.ref w, .int σ.2.1, .int σ.2.2])), (w, .inl (cA, 66, .inl σ.1)), (s2, .inr (3, [.ref f2])), (f2, .inr (2, [.ref w2, .int ρ.2.1, .int ρ.2.2])), (w2, .inl (cA, 66, .inl ρ.1)), (t0, .inr (4, [.int τ.1, .int τ.2.1, .int τ.2.2.1, .int τ.2.2.2.1, .int τ.2.2.2.2.1, .int τ.2.2.2.2.2])), (d, .inr (1, [.int δ.1, .ref db])), (db, .inl (cA, 24, .inl δ.2)), (e0, .inr (0, [.ref d, .ref s0]))] := hD
  have hP : va_P D vwCl [(b, .inr (5, [.ref s0, .ref s2, .ref t0, .ref d, .ref e0, .int run])), (s0, .inr (3, [.ref f])), (f, .inr (2, [.ref w, .int σ.2.1, .int σ.2.2])), (w, .inl (cA, 66, .inl σ.1)), (s2, .inr (3, [.ref f2])), (f2, .inr (2, [.ref w2, .int ρ.2.1, .int ρ.2.2])), (w2, .inl (cA, 66, .inl ρ.1)), (t0, .inr (4, [.int τ.1, .int τ.2.1, .int τ.2.2.1, .int τ.2.2.2.1, .int τ.2.2.2.2.1, .int τ.2.2.2.2.2])), (d, .inr (1, [.int δ.1, .ref db])), (db, .inl (cA, 24, .inl δ.2)), (e0, .inr (0, [.ref d, .ref s0]))] s.heap := hP
  have hl := lv_entry ([.ref b, .int p0, .int p1, .int p2, .int p3]) (n := 5) (Nat.le_of_ble_eq_true rfl)
  rw [lg_entry_eq]
  generalize (lg_sl ([.ref b, .int p0, .int p1, .int p2, .int p3]) ++ List.replicate (5 - (lg_sl ([.ref b, .int p0, .int p1, .int p2, .int p3])).length) Slot.unset).toArray = ls at hl ⊢
  have hl : lv_has ls 5 [(0, .ref b), (1, .int p0), (2, .int p1), (3, .int p2), (4, .int p3)] := hl
  have hi5 : ∀ w ∈ u_ws RX5 TX5 6, w ∈ wsX5_offer := by decide +kernel
  refine lv_iload_n hx hb dX5_offer_0 rfl (lv_at hl 1 rfl) ?_
  refine lv_iconst (v := 1) hx hb dX5_offer_1 (by decide) ?_
  refine lv_sipush (v := 9999) hx hb dX5_offer_2 (by decide) ?_
  refine bx_xsv (vx_runS (As := [.int p0, .int 1, .int 9999]) (rest := []) ⟨hx, hb, hml, hown, hts⟩ (c_X5_requireWithin l hl9 D p0 1 9999) (va_cwS 3 hts gX5_offer_X5_requireWithin rfl rfl rfl (by decide +kernel) ⟨Nat.le_of_ble_eq_true rfl, Nat.le_of_ble_eq_true rfl⟩) (bx_psrx (hK.sub (tys' := []) [] rfl) hG hZ (hP.sub (ws' := []) [] rfl)) rfl rfl hl.1 rfl (lv_room (Nat.le_of_ble_eq_true rfl)) dX5_offer_5 ⟨Nat.le_of_ble_eq_true rfl, Nat.le_of_ble_eq_true rfl⟩) hS (fun _ h => h.elim) (fun E ce q9 H1 locs E_2 hz9 hk9 hS hce hcv hcl => ?_) (fun e_1 => ?_)
  · skip
    refine vx_out (fun x h => (hnx x h).elim) hlocks hce hcv hcl (fun t ht hvm => ⟨(by simp only [F_X5_offer, if_neg (bx_ne E_2)]; exact E_2), by rw [ht]; exact hz9, fun q h _ => by rw [ht]; exact hk9 q h⟩) hS.2.2 (Nat.le_of_ble_eq_true rfl) (Nat.le_of_ble_eq_true rfl)
  · skip
    refine lv_iload_n hx hb dX5_offer_8 rfl (lv_at hl 2 rfl) ?_
    refine lv_iconst (v := 1) hx hb dX5_offer_9 (by decide) ?_
    refine lv_bipush (v := 24) hx hb dX5_offer_10 (by decide) ?_
    refine bx_xsv (vx_runS (As := [.int p1, .int 1, .int 24]) (rest := []) ⟨hx, hb, hml, hown, hts⟩ (c_X5_requireWithin l hl9 D p1 1 24) (va_cwS 3 hts gX5_offer_X5_requireWithin rfl rfl rfl (by decide +kernel) ⟨Nat.le_of_ble_eq_true rfl, Nat.le_of_ble_eq_true rfl⟩) (bx_psrx (hK.sub (tys' := []) [] rfl) hG hZ (hP.sub (ws' := []) [] rfl)) rfl rfl hl.1 rfl (lv_room (Nat.le_of_ble_eq_true rfl)) dX5_offer_12 ⟨Nat.le_of_ble_eq_true rfl, Nat.le_of_ble_eq_true rfl⟩) hS (fun _ h => h.elim) (fun E ce q9 H1 locs E_4 hz9 hk9 hS hce hcv hcl => ?_) (fun e_3 => ?_)
    · skip
      refine vx_out (fun x h => (hnx x h).elim) hlocks hce hcv hcl (fun t ht hvm => ⟨(by simp only [F_X5_offer, if_pos e_1, if_neg (bx_ne E_4)]; exact E_4), by rw [ht]; exact hz9, fun q h _ => by rw [ht]; exact hk9 q h⟩) hS.2.2 (Nat.le_of_ble_eq_true rfl) (Nat.le_of_ble_eq_true rfl)
    · skip
      refine lv_iload_n hx hb dX5_offer_15 rfl (lv_at hl 3 rfl) ?_
      refine lv_iconst (v := 0) hx hb dX5_offer_16 (by decide) ?_
      refine lv_ldc (v := 65520) hx hb hown (hts (.constant RX5 87 (65520)) (by decide +kernel)) dX5_offer_17 ?_
      refine bx_xsv (vx_runS (As := [.int p2, .int 0, .int 65520]) (rest := []) ⟨hx, hb, hml, hown, hts⟩ (c_X5_requireWithin l hl9 D p2 0 65520) (va_cwS 3 hts gX5_offer_X5_requireWithin rfl rfl rfl (by decide +kernel) ⟨Nat.le_of_ble_eq_true rfl, Nat.le_of_ble_eq_true rfl⟩) (bx_psrx (hK.sub (tys' := []) [] rfl) hG hZ (hP.sub (ws' := []) [] rfl)) rfl rfl hl.1 rfl (lv_room (Nat.le_of_ble_eq_true rfl)) dX5_offer_19 ⟨Nat.le_of_ble_eq_true rfl, Nat.le_of_ble_eq_true rfl⟩) hS (fun _ h => h.elim) (fun E ce q9 H1 locs E_6 hz9 hk9 hS hce hcv hcl => ?_) (fun e_5 => ?_)
      · skip
        refine vx_out (fun x h => (hnx x h).elim) hlocks hce hcv hcl (fun t ht hvm => ⟨(by simp only [F_X5_offer, if_pos e_1, if_pos e_3, if_neg (bx_ne E_6)]; exact E_6), by rw [ht]; exact hz9, fun q h _ => by rw [ht]; exact hk9 q h⟩) hS.2.2 (Nat.le_of_ble_eq_true rfl) (Nat.le_of_ble_eq_true rfl)
      · skip
        refine lv_iload hx hb dX5_offer_22 (lv_at hl 4 rfl) ?_
        refine lv_iconst (v := 0) hx hb dX5_offer_24 (by decide) ?_
        refine lv_sipush (v := 9999) hx hb dX5_offer_25 (by decide) ?_
        refine bx_xsv (vx_runS (As := [.int p3, .int 0, .int 9999]) (rest := []) ⟨hx, hb, hml, hown, hts⟩ (c_X5_requireWithin l hl9 D p3 0 9999) (va_cwS 3 hts gX5_offer_X5_requireWithin rfl rfl rfl (by decide +kernel) ⟨Nat.le_of_ble_eq_true rfl, Nat.le_of_ble_eq_true rfl⟩) (bx_psrx (hK.sub (tys' := []) [] rfl) hG hZ (hP.sub (ws' := []) [] rfl)) rfl rfl hl.1 rfl (lv_room (Nat.le_of_ble_eq_true rfl)) dX5_offer_28 ⟨Nat.le_of_ble_eq_true rfl, Nat.le_of_ble_eq_true rfl⟩) hS (fun _ h => h.elim) (fun E ce q9 H1 locs E_8 hz9 hk9 hS hce hcv hcl => ?_) (fun e_7 => ?_)
        · skip
          refine vx_out (fun x h => (hnx x h).elim) hlocks hce hcv hcl (fun t ht hvm => ⟨(by simp only [F_X5_offer, if_pos e_1, if_pos e_3, if_pos e_5, if_neg (bx_ne E_8)]; exact E_8), by rw [ht]; exact hz9, fun q h _ => by rw [ht]; exact hk9 q h⟩) hS.2.2 (Nat.le_of_ble_eq_true rfl) (Nat.le_of_ble_eq_true rfl)
        · skip
          refine lv_aload_n hx hb dX5_offer_31 rfl (lv_at hl 0 rfl) ?_
          refine bx_xsv (vx_runV (As := []) (rest := []) ⟨hx, hb, hml, hown, hts⟩ (c_X5_requireOn l hl9 D cA b s0 f w s2 f2 w2 t0 d db e0 σ ρ τ δ run) (cwV 0 hts gX5_offer_X5_requireOn rfl rfl rfl (by decide +kernel) ⟨Nat.le_of_ble_eq_true rfl, Nat.le_of_ble_eq_true rfl⟩) (bx_pvrx (ci := 5) (q0 := 0) hK hG hZ (hP.sub (ws' := [(b, .inr (5, [.ref s0, .ref s2, .ref t0, .ref d, .ref e0, .int run])), (s0, .inr (3, [.ref f])), (f, .inr (2, [.ref w, .int σ.2.1, .int σ.2.2])), (w, .inl (cA, 66, .inl σ.1)), (s2, .inr (3, [.ref f2])), (f2, .inr (2, [.ref w2, .int ρ.2.1, .int ρ.2.2])), (w2, .inl (cA, 66, .inl ρ.1)), (t0, .inr (4, [.int τ.1, .int τ.2.1, .int τ.2.2.1, .int τ.2.2.2.1, .int τ.2.2.2.2.1, .int τ.2.2.2.2.2])), (d, .inr (1, [.int δ.1, .ref db])), (db, .inl (cA, 24, .inl δ.2)), (e0, .inr (0, [.ref d, .ref s0]))]) [0, 1, 2, 3, 4, 5, 6, 7, 8, 9, 10] rfl) rfl rfl) rfl rfl hl.1 rfl (lv_room (Nat.le_of_ble_eq_true rfl)) dX5_offer_32 ⟨Nat.le_of_ble_eq_true rfl, Nat.le_of_ble_eq_true rfl⟩) hS (fun _ h => h.elim) (fun E ce q9 H1 locs E_10 hz9 hk9 hS hce hcv hcl => ?_) (fun e_9 => ?_)
          · skip
            refine vx_out (fun x h => (hnx x h).elim) hlocks hce hcv hcl (fun t ht hvm => ⟨(by simp only [F_X5_offer, if_pos e_1, if_pos e_3, if_pos e_5, if_pos e_7, if_neg (bx_ne E_10)]; exact E_10), by rw [ht]; exact hz9, fun q h _ => by rw [ht]; exact hk9 q h⟩) hS.2.2 (Nat.le_of_ble_eq_true rfl) (Nat.le_of_ble_eq_true rfl)
          · skip
            refine lv_aload_n hx hb dX5_offer_35 rfl (lv_at hl 0 rfl) ?_
            refine va_get (D := D) (ci := 5) (v := .ref s0) (C := RX5) (T := TX5) (N := 6) hx hb hts hi5 hown hK hP 0 rfl rfl 0 (by decide) (hts (.fieldLink RX5 10 "Bootstay" "store" "LBootstay$Store;") (by decide +kernel)) (fun _ h9 => h9) rfl dX5_offer_36 ?_
            refine bx_ri (va_runV (As := []) (rest := []) ⟨hx, hb, hml, hown, hts⟩ (c_X3_isTrialDue l D cA s0 f w σ) (cwV 0 hts gX5_offer_X3_isTrialDue rfl rfl rfl (by decide +kernel) ⟨Nat.le_of_ble_eq_true rfl, Nat.le_of_ble_eq_true rfl⟩) (bx_pvr (ci := 3) (q0 := 0) hK hG (hP.sub (ws' := [(s0, .inr (3, [.ref f])), (f, .inr (2, [.ref w, .int σ.2.1, .int σ.2.2])), (w, .inl (cA, 66, .inl σ.1))]) [1, 2, 3] rfl) rfl rfl) rfl rfl hl.1 rfl (lv_room (Nat.le_of_ble_eq_true rfl)) dX5_offer_39 ⟨Nat.zero_le _, Nat.zero_le _⟩) (fun r_11 h_12 => ?_)
            obtain ⟨h_12, b_13⟩ := h_12
            have h_12 := h_12.symm
            subst h_12
            refine lv_if_eq (tgt := 55) hx hb dX5_offer_42 (by decide) (fun c_14 => ?_) (fun c_14 => ?_)
            · skip
              refine lv_iload_n hx hb dX5_offer_55 rfl (lv_at hl 1 rfl) ?_
              refine lv_aload_n hx hb dX5_offer_56 rfl (lv_at hl 0 rfl) ?_
              refine va_get (D := D) (ci := 5) (v := .ref s0) (C := RX5) (T := TX5) (N := 6) hx hb hts hi5 hown hK hP 0 rfl rfl 0 (by decide) (hts (.fieldLink RX5 10 "Bootstay" "store" "LBootstay$Store;") (by decide +kernel)) (fun _ h9 => h9) rfl dX5_offer_57 ?_
              refine lv_aload_n hx hb dX5_offer_60 rfl (lv_at hl 0 rfl) ?_
              refine va_get (D := D) (ci := 5) (v := .int run) (C := RX5) (T := TX5) (N := 6) hx hb hts hi5 hown hK hP 0 rfl rfl 5 (by decide) (hts (.fieldLink RX5 42 "Bootstay" "runningSlot" "I") (by decide +kernel)) (fun _ h9 => h9) rfl dX5_offer_61 ?_
              refine lv_iconst (v := 1) hx hb dX5_offer_64 (by decide) ?_
              refine bx_ri (va_runV (As := [.int run, .int 1]) (rest := [.int p0]) ⟨hx, hb, hml, hown, hts⟩ (c_X3_slotWord l D cA s0 f w σ run 1) (cwV 2 hts gX5_offer_X3_slotWord rfl rfl rfl (by decide +kernel) ⟨Nat.le_of_ble_eq_true rfl, Nat.le_of_ble_eq_true rfl⟩) (bx_pvr (ci := 3) (q0 := 0) hK hG (hP.sub (ws' := [(s0, .inr (3, [.ref f])), (f, .inr (2, [.ref w, .int σ.2.1, .int σ.2.2])), (w, .inl (cA, 66, .inl σ.1))]) [1, 2, 3] rfl) rfl rfl) rfl rfl hl.1 rfl (lv_room (Nat.le_of_ble_eq_true rfl)) dX5_offer_65 ⟨Nat.zero_le _, Nat.zero_le _⟩) (fun r_15 h_16 => ?_)
              have h_16 := h_16.symm
              subst h_16
              refine lv_icmp_le (tgt := 83) hx hb dX5_offer_68 (by decide) (fun c_17 => ?_) (fun c_17 => ?_)
              · skip
                obtain ⟨sa, hstr⟩ := hG.2.2 (100, "the offer is older than what the device has") (by decide +kernel)
                exact vx_throwS hx hb hl9 (own := RX5) (cls := bx_ise) (text := "the offer is older than what the device has") (names := ["java/lang/RuntimeException", "java/lang/Exception"]) (ic := 54) (A := fun _ => False) hown (by decide +kernel) (by decide +kernel) (hts (.classLink RX5 50 bx_ise) (by decide +kernel)) (hts (.initialized bx_ise) (by decide +kernel)) hstr (bx_hat2 hG (fun w hw => hts w (by first | exact List.mem_cons_of_mem _ (List.mem_append_right _ hw) | exact List.mem_cons_of_mem _ (List.mem_append_left _ (List.mem_append_right _ hw)) | exact List.mem_cons_of_mem _ (List.mem_append_left _ (List.mem_append_left _ (List.mem_append_right _ hw)))))) bx_hg2 hZ.1 hZ.2 va_S.rf (by rw [hml]; exact hl.1) dX5_offer_83 dX5_offer_86 dX5_offer_87 dX5_offer_89 dX5_offer_92 (fun x h => (hnx x h).elim) (Nat.le_of_ble_eq_true rfl) (Nat.le_of_ble_eq_true rfl) (Nat.le_of_ble_eq_true rfl) (Nat.le_of_ble_eq_true rfl) hlocks (fun t hvm hz hk => ⟨(by simp only [F_X5_offer, if_pos e_1, if_pos e_3, if_pos e_5, if_pos e_7, if_pos e_9, if_pos c_14, if_pos c_17]; exact bx_e2), hz, fun q h _ => hk q h⟩) (fun _ h => nomatch h) (Nat.le_of_ble_eq_true rfl) (Nat.le_of_ble_eq_true rfl)
              · skip
                refine lv_iload hx hb dX5_offer_71 (lv_at hl 4 rfl) ?_
                refine lv_aload_n hx hb dX5_offer_73 rfl (lv_at hl 0 rfl) ?_
                refine va_get (D := D) (ci := 5) (v := .ref s0) (C := RX5) (T := TX5) (N := 6) hx hb hts hi5 hown hK hP 0 rfl rfl 0 (by decide) (hts (.fieldLink RX5 10 "Bootstay" "store" "LBootstay$Store;") (by decide +kernel)) (fun _ h9 => h9) rfl dX5_offer_74 ?_
                refine bx_ri (va_runV (As := []) (rest := [.int p3]) ⟨hx, hb, hml, hown, hts⟩ (c_X3_recordCounter l D cA s0 f w σ) (cwV 0 hts gX5_offer_X3_recordCounter rfl rfl rfl (by decide +kernel) ⟨Nat.le_of_ble_eq_true rfl, Nat.le_of_ble_eq_true rfl⟩) (bx_pvr (ci := 3) (q0 := 0) hK hG (hP.sub (ws' := [(s0, .inr (3, [.ref f])), (f, .inr (2, [.ref w, .int σ.2.1, .int σ.2.2])), (w, .inl (cA, 66, .inl σ.1))]) [1, 2, 3] rfl) rfl rfl) rfl rfl hl.1 rfl (lv_room (Nat.le_of_ble_eq_true rfl)) dX5_offer_77 ⟨Nat.zero_le _, Nat.zero_le _⟩) (fun r_18 h_19 => ?_)
                have h_19 := h_19.symm
                subst h_19
                refine lv_icmp_ge (tgt := 93) hx hb dX5_offer_80 (by decide) (fun c_20 => ?_) (fun c_20 => ?_)
                · skip
                  refine lv_aload_n hx hb dX5_offer_93 rfl (lv_at hl 0 rfl) ?_
                  refine va_get (D := D) (ci := 5) (v := .ref t0) (C := RX5) (T := TX5) (N := 6) hx hb hts hi5 hown hK hP 0 rfl rfl 2 (by decide) (hts (.fieldLink RX5 22 "Bootstay" "transfer" "LBootstay$Transfer;") (by decide +kernel)) (fun _ h9 => h9) rfl dX5_offer_94 ?_
                  refine lv_iload_n hx hb dX5_offer_97 rfl (lv_at hl 1 rfl) ?_
                  refine lv_iload_n hx hb dX5_offer_98 rfl (lv_at hl 2 rfl) ?_
                  refine lv_iload_n hx hb dX5_offer_99 rfl (lv_at hl 3 rfl) ?_
                  refine lv_iload hx hb dX5_offer_100 (lv_at hl 4 rfl) ?_
                  refine bx_wv (wc := [(t0, .inr (4, [.int τ.1, .int τ.2.1, .int τ.2.2.1, .int τ.2.2.2.1, .int τ.2.2.2.2.1, .int τ.2.2.2.2.2]))]) (wr := [(b, .inr (5, [.ref s0, .ref s2, .ref t0, .ref d, .ref e0, .int run])), (s0, .inr (3, [.ref f])), (f, .inr (2, [.ref w, .int σ.2.1, .int σ.2.2])), (w, .inl (cA, 66, .inl σ.1)), (s2, .inr (3, [.ref f2])), (f2, .inr (2, [.ref w2, .int ρ.2.1, .int ρ.2.2])), (w2, .inl (cA, 66, .inl ρ.1)), (d, .inr (1, [.int δ.1, .ref db])), (db, .inl (cA, 24, .inl δ.2)), (e0, .inr (0, [.ref d, .ref s0]))]) (wf := fun (u : (TS)) => [(t0, .inr (4, [.int u.1, .int u.2.1, .int u.2.2.1, .int u.2.2.2.1, .int u.2.2.2.2.1, .int u.2.2.2.2.2]))]) (wn := fun (u : (TS)) => [(b, .inr (5, [.ref s0, .ref s2, .ref t0, .ref d, .ref e0, .int run])), (s0, .inr (3, [.ref f])), (f, .inr (2, [.ref w, .int σ.2.1, .int σ.2.2])), (w, .inl (cA, 66, .inl σ.1)), (s2, .inr (3, [.ref f2])), (f2, .inr (2, [.ref w2, .int ρ.2.1, .int ρ.2.2])), (w2, .inl (cA, 66, .inl ρ.1)), (t0, .inr (4, [.int u.1, .int u.2.1, .int u.2.2.1, .int u.2.2.2.1, .int u.2.2.2.2.1, .int u.2.2.2.2.2])), (d, .inr (1, [.int δ.1, .ref db])), (db, .inl (cA, 24, .inl δ.2)), (e0, .inr (0, [.ref d, .ref s0]))]) hP hD hS hA [7] [0, 1, 2, 3, 4, 5, 6, 8, 9, 10] [0, 1, 2, 3, 4, 5, 6, 10, 7, 8, 9] rfl rfl (by decide) (by decide) (fun u => rfl) (by decide) (va_runV (As := [.int p0, .int p1, .int p2, .int p3]) (rest := []) ⟨hx, hb, hml, hown, hts⟩ (c_X4_begin l D t0 s.heap.size τ p0 p1 p2 p3) (cwV 4 hts gX5_offer_X4_begin rfl rfl rfl (by decide +kernel) ⟨Nat.le_of_ble_eq_true rfl, Nat.le_of_ble_eq_true rfl⟩) (bx_pv (ci := 4) (q0 := 0) (hK.sub (tys' := []) [] rfl) hG (hP.sub (ws' := [(t0, .inr (4, [.int τ.1, .int τ.2.1, .int τ.2.2.1, .int τ.2.2.2.1, .int τ.2.2.2.2.1, .int τ.2.2.2.2.2]))]) [7] rfl) (hD.sub (ws' := [(t0, .inr (4, [.int τ.1, .int τ.2.1, .int τ.2.2.1, .int τ.2.2.2.1, .int τ.2.2.2.2.1, .int τ.2.2.2.2.2]))]) [7] (by decide) rfl) rfl rfl) rfl rfl hl.1 rfl (lv_room (Nat.le_of_ble_eq_true rfl)) dX5_offer_102 ⟨Nat.zero_le _, Nat.zero_le _⟩) (fun  u_22 H locs h_21 hP hD hS => ?_)
                  have hP : va_P D vwCl [(b, .inr (5, [.ref s0, .ref s2, .ref t0, .ref d, .ref e0, .int run])), (s0, .inr (3, [.ref f])), (f, .inr (2, [.ref w, .int σ.2.1, .int σ.2.2])), (w, .inl (cA, 66, .inl σ.1)), (s2, .inr (3, [.ref f2])), (f2, .inr (2, [.ref w2, .int ρ.2.1, .int ρ.2.2])), (w2, .inl (cA, 66, .inl ρ.1)), (t0, .inr (4, [.int u_22.1, .int u_22.2.1, .int u_22.2.2.1, .int u_22.2.2.2.1, .int u_22.2.2.2.2.1, .int u_22.2.2.2.2.2])), (d, .inr (1, [.int δ.1, .ref db])), (db, .inl (cA, 24, .inl δ.2)), (e0, .inr (0, [.ref d, .ref s0]))] H := hP
                  have hD : va_D A [(b, .inr (5, [.ref s0, .ref s2, .ref t0, .ref d, .ref e0, .int run])), (s0, .inr (3, [.ref f])), (f, .inr (2, [.ref w, .int σ.2.1, .int σ.2.2])), (w, .inl (cA, 66, .inl σ.1)), (s2, .inr (3, [.ref f2])), (f2, .inr (2, [.ref w2, .int ρ.2.1, .int ρ.2.2])), (w2, .inl (cA, 66, .inl ρ.1)), (t0, .inr (4, [.int u_22.1, .int u_22.2.1, .int u_22.2.2.1, .int u_22.2.2.2.1, .int u_22.2.2.2.2.1, .int u_22.2.2.2.2.2])), (d, .inr (1, [.int δ.1, .ref db])), (db, .inl (cA, 24, .inl δ.2)), (e0, .inr (0, [.ref d, .ref s0]))] := hD
                  refine lv_aload_n hx hb dX5_offer_105 rfl (lv_at hl 0 rfl) ?_
                  refine lv_aload_n hx hb dX5_offer_106 rfl (lv_at hl 0 rfl) ?_
                  refine va_get (D := D) (ci := 5) (v := .ref s0) (C := RX5) (T := TX5) (N := 6) hx hb hts hi5 hown hK hP 0 rfl rfl 0 (by decide) (hts (.fieldLink RX5 10 "Bootstay" "store" "LBootstay$Store;") (by decide +kernel)) (fun _ h9 => h9) rfl dX5_offer_107 ?_
                  refine lv_aload_n hx hb dX5_offer_110 rfl (lv_at hl 0 rfl) ?_
                  refine bx_ri (va_runV (As := []) (rest := [.ref s0, .ref b]) ⟨hx, hb, hml, hown, hts⟩ (c_X5_idleSlot l D cA b s0 f w s2 f2 w2 t0 d db e0 σ ρ u_22 δ run) (cwV 0 hts gX5_offer_X5_idleSlot rfl rfl rfl (by decide +kernel) ⟨Nat.le_of_ble_eq_true rfl, Nat.le_of_ble_eq_true rfl⟩) (bx_pvr (ci := 5) (q0 := 0) hK hG (hP.sub (ws' := [(b, .inr (5, [.ref s0, .ref s2, .ref t0, .ref d, .ref e0, .int run])), (s0, .inr (3, [.ref f])), (f, .inr (2, [.ref w, .int σ.2.1, .int σ.2.2])), (w, .inl (cA, 66, .inl σ.1)), (s2, .inr (3, [.ref f2])), (f2, .inr (2, [.ref w2, .int ρ.2.1, .int ρ.2.2])), (w2, .inl (cA, 66, .inl ρ.1)), (t0, .inr (4, [.int u_22.1, .int u_22.2.1, .int u_22.2.2.1, .int u_22.2.2.2.1, .int u_22.2.2.2.2.1, .int u_22.2.2.2.2.2])), (d, .inr (1, [.int δ.1, .ref db])), (db, .inl (cA, 24, .inl δ.2)), (e0, .inr (0, [.ref d, .ref s0]))]) [0, 1, 2, 3, 4, 5, 6, 7, 8, 9, 10] rfl) rfl rfl) rfl rfl hl.1 rfl (lv_room (Nat.le_of_ble_eq_true rfl)) dX5_offer_111 ⟨Nat.zero_le _, Nat.zero_le _⟩) (fun r_24 h_25 => ?_)
                  have h_25 := h_25.symm
                  subst h_25
                  refine lv_iconst (v := 0) hx hb dX5_offer_114 (by decide) ?_
                  refine lv_iconst (v := 0) hx hb dX5_offer_115 (by decide) ?_
                  refine bx_wi (wc := [(s0, .inr (3, [.ref f])), (f, .inr (2, [.ref w, .int σ.2.1, .int σ.2.2])), (w, .inl (cA, 66, .inl σ.1))]) (wr := [(b, .inr (5, [.ref s0, .ref s2, .ref t0, .ref d, .ref e0, .int run])), (s2, .inr (3, [.ref f2])), (f2, .inr (2, [.ref w2, .int ρ.2.1, .int ρ.2.2])), (w2, .inl (cA, 66, .inl ρ.1)), (t0, .inr (4, [.int u_22.1, .int u_22.2.1, .int u_22.2.2.1, .int u_22.2.2.2.1, .int u_22.2.2.2.2.1, .int u_22.2.2.2.2.2])), (d, .inr (1, [.int δ.1, .ref db])), (db, .inl (cA, 24, .inl δ.2)), (e0, .inr (0, [.ref d, .ref s0]))]) (wf := fun (u : (FS)) => [(s0, .inr (3, [.ref f])), (f, .inr (2, [.ref w, .int u.2.1, .int u.2.2])), (w, .inl (cA, 66, .inl u.1))]) (wn := fun (u : (FS)) => [(b, .inr (5, [.ref s0, .ref s2, .ref t0, .ref d, .ref e0, .int run])), (s0, .inr (3, [.ref f])), (f, .inr (2, [.ref w, .int u.2.1, .int u.2.2])), (w, .inl (cA, 66, .inl u.1)), (s2, .inr (3, [.ref f2])), (f2, .inr (2, [.ref w2, .int ρ.2.1, .int ρ.2.2])), (w2, .inl (cA, 66, .inl ρ.1)), (t0, .inr (4, [.int u_22.1, .int u_22.2.1, .int u_22.2.2.1, .int u_22.2.2.2.1, .int u_22.2.2.2.2.1, .int u_22.2.2.2.2.2])), (d, .inr (1, [.int δ.1, .ref db])), (db, .inl (cA, 24, .inl δ.2)), (e0, .inr (0, [.ref d, .ref s0]))]) hP hD hS hA [1, 2, 3] [0, 4, 5, 6, 7, 8, 9, 10] [0, 8, 9, 10, 1, 2, 3, 4, 5, 6, 7] rfl rfl (by decide) (by decide) (fun u => rfl) (by decide) (va_runV (As := [.int (F_X5_idleSlot run), .int 0, .int 0]) (rest := [.ref b]) ⟨hx, hb, hml, hown, hts⟩ (c_X3_writeSlotWord l D cA s0 f w H.size σ (F_X5_idleSlot run) 0 0) (cwV 3 hts gX5_offer_X3_writeSlotWord rfl rfl rfl (by decide +kernel) ⟨Nat.le_of_ble_eq_true rfl, Nat.le_of_ble_eq_true rfl⟩) (bx_pv (ci := 3) (q0 := 0) hK hG (hP.sub (ws' := [(s0, .inr (3, [.ref f])), (f, .inr (2, [.ref w, .int σ.2.1, .int σ.2.2])), (w, .inl (cA, 66, .inl σ.1))]) [1, 2, 3] rfl) (hD.sub (ws' := [(s0, .inr (3, [.ref f])), (f, .inr (2, [.ref w, .int σ.2.1, .int σ.2.2])), (w, .inl (cA, 66, .inl σ.1))]) [1, 2, 3] (by decide) rfl) rfl rfl) rfl rfl hl.1 rfl (lv_room (Nat.le_of_ble_eq_true rfl)) dX5_offer_116 ⟨Nat.zero_le _, Nat.zero_le _⟩) (fun r_28 u_27 H locs h_26 hP hD hS => ?_)
                  obtain ⟨h_26, b_30⟩ := h_26
                  have hP : va_P D vwCl [(b, .inr (5, [.ref s0, .ref s2, .ref t0, .ref d, .ref e0, .int run])), (s0, .inr (3, [.ref f])), (f, .inr (2, [.ref w, .int u_27.2.1, .int u_27.2.2])), (w, .inl (cA, 66, .inl u_27.1)), (s2, .inr (3, [.ref f2])), (f2, .inr (2, [.ref w2, .int ρ.2.1, .int ρ.2.2])), (w2, .inl (cA, 66, .inl ρ.1)), (t0, .inr (4, [.int u_22.1, .int u_22.2.1, .int u_22.2.2.1, .int u_22.2.2.2.1, .int u_22.2.2.2.2.1, .int u_22.2.2.2.2.2])), (d, .inr (1, [.int δ.1, .ref db])), (db, .inl (cA, 24, .inl δ.2)), (e0, .inr (0, [.ref d, .ref s0]))] H := hP
                  have hD : va_D A [(b, .inr (5, [.ref s0, .ref s2, .ref t0, .ref d, .ref e0, .int run])), (s0, .inr (3, [.ref f])), (f, .inr (2, [.ref w, .int u_27.2.1, .int u_27.2.2])), (w, .inl (cA, 66, .inl u_27.1)), (s2, .inr (3, [.ref f2])), (f2, .inr (2, [.ref w2, .int ρ.2.1, .int ρ.2.2])), (w2, .inl (cA, 66, .inl ρ.1)), (t0, .inr (4, [.int u_22.1, .int u_22.2.1, .int u_22.2.2.1, .int u_22.2.2.2.1, .int u_22.2.2.2.2.1, .int u_22.2.2.2.2.2])), (d, .inr (1, [.int δ.1, .ref db])), (db, .inl (cA, 24, .inl δ.2)), (e0, .inr (0, [.ref d, .ref s0]))] := hD
                  refine bx_wi (wc := [(b, .inr (5, [.ref s0, .ref s2, .ref t0, .ref d, .ref e0, .int run])), (s0, .inr (3, [.ref f])), (f, .inr (2, [.ref w, .int u_27.2.1, .int u_27.2.2])), (w, .inl (cA, 66, .inl u_27.1)), (s2, .inr (3, [.ref f2])), (f2, .inr (2, [.ref w2, .int ρ.2.1, .int ρ.2.2])), (w2, .inl (cA, 66, .inl ρ.1)), (t0, .inr (4, [.int u_22.1, .int u_22.2.1, .int u_22.2.2.1, .int u_22.2.2.2.1, .int u_22.2.2.2.2.1, .int u_22.2.2.2.2.2])), (d, .inr (1, [.int δ.1, .ref db])), (db, .inl (cA, 24, .inl δ.2)), (e0, .inr (0, [.ref d, .ref s0]))]) (wr := []) (wf := fun (u : (TS) × (Int32)) => [(b, .inr (5, [.ref s0, .ref s2, .ref t0, .ref d, .ref e0, .int u.2])), (s0, .inr (3, [.ref f])), (f, .inr (2, [.ref w, .int u_27.2.1, .int u_27.2.2])), (w, .inl (cA, 66, .inl u_27.1)), (s2, .inr (3, [.ref f2])), (f2, .inr (2, [.ref w2, .int ρ.2.1, .int ρ.2.2])), (w2, .inl (cA, 66, .inl ρ.1)), (t0, .inr (4, [.int u.1.1, .int u.1.2.1, .int u.1.2.2.1, .int u.1.2.2.2.1, .int u.1.2.2.2.2.1, .int u.1.2.2.2.2.2])), (d, .inr (1, [.int δ.1, .ref db])), (db, .inl (cA, 24, .inl δ.2)), (e0, .inr (0, [.ref d, .ref s0]))]) (wn := fun (u : (TS) × (Int32)) => [(b, .inr (5, [.ref s0, .ref s2, .ref t0, .ref d, .ref e0, .int u.2])), (s0, .inr (3, [.ref f])), (f, .inr (2, [.ref w, .int u_27.2.1, .int u_27.2.2])), (w, .inl (cA, 66, .inl u_27.1)), (s2, .inr (3, [.ref f2])), (f2, .inr (2, [.ref w2, .int ρ.2.1, .int ρ.2.2])), (w2, .inl (cA, 66, .inl ρ.1)), (t0, .inr (4, [.int u.1.1, .int u.1.2.1, .int u.1.2.2.1, .int u.1.2.2.2.1, .int u.1.2.2.2.2.1, .int u.1.2.2.2.2.2])), (d, .inr (1, [.int δ.1, .ref db])), (db, .inl (cA, 24, .inl δ.2)), (e0, .inr (0, [.ref d, .ref s0]))]) hP hD hS hA [0, 1, 2, 3, 4, 5, 6, 7, 8, 9, 10] [] [0, 1, 2, 3, 4, 5, 6, 7, 8, 9, 10] rfl rfl (by decide) (by decide) (fun u => rfl) (by decide) (va_runV (As := [.int r_28]) (rest := []) ⟨hx, hb, hml, hown, hts⟩ (c_X5_stayOn l D cA b s0 f w s2 f2 w2 t0 d db e0 H.size u_27 ρ u_22 δ run r_28 b_30) (cwV 1 hts gX5_offer_X5_stayOn rfl rfl rfl (by decide +kernel) ⟨Nat.le_of_ble_eq_true rfl, Nat.le_of_ble_eq_true rfl⟩) (bx_pv (ci := 5) (q0 := 0) hK hG (hP.sub (ws' := [(b, .inr (5, [.ref s0, .ref s2, .ref t0, .ref d, .ref e0, .int run])), (s0, .inr (3, [.ref f])), (f, .inr (2, [.ref w, .int u_27.2.1, .int u_27.2.2])), (w, .inl (cA, 66, .inl u_27.1)), (s2, .inr (3, [.ref f2])), (f2, .inr (2, [.ref w2, .int ρ.2.1, .int ρ.2.2])), (w2, .inl (cA, 66, .inl ρ.1)), (t0, .inr (4, [.int u_22.1, .int u_22.2.1, .int u_22.2.2.1, .int u_22.2.2.2.1, .int u_22.2.2.2.2.1, .int u_22.2.2.2.2.2])), (d, .inr (1, [.int δ.1, .ref db])), (db, .inl (cA, 24, .inl δ.2)), (e0, .inr (0, [.ref d, .ref s0]))]) [0, 1, 2, 3, 4, 5, 6, 7, 8, 9, 10] rfl) (hD.sub (ws' := [(b, .inr (5, [.ref s0, .ref s2, .ref t0, .ref d, .ref e0, .int run])), (s0, .inr (3, [.ref f])), (f, .inr (2, [.ref w, .int u_27.2.1, .int u_27.2.2])), (w, .inl (cA, 66, .inl u_27.1)), (s2, .inr (3, [.ref f2])), (f2, .inr (2, [.ref w2, .int ρ.2.1, .int ρ.2.2])), (w2, .inl (cA, 66, .inl ρ.1)), (t0, .inr (4, [.int u_22.1, .int u_22.2.1, .int u_22.2.2.1, .int u_22.2.2.2.1, .int u_22.2.2.2.2.1, .int u_22.2.2.2.2.2])), (d, .inr (1, [.int δ.1, .ref db])), (db, .inl (cA, 24, .inl δ.2)), (e0, .inr (0, [.ref d, .ref s0]))]) [0, 1, 2, 3, 4, 5, 6, 7, 8, 9, 10] (by decide) rfl) rfl rfl) rfl rfl hl.1 rfl (lv_room (Nat.le_of_ble_eq_true rfl)) dX5_offer_119 ⟨Nat.zero_le _, Nat.zero_le _⟩) (fun r_33 u_32 H locs h_31 hP hD hS => ?_)
                  obtain ⟨τ34, run35⟩ := u_32
                  obtain ⟨h_31, b_36⟩ := h_31
                  have hP : va_P D vwCl [(b, .inr (5, [.ref s0, .ref s2, .ref t0, .ref d, .ref e0, .int run35])), (s0, .inr (3, [.ref f])), (f, .inr (2, [.ref w, .int u_27.2.1, .int u_27.2.2])), (w, .inl (cA, 66, .inl u_27.1)), (s2, .inr (3, [.ref f2])), (f2, .inr (2, [.ref w2, .int ρ.2.1, .int ρ.2.2])), (w2, .inl (cA, 66, .inl ρ.1)), (t0, .inr (4, [.int τ34.1, .int τ34.2.1, .int τ34.2.2.1, .int τ34.2.2.2.1, .int τ34.2.2.2.2.1, .int τ34.2.2.2.2.2])), (d, .inr (1, [.int δ.1, .ref db])), (db, .inl (cA, 24, .inl δ.2)), (e0, .inr (0, [.ref d, .ref s0]))] H := hP
                  have hD : va_D A [(b, .inr (5, [.ref s0, .ref s2, .ref t0, .ref d, .ref e0, .int run35])), (s0, .inr (3, [.ref f])), (f, .inr (2, [.ref w, .int u_27.2.1, .int u_27.2.2])), (w, .inl (cA, 66, .inl u_27.1)), (s2, .inr (3, [.ref f2])), (f2, .inr (2, [.ref w2, .int ρ.2.1, .int ρ.2.2])), (w2, .inl (cA, 66, .inl ρ.1)), (t0, .inr (4, [.int τ34.1, .int τ34.2.1, .int τ34.2.2.1, .int τ34.2.2.2.1, .int τ34.2.2.2.2.1, .int τ34.2.2.2.2.2])), (d, .inr (1, [.int δ.1, .ref db])), (db, .inl (cA, 24, .inl δ.2)), (e0, .inr (0, [.ref d, .ref s0]))] := hD
                  refine vx_ret ?_
                  refine W.widen (k := 1) (n := 6) (Nat.zero_le _) (Nat.zero_le _) ?_
                  exact W.zret (v := r_33) hx hb hr (bx_nb b_36) (fun t ht hW => ⟨⟨r_33, (u_27, τ34, run35), rfl, ⟨(by simp only [F_X5_offer, if_pos e_1, if_pos e_3, if_pos e_5, if_pos e_7, if_pos e_9, if_pos c_14, if_neg c_17, if_pos c_20, ← h_21, ← h_26, ← h_31]), b_36⟩, ⟨by rw [ht]; exact hP, hD⟩⟩, hS.F ht⟩) hS.2.2 dX5_offer_122
                · skip
                  obtain ⟨sa, hstr⟩ := hG.2.2 (100, "the offer is older than what the device has") (by decide +kernel)
                  exact vx_throwS hx hb hl9 (own := RX5) (cls := bx_ise) (text := "the offer is older than what the device has") (names := ["java/lang/RuntimeException", "java/lang/Exception"]) (ic := 54) (A := fun _ => False) hown (by decide +kernel) (by decide +kernel) (hts (.classLink RX5 50 bx_ise) (by decide +kernel)) (hts (.initialized bx_ise) (by decide +kernel)) hstr (bx_hat2 hG (fun w hw => hts w (by first | exact List.mem_cons_of_mem _ (List.mem_append_right _ hw) | exact List.mem_cons_of_mem _ (List.mem_append_left _ (List.mem_append_right _ hw)) | exact List.mem_cons_of_mem _ (List.mem_append_left _ (List.mem_append_left _ (List.mem_append_right _ hw)))))) bx_hg2 hZ.1 hZ.2 va_S.rf (by rw [hml]; exact hl.1) dX5_offer_83 dX5_offer_86 dX5_offer_87 dX5_offer_89 dX5_offer_92 (fun x h => (hnx x h).elim) (Nat.le_of_ble_eq_true rfl) (Nat.le_of_ble_eq_true rfl) (Nat.le_of_ble_eq_true rfl) (Nat.le_of_ble_eq_true rfl) hlocks (fun t hvm hz hk => ⟨(by simp only [F_X5_offer, if_pos e_1, if_pos e_3, if_pos e_5, if_pos e_7, if_pos e_9, if_pos c_14, if_neg c_17, if_neg c_20]; exact bx_e2), hz, fun q h _ => hk q h⟩) (fun _ h => nomatch h) (Nat.le_of_ble_eq_true rfl) (Nat.le_of_ble_eq_true rfl)
            · skip
              obtain ⟨sa, hstr⟩ := hG.2.2 (91, "a trial is due") (by decide +kernel)
              exact vx_throwS hx hb hl9 (own := RX5) (cls := bx_ise) (text := "a trial is due") (names := ["java/lang/RuntimeException", "java/lang/Exception"]) (ic := 54) (A := fun _ => False) hown (by decide +kernel) (by decide +kernel) (hts (.classLink RX5 50 bx_ise) (by decide +kernel)) (hts (.initialized bx_ise) (by decide +kernel)) hstr (bx_hat2 hG (fun w hw => hts w (by first | exact List.mem_cons_of_mem _ (List.mem_append_right _ hw) | exact List.mem_cons_of_mem _ (List.mem_append_left _ (List.mem_append_right _ hw)) | exact List.mem_cons_of_mem _ (List.mem_append_left _ (List.mem_append_left _ (List.mem_append_right _ hw)))))) bx_hg2 hZ.1 hZ.2 va_S.rf (by rw [hml]; exact hl.1) dX5_offer_45 dX5_offer_48 dX5_offer_49 dX5_offer_51 dX5_offer_54 (fun x h => (hnx x h).elim) (Nat.le_of_ble_eq_true rfl) (Nat.le_of_ble_eq_true rfl) (Nat.le_of_ble_eq_true rfl) (Nat.le_of_ble_eq_true rfl) hlocks (fun t hvm hz hk => ⟨(by simp only [F_X5_offer, if_pos e_1, if_pos e_3, if_pos e_5, if_pos e_7, if_pos e_9, if_neg c_14]; exact bx_e2), hz, fun q h _ => hk q h⟩) (fun _ h => nomatch h) (Nat.le_of_ble_eq_true rfl) (Nat.le_of_ble_eq_true rfl)
def F_X5_put (σ : FS) (τ : TS) (run : Int32) (p0 : Int32) : Int32 × Int32 × (FS) × (TS) × (Int32) := (if (F_X5_requireWithin p0 0 255) = 0 then (if (F_X5_requireToCome τ 1) = 0 then (match (F_X5_append σ τ run p0) with | (r_7, σ8, τ9, run10) => (0, r_7, σ8, τ9, run10)) else ((F_X5_requireToCome τ 1), 0, σ, τ, run)) else ((F_X5_requireWithin p0 0 255), 0, σ, τ, run))
set_option maxHeartbeats 4000000 in
set_option maxRecDepth 100000 in
theorem c_X5_put (l : Launch) (hl9 : l.stackTraces = false) (D : va_G) (cA : ClassId) (b s0 f w s2 f2 w2 t0 d db e0 : Nat) (sz : Nat) (σ : FS) (ρ : FS) (τ : TS) (δ : DS) (run : Int32) (p0 : Int32) : vx_Met l yX5_put wsX5_put ({ frames := 7, cells := 1, slots := 6, locals := 112 }) (va_Pc [.ref b, .int p0] (bx_prx D [(cA, .int)] (wBo cA b s0 f w s2 f2 w2 t0 d db e0 σ ρ τ δ run) sz)) (va_Qi (fun r u => (0, r, u) = F_X5_put σ τ run p0 ∧ (r = 0 ∨ r = 1)) (fun u t => bx_at D (wBo cA b s0 f w s2 f2 w2 t0 d db e0 u.1 ρ u.2.1 δ u.2.2) (va_A (wBo cA b s0 f w s2 f2 w2 t0 d db e0 σ ρ τ δ run) sz) t) (va_A (wBo cA b s0 f w s2 f2 w2 t0 d db e0 σ ρ τ δ run) sz)) (bx_XC (F_X5_put σ τ run p0).1) 1 6 (va_A (wBo cA b s0 f w s2 f2 w2 t0 d db e0 σ ρ τ δ run) sz) := by
  refine vx_ofW (cc := cX5_put) (maxL := 2) (ret := (some .boolean)) (by decide) rfl ?_
  intro p e s m args below meth c s₁ B hml hnx hv
  obtain ⟨rfl, hsz, hP, hK, hD0, hG, hZ⟩ := hv
  have hx := B.exec
  have hb := B.bytes
  have hr := B.returns
  have hts := atoms_spec (ws := wsX5_put) B.pre
  have hown : s.vm.findClass RX5 = some m.cls := findClass_of_methodNamed B.named
  have hlocks := B.notSynchronized
  subst hsz
  have hD := hD0.self (sz := s.heap.size)
  generalize hAe : va_A (wBo cA b s0 f w s2 f2 w2 t0 d db e0 σ ρ τ δ run) s.heap.size = A at hD ⊢
  have hA : ∀ q : Nat, s.heap.size ≤ q → A q := fun q h => by rw [← hAe]; exact Or.inr h
  have hS : va_S A s.heap s.heap [] := va_S.rf
  have hD : va_D A [(b, .inr (5, [.ref s0, .ref s2, .ref t0, .ref d, .ref e0, .int run])), (s0, .inr (3, [.ref f])), (f, .inr (2, [.ref w, .int σ.2.1, .int σ.2.2])), (w, .inl (cA, 66, .inl σ.1)), (s2, .inr (3, [.ref f2])), (f2, .inr (2, [.ref w2, .int ρ.2.1, .int ρ.2.2])), (w2, .inl (cA, 66, .inl ρ.1)), (t0, .inr (4, [.int τ.1, .int τ.2.1, .int τ.2.2.1, .int τ.2.2.2.1, .int τ.2.2.2.2.1, .int τ.2.2.2.2.2])), (d, .inr (1, [.int δ.1, .ref db])), (db, .inl (cA, 24, .inl δ.2)), (e0, .inr (0, [.ref d, .ref s0]))] := hD
  have hP : va_P D vwCl [(b, .inr (5, [.ref s0, .ref s2, .ref t0, .ref d, .ref e0, .int run])), (s0, .inr (3, [.ref f])), (f, .inr (2, [.ref w, .int σ.2.1, .int σ.2.2])), (w, .inl (cA, 66, .inl σ.1)), (s2, .inr (3, [.ref f2])), (f2, .inr (2, [.ref w2, .int ρ.2.1, .int ρ.2.2])), (w2, .inl (cA, 66, .inl ρ.1)), (t0, .inr (4, [.int τ.1, .int τ.2.1, .int τ.2.2.1, .int τ.2.2.2.1, .int τ.2.2.2.2.1, .int τ.2.2.2.2.2])), (d, .inr (1, [.int δ.1, .ref db])), (db, .inl (cA, 24, .inl δ.2)), (e0, .inr (0, [.ref d, .ref s0]))] s.heap := hP
  have hl := lv_entry ([.ref b, .int p0]) (n := 2) (Nat.le_of_ble_eq_true rfl)
  rw [lg_entry_eq]
  generalize (lg_sl ([.ref b, .int p0]) ++ List.replicate (2 - (lg_sl ([.ref b, .int p0])).length) Slot.unset).toArray = ls at hl ⊢
  have hl : lv_has ls 2 [(0, .ref b), (1, .int p0)] := hl
  refine lv_iload_n hx hb dX5_put_0 rfl (lv_at hl 1 rfl) ?_
  refine lv_iconst (v := 0) hx hb dX5_put_1 (by decide) ?_
  refine lv_sipush (v := 255) hx hb dX5_put_2 (by decide) ?_
  refine bx_xsv (vx_runS (As := [.int p0, .int 0, .int 255]) (rest := []) ⟨hx, hb, hml, hown, hts⟩ (c_X5_requireWithin l hl9 D p0 0 255) (va_cwS 3 hts gX5_put_X5_requireWithin rfl rfl rfl (by decide +kernel) ⟨Nat.le_of_ble_eq_true rfl, Nat.le_of_ble_eq_true rfl⟩) (bx_psrx (hK.sub (tys' := []) [] rfl) hG hZ (hP.sub (ws' := []) [] rfl)) rfl rfl hl.1 rfl (lv_room (Nat.le_of_ble_eq_true rfl)) dX5_put_5 ⟨Nat.le_of_ble_eq_true rfl, Nat.le_of_ble_eq_true rfl⟩) hS (fun _ h => h.elim) (fun E ce q9 H1 locs E_2 hz9 hk9 hS hce hcv hcl => ?_) (fun e_1 => ?_)
  · skip
    refine vx_out (fun x h => (hnx x h).elim) hlocks hce hcv hcl (fun t ht hvm => ⟨(by simp only [F_X5_put, if_neg (bx_ne E_2)]; exact E_2), by rw [ht]; exact hz9, fun q h _ => by rw [ht]; exact hk9 q h⟩) hS.2.2 (Nat.le_of_ble_eq_true rfl) (Nat.le_of_ble_eq_true rfl)
  · skip
    refine lv_aload_n hx hb dX5_put_8 rfl (lv_at hl 0 rfl) ?_
    refine lv_iconst (v := 1) hx hb dX5_put_9 (by decide) ?_
    refine bx_xsv (vx_runV (As := [.int 1]) (rest := []) ⟨hx, hb, hml, hown, hts⟩ (c_X5_requireToCome l hl9 D cA b s0 f w s2 f2 w2 t0 d db e0 σ ρ τ δ run 1) (cwV 1 hts gX5_put_X5_requireToCome rfl rfl rfl (by decide +kernel) ⟨Nat.le_of_ble_eq_true rfl, Nat.le_of_ble_eq_true rfl⟩) (bx_pvrx (ci := 5) (q0 := 0) hK hG hZ (hP.sub (ws' := [(b, .inr (5, [.ref s0, .ref s2, .ref t0, .ref d, .ref e0, .int run])), (s0, .inr (3, [.ref f])), (f, .inr (2, [.ref w, .int σ.2.1, .int σ.2.2])), (w, .inl (cA, 66, .inl σ.1)), (s2, .inr (3, [.ref f2])), (f2, .inr (2, [.ref w2, .int ρ.2.1, .int ρ.2.2])), (w2, .inl (cA, 66, .inl ρ.1)), (t0, .inr (4, [.int τ.1, .int τ.2.1, .int τ.2.2.1, .int τ.2.2.2.1, .int τ.2.2.2.2.1, .int τ.2.2.2.2.2])), (d, .inr (1, [.int δ.1, .ref db])), (db, .inl (cA, 24, .inl δ.2)), (e0, .inr (0, [.ref d, .ref s0]))]) [0, 1, 2, 3, 4, 5, 6, 7, 8, 9, 10] rfl) rfl rfl) rfl rfl hl.1 rfl (lv_room (Nat.le_of_ble_eq_true rfl)) dX5_put_10 ⟨Nat.le_of_ble_eq_true rfl, Nat.le_of_ble_eq_true rfl⟩) hS (fun _ h => h.elim) (fun E ce q9 H1 locs E_4 hz9 hk9 hS hce hcv hcl => ?_) (fun e_3 => ?_)
    · skip
      refine vx_out (fun x h => (hnx x h).elim) hlocks hce hcv hcl (fun t ht hvm => ⟨(by simp only [F_X5_put, if_pos e_1, if_neg (bx_ne E_4)]; exact E_4), by rw [ht]; exact hz9, fun q h _ => by rw [ht]; exact hk9 q h⟩) hS.2.2 (Nat.le_of_ble_eq_true rfl) (Nat.le_of_ble_eq_true rfl)
    · skip
      refine lv_aload_n hx hb dX5_put_13 rfl (lv_at hl 0 rfl) ?_
      refine lv_iload_n hx hb dX5_put_14 rfl (lv_at hl 1 rfl) ?_
      refine bx_wi (wc := [(b, .inr (5, [.ref s0, .ref s2, .ref t0, .ref d, .ref e0, .int run])), (s0, .inr (3, [.ref f])), (f, .inr (2, [.ref w, .int σ.2.1, .int σ.2.2])), (w, .inl (cA, 66, .inl σ.1)), (s2, .inr (3, [.ref f2])), (f2, .inr (2, [.ref w2, .int ρ.2.1, .int ρ.2.2])), (w2, .inl (cA, 66, .inl ρ.1)), (t0, .inr (4, [.int τ.1, .int τ.2.1, .int τ.2.2.1, .int τ.2.2.2.1, .int τ.2.2.2.2.1, .int τ.2.2.2.2.2])), (d, .inr (1, [.int δ.1, .ref db])), (db, .inl (cA, 24, .inl δ.2)), (e0, .inr (0, [.ref d, .ref s0]))]) (wr := []) (wf := fun (u : (FS) × (TS) × (Int32)) => [(b, .inr (5, [.ref s0, .ref s2, .ref t0, .ref d, .ref e0, .int u.2.2])), (s0, .inr (3, [.ref f])), (f, .inr (2, [.ref w, .int u.1.2.1, .int u.1.2.2])), (w, .inl (cA, 66, .inl u.1.1)), (s2, .inr (3, [.ref f2])), (f2, .inr (2, [.ref w2, .int ρ.2.1, .int ρ.2.2])), (w2, .inl (cA, 66, .inl ρ.1)), (t0, .inr (4, [.int u.2.1.1, .int u.2.1.2.1, .int u.2.1.2.2.1, .int u.2.1.2.2.2.1, .int u.2.1.2.2.2.2.1, .int u.2.1.2.2.2.2.2])), (d, .inr (1, [.int δ.1, .ref db])), (db, .inl (cA, 24, .inl δ.2)), (e0, .inr (0, [.ref d, .ref s0]))]) (wn := fun (u : (FS) × (TS) × (Int32)) => [(b, .inr (5, [.ref s0, .ref s2, .ref t0, .ref d, .ref e0, .int u.2.2])), (s0, .inr (3, [.ref f])), (f, .inr (2, [.ref w, .int u.1.2.1, .int u.1.2.2])), (w, .inl (cA, 66, .inl u.1.1)), (s2, .inr (3, [.ref f2])), (f2, .inr (2, [.ref w2, .int ρ.2.1, .int ρ.2.2])), (w2, .inl (cA, 66, .inl ρ.1)), (t0, .inr (4, [.int u.2.1.1, .int u.2.1.2.1, .int u.2.1.2.2.1, .int u.2.1.2.2.2.1, .int u.2.1.2.2.2.2.1, .int u.2.1.2.2.2.2.2])), (d, .inr (1, [.int δ.1, .ref db])), (db, .inl (cA, 24, .inl δ.2)), (e0, .inr (0, [.ref d, .ref s0]))]) hP hD hS hA [0, 1, 2, 3, 4, 5, 6, 7, 8, 9, 10] [] [0, 1, 2, 3, 4, 5, 6, 7, 8, 9, 10] rfl rfl (by decide) (by decide) (fun u => rfl) (by decide) (va_runV (As := [.int p0]) (rest := []) ⟨hx, hb, hml, hown, hts⟩ (c_X5_append l D cA b s0 f w s2 f2 w2 t0 d db e0 s.heap.size σ ρ τ δ run p0) (cwV 1 hts gX5_put_X5_append rfl rfl rfl (by decide +kernel) ⟨Nat.le_of_ble_eq_true rfl, Nat.le_of_ble_eq_true rfl⟩) (bx_pv (ci := 5) (q0 := 0) hK hG (hP.sub (ws' := [(b, .inr (5, [.ref s0, .ref s2, .ref t0, .ref d, .ref e0, .int run])), (s0, .inr (3, [.ref f])), (f, .inr (2, [.ref w, .int σ.2.1, .int σ.2.2])), (w, .inl (cA, 66, .inl σ.1)), (s2, .inr (3, [.ref f2])), (f2, .inr (2, [.ref w2, .int ρ.2.1, .int ρ.2.2])), (w2, .inl (cA, 66, .inl ρ.1)), (t0, .inr (4, [.int τ.1, .int τ.2.1, .int τ.2.2.1, .int τ.2.2.2.1, .int τ.2.2.2.2.1, .int τ.2.2.2.2.2])), (d, .inr (1, [.int δ.1, .ref db])), (db, .inl (cA, 24, .inl δ.2)), (e0, .inr (0, [.ref d, .ref s0]))]) [0, 1, 2, 3, 4, 5, 6, 7, 8, 9, 10] rfl) (hD.sub (ws' := [(b, .inr (5, [.ref s0, .ref s2, .ref t0, .ref d, .ref e0, .int run])), (s0, .inr (3, [.ref f])), (f, .inr (2, [.ref w, .int σ.2.1, .int σ.2.2])), (w, .inl (cA, 66, .inl σ.1)), (s2, .inr (3, [.ref f2])), (f2, .inr (2, [.ref w2, .int ρ.2.1, .int ρ.2.2])), (w2, .inl (cA, 66, .inl ρ.1)), (t0, .inr (4, [.int τ.1, .int τ.2.1, .int τ.2.2.1, .int τ.2.2.2.1, .int τ.2.2.2.2.1, .int τ.2.2.2.2.2])), (d, .inr (1, [.int δ.1, .ref db])), (db, .inl (cA, 24, .inl δ.2)), (e0, .inr (0, [.ref d, .ref s0]))]) [0, 1, 2, 3, 4, 5, 6, 7, 8, 9, 10] (by decide) rfl) rfl rfl) rfl rfl hl.1 rfl (lv_room (Nat.le_of_ble_eq_true rfl)) dX5_put_15 ⟨Nat.zero_le _, Nat.zero_le _⟩) (fun r_7 u_6 H locs h_5 hP hD hS => ?_)
      obtain ⟨σ8, τ9, run10⟩ := u_6
      obtain ⟨h_5, b_11⟩ := h_5
      have hP : va_P D vwCl [(b, .inr (5, [.ref s0, .ref s2, .ref t0, .ref d, .ref e0, .int run10])), (s0, .inr (3, [.ref f])), (f, .inr (2, [.ref w, .int σ8.2.1, .int σ8.2.2])), (w, .inl (cA, 66, .inl σ8.1)), (s2, .inr (3, [.ref f2])), (f2, .inr (2, [.ref w2, .int ρ.2.1, .int ρ.2.2])), (w2, .inl (cA, 66, .inl ρ.1)), (t0, .inr (4, [.int τ9.1, .int τ9.2.1, .int τ9.2.2.1, .int τ9.2.2.2.1, .int τ9.2.2.2.2.1, .int τ9.2.2.2.2.2])), (d, .inr (1, [.int δ.1, .ref db])), (db, .inl (cA, 24, .inl δ.2)), (e0, .inr (0, [.ref d, .ref s0]))] H := hP
      have hD : va_D A [(b, .inr (5, [.ref s0, .ref s2, .ref t0, .ref d, .ref e0, .int run10])), (s0, .inr (3, [.ref f])), (f, .inr (2, [.ref w, .int σ8.2.1, .int σ8.2.2])), (w, .inl (cA, 66, .inl σ8.1)), (s2, .inr (3, [.ref f2])), (f2, .inr (2, [.ref w2, .int ρ.2.1, .int ρ.2.2])), (w2, .inl (cA, 66, .inl ρ.1)), (t0, .inr (4, [.int τ9.1, .int τ9.2.1, .int τ9.2.2.1, .int τ9.2.2.2.1, .int τ9.2.2.2.2.1, .int τ9.2.2.2.2.2])), (d, .inr (1, [.int δ.1, .ref db])), (db, .inl (cA, 24, .inl δ.2)), (e0, .inr (0, [.ref d, .ref s0]))] := hD
      refine vx_ret ?_
      refine W.widen (k := 1) (n := 6) (Nat.zero_le _) (Nat.zero_le _) ?_
      exact W.zret (v := r_7) hx hb hr (bx_nb b_11) (fun t ht hW => ⟨⟨r_7, (σ8, τ9, run10), rfl, ⟨(by simp only [F_X5_put, if_pos e_1, if_pos e_3, ← h_5]), b_11⟩, ⟨by rw [ht]; exact hP, hD⟩⟩, hS.F ht⟩) hS.2.2 dX5_put_18
def F_X5_finish (σ : FS) (τ : TS) (run : Int32) (p0 : Int32) : Int32 × Int32 × (FS) × (TS) × (Int32) := (if (F_X5_requireFinishable σ τ run p0) = 0 then (match (F_X3_writeUpdate σ τ (F_X5_idleSlot run) p0) with | (r_7, u_6) => (let u_11 := (F_X4_end τ); (match (F_X5_stayOn u_11 run r_7) with | (r_15, τ16, run17) => (0, r_15, u_6, τ16, run17)))) else ((F_X5_requireFinishable σ τ run p0), 0, σ, τ, run))
set_option maxHeartbeats 4000000 in
set_option maxRecDepth 100000 in
theorem c_X5_finish (l : Launch) (hl9 : l.stackTraces = false) (D : va_G) (cA : ClassId) (b s0 f w s2 f2 w2 t0 d db e0 : Nat) (sz : Nat) (σ : FS) (ρ : FS) (τ : TS) (δ : DS) (run : Int32) (p0 : Int32) : vx_Met l yX5_finish wsX5_finish ({ frames := 8, cells := 1, slots := 6, locals := 133 }) (va_Pc [.ref b, .int p0] (bx_prx D [(cA, .int)] (wBo cA b s0 f w s2 f2 w2 t0 d db e0 σ ρ τ δ run) sz)) (va_Qi (fun r u => (0, r, u) = F_X5_finish σ τ run p0 ∧ (r = 0 ∨ r = 1)) (fun u t => bx_at D (wBo cA b s0 f w s2 f2 w2 t0 d db e0 u.1 ρ u.2.1 δ u.2.2) (va_A (wBo cA b s0 f w s2 f2 w2 t0 d db e0 σ ρ τ δ run) sz) t) (va_A (wBo cA b s0 f w s2 f2 w2 t0 d db e0 σ ρ τ δ run) sz)) (bx_XC (F_X5_finish σ τ run p0).1) 1 6 (va_A (wBo cA b s0 f w s2 f2 w2 t0 d db e0 σ ρ τ δ run) sz) := by
  refine vx_ofW (cc := cX5_finish) (maxL := 3) (ret := (some .boolean)) (by decide) rfl ?_
  intro p e s m args below meth c s₁ B hml hnx hv
  obtain ⟨rfl, hsz, hP, hK, hD0, hG, hZ⟩ := hv
  have hx := B.exec
  have hb := B.bytes
  have hr := B.returns
  have hts := atoms_spec (ws := wsX5_finish) B.pre
  have hown : s.vm.findClass RX5 = some m.cls := findClass_of_methodNamed B.named
  have hlocks := B.notSynchronized
  subst hsz
  have hD := hD0.self (sz := s.heap.size)
  generalize hAe : va_A (wBo cA b s0 f w s2 f2 w2 t0 d db e0 σ ρ τ δ run) s.heap.size = A at hD ⊢
  have hA : ∀ q : Nat, s.heap.size ≤ q → A q := fun q h => by rw [← hAe]; exact Or.inr h
  have hS : va_S A s.heap s.heap [] := va_S.rf
  have hD : va_D A [(b, .inr (5, [.ref s0, .ref s2, .ref t0, .ref d, .ref e0, .int run])), (s0, .inr (3, [.ref f])), (f, .inr (2, [.ref w, .int σ.2.1, .int σ.2.2])), (w, .inl (cA, 66, .inl σ.1)), (s2, .inr (3, [.ref f2])), (f2, .inr (2, [.ref w2, .int ρ.2.1, .int ρ.2.2])), (w2, .inl (cA, 66, .inl ρ.1)), (t0, .inr (4, [.int τ.1, .int τ.2.1, .int τ.2.2.1, .int τ.2.2.2.1, .int τ.2.2.2.2.1, .int τ.2.2.2.2.2])), (d, .inr (1, [.int δ.1, .ref db])), (db, .inl (cA, 24, .inl δ.2)), (e0, .inr (0, [.ref d, .ref s0]))] := hD
  have hP : va_P D vwCl [(b, .inr (5, [.ref s0, .ref s2, .ref t0, .ref d, .ref e0, .int run])), (s0, .inr (3, [.ref f])), (f, .inr (2, [.ref w, .int σ.2.1, .int σ.2.2])), (w, .inl (cA, 66, .inl σ.1)), (s2, .inr (3, [.ref f2])), (f2, .inr (2, [.ref w2, .int ρ.2.1, .int ρ.2.2])), (w2, .inl (cA, 66, .inl ρ.1)), (t0, .inr (4, [.int τ.1, .int τ.2.1, .int τ.2.2.1, .int τ.2.2.2.1, .int τ.2.2.2.2.1, .int τ.2.2.2.2.2])), (d, .inr (1, [.int δ.1, .ref db])), (db, .inl (cA, 24, .inl δ.2)), (e0, .inr (0, [.ref d, .ref s0]))] s.heap := hP
  have hl := lv_entry ([.ref b, .int p0]) (n := 3) (Nat.le_of_ble_eq_true rfl)
  rw [lg_entry_eq]
  generalize (lg_sl ([.ref b, .int p0]) ++ List.replicate (3 - (lg_sl ([.ref b, .int p0])).length) Slot.unset).toArray = ls at hl ⊢
  have hl : lv_has ls 3 [(0, .ref b), (1, .int p0)] := hl
  have hi5 : ∀ w ∈ u_ws RX5 TX5 6, w ∈ wsX5_finish := by decide +kernel
  refine lv_aload_n hx hb dX5_finish_0 rfl (lv_at hl 0 rfl) ?_
  refine lv_iload_n hx hb dX5_finish_1 rfl (lv_at hl 1 rfl) ?_
  refine bx_xsv (vx_runV (As := [.int p0]) (rest := []) ⟨hx, hb, hml, hown, hts⟩ (c_X5_requireFinishable l hl9 D cA b s0 f w s2 f2 w2 t0 d db e0 σ ρ τ δ run p0) (cwV 1 hts gX5_finish_X5_requireFinishable rfl rfl rfl (by decide +kernel) ⟨Nat.le_of_ble_eq_true rfl, Nat.le_of_ble_eq_true rfl⟩) (bx_pvrx (ci := 5) (q0 := 0) hK hG hZ (hP.sub (ws' := [(b, .inr (5, [.ref s0, .ref s2, .ref t0, .ref d, .ref e0, .int run])), (s0, .inr (3, [.ref f])), (f, .inr (2, [.ref w, .int σ.2.1, .int σ.2.2])), (w, .inl (cA, 66, .inl σ.1)), (s2, .inr (3, [.ref f2])), (f2, .inr (2, [.ref w2, .int ρ.2.1, .int ρ.2.2])), (w2, .inl (cA, 66, .inl ρ.1)), (t0, .inr (4, [.int τ.1, .int τ.2.1, .int τ.2.2.1, .int τ.2.2.2.1, .int τ.2.2.2.2.1, .int τ.2.2.2.2.2])), (d, .inr (1, [.int δ.1, .ref db])), (db, .inl (cA, 24, .inl δ.2)), (e0, .inr (0, [.ref d, .ref s0]))]) [0, 1, 2, 3, 4, 5, 6, 7, 8, 9, 10] rfl) rfl rfl) rfl rfl hl.1 rfl (lv_room (Nat.le_of_ble_eq_true rfl)) dX5_finish_2 ⟨Nat.le_of_ble_eq_true rfl, Nat.le_of_ble_eq_true rfl⟩) hS (fun _ h => h.elim) (fun E ce q9 H1 locs E_2 hz9 hk9 hS hce hcv hcl => ?_) (fun e_1 => ?_)
  · skip
    refine vx_out (fun x h => (hnx x h).elim) hlocks hce hcv hcl (fun t ht hvm => ⟨(by simp only [F_X5_finish, if_neg (bx_ne E_2)]; exact E_2), by rw [ht]; exact hz9, fun q h _ => by rw [ht]; exact hk9 q h⟩) hS.2.2 (Nat.le_of_ble_eq_true rfl) (Nat.le_of_ble_eq_true rfl)
  · skip
    refine lv_aload_n hx hb dX5_finish_5 rfl (lv_at hl 0 rfl) ?_
    refine va_get (D := D) (ci := 5) (v := .ref s0) (C := RX5) (T := TX5) (N := 6) hx hb hts hi5 hown hK hP 0 rfl rfl 0 (by decide) (hts (.fieldLink RX5 10 "Bootstay" "store" "LBootstay$Store;") (by decide +kernel)) (fun _ h9 => h9) rfl dX5_finish_6 ?_
    refine lv_aload_n hx hb dX5_finish_9 rfl (lv_at hl 0 rfl) ?_
    refine bx_ri (va_runV (As := []) (rest := [.ref s0]) ⟨hx, hb, hml, hown, hts⟩ (c_X5_idleSlot l D cA b s0 f w s2 f2 w2 t0 d db e0 σ ρ τ δ run) (cwV 0 hts gX5_finish_X5_idleSlot rfl rfl rfl (by decide +kernel) ⟨Nat.le_of_ble_eq_true rfl, Nat.le_of_ble_eq_true rfl⟩) (bx_pvr (ci := 5) (q0 := 0) hK hG (hP.sub (ws' := [(b, .inr (5, [.ref s0, .ref s2, .ref t0, .ref d, .ref e0, .int run])), (s0, .inr (3, [.ref f])), (f, .inr (2, [.ref w, .int σ.2.1, .int σ.2.2])), (w, .inl (cA, 66, .inl σ.1)), (s2, .inr (3, [.ref f2])), (f2, .inr (2, [.ref w2, .int ρ.2.1, .int ρ.2.2])), (w2, .inl (cA, 66, .inl ρ.1)), (t0, .inr (4, [.int τ.1, .int τ.2.1, .int τ.2.2.1, .int τ.2.2.2.1, .int τ.2.2.2.2.1, .int τ.2.2.2.2.2])), (d, .inr (1, [.int δ.1, .ref db])), (db, .inl (cA, 24, .inl δ.2)), (e0, .inr (0, [.ref d, .ref s0]))]) [0, 1, 2, 3, 4, 5, 6, 7, 8, 9, 10] rfl) rfl rfl) rfl rfl hl.1 rfl (lv_room (Nat.le_of_ble_eq_true rfl)) dX5_finish_10 ⟨Nat.zero_le _, Nat.zero_le _⟩) (fun r_3 h_4 => ?_)
    have h_4 := h_4.symm
    subst h_4
    refine lv_aload_n hx hb dX5_finish_13 rfl (lv_at hl 0 rfl) ?_
    refine va_get (D := D) (ci := 5) (v := .ref t0) (C := RX5) (T := TX5) (N := 6) hx hb hts hi5 hown hK hP 0 rfl rfl 2 (by decide) (hts (.fieldLink RX5 22 "Bootstay" "transfer" "LBootstay$Transfer;") (by decide +kernel)) (fun _ h9 => h9) rfl dX5_finish_14 ?_
    refine lv_iload_n hx hb dX5_finish_17 rfl (lv_at hl 1 rfl) ?_
    refine bx_wi (wc := [(s0, .inr (3, [.ref f])), (f, .inr (2, [.ref w, .int σ.2.1, .int σ.2.2])), (w, .inl (cA, 66, .inl σ.1)), (t0, .inr (4, [.int τ.1, .int τ.2.1, .int τ.2.2.1, .int τ.2.2.2.1, .int τ.2.2.2.2.1, .int τ.2.2.2.2.2]))]) (wr := [(b, .inr (5, [.ref s0, .ref s2, .ref t0, .ref d, .ref e0, .int run])), (s2, .inr (3, [.ref f2])), (f2, .inr (2, [.ref w2, .int ρ.2.1, .int ρ.2.2])), (w2, .inl (cA, 66, .inl ρ.1)), (d, .inr (1, [.int δ.1, .ref db])), (db, .inl (cA, 24, .inl δ.2)), (e0, .inr (0, [.ref d, .ref s0]))]) (wf := fun (u : (FS)) => [(s0, .inr (3, [.ref f])), (f, .inr (2, [.ref w, .int u.2.1, .int u.2.2])), (w, .inl (cA, 66, .inl u.1)), (t0, .inr (4, [.int τ.1, .int τ.2.1, .int τ.2.2.1, .int τ.2.2.2.1, .int τ.2.2.2.2.1, .int τ.2.2.2.2.2]))]) (wn := fun (u : (FS)) => [(b, .inr (5, [.ref s0, .ref s2, .ref t0, .ref d, .ref e0, .int run])), (s0, .inr (3, [.ref f])), (f, .inr (2, [.ref w, .int u.2.1, .int u.2.2])), (w, .inl (cA, 66, .inl u.1)), (s2, .inr (3, [.ref f2])), (f2, .inr (2, [.ref w2, .int ρ.2.1, .int ρ.2.2])), (w2, .inl (cA, 66, .inl ρ.1)), (t0, .inr (4, [.int τ.1, .int τ.2.1, .int τ.2.2.1, .int τ.2.2.2.1, .int τ.2.2.2.2.1, .int τ.2.2.2.2.2])), (d, .inr (1, [.int δ.1, .ref db])), (db, .inl (cA, 24, .inl δ.2)), (e0, .inr (0, [.ref d, .ref s0]))]) hP hD hS hA [1, 2, 3, 7] [0, 4, 5, 6, 8, 9, 10] [0, 7, 8, 9, 1, 2, 3, 10, 4, 5, 6] rfl rfl (by decide) (by decide) (fun u => rfl) (by decide) (va_runV (As := [.int (F_X5_idleSlot run), .ref t0, .int p0]) (rest := []) ⟨hx, hb, hml, hown, hts⟩ (c_X3_writeUpdate l D cA s0 f w t0 s.heap.size σ τ (F_X5_idleSlot run) p0) (cwV 3 hts gX5_finish_X3_writeUpdate rfl rfl rfl (by decide +kernel) ⟨Nat.le_of_ble_eq_true rfl, Nat.le_of_ble_eq_true rfl⟩) (bx_pv (ci := 3) (q0 := 0) hK hG (hP.sub (ws' := [(s0, .inr (3, [.ref f])), (f, .inr (2, [.ref w, .int σ.2.1, .int σ.2.2])), (w, .inl (cA, 66, .inl σ.1)), (t0, .inr (4, [.int τ.1, .int τ.2.1, .int τ.2.2.1, .int τ.2.2.2.1, .int τ.2.2.2.2.1, .int τ.2.2.2.2.2]))]) [1, 2, 3, 7] rfl) (hD.sub (ws' := [(s0, .inr (3, [.ref f])), (f, .inr (2, [.ref w, .int σ.2.1, .int σ.2.2])), (w, .inl (cA, 66, .inl σ.1)), (t0, .inr (4, [.int τ.1, .int τ.2.1, .int τ.2.2.1, .int τ.2.2.2.1, .int τ.2.2.2.2.1, .int τ.2.2.2.2.2]))]) [1, 2, 3, 7] (by decide) rfl) rfl rfl) rfl rfl hl.1 rfl (lv_room (Nat.le_of_ble_eq_true rfl)) dX5_finish_18 ⟨Nat.zero_le _, Nat.zero_le _⟩) (fun r_7 u_6 H locs h_5 hP hD hS => ?_)
    obtain ⟨h_5, b_9⟩ := h_5
    have hP : va_P D vwCl [(b, .inr (5, [.ref s0, .ref s2, .ref t0, .ref d, .ref e0, .int run])), (s0, .inr (3, [.ref f])), (f, .inr (2, [.ref w, .int u_6.2.1, .int u_6.2.2])), (w, .inl (cA, 66, .inl u_6.1)), (s2, .inr (3, [.ref f2])), (f2, .inr (2, [.ref w2, .int ρ.2.1, .int ρ.2.2])), (w2, .inl (cA, 66, .inl ρ.1)), (t0, .inr (4, [.int τ.1, .int τ.2.1, .int τ.2.2.1, .int τ.2.2.2.1, .int τ.2.2.2.2.1, .int τ.2.2.2.2.2])), (d, .inr (1, [.int δ.1, .ref db])), (db, .inl (cA, 24, .inl δ.2)), (e0, .inr (0, [.ref d, .ref s0]))] H := hP
    have hD : va_D A [(b, .inr (5, [.ref s0, .ref s2, .ref t0, .ref d, .ref e0, .int run])), (s0, .inr (3, [.ref f])), (f, .inr (2, [.ref w, .int u_6.2.1, .int u_6.2.2])), (w, .inl (cA, 66, .inl u_6.1)), (s2, .inr (3, [.ref f2])), (f2, .inr (2, [.ref w2, .int ρ.2.1, .int ρ.2.2])), (w2, .inl (cA, 66, .inl ρ.1)), (t0, .inr (4, [.int τ.1, .int τ.2.1, .int τ.2.2.1, .int τ.2.2.2.1, .int τ.2.2.2.2.1, .int τ.2.2.2.2.2])), (d, .inr (1, [.int δ.1, .ref db])), (db, .inl (cA, 24, .inl δ.2)), (e0, .inr (0, [.ref d, .ref s0]))] := hD
    refine lv_istore_n (lv' := [(2, .int r_7), (0, .ref b), (1, .int p0)]) hx hb dX5_finish_21 rfl hl (by decide) rfl (fun ls hl => ?_)
    refine lv_aload_n hx hb dX5_finish_22 rfl (lv_at hl 1 rfl) ?_
    refine va_get (D := D) (ci := 5) (v := .ref t0) (C := RX5) (T := TX5) (N := 6) hx hb hts hi5 hown hK hP 0 rfl rfl 2 (by decide) (hts (.fieldLink RX5 22 "Bootstay" "transfer" "LBootstay$Transfer;") (by decide +kernel)) (fun _ h9 => h9) rfl dX5_finish_23 ?_
    refine bx_wv (wc := [(t0, .inr (4, [.int τ.1, .int τ.2.1, .int τ.2.2.1, .int τ.2.2.2.1, .int τ.2.2.2.2.1, .int τ.2.2.2.2.2]))]) (wr := [(b, .inr (5, [.ref s0, .ref s2, .ref t0, .ref d, .ref e0, .int run])), (s0, .inr (3, [.ref f])), (f, .inr (2, [.ref w, .int u_6.2.1, .int u_6.2.2])), (w, .inl (cA, 66, .inl u_6.1)), (s2, .inr (3, [.ref f2])), (f2, .inr (2, [.ref w2, .int ρ.2.1, .int ρ.2.2])), (w2, .inl (cA, 66, .inl ρ.1)), (d, .inr (1, [.int δ.1, .ref db])), (db, .inl (cA, 24, .inl δ.2)), (e0, .inr (0, [.ref d, .ref s0]))]) (wf := fun (u : (TS)) => [(t0, .inr (4, [.int u.1, .int u.2.1, .int u.2.2.1, .int u.2.2.2.1, .int u.2.2.2.2.1, .int u.2.2.2.2.2]))]) (wn := fun (u : (TS)) => [(b, .inr (5, [.ref s0, .ref s2, .ref t0, .ref d, .ref e0, .int run])), (s0, .inr (3, [.ref f])), (f, .inr (2, [.ref w, .int u_6.2.1, .int u_6.2.2])), (w, .inl (cA, 66, .inl u_6.1)), (s2, .inr (3, [.ref f2])), (f2, .inr (2, [.ref w2, .int ρ.2.1, .int ρ.2.2])), (w2, .inl (cA, 66, .inl ρ.1)), (t0, .inr (4, [.int u.1, .int u.2.1, .int u.2.2.1, .int u.2.2.2.1, .int u.2.2.2.2.1, .int u.2.2.2.2.2])), (d, .inr (1, [.int δ.1, .ref db])), (db, .inl (cA, 24, .inl δ.2)), (e0, .inr (0, [.ref d, .ref s0]))]) hP hD hS hA [7] [0, 1, 2, 3, 4, 5, 6, 8, 9, 10] [0, 1, 2, 3, 4, 5, 6, 10, 7, 8, 9] rfl rfl (by decide) (by decide) (fun u => rfl) (by decide) (va_runV (As := []) (rest := []) ⟨hx, hb, hml, hown, hts⟩ (c_X4_end l D t0 H.size τ) (cwV 0 hts gX5_finish_X4_end rfl rfl rfl (by decide +kernel) ⟨Nat.le_of_ble_eq_true rfl, Nat.le_of_ble_eq_true rfl⟩) (bx_pv (ci := 4) (q0 := 0) (hK.sub (tys' := []) [] rfl) hG (hP.sub (ws' := [(t0, .inr (4, [.int τ.1, .int τ.2.1, .int τ.2.2.1, .int τ.2.2.2.1, .int τ.2.2.2.2.1, .int τ.2.2.2.2.2]))]) [7] rfl) (hD.sub (ws' := [(t0, .inr (4, [.int τ.1, .int τ.2.1, .int τ.2.2.1, .int τ.2.2.2.1, .int τ.2.2.2.2.1, .int τ.2.2.2.2.2]))]) [7] (by decide) rfl) rfl rfl) rfl rfl hl.1 rfl (lv_room (Nat.le_of_ble_eq_true rfl)) dX5_finish_26 ⟨Nat.zero_le _, Nat.zero_le _⟩) (fun  u_11 H locs h_10 hP hD hS => ?_)
    have hP : va_P D vwCl [(b, .inr (5, [.ref s0, .ref s2, .ref t0, .ref d, .ref e0, .int run])), (s0, .inr (3, [.ref f])), (f, .inr (2, [.ref w, .int u_6.2.1, .int u_6.2.2])), (w, .inl (cA, 66, .inl u_6.1)), (s2, .inr (3, [.ref f2])), (f2, .inr (2, [.ref w2, .int ρ.2.1, .int ρ.2.2])), (w2, .inl (cA, 66, .inl ρ.1)), (t0, .inr (4, [.int u_11.1, .int u_11.2.1, .int u_11.2.2.1, .int u_11.2.2.2.1, .int u_11.2.2.2.2.1, .int u_11.2.2.2.2.2])), (d, .inr (1, [.int δ.1, .ref db])), (db, .inl (cA, 24, .inl δ.2)), (e0, .inr (0, [.ref d, .ref s0]))] H := hP
    have hD : va_D A [(b, .inr (5, [.ref s0, .ref s2, .ref t0, .ref d, .ref e0, .int run])), (s0, .inr (3, [.ref f])), (f, .inr (2, [.ref w, .int u_6.2.1, .int u_6.2.2])), (w, .inl (cA, 66, .inl u_6.1)), (s2, .inr (3, [.ref f2])), (f2, .inr (2, [.ref w2, .int ρ.2.1, .int ρ.2.2])), (w2, .inl (cA, 66, .inl ρ.1)), (t0, .inr (4, [.int u_11.1, .int u_11.2.1, .int u_11.2.2.1, .int u_11.2.2.2.1, .int u_11.2.2.2.2.1, .int u_11.2.2.2.2.2])), (d, .inr (1, [.int δ.1, .ref db])), (db, .inl (cA, 24, .inl δ.2)), (e0, .inr (0, [.ref d, .ref s0]))] := hD
    refine lv_aload_n hx hb dX5_finish_29 rfl (lv_at hl 1 rfl) ?_
    refine lv_iload_n hx hb dX5_finish_30 rfl (lv_at hl 0 rfl) ?_
    refine bx_wi (wc := [(b, .inr (5, [.ref s0, .ref s2, .ref t0, .ref d, .ref e0, .int run])), (s0, .inr (3, [.ref f])), (f, .inr (2, [.ref w, .int u_6.2.1, .int u_6.2.2])), (w, .inl (cA, 66, .inl u_6.1)), (s2, .inr (3, [.ref f2])), (f2, .inr (2, [.ref w2, .int ρ.2.1, .int ρ.2.2])), (w2, .inl (cA, 66, .inl ρ.1)), (t0, .inr (4, [.int u_11.1, .int u_11.2.1, .int u_11.2.2.1, .int u_11.2.2.2.1, .int u_11.2.2.2.2.1, .int u_11.2.2.2.2.2])), (d, .inr (1, [.int δ.1, .ref db])), (db, .inl (cA, 24, .inl δ.2)), (e0, .inr (0, [.ref d, .ref s0]))]) (wr := []) (wf := fun (u : (TS) × (Int32)) => [(b, .inr (5, [.ref s0, .ref s2, .ref t0, .ref d, .ref e0, .int u.2])), (s0, .inr (3, [.ref f])), (f, .inr (2, [.ref w, .int u_6.2.1, .int u_6.2.2])), (w, .inl (cA, 66, .inl u_6.1)), (s2, .inr (3, [.ref f2])), (f2, .inr (2, [.ref w2, .int ρ.2.1, .int ρ.2.2])), (w2, .inl (cA, 66, .inl ρ.1)), (t0, .inr (4, [.int u.1.1, .int u.1.2.1, .int u.1.2.2.1, .int u.1.2.2.2.1, .int u.1.2.2.2.2.1, .int u.1.2.2.2.2.2])), (d, .inr (1, [.int δ.1, .ref db])), (db, .inl (cA, 24, .inl δ.2)), (e0, .inr (0, [.ref d, .ref s0]))]) (wn := fun (u : (TS) × (Int32)) => [(b, .inr (5, [.ref s0, .ref s2, .ref t0, .ref d, .ref e0, .int u.2])), (s0, .inr (3, [.ref f])), (f, .inr (2, [.ref w, .int u_6.2.1, .int u_6.2.2])), (w, .inl (cA, 66, .inl u_6.1)), (s2, .inr (3, [.ref f2])), (f2, .inr (2, [.ref w2, .int ρ.2.1, .int ρ.2.2])), (w2, .inl (cA, 66, .inl ρ.1)), (t0, .inr (4, [.int u.1.1, .int u.1.2.1, .int u.1.2.2.1, .int u.1.2.2.2.1, .int u.1.2.2.2.2.1, .int u.1.2.2.2.2.2])), (d, .inr (1, [.int δ.1, .ref db])), (db, .inl (cA, 24, .inl δ.2)), (e0, .inr (0, [.ref d, .ref s0]))]) hP hD hS hA [0, 1, 2, 3, 4, 5, 6, 7, 8, 9, 10] [] [0, 1, 2, 3, 4, 5, 6, 7, 8, 9, 10] rfl rfl (by decide) (by decide) (fun u => rfl) (by decide) (va_runV (As := [.int r_7]) (rest := []) ⟨hx, hb, hml, hown, hts⟩ (c_X5_stayOn l D cA b s0 f w s2 f2 w2 t0 d db e0 H.size u_6 ρ u_11 δ run r_7 b_9) (cwV 1 hts gX5_finish_X5_stayOn rfl rfl rfl (by decide +kernel) ⟨Nat.le_of_ble_eq_true rfl, Nat.le_of_ble_eq_true rfl⟩) (bx_pv (ci := 5) (q0 := 0) hK hG (hP.sub (ws' := [(b, .inr (5, [.ref s0, .ref s2, .ref t0, .ref d, .ref e0, .int run])), (s0, .inr (3, [.ref f])), (f, .inr (2, [.ref w, .int u_6.2.1, .int u_6.2.2])), (w, .inl (cA, 66, .inl u_6.1)), (s2, .inr (3, [.ref f2])), (f2, .inr (2, [.ref w2, .int ρ.2.1, .int ρ.2.2])), (w2, .inl (cA, 66, .inl ρ.1)), (t0, .inr (4, [.int u_11.1, .int u_11.2.1, .int u_11.2.2.1, .int u_11.2.2.2.1, .int u_11.2.2.2.2.1, .int u_11.2.2.2.2.2])), (d, .inr (1, [.int δ.1, .ref db])), (db, .inl (cA, 24, .inl δ.2)), (e0, .inr (0, [.ref d, .ref s0]))]) [0, 1, 2, 3, 4, 5, 6, 7, 8, 9, 10] rfl) (hD.sub (ws' := [(b, .inr (5, [.ref s0, .ref s2, .ref t0, .ref d, .ref e0, .int run])), (s0, .inr (3, [.ref f])), (f, .inr (2, [.ref w, .int u_6.2.1, .int u_6.2.2])), (w, .inl (cA, 66, .inl u_6.1)), (s2, .inr (3, [.ref f2])), (f2, .inr (2, [.ref w2, .int ρ.2.1, .int ρ.2.2])), (w2, .inl (cA, 66, .inl ρ.1)), (t0, .inr (4, [.int u_11.1, .int u_11.2.1, .int u_11.2.2.1, .int u_11.2.2.2.1, .int u_11.2.2.2.2.1, .int u_11.2.2.2.2.2])), (d, .inr (1, [.int δ.1, .ref db])), (db, .inl (cA, 24, .inl δ.2)), (e0, .inr (0, [.ref d, .ref s0]))]) [0, 1, 2, 3, 4, 5, 6, 7, 8, 9, 10] (by decide) rfl) rfl rfl) rfl rfl hl.1 rfl (lv_room (Nat.le_of_ble_eq_true rfl)) dX5_finish_31 ⟨Nat.zero_le _, Nat.zero_le _⟩) (fun r_15 u_14 H locs h_13 hP hD hS => ?_)
    obtain ⟨τ16, run17⟩ := u_14
    obtain ⟨h_13, b_18⟩ := h_13
    have hP : va_P D vwCl [(b, .inr (5, [.ref s0, .ref s2, .ref t0, .ref d, .ref e0, .int run17])), (s0, .inr (3, [.ref f])), (f, .inr (2, [.ref w, .int u_6.2.1, .int u_6.2.2])), (w, .inl (cA, 66, .inl u_6.1)), (s2, .inr (3, [.ref f2])), (f2, .inr (2, [.ref w2, .int ρ.2.1, .int ρ.2.2])), (w2, .inl (cA, 66, .inl ρ.1)), (t0, .inr (4, [.int τ16.1, .int τ16.2.1, .int τ16.2.2.1, .int τ16.2.2.2.1, .int τ16.2.2.2.2.1, .int τ16.2.2.2.2.2])), (d, .inr (1, [.int δ.1, .ref db])), (db, .inl (cA, 24, .inl δ.2)), (e0, .inr (0, [.ref d, .ref s0]))] H := hP
    have hD : va_D A [(b, .inr (5, [.ref s0, .ref s2, .ref t0, .ref d, .ref e0, .int run17])), (s0, .inr (3, [.ref f])), (f, .inr (2, [.ref w, .int u_6.2.1, .int u_6.2.2])), (w, .inl (cA, 66, .inl u_6.1)), (s2, .inr (3, [.ref f2])), (f2, .inr (2, [.ref w2, .int ρ.2.1, .int ρ.2.2])), (w2, .inl (cA, 66, .inl ρ.1)), (t0, .inr (4, [.int τ16.1, .int τ16.2.1, .int τ16.2.2.1, .int τ16.2.2.2.1, .int τ16.2.2.2.2.1, .int τ16.2.2.2.2.2])), (d, .inr (1, [.int δ.1, .ref db])), (db, .inl (cA, 24, .inl δ.2)), (e0, .inr (0, [.ref d, .ref s0]))] := hD
    refine vx_ret ?_
    refine W.widen (k := 1) (n := 6) (Nat.zero_le _) (Nat.zero_le _) ?_
    exact W.zret (v := r_15) hx hb hr (bx_nb b_18) (fun t ht hW => ⟨⟨r_15, (u_6, τ16, run17), rfl, ⟨(by simp only [F_X5_finish, if_pos e_1, ← h_5, ← h_10, ← h_13]), b_18⟩, ⟨by rw [ht]; exact hP, hD⟩⟩, hS.F ht⟩) hS.2.2 dX5_finish_34
def F_X5_confirm (σ : FS) (τ : TS) (run : Int32) : Int32 × Int32 × (FS) × (TS) × (Int32) := (if (F_X5_requireOn run) = 0 then (if (F_X5_isOnTrial σ run) = 0 then (2, 0, σ, τ, run) else (match (F_X3_writeRecord σ (F_X3_settledState run) (if (F_X3_recordCounter σ) < (F_X3_slotWord σ run 4) then (F_X3_slotWord σ run 4) else (F_X3_recordCounter σ))) with | (r_15, u_14) => (match (F_X5_stayOn τ run r_15) with | (r_20, τ21, run22) => (0, r_20, u_14, τ21, run22)))) else ((F_X5_requireOn run), 0, σ, τ, run))
set_option maxHeartbeats 4000000 in
set_option maxRecDepth 100000 in
theorem c_X5_confirm (l : Launch) (hl9 : l.stackTraces = false) (D : va_G) (cA : ClassId) (b s0 f w s2 f2 w2 t0 d db e0 : Nat) (sz : Nat) (σ : FS) (ρ : FS) (τ : TS) (δ : DS) (run : Int32) : vx_Met l yX5_confirm wsX5_confirm ({ frames := 7, cells := 1, slots := 6, locals := 124 }) (va_Pc [.ref b] (bx_prx D [(cA, .int)] (wBo cA b s0 f w s2 f2 w2 t0 d db e0 σ ρ τ δ run) sz)) (va_Qi (fun r u => (0, r, u) = F_X5_confirm σ τ run ∧ (r = 0 ∨ r = 1)) (fun u t => bx_at D (wBo cA b s0 f w s2 f2 w2 t0 d db e0 u.1 ρ u.2.1 δ u.2.2) (va_A (wBo cA b s0 f w s2 f2 w2 t0 d db e0 σ ρ τ δ run) sz) t) (va_A (wBo cA b s0 f w s2 f2 w2 t0 d db e0 σ ρ τ δ run) sz)) (bx_XC (F_X5_confirm σ τ run).1) 1 6 (va_A (wBo cA b s0 f w s2 f2 w2 t0 d db e0 σ ρ τ δ run) sz) := by
  refine vx_ofW (cc := cX5_confirm) (maxL := 2) (ret := (some .boolean)) (by decide) rfl ?_
  intro p e s m args below meth c s₁ B hml hnx hv
  obtain ⟨rfl, hsz, hP, hK, hD0, hG, hZ⟩ := hv
  have hx := B.exec
  have hb := B.bytes
  have hr := B.returns
  have hts := atoms_spec (ws := wsX5_confirm) B.pre
  have hown : s.vm.findClass RX5 = some m.cls := findClass_of_methodNamed B.named
  have hlocks := B.notSynchronized
  subst hsz
  have hD := hD0.self (sz := s.heap.size)
  generalize hAe : va_A (wBo cA b s0 f w s2 f2 w2 t0 d db e0 σ ρ τ δ run) s.heap.size = A at hD ⊢
  have hA : ∀ q : Nat, s.heap.size ≤ q → A q := fun q h => by rw [← hAe]; exact Or.inr h
  have hS : va_S A s.heap s.heap [] := va_S.rf
  have hD : va_D A [(b, .inr (5, [.ref s0, .ref s2, .ref t0, .ref d, .ref e0, .int run])), (s0, .inr (3, [.ref f])), (f, .inr (2, [.ref w, .int σ.2.1, .int σ.2.2])), (w, .inl (cA, 66, .inl σ.1)), (s2, .inr (3, [.ref f2])), (f2, .inr (2, [.ref w2, .int ρ.2.1, .int ρ.2.2])), (w2, .inl (cA, 66, .inl ρ.1)), (t0, .inr (4, [.int τ.1, .int τ.2.1, .int τ.2.2.1, .int τ.2.2.2.1, .int τ.2.2.2.2.1, .int τ.2.2.2.2.2])), (d, .inr (1, [.int δ.1, .ref db])), (db, .inl (cA, 24, .inl δ.2)), (e0, .inr (0, [.ref d, .ref s0]))] := hD
  have hP : va_P D vwCl [(b, .inr (5, [.ref s0, .ref s2, .ref t0, .ref d, .ref e0, .int run])), (s0, .inr (3, [.ref f])), (f, .inr (2, [.ref w, .int σ.2.1, .int σ.2.2])), (w, .inl (cA, 66, .inl σ.1)), (s2, .inr (3, [.ref f2])), (f2, .inr (2, [.ref w2, .int ρ.2.1, .int ρ.2.2])), (w2, .inl (cA, 66, .inl ρ.1)), (t0, .inr (4, [.int τ.1, .int τ.2.1, .int τ.2.2.1, .int τ.2.2.2.1, .int τ.2.2.2.2.1, .int τ.2.2.2.2.2])), (d, .inr (1, [.int δ.1, .ref db])), (db, .inl (cA, 24, .inl δ.2)), (e0, .inr (0, [.ref d, .ref s0]))] s.heap := hP
  have hl := lv_entry ([.ref b]) (n := 2) (Nat.le_of_ble_eq_true rfl)
  rw [lg_entry_eq]
  generalize (lg_sl ([.ref b]) ++ List.replicate (2 - (lg_sl ([.ref b])).length) Slot.unset).toArray = ls at hl ⊢
  have hl : lv_has ls 2 [(0, .ref b)] := hl
  have hi5 : ∀ w ∈ u_ws RX5 TX5 6, w ∈ wsX5_confirm := by decide +kernel
  refine lv_aload_n hx hb dX5_confirm_0 rfl (lv_at hl 0 rfl) ?_
  refine bx_xsv (vx_runV (As := []) (rest := []) ⟨hx, hb, hml, hown, hts⟩ (c_X5_requireOn l hl9 D cA b s0 f w s2 f2 w2 t0 d db e0 σ ρ τ δ run) (cwV 0 hts gX5_confirm_X5_requireOn rfl rfl rfl (by decide +kernel) ⟨Nat.le_of_ble_eq_true rfl, Nat.le_of_ble_eq_true rfl⟩) (bx_pvrx (ci := 5) (q0 := 0) hK hG hZ (hP.sub (ws' := [(b, .inr (5, [.ref s0, .ref s2, .ref t0, .ref d, .ref e0, .int run])), (s0, .inr (3, [.ref f])), (f, .inr (2, [.ref w, .int σ.2.1, .int σ.2.2])), (w, .inl (cA, 66, .inl σ.1)), (s2, .inr (3, [.ref f2])), (f2, .inr (2, [.ref w2, .int ρ.2.1, .int ρ.2.2])), (w2, .inl (cA, 66, .inl ρ.1)), (t0, .inr (4, [.int τ.1, .int τ.2.1, .int τ.2.2.1, .int τ.2.2.2.1, .int τ.2.2.2.2.1, .int τ.2.2.2.2.2])), (d, .inr (1, [.int δ.1, .ref db])), (db, .inl (cA, 24, .inl δ.2)), (e0, .inr (0, [.ref d, .ref s0]))]) [0, 1, 2, 3, 4, 5, 6, 7, 8, 9, 10] rfl) rfl rfl) rfl rfl hl.1 rfl (lv_room (Nat.le_of_ble_eq_true rfl)) dX5_confirm_1 ⟨Nat.le_of_ble_eq_true rfl, Nat.le_of_ble_eq_true rfl⟩) hS (fun _ h => h.elim) (fun E ce q9 H1 locs E_2 hz9 hk9 hS hce hcv hcl => ?_) (fun e_1 => ?_)
  · skip
    refine vx_out (fun x h => (hnx x h).elim) hlocks hce hcv hcl (fun t ht hvm => ⟨(by simp only [F_X5_confirm, if_neg (bx_ne E_2)]; exact E_2), by rw [ht]; exact hz9, fun q h _ => by rw [ht]; exact hk9 q h⟩) hS.2.2 (Nat.le_of_ble_eq_true rfl) (Nat.le_of_ble_eq_true rfl)
  · skip
    refine lv_aload_n hx hb dX5_confirm_4 rfl (lv_at hl 0 rfl) ?_
    refine bx_ri (va_runV (As := []) (rest := []) ⟨hx, hb, hml, hown, hts⟩ (c_X5_isOnTrial l D cA b s0 f w s2 f2 w2 t0 d db e0 σ ρ τ δ run) (cwV 0 hts gX5_confirm_X5_isOnTrial rfl rfl rfl (by decide +kernel) ⟨Nat.le_of_ble_eq_true rfl, Nat.le_of_ble_eq_true rfl⟩) (bx_pvr (ci := 5) (q0 := 0) hK hG (hP.sub (ws' := [(b, .inr (5, [.ref s0, .ref s2, .ref t0, .ref d, .ref e0, .int run])), (s0, .inr (3, [.ref f])), (f, .inr (2, [.ref w, .int σ.2.1, .int σ.2.2])), (w, .inl (cA, 66, .inl σ.1)), (s2, .inr (3, [.ref f2])), (f2, .inr (2, [.ref w2, .int ρ.2.1, .int ρ.2.2])), (w2, .inl (cA, 66, .inl ρ.1)), (t0, .inr (4, [.int τ.1, .int τ.2.1, .int τ.2.2.1, .int τ.2.2.2.1, .int τ.2.2.2.2.1, .int τ.2.2.2.2.2])), (d, .inr (1, [.int δ.1, .ref db])), (db, .inl (cA, 24, .inl δ.2)), (e0, .inr (0, [.ref d, .ref s0]))]) [0, 1, 2, 3, 4, 5, 6, 7, 8, 9, 10] rfl) rfl rfl) rfl rfl hl.1 rfl (lv_room (Nat.le_of_ble_eq_true rfl)) dX5_confirm_5 ⟨Nat.zero_le _, Nat.zero_le _⟩) (fun r_3 h_4 => ?_)
    obtain ⟨h_4, b_5⟩ := h_4
    have h_4 := h_4.symm
    subst h_4
    refine lv_if_ne (tgt := 21) hx hb dX5_confirm_8 (by decide) (fun c_6 => ?_) (fun c_6 => ?_)
    · skip
      refine lv_aload_n hx hb dX5_confirm_21 rfl (lv_at hl 0 rfl) ?_
      refine va_get (D := D) (ci := 5) (v := .ref s0) (C := RX5) (T := TX5) (N := 6) hx hb hts hi5 hown hK hP 0 rfl rfl 0 (by decide) (hts (.fieldLink RX5 10 "Bootstay" "store" "LBootstay$Store;") (by decide +kernel)) (fun _ h9 => h9) rfl dX5_confirm_22 ?_
      refine bx_ri (va_runV (As := []) (rest := []) ⟨hx, hb, hml, hown, hts⟩ (c_X3_recordCounter l D cA s0 f w σ) (cwV 0 hts gX5_confirm_X3_recordCounter rfl rfl rfl (by decide +kernel) ⟨Nat.le_of_ble_eq_true rfl, Nat.le_of_ble_eq_true rfl⟩) (bx_pvr (ci := 3) (q0 := 0) hK hG (hP.sub (ws' := [(s0, .inr (3, [.ref f])), (f, .inr (2, [.ref w, .int σ.2.1, .int σ.2.2])), (w, .inl (cA, 66, .inl σ.1))]) [1, 2, 3] rfl) rfl rfl) rfl rfl hl.1 rfl (lv_room (Nat.le_of_ble_eq_true rfl)) dX5_confirm_25 ⟨Nat.zero_le _, Nat.zero_le _⟩) (fun r_7 h_8 => ?_)
      have h_8 := h_8.symm
      subst h_8
      refine lv_aload_n hx hb dX5_confirm_28 rfl (lv_at hl 0 rfl) ?_
      refine va_get (D := D) (ci := 5) (v := .ref s0) (C := RX5) (T := TX5) (N := 6) hx hb hts hi5 hown hK hP 0 rfl rfl 0 (by decide) (hts (.fieldLink RX5 10 "Bootstay" "store" "LBootstay$Store;") (by decide +kernel)) (fun _ h9 => h9) rfl dX5_confirm_29 ?_
      refine lv_aload_n hx hb dX5_confirm_32 rfl (lv_at hl 0 rfl) ?_
      refine va_get (D := D) (ci := 5) (v := .int run) (C := RX5) (T := TX5) (N := 6) hx hb hts hi5 hown hK hP 0 rfl rfl 5 (by decide) (hts (.fieldLink RX5 42 "Bootstay" "runningSlot" "I") (by decide +kernel)) (fun _ h9 => h9) rfl dX5_confirm_33 ?_
      refine lv_iconst (v := 4) hx hb dX5_confirm_36 (by decide) ?_
      refine bx_ri (va_runV (As := [.int run, .int 4]) (rest := [.int (F_X3_recordCounter σ)]) ⟨hx, hb, hml, hown, hts⟩ (c_X3_slotWord l D cA s0 f w σ run 4) (cwV 2 hts gX5_confirm_X3_slotWord rfl rfl rfl (by decide +kernel) ⟨Nat.le_of_ble_eq_true rfl, Nat.le_of_ble_eq_true rfl⟩) (bx_pvr (ci := 3) (q0 := 0) hK hG (hP.sub (ws' := [(s0, .inr (3, [.ref f])), (f, .inr (2, [.ref w, .int σ.2.1, .int σ.2.2])), (w, .inl (cA, 66, .inl σ.1))]) [1, 2, 3] rfl) rfl rfl) rfl rfl hl.1 rfl (lv_room (Nat.le_of_ble_eq_true rfl)) dX5_confirm_37 ⟨Nat.zero_le _, Nat.zero_le _⟩) (fun r_9 h_10 => ?_)
      have h_10 := h_10.symm
      subst h_10
      refine va_mmax hx hb (by rw [hml]; exact hl.1.symm) hown (hts (.methodLink RX5 147 Lib.Math.max.name) (by decide +kernel)) (hts (.static Lib.Math.max.name) (by decide +kernel)) (hts (.initialized "java/lang/Math") (by decide +kernel)) (hts (.code Lib.Math.max.name Lib.Math.max.code 2 (some .int)) (by decide +kernel)) (Nat.le_of_ble_eq_true rfl) (Nat.le_of_ble_eq_true rfl) (Nat.zero_le _) (Nat.zero_le _) dX5_confirm_40 ?_
      refine lv_istore_n (lv' := [(1, .int (if (F_X3_recordCounter σ) < (F_X3_slotWord σ run 4) then (F_X3_slotWord σ run 4) else (F_X3_recordCounter σ))), (0, .ref b)]) hx hb dX5_confirm_43 rfl hl (by decide) rfl (fun ls hl => ?_)
      refine lv_aload_n hx hb dX5_confirm_44 rfl (lv_at hl 1 rfl) ?_
      refine lv_aload_n hx hb dX5_confirm_45 rfl (lv_at hl 1 rfl) ?_
      refine va_get (D := D) (ci := 5) (v := .ref s0) (C := RX5) (T := TX5) (N := 6) hx hb hts hi5 hown hK hP 0 rfl rfl 0 (by decide) (hts (.fieldLink RX5 10 "Bootstay" "store" "LBootstay$Store;") (by decide +kernel)) (fun _ h9 => h9) rfl dX5_confirm_46 ?_
      refine lv_aload_n hx hb dX5_confirm_49 rfl (lv_at hl 1 rfl) ?_
      refine va_get (D := D) (ci := 5) (v := .int run) (C := RX5) (T := TX5) (N := 6) hx hb hts hi5 hown hK hP 0 rfl rfl 5 (by decide) (hts (.fieldLink RX5 42 "Bootstay" "runningSlot" "I") (by decide +kernel)) (fun _ h9 => h9) rfl dX5_confirm_50 ?_
      refine bx_ri (va_runS (As := [.int run]) (rest := [.ref s0, .ref b]) ⟨hx, hb, hml, hown, hts⟩ (c_X3_settledState l D run) (va_cwS 1 hts gX5_confirm_X3_settledState rfl rfl rfl (by decide +kernel) ⟨Nat.le_of_ble_eq_true rfl, Nat.le_of_ble_eq_true rfl⟩) (bx_psr (hK.sub (tys' := []) [] rfl) hG (hP.sub (ws' := []) [] rfl)) rfl rfl hl.1 rfl (lv_room (Nat.le_of_ble_eq_true rfl)) dX5_confirm_53 ⟨Nat.zero_le _, Nat.zero_le _⟩) (fun r_11 h_12 => ?_)
      have h_12 := h_12.symm
      subst h_12
      refine lv_iload_n hx hb dX5_confirm_56 rfl (lv_at hl 0 rfl) ?_
      refine bx_wi (wc := [(s0, .inr (3, [.ref f])), (f, .inr (2, [.ref w, .int σ.2.1, .int σ.2.2])), (w, .inl (cA, 66, .inl σ.1))]) (wr := [(b, .inr (5, [.ref s0, .ref s2, .ref t0, .ref d, .ref e0, .int run])), (s2, .inr (3, [.ref f2])), (f2, .inr (2, [.ref w2, .int ρ.2.1, .int ρ.2.2])), (w2, .inl (cA, 66, .inl ρ.1)), (t0, .inr (4, [.int τ.1, .int τ.2.1, .int τ.2.2.1, .int τ.2.2.2.1, .int τ.2.2.2.2.1, .int τ.2.2.2.2.2])), (d, .inr (1, [.int δ.1, .ref db])), (db, .inl (cA, 24, .inl δ.2)), (e0, .inr (0, [.ref d, .ref s0]))]) (wf := fun (u : (FS)) => [(s0, .inr (3, [.ref f])), (f, .inr (2, [.ref w, .int u.2.1, .int u.2.2])), (w, .inl (cA, 66, .inl u.1))]) (wn := fun (u : (FS)) => [(b, .inr (5, [.ref s0, .ref s2, .ref t0, .ref d, .ref e0, .int run])), (s0, .inr (3, [.ref f])), (f, .inr (2, [.ref w, .int u.2.1, .int u.2.2])), (w, .inl (cA, 66, .inl u.1)), (s2, .inr (3, [.ref f2])), (f2, .inr (2, [.ref w2, .int ρ.2.1, .int ρ.2.2])), (w2, .inl (cA, 66, .inl ρ.1)), (t0, .inr (4, [.int τ.1, .int τ.2.1, .int τ.2.2.1, .int τ.2.2.2.1, .int τ.2.2.2.2.1, .int τ.2.2.2.2.2])), (d, .inr (1, [.int δ.1, .ref db])), (db, .inl (cA, 24, .inl δ.2)), (e0, .inr (0, [.ref d, .ref s0]))]) hP hD hS hA [1, 2, 3] [0, 4, 5, 6, 7, 8, 9, 10] [0, 8, 9, 10, 1, 2, 3, 4, 5, 6, 7] rfl rfl (by decide) (by decide) (fun u => rfl) (by decide) (va_runV (As := [.int (F_X3_settledState run), .int (if (F_X3_recordCounter σ) < (F_X3_slotWord σ run 4) then (F_X3_slotWord σ run 4) else (F_X3_recordCounter σ))]) (rest := [.ref b]) ⟨hx, hb, hml, hown, hts⟩ (c_X3_writeRecord l D cA s0 f w s.heap.size σ (F_X3_settledState run) (if (F_X3_recordCounter σ) < (F_X3_slotWord σ run 4) then (F_X3_slotWord σ run 4) else (F_X3_recordCounter σ))) (cwV 2 hts gX5_confirm_X3_writeRecord rfl rfl rfl (by decide +kernel) ⟨Nat.le_of_ble_eq_true rfl, Nat.le_of_ble_eq_true rfl⟩) (bx_pv (ci := 3) (q0 := 0) hK hG (hP.sub (ws' := [(s0, .inr (3, [.ref f])), (f, .inr (2, [.ref w, .int σ.2.1, .int σ.2.2])), (w, .inl (cA, 66, .inl σ.1))]) [1, 2, 3] rfl) (hD.sub (ws' := [(s0, .inr (3, [.ref f])), (f, .inr (2, [.ref w, .int σ.2.1, .int σ.2.2])), (w, .inl (cA, 66, .inl σ.1))]) [1, 2, 3] (by decide) rfl) rfl rfl) rfl rfl hl.1 rfl (lv_room (Nat.le_of_ble_eq_true rfl)) dX5_confirm_57 ⟨Nat.zero_le _, Nat.zero_le _⟩) (fun r_15 u_14 H locs h_13 hP hD hS => ?_)
      obtain ⟨h_13, b_17⟩ := h_13
      have hP : va_P D vwCl [(b, .inr (5, [.ref s0, .ref s2, .ref t0, .ref d, .ref e0, .int run])), (s0, .inr (3, [.ref f])), (f, .inr (2, [.ref w, .int u_14.2.1, .int u_14.2.2])), (w, .inl (cA, 66, .inl u_14.1)), (s2, .inr (3, [.ref f2])), (f2, .inr (2, [.ref w2, .int ρ.2.1, .int ρ.2.2])), (w2, .inl (cA, 66, .inl ρ.1)), (t0, .inr (4, [.int τ.1, .int τ.2.1, .int τ.2.2.1, .int τ.2.2.2.1, .int τ.2.2.2.2.1, .int τ.2.2.2.2.2])), (d, .inr (1, [.int δ.1, .ref db])), (db, .inl (cA, 24, .inl δ.2)), (e0, .inr (0, [.ref d, .ref s0]))] H := hP
      have hD : va_D A [(b, .inr (5, [.ref s0, .ref s2, .ref t0, .ref d, .ref e0, .int run])), (s0, .inr (3, [.ref f])), (f, .inr (2, [.ref w, .int u_14.2.1, .int u_14.2.2])), (w, .inl (cA, 66, .inl u_14.1)), (s2, .inr (3, [.ref f2])), (f2, .inr (2, [.ref w2, .int ρ.2.1, .int ρ.2.2])), (w2, .inl (cA, 66, .inl ρ.1)), (t0, .inr (4, [.int τ.1, .int τ.2.1, .int τ.2.2.1, .int τ.2.2.2.1, .int τ.2.2.2.2.1, .int τ.2.2.2.2.2])), (d, .inr (1, [.int δ.1, .ref db])), (db, .inl (cA, 24, .inl δ.2)), (e0, .inr (0, [.ref d, .ref s0]))] := hD
      refine bx_wi (wc := [(b, .inr (5, [.ref s0, .ref s2, .ref t0, .ref d, .ref e0, .int run])), (s0, .inr (3, [.ref f])), (f, .inr (2, [.ref w, .int u_14.2.1, .int u_14.2.2])), (w, .inl (cA, 66, .inl u_14.1)), (s2, .inr (3, [.ref f2])), (f2, .inr (2, [.ref w2, .int ρ.2.1, .int ρ.2.2])), (w2, .inl (cA, 66, .inl ρ.1)), (t0, .inr (4, [.int τ.1, .int τ.2.1, .int τ.2.2.1, .int τ.2.2.2.1, .int τ.2.2.2.2.1, .int τ.2.2.2.2.2])), (d, .inr (1, [.int δ.1, .ref db])), (db, .inl (cA, 24, .inl δ.2)), (e0, .inr (0, [.ref d, .ref s0]))]) (wr := []) (wf := fun (u : (TS) × (Int32)) => [(b, .inr (5, [.ref s0, .ref s2, .ref t0, .ref d, .ref e0, .int u.2])), (s0, .inr (3, [.ref f])), (f, .inr (2, [.ref w, .int u_14.2.1, .int u_14.2.2])), (w, .inl (cA, 66, .inl u_14.1)), (s2, .inr (3, [.ref f2])), (f2, .inr (2, [.ref w2, .int ρ.2.1, .int ρ.2.2])), (w2, .inl (cA, 66, .inl ρ.1)), (t0, .inr (4, [.int u.1.1, .int u.1.2.1, .int u.1.2.2.1, .int u.1.2.2.2.1, .int u.1.2.2.2.2.1, .int u.1.2.2.2.2.2])), (d, .inr (1, [.int δ.1, .ref db])), (db, .inl (cA, 24, .inl δ.2)), (e0, .inr (0, [.ref d, .ref s0]))]) (wn := fun (u : (TS) × (Int32)) => [(b, .inr (5, [.ref s0, .ref s2, .ref t0, .ref d, .ref e0, .int u.2])), (s0, .inr (3, [.ref f])), (f, .inr (2, [.ref w, .int u_14.2.1, .int u_14.2.2])), (w, .inl (cA, 66, .inl u_14.1)), (s2, .inr (3, [.ref f2])), (f2, .inr (2, [.ref w2, .int ρ.2.1, .int ρ.2.2])), (w2, .inl (cA, 66, .inl ρ.1)), (t0, .inr (4, [.int u.1.1, .int u.1.2.1, .int u.1.2.2.1, .int u.1.2.2.2.1, .int u.1.2.2.2.2.1, .int u.1.2.2.2.2.2])), (d, .inr (1, [.int δ.1, .ref db])), (db, .inl (cA, 24, .inl δ.2)), (e0, .inr (0, [.ref d, .ref s0]))]) hP hD hS hA [0, 1, 2, 3, 4, 5, 6, 7, 8, 9, 10] [] [0, 1, 2, 3, 4, 5, 6, 7, 8, 9, 10] rfl rfl (by decide) (by decide) (fun u => rfl) (by decide) (va_runV (As := [.int r_15]) (rest := []) ⟨hx, hb, hml, hown, hts⟩ (c_X5_stayOn l D cA b s0 f w s2 f2 w2 t0 d db e0 H.size u_14 ρ τ δ run r_15 b_17) (cwV 1 hts gX5_confirm_X5_stayOn rfl rfl rfl (by decide +kernel) ⟨Nat.le_of_ble_eq_true rfl, Nat.le_of_ble_eq_true rfl⟩) (bx_pv (ci := 5) (q0 := 0) hK hG (hP.sub (ws' := [(b, .inr (5, [.ref s0, .ref s2, .ref t0, .ref d, .ref e0, .int run])), (s0, .inr (3, [.ref f])), (f, .inr (2, [.ref w, .int u_14.2.1, .int u_14.2.2])), (w, .inl (cA, 66, .inl u_14.1)), (s2, .inr (3, [.ref f2])), (f2, .inr (2, [.ref w2, .int ρ.2.1, .int ρ.2.2])), (w2, .inl (cA, 66, .inl ρ.1)), (t0, .inr (4, [.int τ.1, .int τ.2.1, .int τ.2.2.1, .int τ.2.2.2.1, .int τ.2.2.2.2.1, .int τ.2.2.2.2.2])), (d, .inr (1, [.int δ.1, .ref db])), (db, .inl (cA, 24, .inl δ.2)), (e0, .inr (0, [.ref d, .ref s0]))]) [0, 1, 2, 3, 4, 5, 6, 7, 8, 9, 10] rfl) (hD.sub (ws' := [(b, .inr (5, [.ref s0, .ref s2, .ref t0, .ref d, .ref e0, .int run])), (s0, .inr (3, [.ref f])), (f, .inr (2, [.ref w, .int u_14.2.1, .int u_14.2.2])), (w, .inl (cA, 66, .inl u_14.1)), (s2, .inr (3, [.ref f2])), (f2, .inr (2, [.ref w2, .int ρ.2.1, .int ρ.2.2])), (w2, .inl (cA, 66, .inl ρ.1)), (t0, .inr (4, [.int τ.1, .int τ.2.1, .int τ.2.2.1, .int τ.2.2.2.1, .int τ.2.2.2.2.1, .int τ.2.2.2.2.2])), (d, .inr (1, [.int δ.1, .ref db])), (db, .inl (cA, 24, .inl δ.2)), (e0, .inr (0, [.ref d, .ref s0]))]) [0, 1, 2, 3, 4, 5, 6, 7, 8, 9, 10] (by decide) rfl) rfl rfl) rfl rfl hl.1 rfl (lv_room (Nat.le_of_ble_eq_true rfl)) dX5_confirm_60 ⟨Nat.zero_le _, Nat.zero_le _⟩) (fun r_20 u_19 H locs h_18 hP hD hS => ?_)
      obtain ⟨τ21, run22⟩ := u_19
      obtain ⟨h_18, b_23⟩ := h_18
      have hP : va_P D vwCl [(b, .inr (5, [.ref s0, .ref s2, .ref t0, .ref d, .ref e0, .int run22])), (s0, .inr (3, [.ref f])), (f, .inr (2, [.ref w, .int u_14.2.1, .int u_14.2.2])), (w, .inl (cA, 66, .inl u_14.1)), (s2, .inr (3, [.ref f2])), (f2, .inr (2, [.ref w2, .int ρ.2.1, .int ρ.2.2])), (w2, .inl (cA, 66, .inl ρ.1)), (t0, .inr (4, [.int τ21.1, .int τ21.2.1, .int τ21.2.2.1, .int τ21.2.2.2.1, .int τ21.2.2.2.2.1, .int τ21.2.2.2.2.2])), (d, .inr (1, [.int δ.1, .ref db])), (db, .inl (cA, 24, .inl δ.2)), (e0, .inr (0, [.ref d, .ref s0]))] H := hP
      have hD : va_D A [(b, .inr (5, [.ref s0, .ref s2, .ref t0, .ref d, .ref e0, .int run22])), (s0, .inr (3, [.ref f])), (f, .inr (2, [.ref w, .int u_14.2.1, .int u_14.2.2])), (w, .inl (cA, 66, .inl u_14.1)), (s2, .inr (3, [.ref f2])), (f2, .inr (2, [.ref w2, .int ρ.2.1, .int ρ.2.2])), (w2, .inl (cA, 66, .inl ρ.1)), (t0, .inr (4, [.int τ21.1, .int τ21.2.1, .int τ21.2.2.1, .int τ21.2.2.2.1, .int τ21.2.2.2.2.1, .int τ21.2.2.2.2.2])), (d, .inr (1, [.int δ.1, .ref db])), (db, .inl (cA, 24, .inl δ.2)), (e0, .inr (0, [.ref d, .ref s0]))] := hD
      refine vx_ret ?_
      refine W.widen (k := 1) (n := 6) (Nat.zero_le _) (Nat.zero_le _) ?_
      exact W.zret (v := r_20) hx hb hr (bx_nb b_23) (fun t ht hW => ⟨⟨r_20, (u_14, τ21, run22), rfl, ⟨(by simp only [F_X5_confirm, if_pos e_1, if_neg c_6, ← h_13, ← h_18]), b_23⟩, ⟨by rw [ht]; exact hP, hD⟩⟩, hS.F ht⟩) hS.2.2 dX5_confirm_63
    · skip
      obtain ⟨sa, hstr⟩ := hG.2.2 (145, "the running slot is not on trial") (by decide +kernel)
      exact vx_throwS hx hb hl9 (own := RX5) (cls := bx_ise) (text := "the running slot is not on trial") (names := ["java/lang/RuntimeException", "java/lang/Exception"]) (ic := 54) (A := fun _ => False) hown (by decide +kernel) (by decide +kernel) (hts (.classLink RX5 50 bx_ise) (by decide +kernel)) (hts (.initialized bx_ise) (by decide +kernel)) hstr (bx_hat2 hG (fun w hw => hts w (by first | exact List.mem_cons_of_mem _ (List.mem_append_right _ hw) | exact List.mem_cons_of_mem _ (List.mem_append_left _ (List.mem_append_right _ hw)) | exact List.mem_cons_of_mem _ (List.mem_append_left _ (List.mem_append_left _ (List.mem_append_right _ hw)))))) bx_hg2 hZ.1 hZ.2 va_S.rf (by rw [hml]; exact hl.1) dX5_confirm_11 dX5_confirm_14 dX5_confirm_15 dX5_confirm_17 dX5_confirm_20 (fun x h => (hnx x h).elim) (Nat.le_of_ble_eq_true rfl) (Nat.le_of_ble_eq_true rfl) (Nat.le_of_ble_eq_true rfl) (Nat.le_of_ble_eq_true rfl) hlocks (fun t hvm hz hk => ⟨(by simp only [F_X5_confirm, if_pos e_1, if_pos c_6]; exact bx_e2), hz, fun q h _ => hk q h⟩) (fun _ h => nomatch h) (Nat.le_of_ble_eq_true rfl) (Nat.le_of_ble_eq_true rfl)
def F_X5_toCome (τ : TS) : Int32 := (F_X4_bytesToCome τ)
set_option maxHeartbeats 4000000 in
set_option maxRecDepth 100000 in
theorem c_X5_toCome (l : Launch) (D : va_G) (cA : ClassId) (b s0 f w s2 f2 w2 t0 d db e0 : Nat) (σ : FS) (ρ : FS) (τ : TS) (δ : DS) (run : Int32) : Met l yX5_toCome wsX5_toCome ({ frames := 1, cells := 0, slots := 0, locals := 20 }) (va_Pc [.ref b] (bx_ro D [(cA, .int)] (wBo cA b s0 f w s2 f2 w2 t0 d db e0 σ ρ τ δ run))) (vp_Si (fun r => r = F_X5_toCome τ)) 0 0 (fun _ => False) := by
  refine Met.ofW (cc := cX5_toCome) (maxL := 1) (ret := (some .int)) (by decide) rfl ?_
  intro p e s m args below meth c s₁ B hml hv
  obtain ⟨rfl, hP, hK, hG⟩ := hv
  have hx := B.exec
  have hb := B.bytes
  have hr := B.returns
  have hts := atoms_spec (ws := wsX5_toCome) B.pre
  have hown : s.vm.findClass RX5 = some m.cls := findClass_of_methodNamed B.named
  have hlocks := B.notSynchronized
  have hP : va_P D vwCl [(b, .inr (5, [.ref s0, .ref s2, .ref t0, .ref d, .ref e0, .int run])), (s0, .inr (3, [.ref f])), (f, .inr (2, [.ref w, .int σ.2.1, .int σ.2.2])), (w, .inl (cA, 66, .inl σ.1)), (s2, .inr (3, [.ref f2])), (f2, .inr (2, [.ref w2, .int ρ.2.1, .int ρ.2.2])), (w2, .inl (cA, 66, .inl ρ.1)), (t0, .inr (4, [.int τ.1, .int τ.2.1, .int τ.2.2.1, .int τ.2.2.2.1, .int τ.2.2.2.2.1, .int τ.2.2.2.2.2])), (d, .inr (1, [.int δ.1, .ref db])), (db, .inl (cA, 24, .inl δ.2)), (e0, .inr (0, [.ref d, .ref s0]))] s.heap := hP
  have hl := lv_entry ([.ref b]) (n := 1) (Nat.le_of_ble_eq_true rfl)
  rw [lg_entry_eq]
  generalize (lg_sl ([.ref b]) ++ List.replicate (1 - (lg_sl ([.ref b])).length) Slot.unset).toArray = ls at hl ⊢
  have hl : lv_has ls 1 [(0, .ref b)] := hl
  have hi5 : ∀ w ∈ u_ws RX5 TX5 6, w ∈ wsX5_toCome := by decide +kernel
  refine lv_aload_n hx hb dX5_toCome_0 rfl (lv_at hl 0 rfl) ?_
  refine va_get (D := D) (ci := 5) (v := .ref t0) (C := RX5) (T := TX5) (N := 6) hx hb hts hi5 hown hK hP 0 rfl rfl 2 (by decide) (hts (.fieldLink RX5 22 "Bootstay" "transfer" "LBootstay$Transfer;") (by decide +kernel)) (fun _ h9 => h9) rfl dX5_toCome_1 ?_
  refine bx_ri (va_runV (As := []) (rest := []) ⟨hx, hb, hml, hown, hts⟩ (c_X4_bytesToCome l D t0 τ) (cwV 0 hts gX5_toCome_X4_bytesToCome rfl rfl rfl (by decide +kernel) ⟨Nat.le_of_ble_eq_true rfl, Nat.le_of_ble_eq_true rfl⟩) (bx_pvr (ci := 4) (q0 := 0) (hK.sub (tys' := []) [] rfl) hG (hP.sub (ws' := [(t0, .inr (4, [.int τ.1, .int τ.2.1, .int τ.2.2.1, .int τ.2.2.2.1, .int τ.2.2.2.2.1, .int τ.2.2.2.2.2]))]) [7] rfl) rfl rfl) rfl rfl hl.1 rfl (lv_room (Nat.le_of_ble_eq_true rfl)) dX5_toCome_4 ⟨Nat.zero_le _, Nat.zero_le _⟩) (fun r_1 h_2 => ?_)
  have h_2 := h_2.symm
  subst h_2
  exact W.iret (v := (F_X4_bytesToCome τ)) hx hb hr (fun t ht hW => ⟨(F_X4_bytesToCome τ), rfl, rfl, ht⟩) (fun _ h => nomatch h) dX5_toCome_7
def F_X5_draft (δ : DS) (p0 : Int32) : Int32 × Int32 × (DS) := (if (F_X5_requireWithin p0 0 255) = 0 then (if (F_X1_isFull δ) = 0 then (match (F_X1_append δ p0) with | (r_9, u_8) => (0, r_9, u_8)) else (2, 0, δ)) else ((F_X5_requireWithin p0 0 255), 0, δ))
set_option maxHeartbeats 4000000 in
set_option maxRecDepth 100000 in
theorem c_X5_draft (l : Launch) (hl9 : l.stackTraces = false) (D : va_G) (cA : ClassId) (b s0 f w s2 f2 w2 t0 d db e0 : Nat) (sz : Nat) (σ : FS) (ρ : FS) (τ : TS) (δ : DS) (run : Int32) (p0 : Int32) : vx_Met l yX5_draft wsX5_draft ({ frames := 7, cells := 1, slots := 6, locals := 112 }) (va_Pc [.ref b, .int p0] (bx_prx D [(cA, .int)] (wBo cA b s0 f w s2 f2 w2 t0 d db e0 σ ρ τ δ run) sz)) (va_Qi (fun r u => (0, r, u) = F_X5_draft δ p0) (fun u t => bx_at D (wBo cA b s0 f w s2 f2 w2 t0 d db e0 σ ρ τ u run) (va_A (wBo cA b s0 f w s2 f2 w2 t0 d db e0 σ ρ τ δ run) sz) t) (va_A (wBo cA b s0 f w s2 f2 w2 t0 d db e0 σ ρ τ δ run) sz)) (bx_XC (F_X5_draft δ p0).1) 1 6 (va_A (wBo cA b s0 f w s2 f2 w2 t0 d db e0 σ ρ τ δ run) sz) := by
  refine vx_ofW (cc := cX5_draft) (maxL := 2) (ret := (some .int)) (by decide) rfl ?_
  intro p e s m args below meth c s₁ B hml hnx hv
  obtain ⟨rfl, hsz, hP, hK, hD0, hG, hZ⟩ := hv
  have hx := B.exec
  have hb := B.bytes
  have hr := B.returns
  have hts := atoms_spec (ws := wsX5_draft) B.pre
  have hown : s.vm.findClass RX5 = some m.cls := findClass_of_methodNamed B.named
  have hlocks := B.notSynchronized
  subst hsz
  have hD := hD0.self (sz := s.heap.size)
  generalize hAe : va_A (wBo cA b s0 f w s2 f2 w2 t0 d db e0 σ ρ τ δ run) s.heap.size = A at hD ⊢
  have hA : ∀ q : Nat, s.heap.size ≤ q → A q := fun q h => by rw [← hAe]; exact Or.inr h
  have hS : va_S A s.heap s.heap [] := va_S.rf
  have hD : va_D A [(b, .inr (5, [.ref s0, .ref s2, .ref t0, .ref d, .ref e0, .int run])), (s0, .inr (3, [.ref f])), (f, .inr (2, [.ref w, .int σ.2.1, .int σ.2.2])), (w, .inl (cA, 66, .inl σ.1)), (s2, .inr (3, [.ref f2])), (f2, .inr (2, [.ref w2, .int ρ.2.1, .int ρ.2.2])), (w2, .inl (cA, 66, .inl ρ.1)), (t0, .inr (4, [.int τ.1, .int τ.2.1, .int τ.2.2.1, .int τ.2.2.2.1, .int τ.2.2.2.2.1, .int τ.2.2.2.2.2])), (d, .inr (1, [.int δ.1, .ref db])), (db, .inl (cA, 24, .inl δ.2)), (e0, .inr (0, [.ref d, .ref s0]))] := hD
  have hP : va_P D vwCl [(b, .inr (5, [.ref s0, .ref s2, .ref t0, .ref d, .ref e0, .int run])), (s0, .inr (3, [.ref f])), (f, .inr (2, [.ref w, .int σ.2.1, .int σ.2.2])), (w, .inl (cA, 66, .inl σ.1)), (s2, .inr (3, [.ref f2])), (f2, .inr (2, [.ref w2, .int ρ.2.1, .int ρ.2.2])), (w2, .inl (cA, 66, .inl ρ.1)), (t0, .inr (4, [.int τ.1, .int τ.2.1, .int τ.2.2.1, .int τ.2.2.2.1, .int τ.2.2.2.2.1, .int τ.2.2.2.2.2])), (d, .inr (1, [.int δ.1, .ref db])), (db, .inl (cA, 24, .inl δ.2)), (e0, .inr (0, [.ref d, .ref s0]))] s.heap := hP
  have hl := lv_entry ([.ref b, .int p0]) (n := 2) (Nat.le_of_ble_eq_true rfl)
  rw [lg_entry_eq]
  generalize (lg_sl ([.ref b, .int p0]) ++ List.replicate (2 - (lg_sl ([.ref b, .int p0])).length) Slot.unset).toArray = ls at hl ⊢
  have hl : lv_has ls 2 [(0, .ref b), (1, .int p0)] := hl
  have hi5 : ∀ w ∈ u_ws RX5 TX5 6, w ∈ wsX5_draft := by decide +kernel
  refine lv_iload_n hx hb dX5_draft_0 rfl (lv_at hl 1 rfl) ?_
  refine lv_iconst (v := 0) hx hb dX5_draft_1 (by decide) ?_
  refine lv_sipush (v := 255) hx hb dX5_draft_2 (by decide) ?_
  refine bx_xsv (vx_runS (As := [.int p0, .int 0, .int 255]) (rest := []) ⟨hx, hb, hml, hown, hts⟩ (c_X5_requireWithin l hl9 D p0 0 255) (va_cwS 3 hts gX5_draft_X5_requireWithin rfl rfl rfl (by decide +kernel) ⟨Nat.le_of_ble_eq_true rfl, Nat.le_of_ble_eq_true rfl⟩) (bx_psrx (hK.sub (tys' := []) [] rfl) hG hZ (hP.sub (ws' := []) [] rfl)) rfl rfl hl.1 rfl (lv_room (Nat.le_of_ble_eq_true rfl)) dX5_draft_5 ⟨Nat.le_of_ble_eq_true rfl, Nat.le_of_ble_eq_true rfl⟩) hS (fun _ h => h.elim) (fun E ce q9 H1 locs E_2 hz9 hk9 hS hce hcv hcl => ?_) (fun e_1 => ?_)
  · skip
    refine vx_out (fun x h => (hnx x h).elim) hlocks hce hcv hcl (fun t ht hvm => ⟨(by simp only [F_X5_draft, if_neg (bx_ne E_2)]; exact E_2), by rw [ht]; exact hz9, fun q h _ => by rw [ht]; exact hk9 q h⟩) hS.2.2 (Nat.le_of_ble_eq_true rfl) (Nat.le_of_ble_eq_true rfl)
  · skip
    refine lv_aload_n hx hb dX5_draft_8 rfl (lv_at hl 0 rfl) ?_
    refine va_get (D := D) (ci := 5) (v := .ref d) (C := RX5) (T := TX5) (N := 6) hx hb hts hi5 hown hK hP 0 rfl rfl 3 (by decide) (hts (.fieldLink RX5 29 "Bootstay" "draftImage" "LBootstay$Draft;") (by decide +kernel)) (fun _ h9 => h9) rfl dX5_draft_9 ?_
    refine bx_ri (va_runV (As := []) (rest := []) ⟨hx, hb, hml, hown, hts⟩ (c_X1_isFull l D cA d db δ) (cwV 0 hts gX5_draft_X1_isFull rfl rfl rfl (by decide +kernel) ⟨Nat.le_of_ble_eq_true rfl, Nat.le_of_ble_eq_true rfl⟩) (bx_pvr (ci := 1) (q0 := 0) hK hG (hP.sub (ws' := [(d, .inr (1, [.int δ.1, .ref db])), (db, .inl (cA, 24, .inl δ.2))]) [8, 9] rfl) rfl rfl) rfl rfl hl.1 rfl (lv_room (Nat.le_of_ble_eq_true rfl)) dX5_draft_12 ⟨Nat.zero_le _, Nat.zero_le _⟩) (fun r_3 h_4 => ?_)
    obtain ⟨h_4, b_5⟩ := h_4
    have h_4 := h_4.symm
    subst h_4
    refine lv_if_eq (tgt := 28) hx hb dX5_draft_15 (by decide) (fun c_6 => ?_) (fun c_6 => ?_)
    · skip
      refine lv_aload_n hx hb dX5_draft_28 rfl (lv_at hl 0 rfl) ?_
      refine va_get (D := D) (ci := 5) (v := .ref d) (C := RX5) (T := TX5) (N := 6) hx hb hts hi5 hown hK hP 0 rfl rfl 3 (by decide) (hts (.fieldLink RX5 29 "Bootstay" "draftImage" "LBootstay$Draft;") (by decide +kernel)) (fun _ h9 => h9) rfl dX5_draft_29 ?_
      refine lv_iload_n hx hb dX5_draft_32 rfl (lv_at hl 1 rfl) ?_
      refine bx_wi (wc := [(d, .inr (1, [.int δ.1, .ref db])), (db, .inl (cA, 24, .inl δ.2))]) (wr := [(b, .inr (5, [.ref s0, .ref s2, .ref t0, .ref d, .ref e0, .int run])), (s0, .inr (3, [.ref f])), (f, .inr (2, [.ref w, .int σ.2.1, .int σ.2.2])), (w, .inl (cA, 66, .inl σ.1)), (s2, .inr (3, [.ref f2])), (f2, .inr (2, [.ref w2, .int ρ.2.1, .int ρ.2.2])), (w2, .inl (cA, 66, .inl ρ.1)), (t0, .inr (4, [.int τ.1, .int τ.2.1, .int τ.2.2.1, .int τ.2.2.2.1, .int τ.2.2.2.2.1, .int τ.2.2.2.2.2])), (e0, .inr (0, [.ref d, .ref s0]))]) (wf := fun (u : (DS)) => [(d, .inr (1, [.int u.1, .ref db])), (db, .inl (cA, 24, .inl u.2))]) (wn := fun (u : (DS)) => [(b, .inr (5, [.ref s0, .ref s2, .ref t0, .ref d, .ref e0, .int run])), (s0, .inr (3, [.ref f])), (f, .inr (2, [.ref w, .int σ.2.1, .int σ.2.2])), (w, .inl (cA, 66, .inl σ.1)), (s2, .inr (3, [.ref f2])), (f2, .inr (2, [.ref w2, .int ρ.2.1, .int ρ.2.2])), (w2, .inl (cA, 66, .inl ρ.1)), (t0, .inr (4, [.int τ.1, .int τ.2.1, .int τ.2.2.1, .int τ.2.2.2.1, .int τ.2.2.2.2.1, .int τ.2.2.2.2.2])), (d, .inr (1, [.int u.1, .ref db])), (db, .inl (cA, 24, .inl u.2)), (e0, .inr (0, [.ref d, .ref s0]))]) hP hD hS hA [8, 9] [0, 1, 2, 3, 4, 5, 6, 7, 10] [0, 1, 2, 3, 4, 5, 6, 7, 9, 10, 8] rfl rfl (by decide) (by decide) (fun u => rfl) (by decide) (va_runV (As := [.int p0]) (rest := []) ⟨hx, hb, hml, hown, hts⟩ (c_X1_append l D cA d db s.heap.size δ p0) (cwV 1 hts gX5_draft_X1_append rfl rfl rfl (by decide +kernel) ⟨Nat.le_of_ble_eq_true rfl, Nat.le_of_ble_eq_true rfl⟩) (bx_pv (ci := 1) (q0 := 0) hK hG (hP.sub (ws' := [(d, .inr (1, [.int δ.1, .ref db])), (db, .inl (cA, 24, .inl δ.2))]) [8, 9] rfl) (hD.sub (ws' := [(d, .inr (1, [.int δ.1, .ref db])), (db, .inl (cA, 24, .inl δ.2))]) [8, 9] (by decide) rfl) rfl rfl) rfl rfl hl.1 rfl (lv_room (Nat.le_of_ble_eq_true rfl)) dX5_draft_33 ⟨Nat.zero_le _, Nat.zero_le _⟩) (fun r_9 u_8 H locs h_7 hP hD hS => ?_)
      have hP : va_P D vwCl [(b, .inr (5, [.ref s0, .ref s2, .ref t0, .ref d, .ref e0, .int run])), (s0, .inr (3, [.ref f])), (f, .inr (2, [.ref w, .int σ.2.1, .int σ.2.2])), (w, .inl (cA, 66, .inl σ.1)), (s2, .inr (3, [.ref f2])), (f2, .inr (2, [.ref w2, .int ρ.2.1, .int ρ.2.2])), (w2, .inl (cA, 66, .inl ρ.1)), (t0, .inr (4, [.int τ.1, .int τ.2.1, .int τ.2.2.1, .int τ.2.2.2.1, .int τ.2.2.2.2.1, .int τ.2.2.2.2.2])), (d, .inr (1, [.int u_8.1, .ref db])), (db, .inl (cA, 24, .inl u_8.2)), (e0, .inr (0, [.ref d, .ref s0]))] H := hP
      have hD : va_D A [(b, .inr (5, [.ref s0, .ref s2, .ref t0, .ref d, .ref e0, .int run])), (s0, .inr (3, [.ref f])), (f, .inr (2, [.ref w, .int σ.2.1, .int σ.2.2])), (w, .inl (cA, 66, .inl σ.1)), (s2, .inr (3, [.ref f2])), (f2, .inr (2, [.ref w2, .int ρ.2.1, .int ρ.2.2])), (w2, .inl (cA, 66, .inl ρ.1)), (t0, .inr (4, [.int τ.1, .int τ.2.1, .int τ.2.2.1, .int τ.2.2.2.1, .int τ.2.2.2.2.1, .int τ.2.2.2.2.2])), (d, .inr (1, [.int u_8.1, .ref db])), (db, .inl (cA, 24, .inl u_8.2)), (e0, .inr (0, [.ref d, .ref s0]))] := hD
      refine vx_ret ?_
      refine W.widen (k := 1) (n := 6) (Nat.zero_le _) (Nat.zero_le _) ?_
      exact W.iret (v := r_9) hx hb hr (fun t ht hW => ⟨⟨r_9, u_8, rfl, (by simp only [F_X5_draft, if_pos e_1, if_pos c_6, ← h_7]), ⟨by rw [ht]; exact hP, hD⟩⟩, hS.F ht⟩) hS.2.2 dX5_draft_36
    · skip
      obtain ⟨sa, hstr⟩ := hG.2.2 (166, "the draft is full") (by decide +kernel)
      exact vx_throwS hx hb hl9 (own := RX5) (cls := bx_ise) (text := "the draft is full") (names := ["java/lang/RuntimeException", "java/lang/Exception"]) (ic := 54) (A := fun _ => False) hown (by decide +kernel) (by decide +kernel) (hts (.classLink RX5 50 bx_ise) (by decide +kernel)) (hts (.initialized bx_ise) (by decide +kernel)) hstr (bx_hat2 hG (fun w hw => hts w (by first | exact List.mem_cons_of_mem _ (List.mem_append_right _ hw) | exact List.mem_cons_of_mem _ (List.mem_append_left _ (List.mem_append_right _ hw)) | exact List.mem_cons_of_mem _ (List.mem_append_left _ (List.mem_append_left _ (List.mem_append_right _ hw)))))) bx_hg2 hZ.1 hZ.2 va_S.rf (by rw [hml]; exact hl.1) dX5_draft_18 dX5_draft_21 dX5_draft_22 dX5_draft_24 dX5_draft_27 (fun x h => (hnx x h).elim) (Nat.le_of_ble_eq_true rfl) (Nat.le_of_ble_eq_true rfl) (Nat.le_of_ble_eq_true rfl) (Nat.le_of_ble_eq_true rfl) hlocks (fun t hvm hz hk => ⟨(by simp only [F_X5_draft, if_pos e_1, if_neg c_6]; exact bx_e2), hz, fun q h _ => hk q h⟩) (fun _ h => nomatch h) (Nat.le_of_ble_eq_true rfl) (Nat.le_of_ble_eq_true rfl)
def F_X5_clearDraft (δ : DS) : Int32 × (DS) := (match (F_X1_clear δ) with | (r_3, u_2) => (r_3, u_2))
set_option maxHeartbeats 4000000 in
set_option maxRecDepth 100000 in
theorem c_X5_clearDraft (l : Launch) (D : va_G) (cA : ClassId) (b s0 f w s2 f2 w2 t0 d db e0 : Nat) (sz : Nat) (σ : FS) (ρ : FS) (τ : TS) (δ : DS) (run : Int32) : Met l yX5_clearDraft wsX5_clearDraft ({ frames := 1, cells := 0, slots := 0, locals := 21 }) (va_Pc [.ref b] (bx_pre D [(cA, .int)] (wBo cA b s0 f w s2 f2 w2 t0 d db e0 σ ρ τ δ run) sz)) (va_Qi (fun r u => (r, u) = F_X5_clearDraft δ) (fun u t => bx_at D (wBo cA b s0 f w s2 f2 w2 t0 d db e0 σ ρ τ u run) (va_A (wBo cA b s0 f w s2 f2 w2 t0 d db e0 σ ρ τ δ run) sz) t) (va_A (wBo cA b s0 f w s2 f2 w2 t0 d db e0 σ ρ τ δ run) sz)) 0 0 (va_A (wBo cA b s0 f w s2 f2 w2 t0 d db e0 σ ρ τ δ run) sz) := by
  refine Met.ofW (cc := cX5_clearDraft) (maxL := 1) (ret := (some .int)) (by decide) rfl ?_
  intro p e s m args below meth c s₁ B hml hv
  obtain ⟨rfl, hsz, hP, hK, hD0, hG⟩ := hv
  have hx := B.exec
  have hb := B.bytes
  have hr := B.returns
  have hts := atoms_spec (ws := wsX5_clearDraft) B.pre
  have hown : s.vm.findClass RX5 = some m.cls := findClass_of_methodNamed B.named
  have hlocks := B.notSynchronized
  subst hsz
  have hD := hD0.self (sz := s.heap.size)
  generalize hAe : va_A (wBo cA b s0 f w s2 f2 w2 t0 d db e0 σ ρ τ δ run) s.heap.size = A at hD ⊢
  have hA : ∀ q : Nat, s.heap.size ≤ q → A q := fun q h => by rw [← hAe]; exact Or.inr h
  have hS : va_S A s.heap s.heap [] := va_S.rf
  have hD : va_D A [(b, .inr (5, [.ref s0, .ref s2, .ref t0, .ref d, .ref e0, .int run])), (s0, .inr (3, [.ref f])), (f, .inr (2, [.ref w, .int σ.2.1, .int σ.2.2])), (w, .inl (cA, 66, .inl σ.1)), (s2, .inr (3, [.ref f2])), (f2, .inr (2, [.ref w2, .int ρ.2.1, .int ρ.2.2])), (w2, .inl (cA, 66, .inl ρ.1)), (t0, .inr (4, [.int τ.1, .int τ.2.1, .int τ.2.2.1, .int τ.2.2.2.1, .int τ.2.2.2.2.1, .int τ.2.2.2.2.2])), (d, .inr (1, [.int δ.1, .ref db])), (db, .inl (cA, 24, .inl δ.2)), (e0, .inr (0, [.ref d, .ref s0]))] := hD
  have hP : va_P D vwCl [(b, .inr (5, [.ref s0, .ref s2, .ref t0, .ref d, .ref e0, .int run])), (s0, .inr (3, [.ref f])), (f, .inr (2, [.ref w, .int σ.2.1, .int σ.2.2])), (w, .inl (cA, 66, .inl σ.1)), (s2, .inr (3, [.ref f2])), (f2, .inr (2, [.ref w2, .int ρ.2.1, .int ρ.2.2])), (w2, .inl (cA, 66, .inl ρ.1)), (t0, .inr (4, [.int τ.1, .int τ.2.1, .int τ.2.2.1, .int τ.2.2.2.1, .int τ.2.2.2.2.1, .int τ.2.2.2.2.2])), (d, .inr (1, [.int δ.1, .ref db])), (db, .inl (cA, 24, .inl δ.2)), (e0, .inr (0, [.ref d, .ref s0]))] s.heap := hP
  have hl := lv_entry ([.ref b]) (n := 1) (Nat.le_of_ble_eq_true rfl)
  rw [lg_entry_eq]
  generalize (lg_sl ([.ref b]) ++ List.replicate (1 - (lg_sl ([.ref b])).length) Slot.unset).toArray = ls at hl ⊢
  have hl : lv_has ls 1 [(0, .ref b)] := hl
  have hi5 : ∀ w ∈ u_ws RX5 TX5 6, w ∈ wsX5_clearDraft := by decide +kernel
  refine lv_aload_n hx hb dX5_clearDraft_0 rfl (lv_at hl 0 rfl) ?_
  refine va_get (D := D) (ci := 5) (v := .ref d) (C := RX5) (T := TX5) (N := 6) hx hb hts hi5 hown hK hP 0 rfl rfl 3 (by decide) (hts (.fieldLink RX5 29 "Bootstay" "draftImage" "LBootstay$Draft;") (by decide +kernel)) (fun _ h9 => h9) rfl dX5_clearDraft_1 ?_
  refine bx_wi (wc := [(d, .inr (1, [.int δ.1, .ref db])), (db, .inl (cA, 24, .inl δ.2))]) (wr := [(b, .inr (5, [.ref s0, .ref s2, .ref t0, .ref d, .ref e0, .int run])), (s0, .inr (3, [.ref f])), (f, .inr (2, [.ref w, .int σ.2.1, .int σ.2.2])), (w, .inl (cA, 66, .inl σ.1)), (s2, .inr (3, [.ref f2])), (f2, .inr (2, [.ref w2, .int ρ.2.1, .int ρ.2.2])), (w2, .inl (cA, 66, .inl ρ.1)), (t0, .inr (4, [.int τ.1, .int τ.2.1, .int τ.2.2.1, .int τ.2.2.2.1, .int τ.2.2.2.2.1, .int τ.2.2.2.2.2])), (e0, .inr (0, [.ref d, .ref s0]))]) (wf := fun (u : (DS)) => [(d, .inr (1, [.int u.1, .ref db])), (db, .inl (cA, 24, .inl u.2))]) (wn := fun (u : (DS)) => [(b, .inr (5, [.ref s0, .ref s2, .ref t0, .ref d, .ref e0, .int run])), (s0, .inr (3, [.ref f])), (f, .inr (2, [.ref w, .int σ.2.1, .int σ.2.2])), (w, .inl (cA, 66, .inl σ.1)), (s2, .inr (3, [.ref f2])), (f2, .inr (2, [.ref w2, .int ρ.2.1, .int ρ.2.2])), (w2, .inl (cA, 66, .inl ρ.1)), (t0, .inr (4, [.int τ.1, .int τ.2.1, .int τ.2.2.1, .int τ.2.2.2.1, .int τ.2.2.2.2.1, .int τ.2.2.2.2.2])), (d, .inr (1, [.int u.1, .ref db])), (db, .inl (cA, 24, .inl u.2)), (e0, .inr (0, [.ref d, .ref s0]))]) hP hD hS hA [8, 9] [0, 1, 2, 3, 4, 5, 6, 7, 10] [0, 1, 2, 3, 4, 5, 6, 7, 9, 10, 8] rfl rfl (by decide) (by decide) (fun u => rfl) (by decide) (va_runV (As := []) (rest := []) ⟨hx, hb, hml, hown, hts⟩ (c_X1_clear l D cA d db s.heap.size δ) (cwV 0 hts gX5_clearDraft_X1_clear rfl rfl rfl (by decide +kernel) ⟨Nat.le_of_ble_eq_true rfl, Nat.le_of_ble_eq_true rfl⟩) (bx_pv (ci := 1) (q0 := 0) hK hG (hP.sub (ws' := [(d, .inr (1, [.int δ.1, .ref db])), (db, .inl (cA, 24, .inl δ.2))]) [8, 9] rfl) (hD.sub (ws' := [(d, .inr (1, [.int δ.1, .ref db])), (db, .inl (cA, 24, .inl δ.2))]) [8, 9] (by decide) rfl) rfl rfl) rfl rfl hl.1 rfl (lv_room (Nat.le_of_ble_eq_true rfl)) dX5_clearDraft_4 ⟨Nat.zero_le _, Nat.zero_le _⟩) (fun r_3 u_2 H locs h_1 hP hD hS => ?_)
  have hP : va_P D vwCl [(b, .inr (5, [.ref s0, .ref s2, .ref t0, .ref d, .ref e0, .int run])), (s0, .inr (3, [.ref f])), (f, .inr (2, [.ref w, .int σ.2.1, .int σ.2.2])), (w, .inl (cA, 66, .inl σ.1)), (s2, .inr (3, [.ref f2])), (f2, .inr (2, [.ref w2, .int ρ.2.1, .int ρ.2.2])), (w2, .inl (cA, 66, .inl ρ.1)), (t0, .inr (4, [.int τ.1, .int τ.2.1, .int τ.2.2.1, .int τ.2.2.2.1, .int τ.2.2.2.2.1, .int τ.2.2.2.2.2])), (d, .inr (1, [.int u_2.1, .ref db])), (db, .inl (cA, 24, .inl u_2.2)), (e0, .inr (0, [.ref d, .ref s0]))] H := hP
  have hD : va_D A [(b, .inr (5, [.ref s0, .ref s2, .ref t0, .ref d, .ref e0, .int run])), (s0, .inr (3, [.ref f])), (f, .inr (2, [.ref w, .int σ.2.1, .int σ.2.2])), (w, .inl (cA, 66, .inl σ.1)), (s2, .inr (3, [.ref f2])), (f2, .inr (2, [.ref w2, .int ρ.2.1, .int ρ.2.2])), (w2, .inl (cA, 66, .inl ρ.1)), (t0, .inr (4, [.int τ.1, .int τ.2.1, .int τ.2.2.1, .int τ.2.2.2.1, .int τ.2.2.2.2.1, .int τ.2.2.2.2.2])), (d, .inr (1, [.int u_2.1, .ref db])), (db, .inl (cA, 24, .inl u_2.2)), (e0, .inr (0, [.ref d, .ref s0]))] := hD
  exact W.iret (v := r_3) hx hb hr (fun t ht hW => ⟨⟨r_3, u_2, rfl, (by simp only [F_X5_clearDraft, ← h_1]), ⟨by rw [ht]; exact hP, hD⟩⟩, hS.F ht⟩) hS.2.2 dX5_clearDraft_7
def F_X5_draftHash (δ : DS) : Int32 := (F_X1_hash δ)
set_option maxHeartbeats 4000000 in
set_option maxRecDepth 100000 in
theorem c_X5_draftHash (l : Launch) (D : va_G) (cA : ClassId) (b s0 f w s2 f2 w2 t0 d db e0 : Nat) (σ : FS) (ρ : FS) (τ : TS) (δ : DS) (run : Int32) : Met l yX5_draftHash wsX5_draftHash ({ frames := 2, cells := 0, slots := 0, locals := 43 }) (va_Pc [.ref b] (bx_ro D [(cA, .int)] (wBo cA b s0 f w s2 f2 w2 t0 d db e0 σ ρ τ δ run))) (vp_Si (fun r => r = F_X5_draftHash δ)) 0 0 (fun _ => False) := by
  refine Met.ofW (cc := cX5_draftHash) (maxL := 1) (ret := (some .int)) (by decide) rfl ?_
  intro p e s m args below meth c s₁ B hml hv
  obtain ⟨rfl, hP, hK, hG⟩ := hv
  have hx := B.exec
  have hb := B.bytes
  have hr := B.returns
  have hts := atoms_spec (ws := wsX5_draftHash) B.pre
  have hown : s.vm.findClass RX5 = some m.cls := findClass_of_methodNamed B.named
  have hlocks := B.notSynchronized
  have hP : va_P D vwCl [(b, .inr (5, [.ref s0, .ref s2, .ref t0, .ref d, .ref e0, .int run])), (s0, .inr (3, [.ref f])), (f, .inr (2, [.ref w, .int σ.2.1, .int σ.2.2])), (w, .inl (cA, 66, .inl σ.1)), (s2, .inr (3, [.ref f2])), (f2, .inr (2, [.ref w2, .int ρ.2.1, .int ρ.2.2])), (w2, .inl (cA, 66, .inl ρ.1)), (t0, .inr (4, [.int τ.1, .int τ.2.1, .int τ.2.2.1, .int τ.2.2.2.1, .int τ.2.2.2.2.1, .int τ.2.2.2.2.2])), (d, .inr (1, [.int δ.1, .ref db])), (db, .inl (cA, 24, .inl δ.2)), (e0, .inr (0, [.ref d, .ref s0]))] s.heap := hP
  have hl := lv_entry ([.ref b]) (n := 1) (Nat.le_of_ble_eq_true rfl)
  rw [lg_entry_eq]
  generalize (lg_sl ([.ref b]) ++ List.replicate (1 - (lg_sl ([.ref b])).length) Slot.unset).toArray = ls at hl ⊢
  have hl : lv_has ls 1 [(0, .ref b)] := hl
  have hi5 : ∀ w ∈ u_ws RX5 TX5 6, w ∈ wsX5_draftHash := by decide +kernel
  refine lv_aload_n hx hb dX5_draftHash_0 rfl (lv_at hl 0 rfl) ?_
  refine va_get (D := D) (ci := 5) (v := .ref d) (C := RX5) (T := TX5) (N := 6) hx hb hts hi5 hown hK hP 0 rfl rfl 3 (by decide) (hts (.fieldLink RX5 29 "Bootstay" "draftImage" "LBootstay$Draft;") (by decide +kernel)) (fun _ h9 => h9) rfl dX5_draftHash_1 ?_
  refine bx_ri (va_runV (As := []) (rest := []) ⟨hx, hb, hml, hown, hts⟩ (c_X1_hash l D cA d db δ) (cwV 0 hts gX5_draftHash_X1_hash rfl rfl rfl (by decide +kernel) ⟨Nat.le_of_ble_eq_true rfl, Nat.le_of_ble_eq_true rfl⟩) (bx_pvr (ci := 1) (q0 := 0) hK hG (hP.sub (ws' := [(d, .inr (1, [.int δ.1, .ref db])), (db, .inl (cA, 24, .inl δ.2))]) [8, 9] rfl) rfl rfl) rfl rfl hl.1 rfl (lv_room (Nat.le_of_ble_eq_true rfl)) dX5_draftHash_4 ⟨Nat.zero_le _, Nat.zero_le _⟩) (fun r_1 h_2 => ?_)
  have h_2 := h_2.symm
  subst h_2
  exact W.iret (v := (F_X1_hash δ)) hx hb hr (fun t ht hW => ⟨(F_X1_hash δ), rfl, rfl, ht⟩) (fun _ h => nomatch h) dX5_draftHash_7
def F_X5_deltaPieces (σ : FS) (δ : DS) (p0 : Int32) : Int32 × Int32 := (if (F_X5_requireStartable σ p0) = 0 then (0, (F_X0_pieceCount δ σ p0)) else ((F_X5_requireStartable σ p0), 0))
set_option maxHeartbeats 4000000 in
set_option maxRecDepth 100000 in
theorem c_X5_deltaPieces (l : Launch) (hl9 : l.stackTraces = false) (D : va_G) (cA : ClassId) (b s0 f w s2 f2 w2 t0 d db e0 : Nat) (σ : FS) (ρ : FS) (τ : TS) (δ : DS) (run : Int32) (p0 : Int32) : vx_Met l yX5_deltaPieces wsX5_deltaPieces ({ frames := 8, cells := 1, slots := 6, locals := 141 }) (va_Pc [.ref b, .int p0] (bx_rox D [(cA, .int)] (wBo cA b s0 f w s2 f2 w2 t0 d db e0 σ ρ τ δ run))) (vp_Si (fun r => (0, r) = F_X5_deltaPieces σ δ p0)) (bx_XC (F_X5_deltaPieces σ δ p0).1) 1 6 (fun _ => False) := by
  refine vx_ofW (cc := cX5_deltaPieces) (maxL := 2) (ret := (some .int)) (by decide) rfl ?_
  intro p e s m args below meth c s₁ B hml hnx hv
  obtain ⟨rfl, hP, hK, hG, hZ⟩ := hv
  have hx := B.exec
  have hb := B.bytes
  have hr := B.returns
  have hts := atoms_spec (ws := wsX5_deltaPieces) B.pre
  have hown : s.vm.findClass RX5 = some m.cls := findClass_of_methodNamed B.named
  have hlocks := B.notSynchronized
  have hS : va_S (fun _ => False) s.heap s.heap [] := va_S.rf
  have hP : va_P D vwCl [(b, .inr (5, [.ref s0, .ref s2, .ref t0, .ref d, .ref e0, .int run])), (s0, .inr (3, [.ref f])), (f, .inr (2, [.ref w, .int σ.2.1, .int σ.2.2])), (w, .inl (cA, 66, .inl σ.1)), (s2, .inr (3, [.ref f2])), (f2, .inr (2, [.ref w2, .int ρ.2.1, .int ρ.2.2])), (w2, .inl (cA, 66, .inl ρ.1)), (t0, .inr (4, [.int τ.1, .int τ.2.1, .int τ.2.2.1, .int τ.2.2.2.1, .int τ.2.2.2.2.1, .int τ.2.2.2.2.2])), (d, .inr (1, [.int δ.1, .ref db])), (db, .inl (cA, 24, .inl δ.2)), (e0, .inr (0, [.ref d, .ref s0]))] s.heap := hP
  have hl := lv_entry ([.ref b, .int p0]) (n := 2) (Nat.le_of_ble_eq_true rfl)
  rw [lg_entry_eq]
  generalize (lg_sl ([.ref b, .int p0]) ++ List.replicate (2 - (lg_sl ([.ref b, .int p0])).length) Slot.unset).toArray = ls at hl ⊢
  have hl : lv_has ls 2 [(0, .ref b), (1, .int p0)] := hl
  have hi5 : ∀ w ∈ u_ws RX5 TX5 6, w ∈ wsX5_deltaPieces := by decide +kernel
  refine lv_aload_n hx hb dX5_deltaPieces_0 rfl (lv_at hl 0 rfl) ?_
  refine lv_iload_n hx hb dX5_deltaPieces_1 rfl (lv_at hl 1 rfl) ?_
  refine bx_xsv (vx_runV (As := [.int p0]) (rest := []) ⟨hx, hb, hml, hown, hts⟩ (c_X5_requireStartable l hl9 D cA b s0 f w s2 f2 w2 t0 d db e0 σ ρ τ δ run p0) (cwV 1 hts gX5_deltaPieces_X5_requireStartable rfl rfl rfl (by decide +kernel) ⟨Nat.le_of_ble_eq_true rfl, Nat.le_of_ble_eq_true rfl⟩) (bx_pvrx (ci := 5) (q0 := 0) hK hG hZ (hP.sub (ws' := [(b, .inr (5, [.ref s0, .ref s2, .ref t0, .ref d, .ref e0, .int run])), (s0, .inr (3, [.ref f])), (f, .inr (2, [.ref w, .int σ.2.1, .int σ.2.2])), (w, .inl (cA, 66, .inl σ.1)), (s2, .inr (3, [.ref f2])), (f2, .inr (2, [.ref w2, .int ρ.2.1, .int ρ.2.2])), (w2, .inl (cA, 66, .inl ρ.1)), (t0, .inr (4, [.int τ.1, .int τ.2.1, .int τ.2.2.1, .int τ.2.2.2.1, .int τ.2.2.2.2.1, .int τ.2.2.2.2.2])), (d, .inr (1, [.int δ.1, .ref db])), (db, .inl (cA, 24, .inl δ.2)), (e0, .inr (0, [.ref d, .ref s0]))]) [0, 1, 2, 3, 4, 5, 6, 7, 8, 9, 10] rfl) rfl rfl) rfl rfl hl.1 rfl (lv_room (Nat.le_of_ble_eq_true rfl)) dX5_deltaPieces_2 ⟨Nat.le_of_ble_eq_true rfl, Nat.le_of_ble_eq_true rfl⟩) hS (fun _ h => h.elim) (fun E ce q9 H1 locs E_2 hz9 hk9 hS hce hcv hcl => ?_) (fun e_1 => ?_)
  · skip
    refine vx_out (fun x h => (hnx x h).elim) hlocks hce hcv hcl (fun t ht hvm => ⟨(by simp only [F_X5_deltaPieces, if_neg (bx_ne E_2)]; exact E_2), by rw [ht]; exact hz9, fun q h _ => by rw [ht]; exact hk9 q h⟩) hS.2.2 (Nat.le_of_ble_eq_true rfl) (Nat.le_of_ble_eq_true rfl)
  · skip
    refine lv_aload_n hx hb dX5_deltaPieces_5 rfl (lv_at hl 0 rfl) ?_
    refine va_get (D := D) (ci := 5) (v := .ref e0) (C := RX5) (T := TX5) (N := 6) hx hb hts hi5 hown hK hP 0 rfl rfl 4 (by decide) (hts (.fieldLink RX5 38 "Bootstay" "delta" "LBootstay$Delta;") (by decide +kernel)) (fun _ h9 => h9) rfl dX5_deltaPieces_6 ?_
    refine lv_iload_n hx hb dX5_deltaPieces_9 rfl (lv_at hl 1 rfl) ?_
    refine bx_ri (va_runV (As := [.int p0]) (rest := []) ⟨hx, hb, hml, hown, hts⟩ (c_X0_pieceCount l D cA e0 d db s0 f w δ σ p0) (cwV 1 hts gX5_deltaPieces_X0_pieceCount rfl rfl rfl (by decide +kernel) ⟨Nat.le_of_ble_eq_true rfl, Nat.le_of_ble_eq_true rfl⟩) (bx_pvr (ci := 0) (q0 := 0) hK hG (hP.sub (ws' := [(e0, .inr (0, [.ref d, .ref s0])), (d, .inr (1, [.int δ.1, .ref db])), (db, .inl (cA, 24, .inl δ.2)), (s0, .inr (3, [.ref f])), (f, .inr (2, [.ref w, .int σ.2.1, .int σ.2.2])), (w, .inl (cA, 66, .inl σ.1))]) [10, 8, 9, 1, 2, 3] rfl) rfl rfl) rfl rfl hl.1 rfl (lv_room (Nat.le_of_ble_eq_true rfl)) dX5_deltaPieces_10 ⟨Nat.zero_le _, Nat.zero_le _⟩) (fun r_3 h_4 => ?_)
    have h_4 := h_4.symm
    subst h_4
    refine vx_ret ?_
    refine W.widen (k := 1) (n := 6) (Nat.zero_le _) (Nat.zero_le _) ?_
    exact W.iret (v := (F_X0_pieceCount δ σ p0)) hx hb hr (fun t ht hW => ⟨(F_X0_pieceCount δ σ p0), rfl, (by simp only [F_X5_deltaPieces, if_pos e_1]), ht⟩) (fun _ h => nomatch h) dX5_deltaPieces_13
def F_X5_deltaLength (σ : FS) (δ : DS) (p0 : Int32) (p1 : Int32) : Int32 × Int32 := (if (F_X5_requireStartable σ p0) = 0 then (if (F_X5_requirePiece (F_X0_pieceStart δ σ p0 p1)) = 0 then (0, (F_X0_pieceLength δ σ p0 (F_X0_pieceStart δ σ p0 p1))) else ((F_X5_requirePiece (F_X0_pieceStart δ σ p0 p1)), 0)) else ((F_X5_requireStartable σ p0), 0))
set_option maxHeartbeats 4000000 in
set_option maxRecDepth 100000 in
theorem c_X5_deltaLength (l : Launch) (hl9 : l.stackTraces = false) (D : va_G) (cA : ClassId) (b s0 f w s2 f2 w2 t0 d db e0 : Nat) (σ : FS) (ρ : FS) (τ : TS) (δ : DS) (run : Int32) (p0 : Int32) (p1 : Int32) : vx_Met l yX5_deltaLength wsX5_deltaLength ({ frames := 8, cells := 1, slots := 6, locals := 142 }) (va_Pc [.ref b, .int p0, .int p1] (bx_rox D [(cA, .int)] (wBo cA b s0 f w s2 f2 w2 t0 d db e0 σ ρ τ δ run))) (vp_Si (fun r => (0, r) = F_X5_deltaLength σ δ p0 p1)) (bx_XC (F_X5_deltaLength σ δ p0 p1).1) 1 6 (fun _ => False) := by
  refine vx_ofW (cc := cX5_deltaLength) (maxL := 4) (ret := (some .int)) (by decide) rfl ?_
  intro p e s m args below meth c s₁ B hml hnx hv
  obtain ⟨rfl, hP, hK, hG, hZ⟩ := hv
  have hx := B.exec
  have hb := B.bytes
  have hr := B.returns
  have hts := atoms_spec (ws := wsX5_deltaLength) B.pre
  have hown : s.vm.findClass RX5 = some m.cls := findClass_of_methodNamed B.named
  have hlocks := B.notSynchronized
  have hS : va_S (fun _ => False) s.heap s.heap [] := va_S.rf
  have hP : va_P D vwCl [(b, .inr (5, [.ref s0, .ref s2, .ref t0, .ref d, .ref e0, .int run])), (s0, .inr (3, [.ref f])), (f, .inr (2, [.ref w, .int σ.2.1, .int σ.2.2])), (w, .inl (cA, 66, .inl σ.1)), (s2, .inr (3, [.ref f2])), (f2, .inr (2, [.ref w2, .int ρ.2.1, .int ρ.2.2])), (w2, .inl (cA, 66, .inl ρ.1)), (t0, .inr (4, [.int τ.1, .int τ.2.1, .int τ.2.2.1, .int τ.2.2.2.1, .int τ.2.2.2.2.1, .int τ.2.2.2.2.2])), (d, .inr (1, [.int δ.1, .ref db])), (db, .inl (cA, 24, .inl δ.2)), (e0, .inr (0, [.ref d, .ref s0]))] s.heap := hP
  have hl := lv_entry ([.ref b, .int p0, .int p1]) (n := 4) (Nat.le_of_ble_eq_true rfl)
  rw [lg_entry_eq]
  generalize (lg_sl ([.ref b, .int p0, .int p1]) ++ List.replicate (4 - (lg_sl ([.ref b, .int p0, .int p1])).length) Slot.unset).toArray = ls at hl ⊢
  have hl : lv_has ls 4 [(0, .ref b), (1, .int p0), (2, .int p1)] := hl
  have hi5 : ∀ w ∈ u_ws RX5 TX5 6, w ∈ wsX5_deltaLength := by decide +kernel
  refine lv_aload_n hx hb dX5_deltaLength_0 rfl (lv_at hl 0 rfl) ?_
  refine lv_iload_n hx hb dX5_deltaLength_1 rfl (lv_at hl 1 rfl) ?_
  refine bx_xsv (vx_runV (As := [.int p0]) (rest := []) ⟨hx, hb, hml, hown, hts⟩ (c_X5_requireStartable l hl9 D cA b s0 f w s2 f2 w2 t0 d db e0 σ ρ τ δ run p0) (cwV 1 hts gX5_deltaLength_X5_requireStartable rfl rfl rfl (by decide +kernel) ⟨Nat.le_of_ble_eq_true rfl, Nat.le_of_ble_eq_true rfl⟩) (bx_pvrx (ci := 5) (q0 := 0) hK hG hZ (hP.sub (ws' := [(b, .inr (5, [.ref s0, .ref s2, .ref t0, .ref d, .ref e0, .int run])), (s0, .inr (3, [.ref f])), (f, .inr (2, [.ref w, .int σ.2.1, .int σ.2.2])), (w, .inl (cA, 66, .inl σ.1)), (s2, .inr (3, [.ref f2])), (f2, .inr (2, [.ref w2, .int ρ.2.1, .int ρ.2.2])), (w2, .inl (cA, 66, .inl ρ.1)), (t0, .inr (4, [.int τ.1, .int τ.2.1, .int τ.2.2.1, .int τ.2.2.2.1, .int τ.2.2.2.2.1, .int τ.2.2.2.2.2])), (d, .inr (1, [.int δ.1, .ref db])), (db, .inl (cA, 24, .inl δ.2)), (e0, .inr (0, [.ref d, .ref s0]))]) [0, 1, 2, 3, 4, 5, 6, 7, 8, 9, 10] rfl) rfl rfl) rfl rfl hl.1 rfl (lv_room (Nat.le_of_ble_eq_true rfl)) dX5_deltaLength_2 ⟨Nat.le_of_ble_eq_true rfl, Nat.le_of_ble_eq_true rfl⟩) hS (fun _ h => h.elim) (fun E ce q9 H1 locs E_2 hz9 hk9 hS hce hcv hcl => ?_) (fun e_1 => ?_)
  · skip
    refine vx_out (fun x h => (hnx x h).elim) hlocks hce hcv hcl (fun t ht hvm => ⟨(by simp only [F_X5_deltaLength, if_neg (bx_ne E_2)]; exact E_2), by rw [ht]; exact hz9, fun q h _ => by rw [ht]; exact hk9 q h⟩) hS.2.2 (Nat.le_of_ble_eq_true rfl) (Nat.le_of_ble_eq_true rfl)
  · skip
    refine lv_aload_n hx hb dX5_deltaLength_5 rfl (lv_at hl 0 rfl) ?_
    refine va_get (D := D) (ci := 5) (v := .ref e0) (C := RX5) (T := TX5) (N := 6) hx hb hts hi5 hown hK hP 0 rfl rfl 4 (by decide) (hts (.fieldLink RX5 38 "Bootstay" "delta" "LBootstay$Delta;") (by decide +kernel)) (fun _ h9 => h9) rfl dX5_deltaLength_6 ?_
    refine lv_iload_n hx hb dX5_deltaLength_9 rfl (lv_at hl 1 rfl) ?_
    refine lv_iload_n hx hb dX5_deltaLength_10 rfl (lv_at hl 2 rfl) ?_
    refine bx_ri (va_runV (As := [.int p0, .int p1]) (rest := []) ⟨hx, hb, hml, hown, hts⟩ (c_X0_pieceStart l D cA e0 d db s0 f w δ σ p0 p1) (cwV 2 hts gX5_deltaLength_X0_pieceStart rfl rfl rfl (by decide +kernel) ⟨Nat.le_of_ble_eq_true rfl, Nat.le_of_ble_eq_true rfl⟩) (bx_pvr (ci := 0) (q0 := 0) hK hG (hP.sub (ws' := [(e0, .inr (0, [.ref d, .ref s0])), (d, .inr (1, [.int δ.1, .ref db])), (db, .inl (cA, 24, .inl δ.2)), (s0, .inr (3, [.ref f])), (f, .inr (2, [.ref w, .int σ.2.1, .int σ.2.2])), (w, .inl (cA, 66, .inl σ.1))]) [10, 8, 9, 1, 2, 3] rfl) rfl rfl) rfl rfl hl.1 rfl (lv_room (Nat.le_of_ble_eq_true rfl)) dX5_deltaLength_11 ⟨Nat.zero_le _, Nat.zero_le _⟩) (fun r_3 h_4 => ?_)
    have h_4 := h_4.symm
    subst h_4
    refine lv_istore_n (lv' := [(3, .int (F_X0_pieceStart δ σ p0 p1)), (0, .ref b), (1, .int p0), (2, .int p1)]) hx hb dX5_deltaLength_14 rfl hl (by decide) rfl (fun ls hl => ?_)
    refine lv_iload_n hx hb dX5_deltaLength_15 rfl (lv_at hl 0 rfl) ?_
    refine bx_xsv (vx_runS (As := [.int (F_X0_pieceStart δ σ p0 p1)]) (rest := []) ⟨hx, hb, hml, hown, hts⟩ (c_X5_requirePiece l hl9 D (F_X0_pieceStart δ σ p0 p1)) (va_cwS 1 hts gX5_deltaLength_X5_requirePiece rfl rfl rfl (by decide +kernel) ⟨Nat.le_of_ble_eq_true rfl, Nat.le_of_ble_eq_true rfl⟩) (bx_psrx (hK.sub (tys' := []) [] rfl) hG hZ (hP.sub (ws' := []) [] rfl)) rfl rfl hl.1 rfl (lv_room (Nat.le_of_ble_eq_true rfl)) dX5_deltaLength_16 ⟨Nat.le_of_ble_eq_true rfl, Nat.le_of_ble_eq_true rfl⟩) hS (fun _ h => h.elim) (fun E ce q9 H1 locs E_6 hz9 hk9 hS hce hcv hcl => ?_) (fun e_5 => ?_)
    · skip
      refine vx_out (fun x h => (hnx x h).elim) hlocks hce hcv hcl (fun t ht hvm => ⟨(by simp only [F_X5_deltaLength, if_pos e_1, if_neg (bx_ne E_6)]; exact E_6), by rw [ht]; exact hz9, fun q h _ => by rw [ht]; exact hk9 q h⟩) hS.2.2 (Nat.le_of_ble_eq_true rfl) (Nat.le_of_ble_eq_true rfl)
    · skip
      refine lv_aload_n hx hb dX5_deltaLength_19 rfl (lv_at hl 1 rfl) ?_
      refine va_get (D := D) (ci := 5) (v := .ref e0) (C := RX5) (T := TX5) (N := 6) hx hb hts hi5 hown hK hP 0 rfl rfl 4 (by decide) (hts (.fieldLink RX5 38 "Bootstay" "delta" "LBootstay$Delta;") (by decide +kernel)) (fun _ h9 => h9) rfl dX5_deltaLength_20 ?_
      refine lv_iload_n hx hb dX5_deltaLength_23 rfl (lv_at hl 2 rfl) ?_
      refine lv_iload_n hx hb dX5_deltaLength_24 rfl (lv_at hl 0 rfl) ?_
      refine bx_ri (va_runV (As := [.int p0, .int (F_X0_pieceStart δ σ p0 p1)]) (rest := []) ⟨hx, hb, hml, hown, hts⟩ (c_X0_pieceLength l D cA e0 d db s0 f w δ σ p0 (F_X0_pieceStart δ σ p0 p1)) (cwV 2 hts gX5_deltaLength_X0_pieceLength rfl rfl rfl (by decide +kernel) ⟨Nat.le_of_ble_eq_true rfl, Nat.le_of_ble_eq_true rfl⟩) (bx_pvr (ci := 0) (q0 := 0) hK hG (hP.sub (ws' := [(e0, .inr (0, [.ref d, .ref s0])), (d, .inr (1, [.int δ.1, .ref db])), (db, .inl (cA, 24, .inl δ.2)), (s0, .inr (3, [.ref f])), (f, .inr (2, [.ref w, .int σ.2.1, .int σ.2.2])), (w, .inl (cA, 66, .inl σ.1))]) [10, 8, 9, 1, 2, 3] rfl) rfl rfl) rfl rfl hl.1 rfl (lv_room (Nat.le_of_ble_eq_true rfl)) dX5_deltaLength_25 ⟨Nat.zero_le _, Nat.zero_le _⟩) (fun r_7 h_8 => ?_)
      have h_8 := h_8.symm
      subst h_8
      refine vx_ret ?_
      refine W.widen (k := 1) (n := 6) (Nat.zero_le _) (Nat.zero_le _) ?_
      exact W.iret (v := (F_X0_pieceLength δ σ p0 (F_X0_pieceStart δ σ p0 p1))) hx hb hr (fun t ht hW => ⟨(F_X0_pieceLength δ σ p0 (F_X0_pieceStart δ σ p0 p1)), rfl, (by simp only [F_X5_deltaLength, if_pos e_1, if_pos e_5]), ht⟩) (fun _ h => nomatch h) dX5_deltaLength_28
def F_X5_deltaFrom (σ : FS) (δ : DS) (p0 : Int32) (p1 : Int32) : Int32 × Int32 := (if (F_X5_requireStartable σ p0) = 0 then (if (F_X5_requirePiece (F_X0_pieceStart δ σ p0 p1)) = 0 then (0, (F_X0_runFrom δ σ p0 (F_X0_pieceStart δ σ p0 p1))) else ((F_X5_requirePiece (F_X0_pieceStart δ σ p0 p1)), 0)) else ((F_X5_requireStartable σ p0), 0))
set_option maxHeartbeats 4000000 in
set_option maxRecDepth 100000 in
theorem c_X5_deltaFrom (l : Launch) (hl9 : l.stackTraces = false) (D : va_G) (cA : ClassId) (b s0 f w s2 f2 w2 t0 d db e0 : Nat) (σ : FS) (ρ : FS) (τ : TS) (δ : DS) (run : Int32) (p0 : Int32) (p1 : Int32) : vx_Met l yX5_deltaFrom wsX5_deltaFrom ({ frames := 8, cells := 1, slots := 6, locals := 142 }) (va_Pc [.ref b, .int p0, .int p1] (bx_rox D [(cA, .int)] (wBo cA b s0 f w s2 f2 w2 t0 d db e0 σ ρ τ δ run))) (vp_Si (fun r => (0, r) = F_X5_deltaFrom σ δ p0 p1)) (bx_XC (F_X5_deltaFrom σ δ p0 p1).1) 1 6 (fun _ => False) := by
  refine vx_ofW (cc := cX5_deltaFrom) (maxL := 4) (ret := (some .int)) (by decide) rfl ?_
  intro p e s m args below meth c s₁ B hml hnx hv
  obtain ⟨rfl, hP, hK, hG, hZ⟩ := hv
  have hx := B.exec
  have hb := B.bytes
  have hr := B.returns
  have hts := atoms_spec (ws := wsX5_deltaFrom) B.pre
  have hown : s.vm.findClass RX5 = some m.cls := findClass_of_methodNamed B.named
  have hlocks := B.notSynchronized
  have hS : va_S (fun _ => False) s.heap s.heap [] := va_S.rf
  have hP : va_P D vwCl [(b, .inr (5, [.ref s0, .ref s2, .ref t0, .ref d, .ref e0, .int run])), (s0, .inr (3, [.ref f])), (f, .inr (2, [.ref w, .int σ.2.1, .int σ.2.2])), (w, .inl (cA, 66, .inl σ.1)), (s2, .inr (3, [.ref f2])), (f2, .inr (2, [.ref w2, .int ρ.2.1, .int ρ.2.2])), (w2, .inl (cA, 66, .inl ρ.1)), (t0, .inr (4, [.int τ.1, .int τ.2.1, .int τ.2.2.1, .int τ.2.2.2.1, .int τ.2.2.2.2.1, .int τ.2.2.2.2.2])), (d, .inr (1, [.int δ.1, .ref db])), (db, .inl (cA, 24, .inl δ.2)), (e0, .inr (0, [.ref d, .ref s0]))] s.heap := hP
  have hl := lv_entry ([.ref b, .int p0, .int p1]) (n := 4) (Nat.le_of_ble_eq_true rfl)
  rw [lg_entry_eq]
  generalize (lg_sl ([.ref b, .int p0, .int p1]) ++ List.replicate (4 - (lg_sl ([.ref b, .int p0, .int p1])).length) Slot.unset).toArray = ls at hl ⊢
  have hl : lv_has ls 4 [(0, .ref b), (1, .int p0), (2, .int p1)] := hl
  have hi5 : ∀ w ∈ u_ws RX5 TX5 6, w ∈ wsX5_deltaFrom := by decide +kernel
  refine lv_aload_n hx hb dX5_deltaFrom_0 rfl (lv_at hl 0 rfl) ?_
  refine lv_iload_n hx hb dX5_deltaFrom_1 rfl (lv_at hl 1 rfl) ?_
  refine bx_xsv (vx_runV (As := [.int p0]) (rest := []) ⟨hx, hb, hml, hown, hts⟩ (c_X5_requireStartable l hl9 D cA b s0 f w s2 f2 w2 t0 d db e0 σ ρ τ δ run p0) (cwV 1 hts gX5_deltaFrom_X5_requireStartable rfl rfl rfl (by decide +kernel) ⟨Nat.le_of_ble_eq_true rfl, Nat.le_of_ble_eq_true rfl⟩) (bx_pvrx (ci := 5) (q0 := 0) hK hG hZ (hP.sub (ws' := [(b, .inr (5, [.ref s0, .ref s2, .ref t0, .ref d, .ref e0, .int run])), (s0, .inr (3, [.ref f])), (f, .inr (2, [.ref w, .int σ.2.1, .int σ.2.2])), (w, .inl (cA, 66, .inl σ.1)), (s2, .inr (3, [.ref f2])), (f2, .inr (2, [.ref w2, .int ρ.2.1, .int ρ.2.2])), (w2, .inl (cA, 66, .inl ρ.1)), (t0, .inr (4, [.int τ.1, .int τ.2.1, .int τ.2.2.1, .int τ.2.2.2.1, .int τ.2.2.2.2.1, .int τ.2.2.2.2.2])), (d, .inr (1, [.int δ.1, .ref db])), (db, .inl (cA, 24, .inl δ.2)), (e0, .inr (0, [.ref d, .ref s0]))]) [0, 1, 2, 3, 4, 5, 6, 7, 8, 9, 10] rfl) rfl rfl) rfl rfl hl.1 rfl (lv_room (Nat.le_of_ble_eq_true rfl)) dX5_deltaFrom_2 ⟨Nat.le_of_ble_eq_true rfl, Nat.le_of_ble_eq_true rfl⟩) hS (fun _ h => h.elim) (fun E ce q9 H1 locs E_2 hz9 hk9 hS hce hcv hcl => ?_) (fun e_1 => ?_)
  · skip
    refine vx_out (fun x h => (hnx x h).elim) hlocks hce hcv hcl (fun t ht hvm => ⟨(by simp only [F_X5_deltaFrom, if_neg (bx_ne E_2)]; exact E_2), by rw [ht]; exact hz9, fun q h _ => by rw [ht]; exact hk9 q h⟩) hS.2.2 (Nat.le_of_ble_eq_true rfl) (Nat.le_of_ble_eq_true rfl)
  · skip
    refine lv_aload_n hx hb dX5_deltaFrom_5 rfl (lv_at hl 0 rfl) ?_
    refine va_get (D := D) (ci := 5) (v := .ref e0) (C := RX5) (T := TX5) (N := 6) hx hb hts hi5 hown hK hP 0 rfl rfl 4 (by decide) (hts (.fieldLink RX5 38 "Bootstay" "delta" "LBootstay$Delta;") (by decide +kernel)) (fun _ h9 => h9) rfl dX5_deltaFrom_6 ?_
    refine lv_iload_n hx hb dX5_deltaFrom_9 rfl (lv_at hl 1 rfl) ?_
    refine lv_iload_n hx hb dX5_deltaFrom_10 rfl (lv_at hl 2 rfl) ?_
    refine bx_ri (va_runV (As := [.int p0, .int p1]) (rest := []) ⟨hx, hb, hml, hown, hts⟩ (c_X0_pieceStart l D cA e0 d db s0 f w δ σ p0 p1) (cwV 2 hts gX5_deltaFrom_X0_pieceStart rfl rfl rfl (by decide +kernel) ⟨Nat.le_of_ble_eq_true rfl, Nat.le_of_ble_eq_true rfl⟩) (bx_pvr (ci := 0) (q0 := 0) hK hG (hP.sub (ws' := [(e0, .inr (0, [.ref d, .ref s0])), (d, .inr (1, [.int δ.1, .ref db])), (db, .inl (cA, 24, .inl δ.2)), (s0, .inr (3, [.ref f])), (f, .inr (2, [.ref w, .int σ.2.1, .int σ.2.2])), (w, .inl (cA, 66, .inl σ.1))]) [10, 8, 9, 1, 2, 3] rfl) rfl rfl) rfl rfl hl.1 rfl (lv_room (Nat.le_of_ble_eq_true rfl)) dX5_deltaFrom_11 ⟨Nat.zero_le _, Nat.zero_le _⟩) (fun r_3 h_4 => ?_)
    have h_4 := h_4.symm
    subst h_4
    refine lv_istore_n (lv' := [(3, .int (F_X0_pieceStart δ σ p0 p1)), (0, .ref b), (1, .int p0), (2, .int p1)]) hx hb dX5_deltaFrom_14 rfl hl (by decide) rfl (fun ls hl => ?_)
    refine lv_iload_n hx hb dX5_deltaFrom_15 rfl (lv_at hl 0 rfl) ?_
    refine bx_xsv (vx_runS (As := [.int (F_X0_pieceStart δ σ p0 p1)]) (rest := []) ⟨hx, hb, hml, hown, hts⟩ (c_X5_requirePiece l hl9 D (F_X0_pieceStart δ σ p0 p1)) (va_cwS 1 hts gX5_deltaFrom_X5_requirePiece rfl rfl rfl (by decide +kernel) ⟨Nat.le_of_ble_eq_true rfl, Nat.le_of_ble_eq_true rfl⟩) (bx_psrx (hK.sub (tys' := []) [] rfl) hG hZ (hP.sub (ws' := []) [] rfl)) rfl rfl hl.1 rfl (lv_room (Nat.le_of_ble_eq_true rfl)) dX5_deltaFrom_16 ⟨Nat.le_of_ble_eq_true rfl, Nat.le_of_ble_eq_true rfl⟩) hS (fun _ h => h.elim) (fun E ce q9 H1 locs E_6 hz9 hk9 hS hce hcv hcl => ?_) (fun e_5 => ?_)
    · skip
      refine vx_out (fun x h => (hnx x h).elim) hlocks hce hcv hcl (fun t ht hvm => ⟨(by simp only [F_X5_deltaFrom, if_pos e_1, if_neg (bx_ne E_6)]; exact E_6), by rw [ht]; exact hz9, fun q h _ => by rw [ht]; exact hk9 q h⟩) hS.2.2 (Nat.le_of_ble_eq_true rfl) (Nat.le_of_ble_eq_true rfl)
    · skip
      refine lv_aload_n hx hb dX5_deltaFrom_19 rfl (lv_at hl 1 rfl) ?_
      refine va_get (D := D) (ci := 5) (v := .ref e0) (C := RX5) (T := TX5) (N := 6) hx hb hts hi5 hown hK hP 0 rfl rfl 4 (by decide) (hts (.fieldLink RX5 38 "Bootstay" "delta" "LBootstay$Delta;") (by decide +kernel)) (fun _ h9 => h9) rfl dX5_deltaFrom_20 ?_
      refine lv_iload_n hx hb dX5_deltaFrom_23 rfl (lv_at hl 2 rfl) ?_
      refine lv_iload_n hx hb dX5_deltaFrom_24 rfl (lv_at hl 0 rfl) ?_
      refine bx_ri (va_runV (As := [.int p0, .int (F_X0_pieceStart δ σ p0 p1)]) (rest := []) ⟨hx, hb, hml, hown, hts⟩ (c_X0_runFrom l D cA e0 d db s0 f w δ σ p0 (F_X0_pieceStart δ σ p0 p1)) (cwV 2 hts gX5_deltaFrom_X0_runFrom rfl rfl rfl (by decide +kernel) ⟨Nat.le_of_ble_eq_true rfl, Nat.le_of_ble_eq_true rfl⟩) (bx_pvr (ci := 0) (q0 := 0) hK hG (hP.sub (ws' := [(e0, .inr (0, [.ref d, .ref s0])), (d, .inr (1, [.int δ.1, .ref db])), (db, .inl (cA, 24, .inl δ.2)), (s0, .inr (3, [.ref f])), (f, .inr (2, [.ref w, .int σ.2.1, .int σ.2.2])), (w, .inl (cA, 66, .inl σ.1))]) [10, 8, 9, 1, 2, 3] rfl) rfl rfl) rfl rfl hl.1 rfl (lv_room (Nat.le_of_ble_eq_true rfl)) dX5_deltaFrom_25 ⟨Nat.zero_le _, Nat.zero_le _⟩) (fun r_7 h_8 => ?_)
      have h_8 := h_8.symm
      subst h_8
      refine vx_ret ?_
      refine W.widen (k := 1) (n := 6) (Nat.zero_le _) (Nat.zero_le _) ?_
      exact W.iret (v := (F_X0_runFrom δ σ p0 (F_X0_pieceStart δ σ p0 p1))) hx hb hr (fun t ht hW => ⟨(F_X0_runFrom δ σ p0 (F_X0_pieceStart δ σ p0 p1)), rfl, (by simp only [F_X5_deltaFrom, if_pos e_1, if_pos e_5]), ht⟩) (fun _ h => nomatch h) dX5_deltaFrom_28
def F_X5_isStartable (σ : FS) (p0 : Int32) : Int32 × Int32 := (if (F_X5_requireWithin p0 0 1) = 0 then (0, (F_X3_canStart σ p0)) else ((F_X5_requireWithin p0 0 1), 0))
set_option maxHeartbeats 4000000 in
set_option maxRecDepth 100000 in
theorem c_X5_isStartable (l : Launch) (hl9 : l.stackTraces = false) (D : va_G) (cA : ClassId) (b s0 f w s2 f2 w2 t0 d db e0 : Nat) (σ : FS) (ρ : FS) (τ : TS) (δ : DS) (run : Int32) (p0 : Int32) : vx_Met l yX5_isStartable wsX5_isStartable ({ frames := 7, cells := 1, slots := 6, locals := 112 }) (va_Pc [.ref b, .int p0] (bx_rox D [(cA, .int)] (wBo cA b s0 f w s2 f2 w2 t0 d db e0 σ ρ τ δ run))) (vp_Si (fun r => (0, r) = F_X5_isStartable σ p0 ∧ (r = 0 ∨ r = 1))) (bx_XC (F_X5_isStartable σ p0).1) 1 6 (fun _ => False) := by
  refine vx_ofW (cc := cX5_isStartable) (maxL := 2) (ret := (some .boolean)) (by decide) rfl ?_
  intro p e s m args below meth c s₁ B hml hnx hv
  obtain ⟨rfl, hP, hK, hG, hZ⟩ := hv
  have hx := B.exec
  have hb := B.bytes
  have hr := B.returns
  have hts := atoms_spec (ws := wsX5_isStartable) B.pre
  have hown : s.vm.findClass RX5 = some m.cls := findClass_of_methodNamed B.named
  have hlocks := B.notSynchronized
  have hS : va_S (fun _ => False) s.heap s.heap [] := va_S.rf
  have hP : va_P D vwCl [(b, .inr (5, [.ref s0, .ref s2, .ref t0, .ref d, .ref e0, .int run])), (s0, .inr (3, [.ref f])), (f, .inr (2, [.ref w, .int σ.2.1, .int σ.2.2])), (w, .inl (cA, 66, .inl σ.1)), (s2, .inr (3, [.ref f2])), (f2, .inr (2, [.ref w2, .int ρ.2.1, .int ρ.2.2])), (w2, .inl (cA, 66, .inl ρ.1)), (t0, .inr (4, [.int τ.1, .int τ.2.1, .int τ.2.2.1, .int τ.2.2.2.1, .int τ.2.2.2.2.1, .int τ.2.2.2.2.2])), (d, .inr (1, [.int δ.1, .ref db])), (db, .inl (cA, 24, .inl δ.2)), (e0, .inr (0, [.ref d, .ref s0]))] s.heap := hP
  have hl := lv_entry ([.ref b, .int p0]) (n := 2) (Nat.le_of_ble_eq_true rfl)
  rw [lg_entry_eq]
  generalize (lg_sl ([.ref b, .int p0]) ++ List.replicate (2 - (lg_sl ([.ref b, .int p0])).length) Slot.unset).toArray = ls at hl ⊢
  have hl : lv_has ls 2 [(0, .ref b), (1, .int p0)] := hl
  have hi5 : ∀ w ∈ u_ws RX5 TX5 6, w ∈ wsX5_isStartable := by decide +kernel
  refine lv_iload_n hx hb dX5_isStartable_0 rfl (lv_at hl 1 rfl) ?_
  refine lv_iconst (v := 0) hx hb dX5_isStartable_1 (by decide) ?_
  refine lv_iconst (v := 1) hx hb dX5_isStartable_2 (by decide) ?_
  refine bx_xsv (vx_runS (As := [.int p0, .int 0, .int 1]) (rest := []) ⟨hx, hb, hml, hown, hts⟩ (c_X5_requireWithin l hl9 D p0 0 1) (va_cwS 3 hts gX5_isStartable_X5_requireWithin rfl rfl rfl (by decide +kernel) ⟨Nat.le_of_ble_eq_true rfl, Nat.le_of_ble_eq_true rfl⟩) (bx_psrx (hK.sub (tys' := []) [] rfl) hG hZ (hP.sub (ws' := []) [] rfl)) rfl rfl hl.1 rfl (lv_room (Nat.le_of_ble_eq_true rfl)) dX5_isStartable_3 ⟨Nat.le_of_ble_eq_true rfl, Nat.le_of_ble_eq_true rfl⟩) hS (fun _ h => h.elim) (fun E ce q9 H1 locs E_2 hz9 hk9 hS hce hcv hcl => ?_) (fun e_1 => ?_)
  · skip
    refine vx_out (fun x h => (hnx x h).elim) hlocks hce hcv hcl (fun t ht hvm => ⟨(by simp only [F_X5_isStartable, if_neg (bx_ne E_2)]; exact E_2), by rw [ht]; exact hz9, fun q h _ => by rw [ht]; exact hk9 q h⟩) hS.2.2 (Nat.le_of_ble_eq_true rfl) (Nat.le_of_ble_eq_true rfl)
  · skip
    refine lv_aload_n hx hb dX5_isStartable_6 rfl (lv_at hl 0 rfl) ?_
    refine va_get (D := D) (ci := 5) (v := .ref s0) (C := RX5) (T := TX5) (N := 6) hx hb hts hi5 hown hK hP 0 rfl rfl 0 (by decide) (hts (.fieldLink RX5 10 "Bootstay" "store" "LBootstay$Store;") (by decide +kernel)) (fun _ h9 => h9) rfl dX5_isStartable_7 ?_
    refine lv_iload_n hx hb dX5_isStartable_10 rfl (lv_at hl 1 rfl) ?_
    refine bx_ri (va_runV (As := [.int p0]) (rest := []) ⟨hx, hb, hml, hown, hts⟩ (c_X3_canStart l D cA s0 f w σ p0) (cwV 1 hts gX5_isStartable_X3_canStart rfl rfl rfl (by decide +kernel) ⟨Nat.le_of_ble_eq_true rfl, Nat.le_of_ble_eq_true rfl⟩) (bx_pvr (ci := 3) (q0 := 0) hK hG (hP.sub (ws' := [(s0, .inr (3, [.ref f])), (f, .inr (2, [.ref w, .int σ.2.1, .int σ.2.2])), (w, .inl (cA, 66, .inl σ.1))]) [1, 2, 3] rfl) rfl rfl) rfl rfl hl.1 rfl (lv_room (Nat.le_of_ble_eq_true rfl)) dX5_isStartable_11 ⟨Nat.zero_le _, Nat.zero_le _⟩) (fun r_3 h_4 => ?_)
    obtain ⟨h_4, b_5⟩ := h_4
    have h_4 := h_4.symm
    subst h_4
    refine vx_ret ?_
    refine W.widen (k := 1) (n := 6) (Nat.zero_le _) (Nat.zero_le _) ?_
    exact W.zret (v := (F_X3_canStart σ p0)) hx hb hr (bx_nb b_5) (fun t ht hW => ⟨(F_X3_canStart σ p0), rfl, ⟨(by simp only [F_X5_isStartable, if_pos e_1]), b_5⟩, ht⟩) (fun _ h => nomatch h) dX5_isStartable_14
def F_X5_version (σ : FS) (p0 : Int32) : Int32 × Int32 := (if (F_X5_requireWithin p0 0 1) = 0 then (0, (F_X3_slotWord σ p0 1)) else ((F_X5_requireWithin p0 0 1), 0))
set_option maxHeartbeats 4000000 in
set_option maxRecDepth 100000 in
theorem c_X5_version (l : Launch) (hl9 : l.stackTraces = false) (D : va_G) (cA : ClassId) (b s0 f w s2 f2 w2 t0 d db e0 : Nat) (σ : FS) (ρ : FS) (τ : TS) (δ : DS) (run : Int32) (p0 : Int32) : vx_Met l yX5_version wsX5_version ({ frames := 7, cells := 1, slots := 6, locals := 112 }) (va_Pc [.ref b, .int p0] (bx_rox D [(cA, .int)] (wBo cA b s0 f w s2 f2 w2 t0 d db e0 σ ρ τ δ run))) (vp_Si (fun r => (0, r) = F_X5_version σ p0)) (bx_XC (F_X5_version σ p0).1) 1 6 (fun _ => False) := by
  refine vx_ofW (cc := cX5_version) (maxL := 2) (ret := (some .int)) (by decide) rfl ?_
  intro p e s m args below meth c s₁ B hml hnx hv
  obtain ⟨rfl, hP, hK, hG, hZ⟩ := hv
  have hx := B.exec
  have hb := B.bytes
  have hr := B.returns
  have hts := atoms_spec (ws := wsX5_version) B.pre
  have hown : s.vm.findClass RX5 = some m.cls := findClass_of_methodNamed B.named
  have hlocks := B.notSynchronized
  have hS : va_S (fun _ => False) s.heap s.heap [] := va_S.rf
  have hP : va_P D vwCl [(b, .inr (5, [.ref s0, .ref s2, .ref t0, .ref d, .ref e0, .int run])), (s0, .inr (3, [.ref f])), (f, .inr (2, [.ref w, .int σ.2.1, .int σ.2.2])), (w, .inl (cA, 66, .inl σ.1)), (s2, .inr (3, [.ref f2])), (f2, .inr (2, [.ref w2, .int ρ.2.1, .int ρ.2.2])), (w2, .inl (cA, 66, .inl ρ.1)), (t0, .inr (4, [.int τ.1, .int τ.2.1, .int τ.2.2.1, .int τ.2.2.2.1, .int τ.2.2.2.2.1, .int τ.2.2.2.2.2])), (d, .inr (1, [.int δ.1, .ref db])), (db, .inl (cA, 24, .inl δ.2)), (e0, .inr (0, [.ref d, .ref s0]))] s.heap := hP
  have hl := lv_entry ([.ref b, .int p0]) (n := 2) (Nat.le_of_ble_eq_true rfl)
  rw [lg_entry_eq]
  generalize (lg_sl ([.ref b, .int p0]) ++ List.replicate (2 - (lg_sl ([.ref b, .int p0])).length) Slot.unset).toArray = ls at hl ⊢
  have hl : lv_has ls 2 [(0, .ref b), (1, .int p0)] := hl
  have hi5 : ∀ w ∈ u_ws RX5 TX5 6, w ∈ wsX5_version := by decide +kernel
  refine lv_iload_n hx hb dX5_version_0 rfl (lv_at hl 1 rfl) ?_
  refine lv_iconst (v := 0) hx hb dX5_version_1 (by decide) ?_
  refine lv_iconst (v := 1) hx hb dX5_version_2 (by decide) ?_
  refine bx_xsv (vx_runS (As := [.int p0, .int 0, .int 1]) (rest := []) ⟨hx, hb, hml, hown, hts⟩ (c_X5_requireWithin l hl9 D p0 0 1) (va_cwS 3 hts gX5_version_X5_requireWithin rfl rfl rfl (by decide +kernel) ⟨Nat.le_of_ble_eq_true rfl, Nat.le_of_ble_eq_true rfl⟩) (bx_psrx (hK.sub (tys' := []) [] rfl) hG hZ (hP.sub (ws' := []) [] rfl)) rfl rfl hl.1 rfl (lv_room (Nat.le_of_ble_eq_true rfl)) dX5_version_3 ⟨Nat.le_of_ble_eq_true rfl, Nat.le_of_ble_eq_true rfl⟩) hS (fun _ h => h.elim) (fun E ce q9 H1 locs E_2 hz9 hk9 hS hce hcv hcl => ?_) (fun e_1 => ?_)
  · skip
    refine vx_out (fun x h => (hnx x h).elim) hlocks hce hcv hcl (fun t ht hvm => ⟨(by simp only [F_X5_version, if_neg (bx_ne E_2)]; exact E_2), by rw [ht]; exact hz9, fun q h _ => by rw [ht]; exact hk9 q h⟩) hS.2.2 (Nat.le_of_ble_eq_true rfl) (Nat.le_of_ble_eq_true rfl)
  · skip
    refine lv_aload_n hx hb dX5_version_6 rfl (lv_at hl 0 rfl) ?_
    refine va_get (D := D) (ci := 5) (v := .ref s0) (C := RX5) (T := TX5) (N := 6) hx hb hts hi5 hown hK hP 0 rfl rfl 0 (by decide) (hts (.fieldLink RX5 10 "Bootstay" "store" "LBootstay$Store;") (by decide +kernel)) (fun _ h9 => h9) rfl dX5_version_7 ?_
    refine lv_iload_n hx hb dX5_version_10 rfl (lv_at hl 1 rfl) ?_
    refine lv_iconst (v := 1) hx hb dX5_version_11 (by decide) ?_
    refine bx_ri (va_runV (As := [.int p0, .int 1]) (rest := []) ⟨hx, hb, hml, hown, hts⟩ (c_X3_slotWord l D cA s0 f w σ p0 1) (cwV 2 hts gX5_version_X3_slotWord rfl rfl rfl (by decide +kernel) ⟨Nat.le_of_ble_eq_true rfl, Nat.le_of_ble_eq_true rfl⟩) (bx_pvr (ci := 3) (q0 := 0) hK hG (hP.sub (ws' := [(s0, .inr (3, [.ref f])), (f, .inr (2, [.ref w, .int σ.2.1, .int σ.2.2])), (w, .inl (cA, 66, .inl σ.1))]) [1, 2, 3] rfl) rfl rfl) rfl rfl hl.1 rfl (lv_room (Nat.le_of_ble_eq_true rfl)) dX5_version_12 ⟨Nat.zero_le _, Nat.zero_le _⟩) (fun r_3 h_4 => ?_)
    have h_4 := h_4.symm
    subst h_4
    refine vx_ret ?_
    refine W.widen (k := 1) (n := 6) (Nat.zero_le _) (Nat.zero_le _) ?_
    exact W.iret (v := (F_X3_slotWord σ p0 1)) hx hb hr (fun t ht hW => ⟨(F_X3_slotWord σ p0 1), rfl, (by simp only [F_X5_version, if_pos e_1]), ht⟩) (fun _ h => nomatch h) dX5_version_15
def F_X5_imageByte (σ : FS) (p0 : Int32) (p1 : Int32) : Int32 × Int32 := (if (F_X5_requireWithin p0 0 1) = 0 then (if p1 < 0 then (3, 0) else (if p1 < 24 then (0, (F_X3_imageWord σ p0 p1)) else (3, 0))) else ((F_X5_requireWithin p0 0 1), 0))
set_option maxHeartbeats 4000000 in
set_option maxRecDepth 100000 in
theorem c_X5_imageByte (l : Launch) (hl9 : l.stackTraces = false) (D : va_G) (cA : ClassId) (b s0 f w s2 f2 w2 t0 d db e0 : Nat) (σ : FS) (ρ : FS) (τ : TS) (δ : DS) (run : Int32) (p0 : Int32) (p1 : Int32) : vx_Met l yX5_imageByte wsX5_imageByte ({ frames := 7, cells := 1, slots := 6, locals := 112 }) (va_Pc [.ref b, .int p0, .int p1] (bx_rox D [(cA, .int)] (wBo cA b s0 f w s2 f2 w2 t0 d db e0 σ ρ τ δ run))) (vp_Si (fun r => (0, r) = F_X5_imageByte σ p0 p1)) (bx_XC (F_X5_imageByte σ p0 p1).1) 1 6 (fun _ => False) := by
  refine vx_ofW (cc := cX5_imageByte) (maxL := 3) (ret := (some .int)) (by decide) rfl ?_
  intro p e s m args below meth c s₁ B hml hnx hv
  obtain ⟨rfl, hP, hK, hG, hZ⟩ := hv
  have hx := B.exec
  have hb := B.bytes
  have hr := B.returns
  have hts := atoms_spec (ws := wsX5_imageByte) B.pre
  have hown : s.vm.findClass RX5 = some m.cls := findClass_of_methodNamed B.named
  have hlocks := B.notSynchronized
  have hS : va_S (fun _ => False) s.heap s.heap [] := va_S.rf
  have hP : va_P D vwCl [(b, .inr (5, [.ref s0, .ref s2, .ref t0, .ref d, .ref e0, .int run])), (s0, .inr (3, [.ref f])), (f, .inr (2, [.ref w, .int σ.2.1, .int σ.2.2])), (w, .inl (cA, 66, .inl σ.1)), (s2, .inr (3, [.ref f2])), (f2, .inr (2, [.ref w2, .int ρ.2.1, .int ρ.2.2])), (w2, .inl (cA, 66, .inl ρ.1)), (t0, .inr (4, [.int τ.1, .int τ.2.1, .int τ.2.2.1, .int τ.2.2.2.1, .int τ.2.2.2.2.1, .int τ.2.2.2.2.2])), (d, .inr (1, [.int δ.1, .ref db])), (db, .inl (cA, 24, .inl δ.2)), (e0, .inr (0, [.ref d, .ref s0]))] s.heap := hP
  have hl := lv_entry ([.ref b, .int p0, .int p1]) (n := 3) (Nat.le_of_ble_eq_true rfl)
  rw [lg_entry_eq]
  generalize (lg_sl ([.ref b, .int p0, .int p1]) ++ List.replicate (3 - (lg_sl ([.ref b, .int p0, .int p1])).length) Slot.unset).toArray = ls at hl ⊢
  have hl : lv_has ls 3 [(0, .ref b), (1, .int p0), (2, .int p1)] := hl
  have hi5 : ∀ w ∈ u_ws RX5 TX5 6, w ∈ wsX5_imageByte := by decide +kernel
  refine lv_iload_n hx hb dX5_imageByte_0 rfl (lv_at hl 1 rfl) ?_
  refine lv_iconst (v := 0) hx hb dX5_imageByte_1 (by decide) ?_
  refine lv_iconst (v := 1) hx hb dX5_imageByte_2 (by decide) ?_
  refine bx_xsv (vx_runS (As := [.int p0, .int 0, .int 1]) (rest := []) ⟨hx, hb, hml, hown, hts⟩ (c_X5_requireWithin l hl9 D p0 0 1) (va_cwS 3 hts gX5_imageByte_X5_requireWithin rfl rfl rfl (by decide +kernel) ⟨Nat.le_of_ble_eq_true rfl, Nat.le_of_ble_eq_true rfl⟩) (bx_psrx (hK.sub (tys' := []) [] rfl) hG hZ (hP.sub (ws' := []) [] rfl)) rfl rfl hl.1 rfl (lv_room (Nat.le_of_ble_eq_true rfl)) dX5_imageByte_3 ⟨Nat.le_of_ble_eq_true rfl, Nat.le_of_ble_eq_true rfl⟩) hS (fun _ h => h.elim) (fun E ce q9 H1 locs E_2 hz9 hk9 hS hce hcv hcl => ?_) (fun e_1 => ?_)
  · skip
    refine vx_out (fun x h => (hnx x h).elim) hlocks hce hcv hcl (fun t ht hvm => ⟨(by simp only [F_X5_imageByte, if_neg (bx_ne E_2)]; exact E_2), by rw [ht]; exact hz9, fun q h _ => by rw [ht]; exact hk9 q h⟩) hS.2.2 (Nat.le_of_ble_eq_true rfl) (Nat.le_of_ble_eq_true rfl)
  · skip
    refine lv_iload_n hx hb dX5_imageByte_6 rfl (lv_at hl 2 rfl) ?_
    refine lv_if_lt (tgt := 16) hx hb dX5_imageByte_7 (by decide) (fun c_3 => ?_) (fun c_3 => ?_)
    · skip
      obtain ⟨sa, hstr⟩ := hG.2.2 (199, "an image has no such place") (by decide +kernel)
      exact vx_throwS hx hb hl9 (own := RX5) (cls := bx_ioe) (text := "an image has no such place") (names := ["java/lang/RuntimeException", "java/lang/Exception"]) (ic := 201) (A := fun _ => False) hown (by decide +kernel) (by decide +kernel) (hts (.classLink RX5 197 bx_ioe) (by decide +kernel)) (hts (.initialized bx_ioe) (by decide +kernel)) hstr (bx_hat3 hG (fun w hw => hts w (by first | exact List.mem_cons_of_mem _ (List.mem_append_right _ hw) | exact List.mem_cons_of_mem _ (List.mem_append_left _ (List.mem_append_right _ hw)) | exact List.mem_cons_of_mem _ (List.mem_append_left _ (List.mem_append_left _ (List.mem_append_right _ hw)))))) bx_hg3 hZ.1 hZ.2 va_S.rf (by rw [hml]; exact hl.1) dX5_imageByte_16 dX5_imageByte_19 dX5_imageByte_20 dX5_imageByte_22 dX5_imageByte_25 (fun x h => (hnx x h).elim) (Nat.le_of_ble_eq_true rfl) (Nat.le_of_ble_eq_true rfl) (Nat.le_of_ble_eq_true rfl) (Nat.le_of_ble_eq_true rfl) hlocks (fun t hvm hz hk => ⟨(by simp only [F_X5_imageByte, if_pos e_1, if_pos c_3]; exact bx_e3), hz, fun q h _ => hk q h⟩) (fun _ h => nomatch h) (Nat.le_of_ble_eq_true rfl) (Nat.le_of_ble_eq_true rfl)
    · skip
      refine lv_iload_n hx hb dX5_imageByte_10 rfl (lv_at hl 2 rfl) ?_
      refine lv_bipush (v := 24) hx hb dX5_imageByte_11 (by decide) ?_
      refine lv_icmp_lt (tgt := 26) hx hb dX5_imageByte_13 (by decide) (fun c_4 => ?_) (fun c_4 => ?_)
      · skip
        refine lv_aload_n hx hb dX5_imageByte_26 rfl (lv_at hl 0 rfl) ?_
        refine va_get (D := D) (ci := 5) (v := .ref s0) (C := RX5) (T := TX5) (N := 6) hx hb hts hi5 hown hK hP 0 rfl rfl 0 (by decide) (hts (.fieldLink RX5 10 "Bootstay" "store" "LBootstay$Store;") (by decide +kernel)) (fun _ h9 => h9) rfl dX5_imageByte_27 ?_
        refine lv_iload_n hx hb dX5_imageByte_30 rfl (lv_at hl 1 rfl) ?_
        refine lv_iload_n hx hb dX5_imageByte_31 rfl (lv_at hl 2 rfl) ?_
        refine bx_ri (va_runV (As := [.int p0, .int p1]) (rest := []) ⟨hx, hb, hml, hown, hts⟩ (c_X3_imageWord l D cA s0 f w σ p0 p1) (cwV 2 hts gX5_imageByte_X3_imageWord rfl rfl rfl (by decide +kernel) ⟨Nat.le_of_ble_eq_true rfl, Nat.le_of_ble_eq_true rfl⟩) (bx_pvr (ci := 3) (q0 := 0) hK hG (hP.sub (ws' := [(s0, .inr (3, [.ref f])), (f, .inr (2, [.ref w, .int σ.2.1, .int σ.2.2])), (w, .inl (cA, 66, .inl σ.1))]) [1, 2, 3] rfl) rfl rfl) rfl rfl hl.1 rfl (lv_room (Nat.le_of_ble_eq_true rfl)) dX5_imageByte_32 ⟨Nat.zero_le _, Nat.zero_le _⟩) (fun r_5 h_6 => ?_)
        have h_6 := h_6.symm
        subst h_6
        refine vx_ret ?_
        refine W.widen (k := 1) (n := 6) (Nat.zero_le _) (Nat.zero_le _) ?_
        exact W.iret (v := (F_X3_imageWord σ p0 p1)) hx hb hr (fun t ht hW => ⟨(F_X3_imageWord σ p0 p1), rfl, (by simp only [F_X5_imageByte, if_pos e_1, if_neg c_3, if_pos c_4]), ht⟩) (fun _ h => nomatch h) dX5_imageByte_35
      · skip
        obtain ⟨sa, hstr⟩ := hG.2.2 (199, "an image has no such place") (by decide +kernel)
        exact vx_throwS hx hb hl9 (own := RX5) (cls := bx_ioe) (text := "an image has no such place") (names := ["java/lang/RuntimeException", "java/lang/Exception"]) (ic := 201) (A := fun _ => False) hown (by decide +kernel) (by decide +kernel) (hts (.classLink RX5 197 bx_ioe) (by decide +kernel)) (hts (.initialized bx_ioe) (by decide +kernel)) hstr (bx_hat3 hG (fun w hw => hts w (by first | exact List.mem_cons_of_mem _ (List.mem_append_right _ hw) | exact List.mem_cons_of_mem _ (List.mem_append_left _ (List.mem_append_right _ hw)) | exact List.mem_cons_of_mem _ (List.mem_append_left _ (List.mem_append_left _ (List.mem_append_right _ hw)))))) bx_hg3 hZ.1 hZ.2 va_S.rf (by rw [hml]; exact hl.1) dX5_imageByte_16 dX5_imageByte_19 dX5_imageByte_20 dX5_imageByte_22 dX5_imageByte_25 (fun x h => (hnx x h).elim) (Nat.le_of_ble_eq_true rfl) (Nat.le_of_ble_eq_true rfl) (Nat.le_of_ble_eq_true rfl) (Nat.le_of_ble_eq_true rfl) hlocks (fun t hvm hz hk => ⟨(by simp only [F_X5_imageByte, if_pos e_1, if_neg c_3, if_neg c_4]; exact bx_e3), hz, fun q h _ => hk q h⟩) (fun _ h => nomatch h) (Nat.le_of_ble_eq_true rfl) (Nat.le_of_ble_eq_true rfl)
def F_X5_record (σ : FS) : Int32 := (F_X3_recordInForce σ)
set_option maxHeartbeats 4000000 in
set_option maxRecDepth 100000 in
theorem c_X5_record (l : Launch) (D : va_G) (cA : ClassId) (b s0 f w s2 f2 w2 t0 d db e0 : Nat) (σ : FS) (ρ : FS) (τ : TS) (δ : DS) (run : Int32) : Met l yX5_record wsX5_record ({ frames := 4, cells := 0, slots := 0, locals := 84 }) (va_Pc [.ref b] (bx_ro D [(cA, .int)] (wBo cA b s0 f w s2 f2 w2 t0 d db e0 σ ρ τ δ run))) (vp_Si (fun r => r = F_X5_record σ)) 0 0 (fun _ => False) := by
  refine Met.ofW (cc := cX5_record) (maxL := 1) (ret := (some .int)) (by decide) rfl ?_
  intro p e s m args below meth c s₁ B hml hv
  obtain ⟨rfl, hP, hK, hG⟩ := hv
  have hx := B.exec
  have hb := B.bytes
  have hr := B.returns
  have hts := atoms_spec (ws := wsX5_record) B.pre
  have hown : s.vm.findClass RX5 = some m.cls := findClass_of_methodNamed B.named
  have hlocks := B.notSynchronized
  have hP : va_P D vwCl [(b, .inr (5, [.ref s0, .ref s2, .ref t0, .ref d, .ref e0, .int run])), (s0, .inr (3, [.ref f])), (f, .inr (2, [.ref w, .int σ.2.1, .int σ.2.2])), (w, .inl (cA, 66, .inl σ.1)), (s2, .inr (3, [.ref f2])), (f2, .inr (2, [.ref w2, .int ρ.2.1, .int ρ.2.2])), (w2, .inl (cA, 66, .inl ρ.1)), (t0, .inr (4, [.int τ.1, .int τ.2.1, .int τ.2.2.1, .int τ.2.2.2.1, .int τ.2.2.2.2.1, .int τ.2.2.2.2.2])), (d, .inr (1, [.int δ.1, .ref db])), (db, .inl (cA, 24, .inl δ.2)), (e0, .inr (0, [.ref d, .ref s0]))] s.heap := hP
  have hl := lv_entry ([.ref b]) (n := 1) (Nat.le_of_ble_eq_true rfl)
  rw [lg_entry_eq]
  generalize (lg_sl ([.ref b]) ++ List.replicate (1 - (lg_sl ([.ref b])).length) Slot.unset).toArray = ls at hl ⊢
  have hl : lv_has ls 1 [(0, .ref b)] := hl
  have hi5 : ∀ w ∈ u_ws RX5 TX5 6, w ∈ wsX5_record := by decide +kernel
  refine lv_aload_n hx hb dX5_record_0 rfl (lv_at hl 0 rfl) ?_
  refine va_get (D := D) (ci := 5) (v := .ref s0) (C := RX5) (T := TX5) (N := 6) hx hb hts hi5 hown hK hP 0 rfl rfl 0 (by decide) (hts (.fieldLink RX5 10 "Bootstay" "store" "LBootstay$Store;") (by decide +kernel)) (fun _ h9 => h9) rfl dX5_record_1 ?_
  refine bx_ri (va_runV (As := []) (rest := []) ⟨hx, hb, hml, hown, hts⟩ (c_X3_recordInForce l D cA s0 f w σ) (cwV 0 hts gX5_record_X3_recordInForce rfl rfl rfl (by decide +kernel) ⟨Nat.le_of_ble_eq_true rfl, Nat.le_of_ble_eq_true rfl⟩) (bx_pvr (ci := 3) (q0 := 0) hK hG (hP.sub (ws' := [(s0, .inr (3, [.ref f])), (f, .inr (2, [.ref w, .int σ.2.1, .int σ.2.2])), (w, .inl (cA, 66, .inl σ.1))]) [1, 2, 3] rfl) rfl rfl) rfl rfl hl.1 rfl (lv_room (Nat.le_of_ble_eq_true rfl)) dX5_record_4 ⟨Nat.zero_le _, Nat.zero_le _⟩) (fun r_1 h_2 => ?_)
  have h_2 := h_2.symm
  subst h_2
  exact W.iret (v := (F_X3_recordInForce σ)) hx hb hr (fun t ht hW => ⟨(F_X3_recordInForce σ), rfl, rfl, ht⟩) (fun _ h => nomatch h) dX5_record_7
def F_X5_isValid (σ : FS) (p0 : Int32) : Int32 × Int32 := (if (F_X5_requireWithin p0 0 1) = 0 then (0, (F_X3_isRecordValid σ p0)) else ((F_X5_requireWithin p0 0 1), 0))
set_option maxHeartbeats 4000000 in
set_option maxRecDepth 100000 in
theorem c_X5_isValid (l : Launch) (hl9 : l.stackTraces = false) (D : va_G) (cA : ClassId) (b s0 f w s2 f2 w2 t0 d db e0 : Nat) (σ : FS) (ρ : FS) (τ : TS) (δ : DS) (run : Int32) (p0 : Int32) : vx_Met l yX5_isValid wsX5_isValid ({ frames := 7, cells := 1, slots := 6, locals := 112 }) (va_Pc [.ref b, .int p0] (bx_rox D [(cA, .int)] (wBo cA b s0 f w s2 f2 w2 t0 d db e0 σ ρ τ δ run))) (vp_Si (fun r => (0, r) = F_X5_isValid σ p0 ∧ (r = 0 ∨ r = 1))) (bx_XC (F_X5_isValid σ p0).1) 1 6 (fun _ => False) := by
  refine vx_ofW (cc := cX5_isValid) (maxL := 2) (ret := (some .boolean)) (by decide) rfl ?_
  intro p e s m args below meth c s₁ B hml hnx hv
  obtain ⟨rfl, hP, hK, hG, hZ⟩ := hv
  have hx := B.exec
  have hb := B.bytes
  have hr := B.returns
  have hts := atoms_spec (ws := wsX5_isValid) B.pre
  have hown : s.vm.findClass RX5 = some m.cls := findClass_of_methodNamed B.named
  have hlocks := B.notSynchronized
  have hS : va_S (fun _ => False) s.heap s.heap [] := va_S.rf
  have hP : va_P D vwCl [(b, .inr (5, [.ref s0, .ref s2, .ref t0, .ref d, .ref e0, .int run])), (s0, .inr (3, [.ref f])), (f, .inr (2, [.ref w, .int σ.2.1, .int σ.2.2])), (w, .inl (cA, 66, .inl σ.1)), (s2, .inr (3, [.ref f2])), (f2, .inr (2, [.ref w2, .int ρ.2.1, .int ρ.2.2])), (w2, .inl (cA, 66, .inl ρ.1)), (t0, .inr (4, [.int τ.1, .int τ.2.1, .int τ.2.2.1, .int τ.2.2.2.1, .int τ.2.2.2.2.1, .int τ.2.2.2.2.2])), (d, .inr (1, [.int δ.1, .ref db])), (db, .inl (cA, 24, .inl δ.2)), (e0, .inr (0, [.ref d, .ref s0]))] s.heap := hP
  have hl := lv_entry ([.ref b, .int p0]) (n := 2) (Nat.le_of_ble_eq_true rfl)
  rw [lg_entry_eq]
  generalize (lg_sl ([.ref b, .int p0]) ++ List.replicate (2 - (lg_sl ([.ref b, .int p0])).length) Slot.unset).toArray = ls at hl ⊢
  have hl : lv_has ls 2 [(0, .ref b), (1, .int p0)] := hl
  have hi5 : ∀ w ∈ u_ws RX5 TX5 6, w ∈ wsX5_isValid := by decide +kernel
  refine lv_iload_n hx hb dX5_isValid_0 rfl (lv_at hl 1 rfl) ?_
  refine lv_iconst (v := 0) hx hb dX5_isValid_1 (by decide) ?_
  refine lv_iconst (v := 1) hx hb dX5_isValid_2 (by decide) ?_
  refine bx_xsv (vx_runS (As := [.int p0, .int 0, .int 1]) (rest := []) ⟨hx, hb, hml, hown, hts⟩ (c_X5_requireWithin l hl9 D p0 0 1) (va_cwS 3 hts gX5_isValid_X5_requireWithin rfl rfl rfl (by decide +kernel) ⟨Nat.le_of_ble_eq_true rfl, Nat.le_of_ble_eq_true rfl⟩) (bx_psrx (hK.sub (tys' := []) [] rfl) hG hZ (hP.sub (ws' := []) [] rfl)) rfl rfl hl.1 rfl (lv_room (Nat.le_of_ble_eq_true rfl)) dX5_isValid_3 ⟨Nat.le_of_ble_eq_true rfl, Nat.le_of_ble_eq_true rfl⟩) hS (fun _ h => h.elim) (fun E ce q9 H1 locs E_2 hz9 hk9 hS hce hcv hcl => ?_) (fun e_1 => ?_)
  · skip
    refine vx_out (fun x h => (hnx x h).elim) hlocks hce hcv hcl (fun t ht hvm => ⟨(by simp only [F_X5_isValid, if_neg (bx_ne E_2)]; exact E_2), by rw [ht]; exact hz9, fun q h _ => by rw [ht]; exact hk9 q h⟩) hS.2.2 (Nat.le_of_ble_eq_true rfl) (Nat.le_of_ble_eq_true rfl)
  · skip
    refine lv_aload_n hx hb dX5_isValid_6 rfl (lv_at hl 0 rfl) ?_
    refine va_get (D := D) (ci := 5) (v := .ref s0) (C := RX5) (T := TX5) (N := 6) hx hb hts hi5 hown hK hP 0 rfl rfl 0 (by decide) (hts (.fieldLink RX5 10 "Bootstay" "store" "LBootstay$Store;") (by decide +kernel)) (fun _ h9 => h9) rfl dX5_isValid_7 ?_
    refine lv_iload_n hx hb dX5_isValid_10 rfl (lv_at hl 1 rfl) ?_
    refine bx_ri (va_runV (As := [.int p0]) (rest := []) ⟨hx, hb, hml, hown, hts⟩ (c_X3_isRecordValid l D cA s0 f w σ p0) (cwV 1 hts gX5_isValid_X3_isRecordValid rfl rfl rfl (by decide +kernel) ⟨Nat.le_of_ble_eq_true rfl, Nat.le_of_ble_eq_true rfl⟩) (bx_pvr (ci := 3) (q0 := 0) hK hG (hP.sub (ws' := [(s0, .inr (3, [.ref f])), (f, .inr (2, [.ref w, .int σ.2.1, .int σ.2.2])), (w, .inl (cA, 66, .inl σ.1))]) [1, 2, 3] rfl) rfl rfl) rfl rfl hl.1 rfl (lv_room (Nat.le_of_ble_eq_true rfl)) dX5_isValid_11 ⟨Nat.zero_le _, Nat.zero_le _⟩) (fun r_3 h_4 => ?_)
    obtain ⟨h_4, b_5⟩ := h_4
    have h_4 := h_4.symm
    subst h_4
    refine vx_ret ?_
    refine W.widen (k := 1) (n := 6) (Nat.zero_le _) (Nat.zero_le _) ?_
    exact W.zret (v := (F_X3_isRecordValid σ p0)) hx hb hr (bx_nb b_5) (fun t ht hW => ⟨(F_X3_isRecordValid σ p0), rfl, ⟨(by simp only [F_X5_isValid, if_pos e_1]), b_5⟩, ht⟩) (fun _ h => nomatch h) dX5_isValid_14
def F_X5_confirmed (σ : FS) : Int32 := (F_X3_confirmedSlot σ)
set_option maxHeartbeats 4000000 in
set_option maxRecDepth 100000 in
theorem c_X5_confirmed (l : Launch) (D : va_G) (cA : ClassId) (b s0 f w s2 f2 w2 t0 d db e0 : Nat) (σ : FS) (ρ : FS) (τ : TS) (δ : DS) (run : Int32) : Met l yX5_confirmed wsX5_confirmed ({ frames := 5, cells := 0, slots := 0, locals := 104 }) (va_Pc [.ref b] (bx_ro D [(cA, .int)] (wBo cA b s0 f w s2 f2 w2 t0 d db e0 σ ρ τ δ run))) (vp_Si (fun r => r = F_X5_confirmed σ)) 0 0 (fun _ => False) := by
  refine Met.ofW (cc := cX5_confirmed) (maxL := 1) (ret := (some .int)) (by decide) rfl ?_
  intro p e s m args below meth c s₁ B hml hv
  obtain ⟨rfl, hP, hK, hG⟩ := hv
  have hx := B.exec
  have hb := B.bytes
  have hr := B.returns
  have hts := atoms_spec (ws := wsX5_confirmed) B.pre
  have hown : s.vm.findClass RX5 = some m.cls := findClass_of_methodNamed B.named
  have hlocks := B.notSynchronized
  have hP : va_P D vwCl [(b, .inr (5, [.ref s0, .ref s2, .ref t0, .ref d, .ref e0, .int run])), (s0, .inr (3, [.ref f])), (f, .inr (2, [.ref w, .int σ.2.1, .int σ.2.2])), (w, .inl (cA, 66, .inl σ.1)), (s2, .inr (3, [.ref f2])), (f2, .inr (2, [.ref w2, .int ρ.2.1, .int ρ.2.2])), (w2, .inl (cA, 66, .inl ρ.1)), (t0, .inr (4, [.int τ.1, .int τ.2.1, .int τ.2.2.1, .int τ.2.2.2.1, .int τ.2.2.2.2.1, .int τ.2.2.2.2.2])), (d, .inr (1, [.int δ.1, .ref db])), (db, .inl (cA, 24, .inl δ.2)), (e0, .inr (0, [.ref d, .ref s0]))] s.heap := hP
  have hl := lv_entry ([.ref b]) (n := 1) (Nat.le_of_ble_eq_true rfl)
  rw [lg_entry_eq]
  generalize (lg_sl ([.ref b]) ++ List.replicate (1 - (lg_sl ([.ref b])).length) Slot.unset).toArray = ls at hl ⊢
  have hl : lv_has ls 1 [(0, .ref b)] := hl
  have hi5 : ∀ w ∈ u_ws RX5 TX5 6, w ∈ wsX5_confirmed := by decide +kernel
  refine lv_aload_n hx hb dX5_confirmed_0 rfl (lv_at hl 0 rfl) ?_
  refine va_get (D := D) (ci := 5) (v := .ref s0) (C := RX5) (T := TX5) (N := 6) hx hb hts hi5 hown hK hP 0 rfl rfl 0 (by decide) (hts (.fieldLink RX5 10 "Bootstay" "store" "LBootstay$Store;") (by decide +kernel)) (fun _ h9 => h9) rfl dX5_confirmed_1 ?_
  refine bx_ri (va_runV (As := []) (rest := []) ⟨hx, hb, hml, hown, hts⟩ (c_X3_confirmedSlot l D cA s0 f w σ) (cwV 0 hts gX5_confirmed_X3_confirmedSlot rfl rfl rfl (by decide +kernel) ⟨Nat.le_of_ble_eq_true rfl, Nat.le_of_ble_eq_true rfl⟩) (bx_pvr (ci := 3) (q0 := 0) hK hG (hP.sub (ws' := [(s0, .inr (3, [.ref f])), (f, .inr (2, [.ref w, .int σ.2.1, .int σ.2.2])), (w, .inl (cA, 66, .inl σ.1))]) [1, 2, 3] rfl) rfl rfl) rfl rfl hl.1 rfl (lv_room (Nat.le_of_ble_eq_true rfl)) dX5_confirmed_4 ⟨Nat.zero_le _, Nat.zero_le _⟩) (fun r_1 h_2 => ?_)
  have h_2 := h_2.symm
  subst h_2
  exact W.iret (v := (F_X3_confirmedSlot σ)) hx hb hr (fun t ht hW => ⟨(F_X3_confirmedSlot σ), rfl, rfl, ht⟩) (fun _ h => nomatch h) dX5_confirmed_7
def F_X5_tries (σ : FS) : Int32 := (F_X3_triesLeft σ)
set_option maxHeartbeats 4000000 in
set_option maxRecDepth 100000 in
theorem c_X5_tries (l : Launch) (D : va_G) (cA : ClassId) (b s0 f w s2 f2 w2 t0 d db e0 : Nat) (σ : FS) (ρ : FS) (τ : TS) (δ : DS) (run : Int32) : Met l yX5_tries wsX5_tries ({ frames := 5, cells := 0, slots := 0, locals := 104 }) (va_Pc [.ref b] (bx_ro D [(cA, .int)] (wBo cA b s0 f w s2 f2 w2 t0 d db e0 σ ρ τ δ run))) (vp_Si (fun r => r = F_X5_tries σ)) 0 0 (fun _ => False) := by
  refine Met.ofW (cc := cX5_tries) (maxL := 1) (ret := (some .int)) (by decide) rfl ?_
  intro p e s m args below meth c s₁ B hml hv
  obtain ⟨rfl, hP, hK, hG⟩ := hv
  have hx := B.exec
  have hb := B.bytes
  have hr := B.returns
  have hts := atoms_spec (ws := wsX5_tries) B.pre
  have hown : s.vm.findClass RX5 = some m.cls := findClass_of_methodNamed B.named
  have hlocks := B.notSynchronized
  have hP : va_P D vwCl [(b, .inr (5, [.ref s0, .ref s2, .ref t0, .ref d, .ref e0, .int run])), (s0, .inr (3, [.ref f])), (f, .inr (2, [.ref w, .int σ.2.1, .int σ.2.2])), (w, .inl (cA, 66, .inl σ.1)), (s2, .inr (3, [.ref f2])), (f2, .inr (2, [.ref w2, .int ρ.2.1, .int ρ.2.2])), (w2, .inl (cA, 66, .inl ρ.1)), (t0, .inr (4, [.int τ.1, .int τ.2.1, .int τ.2.2.1, .int τ.2.2.2.1, .int τ.2.2.2.2.1, .int τ.2.2.2.2.2])), (d, .inr (1, [.int δ.1, .ref db])), (db, .inl (cA, 24, .inl δ.2)), (e0, .inr (0, [.ref d, .ref s0]))] s.heap := hP
  have hl := lv_entry ([.ref b]) (n := 1) (Nat.le_of_ble_eq_true rfl)
  rw [lg_entry_eq]
  generalize (lg_sl ([.ref b]) ++ List.replicate (1 - (lg_sl ([.ref b])).length) Slot.unset).toArray = ls at hl ⊢
  have hl : lv_has ls 1 [(0, .ref b)] := hl
  have hi5 : ∀ w ∈ u_ws RX5 TX5 6, w ∈ wsX5_tries := by decide +kernel
  refine lv_aload_n hx hb dX5_tries_0 rfl (lv_at hl 0 rfl) ?_
  refine va_get (D := D) (ci := 5) (v := .ref s0) (C := RX5) (T := TX5) (N := 6) hx hb hts hi5 hown hK hP 0 rfl rfl 0 (by decide) (hts (.fieldLink RX5 10 "Bootstay" "store" "LBootstay$Store;") (by decide +kernel)) (fun _ h9 => h9) rfl dX5_tries_1 ?_
  refine bx_ri (va_runV (As := []) (rest := []) ⟨hx, hb, hml, hown, hts⟩ (c_X3_triesLeft l D cA s0 f w σ) (cwV 0 hts gX5_tries_X3_triesLeft rfl rfl rfl (by decide +kernel) ⟨Nat.le_of_ble_eq_true rfl, Nat.le_of_ble_eq_true rfl⟩) (bx_pvr (ci := 3) (q0 := 0) hK hG (hP.sub (ws' := [(s0, .inr (3, [.ref f])), (f, .inr (2, [.ref w, .int σ.2.1, .int σ.2.2])), (w, .inl (cA, 66, .inl σ.1))]) [1, 2, 3] rfl) rfl rfl) rfl rfl hl.1 rfl (lv_room (Nat.le_of_ble_eq_true rfl)) dX5_tries_4 ⟨Nat.zero_le _, Nat.zero_le _⟩) (fun r_1 h_2 => ?_)
  have h_2 := h_2.symm
  subst h_2
  exact W.iret (v := (F_X3_triesLeft σ)) hx hb hr (fun t ht hW => ⟨(F_X3_triesLeft σ), rfl, rfl, ht⟩) (fun _ h => nomatch h) dX5_tries_7
def F_X5_counter (σ : FS) : Int32 := (F_X3_recordCounter σ)
set_option maxHeartbeats 4000000 in
set_option maxRecDepth 100000 in
theorem c_X5_counter (l : Launch) (D : va_G) (cA : ClassId) (b s0 f w s2 f2 w2 t0 d db e0 : Nat) (σ : FS) (ρ : FS) (τ : TS) (δ : DS) (run : Int32) : Met l yX5_counter wsX5_counter ({ frames := 5, cells := 0, slots := 0, locals := 104 }) (va_Pc [.ref b] (bx_ro D [(cA, .int)] (wBo cA b s0 f w s2 f2 w2 t0 d db e0 σ ρ τ δ run))) (vp_Si (fun r => r = F_X5_counter σ)) 0 0 (fun _ => False) := by
  refine Met.ofW (cc := cX5_counter) (maxL := 1) (ret := (some .int)) (by decide) rfl ?_
  intro p e s m args below meth c s₁ B hml hv
  obtain ⟨rfl, hP, hK, hG⟩ := hv
  have hx := B.exec
  have hb := B.bytes
  have hr := B.returns
  have hts := atoms_spec (ws := wsX5_counter) B.pre
  have hown : s.vm.findClass RX5 = some m.cls := findClass_of_methodNamed B.named
  have hlocks := B.notSynchronized
  have hP : va_P D vwCl [(b, .inr (5, [.ref s0, .ref s2, .ref t0, .ref d, .ref e0, .int run])), (s0, .inr (3, [.ref f])), (f, .inr (2, [.ref w, .int σ.2.1, .int σ.2.2])), (w, .inl (cA, 66, .inl σ.1)), (s2, .inr (3, [.ref f2])), (f2, .inr (2, [.ref w2, .int ρ.2.1, .int ρ.2.2])), (w2, .inl (cA, 66, .inl ρ.1)), (t0, .inr (4, [.int τ.1, .int τ.2.1, .int τ.2.2.1, .int τ.2.2.2.1, .int τ.2.2.2.2.1, .int τ.2.2.2.2.2])), (d, .inr (1, [.int δ.1, .ref db])), (db, .inl (cA, 24, .inl δ.2)), (e0, .inr (0, [.ref d, .ref s0]))] s.heap := hP
  have hl := lv_entry ([.ref b]) (n := 1) (Nat.le_of_ble_eq_true rfl)
  rw [lg_entry_eq]
  generalize (lg_sl ([.ref b]) ++ List.replicate (1 - (lg_sl ([.ref b])).length) Slot.unset).toArray = ls at hl ⊢
  have hl : lv_has ls 1 [(0, .ref b)] := hl
  have hi5 : ∀ w ∈ u_ws RX5 TX5 6, w ∈ wsX5_counter := by decide +kernel
  refine lv_aload_n hx hb dX5_counter_0 rfl (lv_at hl 0 rfl) ?_
  refine va_get (D := D) (ci := 5) (v := .ref s0) (C := RX5) (T := TX5) (N := 6) hx hb hts hi5 hown hK hP 0 rfl rfl 0 (by decide) (hts (.fieldLink RX5 10 "Bootstay" "store" "LBootstay$Store;") (by decide +kernel)) (fun _ h9 => h9) rfl dX5_counter_1 ?_
  refine bx_ri (va_runV (As := []) (rest := []) ⟨hx, hb, hml, hown, hts⟩ (c_X3_recordCounter l D cA s0 f w σ) (cwV 0 hts gX5_counter_X3_recordCounter rfl rfl rfl (by decide +kernel) ⟨Nat.le_of_ble_eq_true rfl, Nat.le_of_ble_eq_true rfl⟩) (bx_pvr (ci := 3) (q0 := 0) hK hG (hP.sub (ws' := [(s0, .inr (3, [.ref f])), (f, .inr (2, [.ref w, .int σ.2.1, .int σ.2.2])), (w, .inl (cA, 66, .inl σ.1))]) [1, 2, 3] rfl) rfl rfl) rfl rfl hl.1 rfl (lv_room (Nat.le_of_ble_eq_true rfl)) dX5_counter_4 ⟨Nat.zero_le _, Nat.zero_le _⟩) (fun r_1 h_2 => ?_)
  have h_2 := h_2.symm
  subst h_2
  exact W.iret (v := (F_X3_recordCounter σ)) hx hb hr (fun t ht hW => ⟨(F_X3_recordCounter σ), rfl, rfl, ht⟩) (fun _ h => nomatch h) dX5_counter_7
def F_X5_wouldStart (σ : FS) : Int32 := (F_X3_slotToStart σ)
set_option maxHeartbeats 4000000 in
set_option maxRecDepth 100000 in
theorem c_X5_wouldStart (l : Launch) (D : va_G) (cA : ClassId) (b s0 f w s2 f2 w2 t0 d db e0 : Nat) (σ : FS) (ρ : FS) (τ : TS) (δ : DS) (run : Int32) : Met l yX5_wouldStart wsX5_wouldStart ({ frames := 5, cells := 0, slots := 0, locals := 114 }) (va_Pc [.ref b] (bx_ro D [(cA, .int)] (wBo cA b s0 f w s2 f2 w2 t0 d db e0 σ ρ τ δ run))) (vp_Si (fun r => r = F_X5_wouldStart σ)) 0 0 (fun _ => False) := by
  refine Met.ofW (cc := cX5_wouldStart) (maxL := 1) (ret := (some .int)) (by decide) rfl ?_
  intro p e s m args below meth c s₁ B hml hv
  obtain ⟨rfl, hP, hK, hG⟩ := hv
  have hx := B.exec
  have hb := B.bytes
  have hr := B.returns
  have hts := atoms_spec (ws := wsX5_wouldStart) B.pre
  have hown : s.vm.findClass RX5 = some m.cls := findClass_of_methodNamed B.named
  have hlocks := B.notSynchronized
  have hP : va_P D vwCl [(b, .inr (5, [.ref s0, .ref s2, .ref t0, .ref d, .ref e0, .int run])), (s0, .inr (3, [.ref f])), (f, .inr (2, [.ref w, .int σ.2.1, .int σ.2.2])), (w, .inl (cA, 66, .inl σ.1)), (s2, .inr (3, [.ref f2])), (f2, .inr (2, [.ref w2, .int ρ.2.1, .int ρ.2.2])), (w2, .inl (cA, 66, .inl ρ.1)), (t0, .inr (4, [.int τ.1, .int τ.2.1, .int τ.2.2.1, .int τ.2.2.2.1, .int τ.2.2.2.2.1, .int τ.2.2.2.2.2])), (d, .inr (1, [.int δ.1, .ref db])), (db, .inl (cA, 24, .inl δ.2)), (e0, .inr (0, [.ref d, .ref s0]))] s.heap := hP
  have hl := lv_entry ([.ref b]) (n := 1) (Nat.le_of_ble_eq_true rfl)
  rw [lg_entry_eq]
  generalize (lg_sl ([.ref b]) ++ List.replicate (1 - (lg_sl ([.ref b])).length) Slot.unset).toArray = ls at hl ⊢
  have hl : lv_has ls 1 [(0, .ref b)] := hl
  have hi5 : ∀ w ∈ u_ws RX5 TX5 6, w ∈ wsX5_wouldStart := by decide +kernel
  refine lv_aload_n hx hb dX5_wouldStart_0 rfl (lv_at hl 0 rfl) ?_
  refine va_get (D := D) (ci := 5) (v := .ref s0) (C := RX5) (T := TX5) (N := 6) hx hb hts hi5 hown hK hP 0 rfl rfl 0 (by decide) (hts (.fieldLink RX5 10 "Bootstay" "store" "LBootstay$Store;") (by decide +kernel)) (fun _ h9 => h9) rfl dX5_wouldStart_1 ?_
  refine bx_ri (va_runV (As := []) (rest := []) ⟨hx, hb, hml, hown, hts⟩ (c_X3_slotToStart l D cA s0 f w σ) (cwV 0 hts gX5_wouldStart_X3_slotToStart rfl rfl rfl (by decide +kernel) ⟨Nat.le_of_ble_eq_true rfl, Nat.le_of_ble_eq_true rfl⟩) (bx_pvr (ci := 3) (q0 := 0) hK hG (hP.sub (ws' := [(s0, .inr (3, [.ref f])), (f, .inr (2, [.ref w, .int σ.2.1, .int σ.2.2])), (w, .inl (cA, 66, .inl σ.1))]) [1, 2, 3] rfl) rfl rfl) rfl rfl hl.1 rfl (lv_room (Nat.le_of_ble_eq_true rfl)) dX5_wouldStart_4 ⟨Nat.zero_le _, Nat.zero_le _⟩) (fun r_1 h_2 => ?_)
  have h_2 := h_2.symm
  subst h_2
  exact W.iret (v := (F_X3_slotToStart σ)) hx hb hr (fun t ht hW => ⟨(F_X3_slotToStart σ), rfl, rfl, ht⟩) (fun _ h => nomatch h) dX5_wouldStart_7
