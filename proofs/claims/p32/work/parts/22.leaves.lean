def F_X5_hashWith (p0 : Int32) (p1 : Int32) : Int32 := ((((p0 * 31) + p1) + 1) - (((p0 * 31) + p1) + 1) / 65521 * 65521)
set_option maxHeartbeats 4000000 in
set_option maxRecDepth 100000 in
theorem c_X5_hashWith (l : Launch) (D : va_G) (p0 : Int32) (p1 : Int32) : Met l yX5_hashWith wsX5_hashWith ({ frames := 0, cells := 0, slots := 0, locals := 0 }) (va_Pc [.int p0, .int p1] (bx_ro D [] (wNil))) (vp_Si (fun r => r = F_X5_hashWith p0 p1)) 0 0 (fun _ => False) := by
  refine Met.ofW (cc := cX5_hashWith) (maxL := 2) (ret := (some .int)) (by decide) rfl ?_
  intro p e s m args below meth c s₁ B hml hv
  obtain ⟨rfl, hP, hK, hG⟩ := hv
  have hx := B.exec
  have hb := B.bytes
  have hr := B.returns
  have hts := atoms_spec (ws := wsX5_hashWith) B.pre
  have hown : s.vm.findClass RX5 = some m.cls := findClass_of_methodNamed B.named
  have hlocks := B.notSynchronized
  have hP : va_P D vwCl [] s.heap := hP
  have hl := lv_entry ([.int p0, .int p1]) (n := 2) (Nat.le_of_ble_eq_true rfl)
  rw [lg_entry_eq]
  generalize (lg_sl ([.int p0, .int p1]) ++ List.replicate (2 - (lg_sl ([.int p0, .int p1])).length) Slot.unset).toArray = ls at hl ⊢
  have hl : lv_has ls 2 [(0, .int p0), (1, .int p1)] := hl
  refine lv_iload_n hx hb dX5_hashWith_0 rfl (lv_at hl 0 rfl) ?_
  refine lv_bipush (v := 31) hx hb dX5_hashWith_1 (by decide) ?_
  refine lv_imul hx hb dX5_hashWith_3 ?_
  refine lv_iload_n hx hb dX5_hashWith_4 rfl (lv_at hl 1 rfl) ?_
  refine lv_iadd hx hb dX5_hashWith_5 ?_
  refine lv_iconst (v := 1) hx hb dX5_hashWith_6 (by decide) ?_
  refine lv_iadd hx hb dX5_hashWith_7 ?_
  refine lv_ldc (v := 65521) hx hb hown (hts (.constant RX5 246 (65521)) (by decide +kernel)) dX5_hashWith_8 ?_
  refine lv_irem hx hb dX5_hashWith_10 (by decide) ?_
  exact W.iret (v := ((((p0 * 31) + p1) + 1) - (((p0 * 31) + p1) + 1) / 65521 * 65521)) hx hb hr (fun t ht hW => ⟨((((p0 * 31) + p1) + 1) - (((p0 * 31) + p1) + 1) / 65521 * 65521), rfl, rfl, ht⟩) (fun _ h => nomatch h) dX5_hashWith_11
def F_X4_begin (p0 : Int32) (p1 : Int32) (p2 : Int32) (p3 : Int32) : (TS) := (p0, p1, p2, p3, 0, 1)
set_option maxHeartbeats 4000000 in
set_option maxRecDepth 100000 in
theorem c_X4_begin (l : Launch) (D : va_G) (t0 : Nat) (sz : Nat) (τ : TS) (p0 : Int32) (p1 : Int32) (p2 : Int32) (p3 : Int32) : Met l yX4_begin wsX4_begin ({ frames := 0, cells := 0, slots := 0, locals := 0 }) (va_Pc [.ref t0, .int p0, .int p1, .int p2, .int p3] (bx_pre D [] (wTr t0 τ) sz)) (va_Qv (fun u => u = F_X4_begin p0 p1 p2 p3) (fun u t => bx_at D (wTr t0 u) (va_A (wTr t0 τ) sz) t) (va_A (wTr t0 τ) sz)) 0 0 (va_A (wTr t0 τ) sz) := by
  refine Met.ofW (cc := cX4_begin) (maxL := 5) (ret := none) (by decide) rfl ?_
  intro p e s m args below meth c s₁ B hml hv
  obtain ⟨rfl, hsz, hP, hK, hD0, hG⟩ := hv
  have hx := B.exec
  have hb := B.bytes
  have hr := B.returns
  have hts := atoms_spec (ws := wsX4_begin) B.pre
  have hown : s.vm.findClass RX4 = some m.cls := findClass_of_methodNamed B.named
  have hlocks := B.notSynchronized
  subst hsz
  have hD := hD0.self (sz := s.heap.size)
  generalize hAe : va_A (wTr t0 τ) s.heap.size = A at hD ⊢
  have hA : ∀ q : Nat, s.heap.size ≤ q → A q := fun q h => by rw [← hAe]; exact Or.inr h
  have hS : va_S A s.heap s.heap [] := va_S.rf
  have hD : va_D A [(t0, .inr (4, [.int τ.1, .int τ.2.1, .int τ.2.2.1, .int τ.2.2.2.1, .int τ.2.2.2.2.1, .int τ.2.2.2.2.2]))] := hD
  have hP : va_P D vwCl [(t0, .inr (4, [.int τ.1, .int τ.2.1, .int τ.2.2.1, .int τ.2.2.2.1, .int τ.2.2.2.2.1, .int τ.2.2.2.2.2]))] s.heap := hP
  have hl := lv_entry ([.ref t0, .int p0, .int p1, .int p2, .int p3]) (n := 5) (Nat.le_of_ble_eq_true rfl)
  rw [lg_entry_eq]
  generalize (lg_sl ([.ref t0, .int p0, .int p1, .int p2, .int p3]) ++ List.replicate (5 - (lg_sl ([.ref t0, .int p0, .int p1, .int p2, .int p3])).length) Slot.unset).toArray = ls at hl ⊢
  have hl : lv_has ls 5 [(0, .ref t0), (1, .int p0), (2, .int p1), (3, .int p2), (4, .int p3)] := hl
  have hi4 : ∀ w ∈ u_ws RX4 TX4 6, w ∈ wsX4_begin := by decide +kernel
  refine lv_aload_n hx hb dX4_begin_0 rfl (lv_at hl 0 rfl) ?_
  refine lv_iload_n hx hb dX4_begin_1 rfl (lv_at hl 1 rfl) ?_
  refine va_put (D := D) (ci := 4) (v := .int p0) (ty := .int) (C := RX4) (T := TX4) (N := 6) hx hb hts hi4 tyX4 tyX4_ok nmX4 hown hK hP hD hS 0 rfl rfl 0 (by decide) (hts (.fieldLink RX4 9 "Bootstay$Transfer" "version" "I") (by decide +kernel)) (fun _ h9 => h9) rfl (by decide +kernel) rfl rfl (Nat.le_of_ble_eq_true rfl) dX4_begin_2 (fun H locs hP hD hS => ?_)
  have hP : va_P D vwCl [(t0, .inr (4, [.int p0, .int τ.2.1, .int τ.2.2.1, .int τ.2.2.2.1, .int τ.2.2.2.2.1, .int τ.2.2.2.2.2]))] H := hP
  have hD : va_D A [(t0, .inr (4, [.int p0, .int τ.2.1, .int τ.2.2.1, .int τ.2.2.2.1, .int τ.2.2.2.2.1, .int τ.2.2.2.2.2]))] := hD
  refine lv_aload_n hx hb dX4_begin_5 rfl (lv_at hl 0 rfl) ?_
  refine lv_iload_n hx hb dX4_begin_6 rfl (lv_at hl 2 rfl) ?_
  refine va_put (D := D) (ci := 4) (v := .int p1) (ty := .int) (C := RX4) (T := TX4) (N := 6) hx hb hts hi4 tyX4 tyX4_ok nmX4 hown hK hP hD hS 0 rfl rfl 1 (by decide) (hts (.fieldLink RX4 15 "Bootstay$Transfer" "length" "I") (by decide +kernel)) (fun _ h9 => h9) rfl (by decide +kernel) rfl rfl (Nat.le_of_ble_eq_true rfl) dX4_begin_7 (fun H locs hP hD hS => ?_)
  have hP : va_P D vwCl [(t0, .inr (4, [.int p0, .int p1, .int τ.2.2.1, .int τ.2.2.2.1, .int τ.2.2.2.2.1, .int τ.2.2.2.2.2]))] H := hP
  have hD : va_D A [(t0, .inr (4, [.int p0, .int p1, .int τ.2.2.1, .int τ.2.2.2.1, .int τ.2.2.2.2.1, .int τ.2.2.2.2.2]))] := hD
  refine lv_aload_n hx hb dX4_begin_10 rfl (lv_at hl 0 rfl) ?_
  refine lv_iload_n hx hb dX4_begin_11 rfl (lv_at hl 3 rfl) ?_
  refine va_put (D := D) (ci := 4) (v := .int p2) (ty := .int) (C := RX4) (T := TX4) (N := 6) hx hb hts hi4 tyX4 tyX4_ok nmX4 hown hK hP hD hS 0 rfl rfl 2 (by decide) (hts (.fieldLink RX4 18 "Bootstay$Transfer" "hash" "I") (by decide +kernel)) (fun _ h9 => h9) rfl (by decide +kernel) rfl rfl (Nat.le_of_ble_eq_true rfl) dX4_begin_12 (fun H locs hP hD hS => ?_)
  have hP : va_P D vwCl [(t0, .inr (4, [.int p0, .int p1, .int p2, .int τ.2.2.2.1, .int τ.2.2.2.2.1, .int τ.2.2.2.2.2]))] H := hP
  have hD : va_D A [(t0, .inr (4, [.int p0, .int p1, .int p2, .int τ.2.2.2.1, .int τ.2.2.2.2.1, .int τ.2.2.2.2.2]))] := hD
  refine lv_aload_n hx hb dX4_begin_15 rfl (lv_at hl 0 rfl) ?_
  refine lv_iload hx hb dX4_begin_16 (lv_at hl 4 rfl) ?_
  refine va_put (D := D) (ci := 4) (v := .int p3) (ty := .int) (C := RX4) (T := TX4) (N := 6) hx hb hts hi4 tyX4 tyX4_ok nmX4 hown hK hP hD hS 0 rfl rfl 3 (by decide) (hts (.fieldLink RX4 21 "Bootstay$Transfer" "counter" "I") (by decide +kernel)) (fun _ h9 => h9) rfl (by decide +kernel) rfl rfl (Nat.le_of_ble_eq_true rfl) dX4_begin_18 (fun H locs hP hD hS => ?_)
  have hP : va_P D vwCl [(t0, .inr (4, [.int p0, .int p1, .int p2, .int p3, .int τ.2.2.2.2.1, .int τ.2.2.2.2.2]))] H := hP
  have hD : va_D A [(t0, .inr (4, [.int p0, .int p1, .int p2, .int p3, .int τ.2.2.2.2.1, .int τ.2.2.2.2.2]))] := hD
  refine lv_aload_n hx hb dX4_begin_21 rfl (lv_at hl 0 rfl) ?_
  refine lv_iconst (v := 0) hx hb dX4_begin_22 (by decide) ?_
  refine va_put (D := D) (ci := 4) (v := .int 0) (ty := .int) (C := RX4) (T := TX4) (N := 6) hx hb hts hi4 tyX4 tyX4_ok nmX4 hown hK hP hD hS 0 rfl rfl 4 (by decide) (hts (.fieldLink RX4 24 "Bootstay$Transfer" "come" "I") (by decide +kernel)) (fun _ h9 => h9) rfl (by decide +kernel) rfl rfl (Nat.le_of_ble_eq_true rfl) dX4_begin_23 (fun H locs hP hD hS => ?_)
  have hP : va_P D vwCl [(t0, .inr (4, [.int p0, .int p1, .int p2, .int p3, .int 0, .int τ.2.2.2.2.2]))] H := hP
  have hD : va_D A [(t0, .inr (4, [.int p0, .int p1, .int p2, .int p3, .int 0, .int τ.2.2.2.2.2]))] := hD
  refine lv_aload_n hx hb dX4_begin_26 rfl (lv_at hl 0 rfl) ?_
  refine lv_iconst (v := 1) hx hb dX4_begin_27 (by decide) ?_
  refine va_put (D := D) (ci := 4) (v := .int 1) (ty := .boolean) (C := RX4) (T := TX4) (N := 6) hx hb hts hi4 tyX4 tyX4_ok nmX4 hown hK hP hD hS 0 rfl rfl 5 (by decide) (hts (.fieldLink RX4 27 "Bootstay$Transfer" "isGoingOn" "Z") (by decide +kernel)) (fun _ h9 => h9) rfl (by decide +kernel) rfl rfl (Nat.le_of_ble_eq_true rfl) dX4_begin_28 (fun H locs hP hD hS => ?_)
  have hP : va_P D vwCl [(t0, .inr (4, [.int p0, .int p1, .int p2, .int p3, .int 0, .int 1]))] H := hP
  have hD : va_D A [(t0, .inr (4, [.int p0, .int p1, .int p2, .int p3, .int 0, .int 1]))] := hD
  exact W.vret hx hb hr (fun t ht hW => ⟨⟨(p0, p1, p2, p3, 0, 1), rfl, rfl, ⟨by rw [ht]; exact hP, hD⟩⟩, hS.F ht⟩) hS.2.2 dX4_begin_31
def F_X4_end (τ : TS) : (TS) := (τ.1, τ.2.1, τ.2.2.1, τ.2.2.2.1, τ.2.2.2.2.1, 0)
set_option maxHeartbeats 4000000 in
set_option maxRecDepth 100000 in
theorem c_X4_end (l : Launch) (D : va_G) (t0 : Nat) (sz : Nat) (τ : TS) : Met l yX4_end wsX4_end ({ frames := 0, cells := 0, slots := 0, locals := 0 }) (va_Pc [.ref t0] (bx_pre D [] (wTr t0 τ) sz)) (va_Qv (fun u => u = F_X4_end τ) (fun u t => bx_at D (wTr t0 u) (va_A (wTr t0 τ) sz) t) (va_A (wTr t0 τ) sz)) 0 0 (va_A (wTr t0 τ) sz) := by
  refine Met.ofW (cc := cX4_end) (maxL := 1) (ret := none) (by decide) rfl ?_
  intro p e s m args below meth c s₁ B hml hv
  obtain ⟨rfl, hsz, hP, hK, hD0, hG⟩ := hv
  have hx := B.exec
  have hb := B.bytes
  have hr := B.returns
  have hts := atoms_spec (ws := wsX4_end) B.pre
  have hown : s.vm.findClass RX4 = some m.cls := findClass_of_methodNamed B.named
  have hlocks := B.notSynchronized
  subst hsz
  have hD := hD0.self (sz := s.heap.size)
  generalize hAe : va_A (wTr t0 τ) s.heap.size = A at hD ⊢
  have hA : ∀ q : Nat, s.heap.size ≤ q → A q := fun q h => by rw [← hAe]; exact Or.inr h
  have hS : va_S A s.heap s.heap [] := va_S.rf
  have hD : va_D A [(t0, .inr (4, [.int τ.1, .int τ.2.1, .int τ.2.2.1, .int τ.2.2.2.1, .int τ.2.2.2.2.1, .int τ.2.2.2.2.2]))] := hD
  have hP : va_P D vwCl [(t0, .inr (4, [.int τ.1, .int τ.2.1, .int τ.2.2.1, .int τ.2.2.2.1, .int τ.2.2.2.2.1, .int τ.2.2.2.2.2]))] s.heap := hP
  have hl := lv_entry ([.ref t0]) (n := 1) (Nat.le_of_ble_eq_true rfl)
  rw [lg_entry_eq]
  generalize (lg_sl ([.ref t0]) ++ List.replicate (1 - (lg_sl ([.ref t0])).length) Slot.unset).toArray = ls at hl ⊢
  have hl : lv_has ls 1 [(0, .ref t0)] := hl
  have hi4 : ∀ w ∈ u_ws RX4 TX4 6, w ∈ wsX4_end := by decide +kernel
  refine lv_aload_n hx hb dX4_end_0 rfl (lv_at hl 0 rfl) ?_
  refine lv_iconst (v := 0) hx hb dX4_end_1 (by decide) ?_
  refine va_put (D := D) (ci := 4) (v := .int 0) (ty := .boolean) (C := RX4) (T := TX4) (N := 6) hx hb hts hi4 tyX4 tyX4_ok nmX4 hown hK hP hD hS 0 rfl rfl 5 (by decide) (hts (.fieldLink RX4 27 "Bootstay$Transfer" "isGoingOn" "Z") (by decide +kernel)) (fun _ h9 => h9) rfl (by decide +kernel) rfl rfl (Nat.le_of_ble_eq_true rfl) dX4_end_2 (fun H locs hP hD hS => ?_)
  have hP : va_P D vwCl [(t0, .inr (4, [.int τ.1, .int τ.2.1, .int τ.2.2.1, .int τ.2.2.2.1, .int τ.2.2.2.2.1, .int 0]))] H := hP
  have hD : va_D A [(t0, .inr (4, [.int τ.1, .int τ.2.1, .int τ.2.2.1, .int τ.2.2.2.1, .int τ.2.2.2.2.1, .int 0]))] := hD
  exact W.vret hx hb hr (fun t ht hW => ⟨⟨(τ.1, τ.2.1, τ.2.2.1, τ.2.2.2.1, τ.2.2.2.2.1, 0), rfl, rfl, ⟨by rw [ht]; exact hP, hD⟩⟩, hS.F ht⟩) hS.2.2 dX4_end_5
def F_X4_bytesToCome (τ : TS) : Int32 := (if τ.2.2.2.2.2 = 0 then (-1) else (τ.2.1 - τ.2.2.2.2.1))
set_option maxHeartbeats 4000000 in
set_option maxRecDepth 100000 in
theorem c_X4_bytesToCome (l : Launch) (D : va_G) (t0 : Nat) (τ : TS) : Met l yX4_bytesToCome wsX4_bytesToCome ({ frames := 0, cells := 0, slots := 0, locals := 0 }) (va_Pc [.ref t0] (bx_ro D [] (wTr t0 τ))) (vp_Si (fun r => r = F_X4_bytesToCome τ)) 0 0 (fun _ => False) := by
  refine Met.ofW (cc := cX4_bytesToCome) (maxL := 1) (ret := (some .int)) (by decide) rfl ?_
  intro p e s m args below meth c s₁ B hml hv
  obtain ⟨rfl, hP, hK, hG⟩ := hv
  have hx := B.exec
  have hb := B.bytes
  have hr := B.returns
  have hts := atoms_spec (ws := wsX4_bytesToCome) B.pre
  have hown : s.vm.findClass RX4 = some m.cls := findClass_of_methodNamed B.named
  have hlocks := B.notSynchronized
  have hP : va_P D vwCl [(t0, .inr (4, [.int τ.1, .int τ.2.1, .int τ.2.2.1, .int τ.2.2.2.1, .int τ.2.2.2.2.1, .int τ.2.2.2.2.2]))] s.heap := hP
  have hl := lv_entry ([.ref t0]) (n := 1) (Nat.le_of_ble_eq_true rfl)
  rw [lg_entry_eq]
  generalize (lg_sl ([.ref t0]) ++ List.replicate (1 - (lg_sl ([.ref t0])).length) Slot.unset).toArray = ls at hl ⊢
  have hl : lv_has ls 1 [(0, .ref t0)] := hl
  have hi4 : ∀ w ∈ u_ws RX4 TX4 6, w ∈ wsX4_bytesToCome := by decide +kernel
  refine lv_aload_n hx hb dX4_bytesToCome_0 rfl (lv_at hl 0 rfl) ?_
  refine va_get (D := D) (ci := 4) (v := .int τ.2.2.2.2.2) (C := RX4) (T := TX4) (N := 6) hx hb hts hi4 hown hK hP 0 rfl rfl 5 (by decide) (hts (.fieldLink RX4 27 "Bootstay$Transfer" "isGoingOn" "Z") (by decide +kernel)) (fun _ h9 => h9) rfl dX4_bytesToCome_1 ?_
  refine lv_if_eq (tgt := 19) hx hb dX4_bytesToCome_4 (by decide) (fun c_1 => ?_) (fun c_1 => ?_)
  · skip
    refine lv_iconst (v := (-1)) hx hb dX4_bytesToCome_19 (by decide) ?_
    exact W.iret (v := (-1)) hx hb hr (fun t ht hW => ⟨(-1), rfl, (by simp only [F_X4_bytesToCome, if_pos c_1]), ht⟩) (fun _ h => nomatch h) dX4_bytesToCome_20
  · skip
    refine lv_aload_n hx hb dX4_bytesToCome_7 rfl (lv_at hl 0 rfl) ?_
    refine va_get (D := D) (ci := 4) (v := .int τ.2.1) (C := RX4) (T := TX4) (N := 6) hx hb hts hi4 hown hK hP 0 rfl rfl 1 (by decide) (hts (.fieldLink RX4 15 "Bootstay$Transfer" "length" "I") (by decide +kernel)) (fun _ h9 => h9) rfl dX4_bytesToCome_8 ?_
    refine lv_aload_n hx hb dX4_bytesToCome_11 rfl (lv_at hl 0 rfl) ?_
    refine va_get (D := D) (ci := 4) (v := .int τ.2.2.2.2.1) (C := RX4) (T := TX4) (N := 6) hx hb hts hi4 hown hK hP 0 rfl rfl 4 (by decide) (hts (.fieldLink RX4 24 "Bootstay$Transfer" "come" "I") (by decide +kernel)) (fun _ h9 => h9) rfl dX4_bytesToCome_12 ?_
    refine lv_isub hx hb dX4_bytesToCome_15 ?_
    refine lv_goto (tgt := 20) hx hb dX4_bytesToCome_16 (by decide) ?_
    exact W.iret (v := (τ.2.1 - τ.2.2.2.2.1)) hx hb hr (fun t ht hW => ⟨(τ.2.1 - τ.2.2.2.2.1), rfl, (by simp only [F_X4_bytesToCome, if_neg c_1]), ht⟩) (fun _ h => nomatch h) dX4_bytesToCome_20
def F_X4_nextPlace (τ : TS) : Int32 × (TS) := (τ.2.2.2.2.1, (τ.1, τ.2.1, τ.2.2.1, τ.2.2.2.1, (τ.2.2.2.2.1 + 1), τ.2.2.2.2.2))
set_option maxHeartbeats 4000000 in
set_option maxRecDepth 100000 in
theorem c_X4_nextPlace (l : Launch) (D : va_G) (t0 : Nat) (sz : Nat) (τ : TS) : Met l yX4_nextPlace wsX4_nextPlace ({ frames := 0, cells := 0, slots := 0, locals := 0 }) (va_Pc [.ref t0] (bx_pre D [] (wTr t0 τ) sz)) (va_Qi (fun r u => (r, u) = F_X4_nextPlace τ) (fun u t => bx_at D (wTr t0 u) (va_A (wTr t0 τ) sz) t) (va_A (wTr t0 τ) sz)) 0 0 (va_A (wTr t0 τ) sz) := by
  refine Met.ofW (cc := cX4_nextPlace) (maxL := 2) (ret := (some .int)) (by decide) rfl ?_
  intro p e s m args below meth c s₁ B hml hv
  obtain ⟨rfl, hsz, hP, hK, hD0, hG⟩ := hv
  have hx := B.exec
  have hb := B.bytes
  have hr := B.returns
  have hts := atoms_spec (ws := wsX4_nextPlace) B.pre
  have hown : s.vm.findClass RX4 = some m.cls := findClass_of_methodNamed B.named
  have hlocks := B.notSynchronized
  subst hsz
  have hD := hD0.self (sz := s.heap.size)
  generalize hAe : va_A (wTr t0 τ) s.heap.size = A at hD ⊢
  have hA : ∀ q : Nat, s.heap.size ≤ q → A q := fun q h => by rw [← hAe]; exact Or.inr h
  have hS : va_S A s.heap s.heap [] := va_S.rf
  have hD : va_D A [(t0, .inr (4, [.int τ.1, .int τ.2.1, .int τ.2.2.1, .int τ.2.2.2.1, .int τ.2.2.2.2.1, .int τ.2.2.2.2.2]))] := hD
  have hP : va_P D vwCl [(t0, .inr (4, [.int τ.1, .int τ.2.1, .int τ.2.2.1, .int τ.2.2.2.1, .int τ.2.2.2.2.1, .int τ.2.2.2.2.2]))] s.heap := hP
  have hl := lv_entry ([.ref t0]) (n := 2) (Nat.le_of_ble_eq_true rfl)
  rw [lg_entry_eq]
  generalize (lg_sl ([.ref t0]) ++ List.replicate (2 - (lg_sl ([.ref t0])).length) Slot.unset).toArray = ls at hl ⊢
  have hl : lv_has ls 2 [(0, .ref t0)] := hl
  have hi4 : ∀ w ∈ u_ws RX4 TX4 6, w ∈ wsX4_nextPlace := by decide +kernel
  refine lv_aload_n hx hb dX4_nextPlace_0 rfl (lv_at hl 0 rfl) ?_
  refine va_get (D := D) (ci := 4) (v := .int τ.2.2.2.2.1) (C := RX4) (T := TX4) (N := 6) hx hb hts hi4 hown hK hP 0 rfl rfl 4 (by decide) (hts (.fieldLink RX4 24 "Bootstay$Transfer" "come" "I") (by decide +kernel)) (fun _ h9 => h9) rfl dX4_nextPlace_1 ?_
  refine lv_istore_n (lv' := [(1, .int τ.2.2.2.2.1), (0, .ref t0)]) hx hb dX4_nextPlace_4 rfl hl (by decide) rfl (fun ls hl => ?_)
  refine lv_aload_n hx hb dX4_nextPlace_5 rfl (lv_at hl 1 rfl) ?_
  refine lv_dup hx hb dX4_nextPlace_6 rfl ?_
  refine va_get (D := D) (ci := 4) (v := .int τ.2.2.2.2.1) (C := RX4) (T := TX4) (N := 6) hx hb hts hi4 hown hK hP 0 rfl rfl 4 (by decide) (hts (.fieldLink RX4 24 "Bootstay$Transfer" "come" "I") (by decide +kernel)) (fun _ h9 => h9) rfl dX4_nextPlace_7 ?_
  refine lv_iconst (v := 1) hx hb dX4_nextPlace_10 (by decide) ?_
  refine lv_iadd hx hb dX4_nextPlace_11 ?_
  refine va_put (D := D) (ci := 4) (v := .int (τ.2.2.2.2.1 + 1)) (ty := .int) (C := RX4) (T := TX4) (N := 6) hx hb hts hi4 tyX4 tyX4_ok nmX4 hown hK hP hD hS 0 rfl rfl 4 (by decide) (hts (.fieldLink RX4 24 "Bootstay$Transfer" "come" "I") (by decide +kernel)) (fun _ h9 => h9) rfl (by decide +kernel) rfl rfl (Nat.le_of_ble_eq_true rfl) dX4_nextPlace_12 (fun H locs hP hD hS => ?_)
  have hP : va_P D vwCl [(t0, .inr (4, [.int τ.1, .int τ.2.1, .int τ.2.2.1, .int τ.2.2.2.1, .int (τ.2.2.2.2.1 + 1), .int τ.2.2.2.2.2]))] H := hP
  have hD : va_D A [(t0, .inr (4, [.int τ.1, .int τ.2.1, .int τ.2.2.1, .int τ.2.2.2.1, .int (τ.2.2.2.2.1 + 1), .int τ.2.2.2.2.2]))] := hD
  refine lv_iload_n hx hb dX4_nextPlace_15 rfl (lv_at hl 0 rfl) ?_
  exact W.iret (v := τ.2.2.2.2.1) hx hb hr (fun t ht hW => ⟨⟨τ.2.2.2.2.1, (τ.1, τ.2.1, τ.2.2.1, τ.2.2.2.1, (τ.2.2.2.2.1 + 1), τ.2.2.2.2.2), rfl, rfl, ⟨by rw [ht]; exact hP, hD⟩⟩, hS.F ht⟩) hS.2.2 dX4_nextPlace_16
def F_X1_isFull (δ : DS) : Int32 := (if δ.1 < 24 then 0 else 1)
set_option maxHeartbeats 4000000 in
set_option maxRecDepth 100000 in
theorem c_X1_isFull (l : Launch) (D : va_G) (cA : ClassId) (d db : Nat) (δ : DS) : Met l yX1_isFull wsX1_isFull ({ frames := 0, cells := 0, slots := 0, locals := 0 }) (va_Pc [.ref d] (bx_ro D [(cA, .int)] (wDr cA d db δ))) (vp_Si (fun r => r = F_X1_isFull δ ∧ (r = 0 ∨ r = 1))) 0 0 (fun _ => False) := by
  refine Met.ofW (cc := cX1_isFull) (maxL := 1) (ret := (some .boolean)) (by decide) rfl ?_
  intro p e s m args below meth c s₁ B hml hv
  obtain ⟨rfl, hP, hK, hG⟩ := hv
  have hx := B.exec
  have hb := B.bytes
  have hr := B.returns
  have hts := atoms_spec (ws := wsX1_isFull) B.pre
  have hown : s.vm.findClass RX1 = some m.cls := findClass_of_methodNamed B.named
  have hlocks := B.notSynchronized
  have hP : va_P D vwCl [(d, .inr (1, [.int δ.1, .ref db])), (db, .inl (cA, 24, .inl δ.2))] s.heap := hP
  have hl := lv_entry ([.ref d]) (n := 1) (Nat.le_of_ble_eq_true rfl)
  rw [lg_entry_eq]
  generalize (lg_sl ([.ref d]) ++ List.replicate (1 - (lg_sl ([.ref d])).length) Slot.unset).toArray = ls at hl ⊢
  have hl : lv_has ls 1 [(0, .ref d)] := hl
  have hi1 : ∀ w ∈ u_ws RX1 TX1 2, w ∈ wsX1_isFull := by decide +kernel
  refine lv_aload_n hx hb dX1_isFull_0 rfl (lv_at hl 0 rfl) ?_
  refine va_get (D := D) (ci := 1) (v := .int δ.1) (C := RX1) (T := TX1) (N := 2) hx hb hts hi1 hown hK hP 0 rfl rfl 0 (by decide) (hts (.fieldLink RX1 9 "Bootstay$Draft" "size" "I") (by decide +kernel)) (fun _ h9 => h9) rfl dX1_isFull_1 ?_
  refine lv_aload_n hx hb dX1_isFull_4 rfl (lv_at hl 0 rfl) ?_
  refine va_get (D := D) (ci := 1) (v := .ref db) (C := RX1) (T := TX1) (N := 2) hx hb hts hi1 hown hK hP 0 rfl rfl 1 (by decide) (hts (.fieldLink RX1 15 "Bootstay$Draft" "bytes" "[I") (by decide +kernel)) (fun _ h9 => h9) rfl dX1_isFull_5 ?_
  refine va_alen (D := D) (v := 24) hx hb hK hP 1 0 rfl rfl rfl dX1_isFull_8 ?_
  refine lv_icmp_lt (tgt := 16) hx hb dX1_isFull_9 (by decide) (fun c_1 => ?_) (fun c_1 => ?_)
  · skip
    refine lv_iconst (v := 0) hx hb dX1_isFull_16 (by decide) ?_
    exact W.zret (v := 0) hx hb hr rfl (fun t ht hW => ⟨0, rfl, ⟨(by simp only [F_X1_isFull, if_pos c_1]), (by decide)⟩, ht⟩) (fun _ h => nomatch h) dX1_isFull_17
  · skip
    refine lv_iconst (v := 1) hx hb dX1_isFull_12 (by decide) ?_
    refine lv_goto (tgt := 17) hx hb dX1_isFull_13 (by decide) ?_
    exact W.zret (v := 1) hx hb hr rfl (fun t ht hW => ⟨1, rfl, ⟨(by simp only [F_X1_isFull, if_neg c_1]), (by decide)⟩, ht⟩) (fun _ h => nomatch h) dX1_isFull_17
def F_X1_append (δ : DS) (p0 : Int32) : Int32 × (DS) := (if δ.1 < 0 then (δ.1, δ) else (if 24 ≤ δ.1 then (δ.1, δ) else ((δ.1 + 1), ((δ.1 + 1), (wr δ.2 δ.1 p0)))))
set_option maxHeartbeats 4000000 in
set_option maxRecDepth 100000 in
theorem c_X1_append (l : Launch) (D : va_G) (cA : ClassId) (d db : Nat) (sz : Nat) (δ : DS) (p0 : Int32) : Met l yX1_append wsX1_append ({ frames := 0, cells := 0, slots := 0, locals := 0 }) (va_Pc [.ref d, .int p0] (bx_pre D [(cA, .int)] (wDr cA d db δ) sz)) (va_Qi (fun r u => (r, u) = F_X1_append δ p0) (fun u t => bx_at D (wDr cA d db u) (va_A (wDr cA d db δ) sz) t) (va_A (wDr cA d db δ) sz)) 0 0 (va_A (wDr cA d db δ) sz) := by
  refine Met.ofW (cc := cX1_append) (maxL := 2) (ret := (some .int)) (by decide) rfl ?_
  intro p e s m args below meth c s₁ B hml hv
  obtain ⟨rfl, hsz, hP, hK, hD0, hG⟩ := hv
  have hx := B.exec
  have hb := B.bytes
  have hr := B.returns
  have hts := atoms_spec (ws := wsX1_append) B.pre
  have hown : s.vm.findClass RX1 = some m.cls := findClass_of_methodNamed B.named
  have hlocks := B.notSynchronized
  subst hsz
  have hD := hD0.self (sz := s.heap.size)
  generalize hAe : va_A (wDr cA d db δ) s.heap.size = A at hD ⊢
  have hA : ∀ q : Nat, s.heap.size ≤ q → A q := fun q h => by rw [← hAe]; exact Or.inr h
  have hS : va_S A s.heap s.heap [] := va_S.rf
  have hD : va_D A [(d, .inr (1, [.int δ.1, .ref db])), (db, .inl (cA, 24, .inl δ.2))] := hD
  have hP : va_P D vwCl [(d, .inr (1, [.int δ.1, .ref db])), (db, .inl (cA, 24, .inl δ.2))] s.heap := hP
  have hl := lv_entry ([.ref d, .int p0]) (n := 2) (Nat.le_of_ble_eq_true rfl)
  rw [lg_entry_eq]
  generalize (lg_sl ([.ref d, .int p0]) ++ List.replicate (2 - (lg_sl ([.ref d, .int p0])).length) Slot.unset).toArray = ls at hl ⊢
  have hl : lv_has ls 2 [(0, .ref d), (1, .int p0)] := hl
  have hi1 : ∀ w ∈ u_ws RX1 TX1 2, w ∈ wsX1_append := by decide +kernel
  refine lv_aload_n hx hb dX1_append_0 rfl (lv_at hl 0 rfl) ?_
  refine va_get (D := D) (ci := 1) (v := .int δ.1) (C := RX1) (T := TX1) (N := 2) hx hb hts hi1 hown hK hP 0 rfl rfl 0 (by decide) (hts (.fieldLink RX1 9 "Bootstay$Draft" "size" "I") (by decide +kernel)) (fun _ h9 => h9) rfl dX1_append_1 ?_
  refine lv_if_lt (tgt := 39) hx hb dX1_append_4 (by decide) (fun c_1 => ?_) (fun c_1 => ?_)
  · skip
    refine lv_aload_n hx hb dX1_append_39 rfl (lv_at hl 0 rfl) ?_
    refine va_get (D := D) (ci := 1) (v := .int δ.1) (C := RX1) (T := TX1) (N := 2) hx hb hts hi1 hown hK hP 0 rfl rfl 0 (by decide) (hts (.fieldLink RX1 9 "Bootstay$Draft" "size" "I") (by decide +kernel)) (fun _ h9 => h9) rfl dX1_append_40 ?_
    exact W.iret (v := δ.1) hx hb hr (fun t ht hW => ⟨⟨δ.1, δ, rfl, (by simp only [F_X1_append, if_pos c_1]), ⟨by rw [ht]; exact hP, hD⟩⟩, hS.F ht⟩) hS.2.2 dX1_append_43
  · skip
    refine lv_aload_n hx hb dX1_append_7 rfl (lv_at hl 0 rfl) ?_
    refine va_get (D := D) (ci := 1) (v := .int δ.1) (C := RX1) (T := TX1) (N := 2) hx hb hts hi1 hown hK hP 0 rfl rfl 0 (by decide) (hts (.fieldLink RX1 9 "Bootstay$Draft" "size" "I") (by decide +kernel)) (fun _ h9 => h9) rfl dX1_append_8 ?_
    refine lv_aload_n hx hb dX1_append_11 rfl (lv_at hl 0 rfl) ?_
    refine va_get (D := D) (ci := 1) (v := .ref db) (C := RX1) (T := TX1) (N := 2) hx hb hts hi1 hown hK hP 0 rfl rfl 1 (by decide) (hts (.fieldLink RX1 15 "Bootstay$Draft" "bytes" "[I") (by decide +kernel)) (fun _ h9 => h9) rfl dX1_append_12 ?_
    refine va_alen (D := D) (v := 24) hx hb hK hP 1 0 rfl rfl rfl dX1_append_15 ?_
    refine lv_icmp_ge (tgt := 39) hx hb dX1_append_16 (by decide) (fun c_2 => ?_) (fun c_2 => ?_)
    · skip
      refine lv_aload_n hx hb dX1_append_39 rfl (lv_at hl 0 rfl) ?_
      refine va_get (D := D) (ci := 1) (v := .int δ.1) (C := RX1) (T := TX1) (N := 2) hx hb hts hi1 hown hK hP 0 rfl rfl 0 (by decide) (hts (.fieldLink RX1 9 "Bootstay$Draft" "size" "I") (by decide +kernel)) (fun _ h9 => h9) rfl dX1_append_40 ?_
      exact W.iret (v := δ.1) hx hb hr (fun t ht hW => ⟨⟨δ.1, δ, rfl, (by simp only [F_X1_append, if_neg c_1, if_pos c_2]), ⟨by rw [ht]; exact hP, hD⟩⟩, hS.F ht⟩) hS.2.2 dX1_append_43
    · skip
      refine lv_aload_n hx hb dX1_append_19 rfl (lv_at hl 0 rfl) ?_
      refine va_get (D := D) (ci := 1) (v := .ref db) (C := RX1) (T := TX1) (N := 2) hx hb hts hi1 hown hK hP 0 rfl rfl 1 (by decide) (hts (.fieldLink RX1 15 "Bootstay$Draft" "bytes" "[I") (by decide +kernel)) (fun _ h9 => h9) rfl dX1_append_20 ?_
      refine lv_aload_n hx hb dX1_append_23 rfl (lv_at hl 0 rfl) ?_
      refine va_get (D := D) (ci := 1) (v := .int δ.1) (C := RX1) (T := TX1) (N := 2) hx hb hts hi1 hown hK hP 0 rfl rfl 0 (by decide) (hts (.fieldLink RX1 9 "Bootstay$Draft" "size" "I") (by decide +kernel)) (fun _ h9 => h9) rfl dX1_append_24 ?_
      refine lv_iload_n hx hb dX1_append_27 rfl (lv_at hl 1 rfl) ?_
      refine bx_ast (D := D) hx hb hK hP hD hS 1 0 rfl rfl (bx_in c_1 c_2 (by decide)) dX1_append_28 (fun H locs hP hD hS => ?_)
      have hP : va_P D vwCl [(d, .inr (1, [.int δ.1, .ref db])), (db, .inl (cA, 24, .inl (wr δ.2 δ.1 p0)))] H := hP
      have hD : va_D A [(d, .inr (1, [.int δ.1, .ref db])), (db, .inl (cA, 24, .inl (wr δ.2 δ.1 p0)))] := hD
      refine lv_aload_n hx hb dX1_append_29 rfl (lv_at hl 0 rfl) ?_
      refine lv_dup hx hb dX1_append_30 rfl ?_
      refine va_get (D := D) (ci := 1) (v := .int δ.1) (C := RX1) (T := TX1) (N := 2) hx hb hts hi1 hown hK hP 0 rfl rfl 0 (by decide) (hts (.fieldLink RX1 9 "Bootstay$Draft" "size" "I") (by decide +kernel)) (fun _ h9 => h9) rfl dX1_append_31 ?_
      refine lv_iconst (v := 1) hx hb dX1_append_34 (by decide) ?_
      refine lv_iadd hx hb dX1_append_35 ?_
      refine va_put (D := D) (ci := 1) (v := .int (δ.1 + 1)) (ty := .int) (C := RX1) (T := TX1) (N := 2) hx hb hts hi1 tyX1 tyX1_ok nmX1 hown hK hP hD hS 0 rfl rfl 0 (by decide) (hts (.fieldLink RX1 9 "Bootstay$Draft" "size" "I") (by decide +kernel)) (fun _ h9 => h9) rfl (by decide +kernel) rfl rfl (Nat.le_of_ble_eq_true rfl) dX1_append_36 (fun H locs hP hD hS => ?_)
      have hP : va_P D vwCl [(d, .inr (1, [.int (δ.1 + 1), .ref db])), (db, .inl (cA, 24, .inl (wr δ.2 δ.1 p0)))] H := hP
      have hD : va_D A [(d, .inr (1, [.int (δ.1 + 1), .ref db])), (db, .inl (cA, 24, .inl (wr δ.2 δ.1 p0)))] := hD
      refine lv_aload_n hx hb dX1_append_39 rfl (lv_at hl 0 rfl) ?_
      refine va_get (D := D) (ci := 1) (v := .int (δ.1 + 1)) (C := RX1) (T := TX1) (N := 2) hx hb hts hi1 hown hK hP 0 rfl rfl 0 (by decide) (hts (.fieldLink RX1 9 "Bootstay$Draft" "size" "I") (by decide +kernel)) (fun _ h9 => h9) rfl dX1_append_40 ?_
      exact W.iret (v := (δ.1 + 1)) hx hb hr (fun t ht hW => ⟨⟨(δ.1 + 1), ((δ.1 + 1), (wr δ.2 δ.1 p0)), rfl, (by simp only [F_X1_append, if_neg c_1, if_neg c_2]), ⟨by rw [ht]; exact hP, hD⟩⟩, hS.F ht⟩) hS.2.2 dX1_append_43
def F_X1_clear (δ : DS) : Int32 × (DS) := (δ.1, (0, δ.2))
set_option maxHeartbeats 4000000 in
set_option maxRecDepth 100000 in
theorem c_X1_clear (l : Launch) (D : va_G) (cA : ClassId) (d db : Nat) (sz : Nat) (δ : DS) : Met l yX1_clear wsX1_clear ({ frames := 0, cells := 0, slots := 0, locals := 0 }) (va_Pc [.ref d] (bx_pre D [(cA, .int)] (wDr cA d db δ) sz)) (va_Qi (fun r u => (r, u) = F_X1_clear δ) (fun u t => bx_at D (wDr cA d db u) (va_A (wDr cA d db δ) sz) t) (va_A (wDr cA d db δ) sz)) 0 0 (va_A (wDr cA d db δ) sz) := by
  refine Met.ofW (cc := cX1_clear) (maxL := 2) (ret := (some .int)) (by decide) rfl ?_
  intro p e s m args below meth c s₁ B hml hv
  obtain ⟨rfl, hsz, hP, hK, hD0, hG⟩ := hv
  have hx := B.exec
  have hb := B.bytes
  have hr := B.returns
  have hts := atoms_spec (ws := wsX1_clear) B.pre
  have hown : s.vm.findClass RX1 = some m.cls := findClass_of_methodNamed B.named
  have hlocks := B.notSynchronized
  subst hsz
  have hD := hD0.self (sz := s.heap.size)
  generalize hAe : va_A (wDr cA d db δ) s.heap.size = A at hD ⊢
  have hA : ∀ q : Nat, s.heap.size ≤ q → A q := fun q h => by rw [← hAe]; exact Or.inr h
  have hS : va_S A s.heap s.heap [] := va_S.rf
  have hD : va_D A [(d, .inr (1, [.int δ.1, .ref db])), (db, .inl (cA, 24, .inl δ.2))] := hD
  have hP : va_P D vwCl [(d, .inr (1, [.int δ.1, .ref db])), (db, .inl (cA, 24, .inl δ.2))] s.heap := hP
  have hl := lv_entry ([.ref d]) (n := 2) (Nat.le_of_ble_eq_true rfl)
  rw [lg_entry_eq]
  generalize (lg_sl ([.ref d]) ++ List.replicate (2 - (lg_sl ([.ref d])).length) Slot.unset).toArray = ls at hl ⊢
  have hl : lv_has ls 2 [(0, .ref d)] := hl
  have hi1 : ∀ w ∈ u_ws RX1 TX1 2, w ∈ wsX1_clear := by decide +kernel
  refine lv_aload_n hx hb dX1_clear_0 rfl (lv_at hl 0 rfl) ?_
  refine va_get (D := D) (ci := 1) (v := .int δ.1) (C := RX1) (T := TX1) (N := 2) hx hb hts hi1 hown hK hP 0 rfl rfl 0 (by decide) (hts (.fieldLink RX1 9 "Bootstay$Draft" "size" "I") (by decide +kernel)) (fun _ h9 => h9) rfl dX1_clear_1 ?_
  refine lv_istore_n (lv' := [(1, .int δ.1), (0, .ref d)]) hx hb dX1_clear_4 rfl hl (by decide) rfl (fun ls hl => ?_)
  refine lv_aload_n hx hb dX1_clear_5 rfl (lv_at hl 1 rfl) ?_
  refine lv_iconst (v := 0) hx hb dX1_clear_6 (by decide) ?_
  refine va_put (D := D) (ci := 1) (v := .int 0) (ty := .int) (C := RX1) (T := TX1) (N := 2) hx hb hts hi1 tyX1 tyX1_ok nmX1 hown hK hP hD hS 0 rfl rfl 0 (by decide) (hts (.fieldLink RX1 9 "Bootstay$Draft" "size" "I") (by decide +kernel)) (fun _ h9 => h9) rfl (by decide +kernel) rfl rfl (Nat.le_of_ble_eq_true rfl) dX1_clear_7 (fun H locs hP hD hS => ?_)
  have hP : va_P D vwCl [(d, .inr (1, [.int 0, .ref db])), (db, .inl (cA, 24, .inl δ.2))] H := hP
  have hD : va_D A [(d, .inr (1, [.int 0, .ref db])), (db, .inl (cA, 24, .inl δ.2))] := hD
  refine lv_iload_n hx hb dX1_clear_10 rfl (lv_at hl 0 rfl) ?_
  exact W.iret (v := δ.1) hx hb hr (fun t ht hW => ⟨⟨δ.1, (0, δ.2), rfl, rfl, ⟨by rw [ht]; exact hP, hD⟩⟩, hS.F ht⟩) hS.2.2 dX1_clear_11
def F_X1_byteAt (δ : DS) (p0 : Int32) : Int32 := (if p0 < 0 then 0 else (if 24 ≤ p0 then 0 else (rd δ.2 p0)))
set_option maxHeartbeats 4000000 in
set_option maxRecDepth 100000 in
theorem c_X1_byteAt (l : Launch) (D : va_G) (cA : ClassId) (d db : Nat) (δ : DS) (p0 : Int32) : Met l yX1_byteAt wsX1_byteAt ({ frames := 0, cells := 0, slots := 0, locals := 0 }) (va_Pc [.ref d, .int p0] (bx_ro D [(cA, .int)] (wDr cA d db δ))) (vp_Si (fun r => r = F_X1_byteAt δ p0)) 0 0 (fun _ => False) := by
  refine Met.ofW (cc := cX1_byteAt) (maxL := 2) (ret := (some .int)) (by decide) rfl ?_
  intro p e s m args below meth c s₁ B hml hv
  obtain ⟨rfl, hP, hK, hG⟩ := hv
  have hx := B.exec
  have hb := B.bytes
  have hr := B.returns
  have hts := atoms_spec (ws := wsX1_byteAt) B.pre
  have hown : s.vm.findClass RX1 = some m.cls := findClass_of_methodNamed B.named
  have hlocks := B.notSynchronized
  have hP : va_P D vwCl [(d, .inr (1, [.int δ.1, .ref db])), (db, .inl (cA, 24, .inl δ.2))] s.heap := hP
  have hl := lv_entry ([.ref d, .int p0]) (n := 2) (Nat.le_of_ble_eq_true rfl)
  rw [lg_entry_eq]
  generalize (lg_sl ([.ref d, .int p0]) ++ List.replicate (2 - (lg_sl ([.ref d, .int p0])).length) Slot.unset).toArray = ls at hl ⊢
  have hl : lv_has ls 2 [(0, .ref d), (1, .int p0)] := hl
  have hi1 : ∀ w ∈ u_ws RX1 TX1 2, w ∈ wsX1_byteAt := by decide +kernel
  refine lv_iload_n hx hb dX1_byteAt_0 rfl (lv_at hl 1 rfl) ?_
  refine lv_if_lt (tgt := 22) hx hb dX1_byteAt_1 (by decide) (fun c_1 => ?_) (fun c_1 => ?_)
  · skip
    refine lv_iconst (v := 0) hx hb dX1_byteAt_22 (by decide) ?_
    exact W.iret (v := 0) hx hb hr (fun t ht hW => ⟨0, rfl, (by simp only [F_X1_byteAt, if_pos c_1]), ht⟩) (fun _ h => nomatch h) dX1_byteAt_23
  · skip
    refine lv_iload_n hx hb dX1_byteAt_4 rfl (lv_at hl 1 rfl) ?_
    refine lv_aload_n hx hb dX1_byteAt_5 rfl (lv_at hl 0 rfl) ?_
    refine va_get (D := D) (ci := 1) (v := .ref db) (C := RX1) (T := TX1) (N := 2) hx hb hts hi1 hown hK hP 0 rfl rfl 1 (by decide) (hts (.fieldLink RX1 15 "Bootstay$Draft" "bytes" "[I") (by decide +kernel)) (fun _ h9 => h9) rfl dX1_byteAt_6 ?_
    refine va_alen (D := D) (v := 24) hx hb hK hP 1 0 rfl rfl rfl dX1_byteAt_9 ?_
    refine lv_icmp_ge (tgt := 22) hx hb dX1_byteAt_10 (by decide) (fun c_2 => ?_) (fun c_2 => ?_)
    · skip
      refine lv_iconst (v := 0) hx hb dX1_byteAt_22 (by decide) ?_
      exact W.iret (v := 0) hx hb hr (fun t ht hW => ⟨0, rfl, (by simp only [F_X1_byteAt, if_neg c_1, if_pos c_2]), ht⟩) (fun _ h => nomatch h) dX1_byteAt_23
    · skip
      refine lv_aload_n hx hb dX1_byteAt_13 rfl (lv_at hl 0 rfl) ?_
      refine va_get (D := D) (ci := 1) (v := .ref db) (C := RX1) (T := TX1) (N := 2) hx hb hts hi1 hown hK hP 0 rfl rfl 1 (by decide) (hts (.fieldLink RX1 15 "Bootstay$Draft" "bytes" "[I") (by decide +kernel)) (fun _ h9 => h9) rfl dX1_byteAt_14 ?_
      refine lv_iload_n hx hb dX1_byteAt_17 rfl (lv_at hl 1 rfl) ?_
      refine bx_ald (D := D) hx hb hK hP 1 0 rfl rfl (bx_in c_1 c_2 (by decide)) dX1_byteAt_18 ?_
      refine lv_goto (tgt := 23) hx hb dX1_byteAt_19 (by decide) ?_
      exact W.iret (v := (rd δ.2 p0)) hx hb hr (fun t ht hW => ⟨(rd δ.2 p0), rfl, (by simp only [F_X1_byteAt, if_neg c_1, if_neg c_2]), ht⟩) (fun _ h => nomatch h) dX1_byteAt_23
/-- the hash of n bytes -/
def hashN (f : Nat → Int32) : Nat → Int32
  | 0 => 17
  | n + 1 => F_X5_hashWith (hashN f n) (f n)
def F_X1_hash (δ : DS) : Int32 := hashN (fun k => F_X1_byteAt δ (nI k)) δ.1.toNatClampNeg
 
set_option maxHeartbeats 4000000 in
set_option maxRecDepth 100000 in
theorem c_X1_hash (l : Launch) (D : va_G) (cA : ClassId) (d db : Nat) (δ : DS) : Met l yX1_hash wsX1_hash ({ frames := 1, cells := 0, slots := 0, locals := 21 }) (va_Pc [.ref d] (bx_ro D [(cA, .int)] (wDr cA d db δ))) (vp_Si (fun r => r = F_X1_hash δ)) 0 0 (fun _ => False) := by
  refine Met.ofW (cc := cX1_hash) (maxL := 3) (ret := (some .int)) (by decide) rfl ?_
  intro p e s m args below meth c s₁ B hml hv
  obtain ⟨rfl, hP, hK, hG⟩ := hv
  have hx := B.exec
  have hb := B.bytes
  have hr := B.returns
  have hts := atoms_spec (ws := wsX1_hash) B.pre
  have hown : s.vm.findClass RX1 = some m.cls := findClass_of_methodNamed B.named
  have hlocks := B.notSynchronized
  have hP : va_P D vwCl [(d, .inr (1, [.int δ.1, .ref db])), (db, .inl (cA, 24, .inl δ.2))] s.heap := hP
  have hl := lv_entry ([.ref d]) (n := 3) (Nat.le_of_ble_eq_true rfl)
  rw [lg_entry_eq]
  generalize (lg_sl ([.ref d]) ++ List.replicate (3 - (lg_sl ([.ref d])).length) Slot.unset).toArray = ls at hl ⊢
  have hl : lv_has ls 3 [(0, .ref d)] := hl
  have hi1 : ∀ w ∈ u_ws RX1 TX1 2, w ∈ wsX1_hash := by decide +kernel
  refine lv_bipush (v := 17) hx hb dX1_hash_0 (by decide) ?_
  refine lv_istore_n (lv' := [(1, .int 17), (0, .ref d)]) hx hb dX1_hash_2 rfl hl (by decide) rfl (fun ls hl => ?_)
  refine lv_iconst (v := 0) hx hb dX1_hash_3 (by decide) ?_
  refine lv_istore_n (lv' := [(2, .int 0), (1, .int 17), (0, .ref d)]) hx hb dX1_hash_4 rfl hl (by decide) rfl (fun ls hl => ?_)
  have loop5 : ∀ (n : Nat) (j : Nat) (h k : Int32), δ.1.toNatClampNeg - j < n → j ≤ δ.1.toNatClampNeg → k = nI j → h = hashN (fun k => F_X1_byteAt δ (nI k)) j → ∀ (ls : Array Slot), lv_has ls 3 [(2, .int k), (1, .int h), (0, .ref d)] → W p l e (headSpec wsX1_hash ({ frames := 1, cells := 0, slots := 0, locals := 21 })).room s m ([.ref d] : List Value).toArray below meth c s.heap [] 0 0 (MQ below (vp_Si (fun r => r = F_X1_hash δ)) ([.ref d] : List Value).toArray s 0 0 (fun _ => False)) (F0 m 5 ls []) := by
    intro n
    induction n with
    | zero =>
      intro j h k h_f ij ik ih ls hl
      exact absurd h_f (Nat.not_lt_zero _)
    | succ n ih5 =>
      intro j h k h_f ij ik ih ls hl
      have hcl := bx_cl δ.1
      refine lv_iload_n hx hb dX1_hash_5 rfl (lv_at hl 0 rfl) ?_
      refine lv_aload_n hx hb dX1_hash_6 rfl (lv_at hl 2 rfl) ?_
      refine va_get (D := D) (ci := 1) (v := .int δ.1) (C := RX1) (T := TX1) (N := 2) hx hb hts hi1 hown hK hP 0 rfl rfl 0 (by decide) (hts (.fieldLink RX1 9 "Bootstay$Draft" "size" "I") (by decide +kernel)) (fun _ h9 => h9) rfl dX1_hash_7 ?_
      refine lv_icmp_ge (tgt := 29) hx hb dX1_hash_10 (by decide) (fun c_1 => ?_) (fun c_1 => ?_)
      · skip
        have hj : δ.1.toNatClampNeg ≤ j := (bx_le (by omega)).mp (ik ▸ c_1)
        refine lv_iload_n hx hb dX1_hash_29 rfl (lv_at hl 1 rfl) ?_
        exact W.iret (v := h) hx hb hr (fun t ht hW => ⟨h, rfl, (by rw [ih, Nat.le_antisymm ij hj]; rfl), ht⟩) (fun _ h => nomatch h) dX1_hash_30
      · skip
        have hj : j < δ.1.toNatClampNeg := Nat.lt_of_not_le (fun h => c_1 (by rw [ik]; exact (bx_le (by omega)).mpr h))
        refine lv_iload_n hx hb dX1_hash_13 rfl (lv_at hl 1 rfl) ?_
        refine lv_aload_n hx hb dX1_hash_14 rfl (lv_at hl 2 rfl) ?_
        refine lv_iload_n hx hb dX1_hash_15 rfl (lv_at hl 0 rfl) ?_
        refine bx_ri (va_runV (As := [.int k]) (rest := [.int h]) ⟨hx, hb, hml, hown, hts⟩ (c_X1_byteAt l D cA d db δ k) (cwV 1 hts gX1_hash_X1_byteAt rfl rfl rfl (by decide +kernel) ⟨Nat.le_of_ble_eq_true rfl, Nat.le_of_ble_eq_true rfl⟩) (bx_pvr (ci := 1) (q0 := 0) hK hG (hP.sub (ws' := [(d, .inr (1, [.int δ.1, .ref db])), (db, .inl (cA, 24, .inl δ.2))]) [0, 1] rfl) rfl rfl) rfl rfl hl.1 rfl (lv_room (Nat.le_of_ble_eq_true rfl)) dX1_hash_16 ⟨Nat.zero_le _, Nat.zero_le _⟩) (fun r_2 h_3 => ?_)
        have h_3 := h_3.symm
        subst h_3
        refine bx_ri (va_runSN (As := [.int h, .int (F_X1_byteAt δ k)]) (rest := []) ⟨hx, hb, hml, hown, hts⟩ (c_X5_hashWith l D h (F_X1_byteAt δ k)) ⟨(va_cnB 2 hts gX1_hash_X5_hashWith_n23 rfl rfl rfl (hG.1 (.methodLinkNest RX1 23 yX5_hashWith RX5) (by decide +kernel)) (hts (.initialized RX5) (by decide +kernel)) (by decide +kernel) ⟨Nat.le_of_ble_eq_true rfl, Nat.le_of_ble_eq_true rfl⟩), hts (.static yX5_hashWith) (by decide +kernel), trivial⟩ (bx_psr (hK.sub (tys' := []) [] rfl) hG (hP.sub (ws' := []) [] rfl)) rfl rfl hl.1 rfl (lv_room (Nat.le_of_ble_eq_true rfl)) dX1_hash_19 ⟨Nat.zero_le _, Nat.zero_le _⟩) (fun r_4 h_5 => ?_)
        have h_5 := h_5.symm
        subst h_5
        refine lv_istore_n (lv' := [(1, .int (F_X5_hashWith h (F_X1_byteAt δ k))), (2, .int k), (0, .ref d)]) hx hb dX1_hash_22 rfl hl (by decide) rfl (fun ls hl => ?_)
        refine lv_iinc (v := (k + 1)) (lv' := [(2, .int (k + 1)), (1, .int (F_X5_hashWith h (F_X1_byteAt δ k))), (0, .ref d)]) hx hb dX1_hash_23 hl (k := 1) rfl rfl (by decide) rfl (fun ls hl => ?_)
        refine lv_goto (tgt := 5) hx hb dX1_hash_26 (by decide) ?_
        exact ih5 (j + 1) (F_X5_hashWith h (F_X1_byteAt δ k)) (k + 1) (by omega) hj (by rw [ik]; exact nI_1 j) (by rw [ih, ik]; rfl) ls (lv_sub hl [0, 1, 2] rfl)
  exact loop5 (δ.1.toNatClampNeg + 1) 0 17 0 (by omega) (Nat.zero_le _) nI_0.symm rfl ls (lv_sub hl [0, 1, 2] rfl)
