def F_X3_slotWord (σ : FS) (p0 : Int32) (p1 : Int32) : Int32 := (F_X2_read σ ((p0 * 29) + p1))
set_option maxHeartbeats 4000000 in
set_option maxRecDepth 100000 in
theorem c_X3_slotWord (l : Launch) (D : va_G) (cA : ClassId) (s0 f w : Nat) (σ : FS) (p0 : Int32) (p1 : Int32) : Met l yX3_slotWord wsX3_slotWord ({ frames := 1, cells := 0, slots := 0, locals := 21 }) (va_Pc [.ref s0, .int p0, .int p1] (bx_ro D [(cA, .int)] (wSt cA s0 f w σ))) (vp_Si (fun r => r = F_X3_slotWord σ p0 p1)) 0 0 (fun _ => False) := by
  refine Met.ofW (cc := cX3_slotWord) (maxL := 3) (ret := (some .int)) (by decide) rfl ?_
  intro p e s m args below meth c s₁ B hml hv
  obtain ⟨rfl, hP, hK, hG⟩ := hv
  have hx := B.exec
  have hb := B.bytes
  have hr := B.returns
  have hts := atoms_spec (ws := wsX3_slotWord) B.pre
  have hown : s.vm.findClass RX3 = some m.cls := findClass_of_methodNamed B.named
  have hlocks := B.notSynchronized
  have hP : va_P D vwCl [(s0, .inr (3, [.ref f])), (f, .inr (2, [.ref w, .int σ.2.1, .int σ.2.2])), (w, .inl (cA, 66, .inl σ.1))] s.heap := hP
  have hl := lv_entry ([.ref s0, .int p0, .int p1]) (n := 3) (Nat.le_of_ble_eq_true rfl)
  rw [lg_entry_eq]
  generalize (lg_sl ([.ref s0, .int p0, .int p1]) ++ List.replicate (3 - (lg_sl ([.ref s0, .int p0, .int p1])).length) Slot.unset).toArray = ls at hl ⊢
  have hl : lv_has ls 3 [(0, .ref s0), (1, .int p0), (2, .int p1)] := hl
  have hi3 : ∀ w ∈ u_ws RX3 TX3 1, w ∈ wsX3_slotWord := by decide +kernel
  refine lv_aload_n hx hb dX3_slotWord_0 rfl (lv_at hl 0 rfl) ?_
  refine va_get (D := D) (ci := 3) (v := .ref f) (C := RX3) (T := TX3) (N := 1) hx hb hts hi3 hown hK hP 0 rfl rfl 0 (by decide) (hts (.fieldLink RX3 14 "Bootstay$Store" "flash" "LBootstay$Flash;") (by decide +kernel)) (fun _ h9 => h9) rfl dX3_slotWord_1 ?_
  refine lv_iload_n hx hb dX3_slotWord_4 rfl (lv_at hl 1 rfl) ?_
  refine lv_bipush (v := 29) hx hb dX3_slotWord_5 (by decide) ?_
  refine lv_imul hx hb dX3_slotWord_7 ?_
  refine lv_iload_n hx hb dX3_slotWord_8 rfl (lv_at hl 2 rfl) ?_
  refine lv_iadd hx hb dX3_slotWord_9 ?_
  refine bx_ri (va_runV (As := [.int ((p0 * 29) + p1)]) (rest := []) ⟨hx, hb, hml, hown, hts⟩ (c_X2_read l D cA f w σ ((p0 * 29) + p1)) (cwV 1 hts gX3_slotWord_X2_read rfl rfl rfl (by decide +kernel) ⟨Nat.le_of_ble_eq_true rfl, Nat.le_of_ble_eq_true rfl⟩) (bx_pvr (ci := 2) (q0 := 0) hK hG (hP.sub (ws' := [(f, .inr (2, [.ref w, .int σ.2.1, .int σ.2.2])), (w, .inl (cA, 66, .inl σ.1))]) [1, 2] rfl) rfl rfl) rfl rfl hl.1 rfl (lv_room (Nat.le_of_ble_eq_true rfl)) dX3_slotWord_10 ⟨Nat.zero_le _, Nat.zero_le _⟩) (fun r_1 h_2 => ?_)
  have h_2 := h_2.symm
  subst h_2
  exact W.iret (v := (F_X2_read σ ((p0 * 29) + p1))) hx hb hr (fun t ht hW => ⟨(F_X2_read σ ((p0 * 29) + p1)), rfl, rfl, ht⟩) (fun _ h => nomatch h) dX3_slotWord_13
def F_X3_imageWord (σ : FS) (p0 : Int32) (p1 : Int32) : Int32 := (F_X2_read σ (((p0 * 29) + 5) + p1))
set_option maxHeartbeats 4000000 in
set_option maxRecDepth 100000 in
theorem c_X3_imageWord (l : Launch) (D : va_G) (cA : ClassId) (s0 f w : Nat) (σ : FS) (p0 : Int32) (p1 : Int32) : Met l yX3_imageWord wsX3_imageWord ({ frames := 1, cells := 0, slots := 0, locals := 21 }) (va_Pc [.ref s0, .int p0, .int p1] (bx_ro D [(cA, .int)] (wSt cA s0 f w σ))) (vp_Si (fun r => r = F_X3_imageWord σ p0 p1)) 0 0 (fun _ => False) := by
  refine Met.ofW (cc := cX3_imageWord) (maxL := 3) (ret := (some .int)) (by decide) rfl ?_
  intro p e s m args below meth c s₁ B hml hv
  obtain ⟨rfl, hP, hK, hG⟩ := hv
  have hx := B.exec
  have hb := B.bytes
  have hr := B.returns
  have hts := atoms_spec (ws := wsX3_imageWord) B.pre
  have hown : s.vm.findClass RX3 = some m.cls := findClass_of_methodNamed B.named
  have hlocks := B.notSynchronized
  have hP : va_P D vwCl [(s0, .inr (3, [.ref f])), (f, .inr (2, [.ref w, .int σ.2.1, .int σ.2.2])), (w, .inl (cA, 66, .inl σ.1))] s.heap := hP
  have hl := lv_entry ([.ref s0, .int p0, .int p1]) (n := 3) (Nat.le_of_ble_eq_true rfl)
  rw [lg_entry_eq]
  generalize (lg_sl ([.ref s0, .int p0, .int p1]) ++ List.replicate (3 - (lg_sl ([.ref s0, .int p0, .int p1])).length) Slot.unset).toArray = ls at hl ⊢
  have hl : lv_has ls 3 [(0, .ref s0), (1, .int p0), (2, .int p1)] := hl
  have hi3 : ∀ w ∈ u_ws RX3 TX3 1, w ∈ wsX3_imageWord := by decide +kernel
  refine lv_aload_n hx hb dX3_imageWord_0 rfl (lv_at hl 0 rfl) ?_
  refine va_get (D := D) (ci := 3) (v := .ref f) (C := RX3) (T := TX3) (N := 1) hx hb hts hi3 hown hK hP 0 rfl rfl 0 (by decide) (hts (.fieldLink RX3 14 "Bootstay$Store" "flash" "LBootstay$Flash;") (by decide +kernel)) (fun _ h9 => h9) rfl dX3_imageWord_1 ?_
  refine lv_iload_n hx hb dX3_imageWord_4 rfl (lv_at hl 1 rfl) ?_
  refine lv_bipush (v := 29) hx hb dX3_imageWord_5 (by decide) ?_
  refine lv_imul hx hb dX3_imageWord_7 ?_
  refine lv_iconst (v := 5) hx hb dX3_imageWord_8 (by decide) ?_
  refine lv_iadd hx hb dX3_imageWord_9 ?_
  refine lv_iload_n hx hb dX3_imageWord_10 rfl (lv_at hl 2 rfl) ?_
  refine lv_iadd hx hb dX3_imageWord_11 ?_
  refine bx_ri (va_runV (As := [.int (((p0 * 29) + 5) + p1)]) (rest := []) ⟨hx, hb, hml, hown, hts⟩ (c_X2_read l D cA f w σ (((p0 * 29) + 5) + p1)) (cwV 1 hts gX3_imageWord_X2_read rfl rfl rfl (by decide +kernel) ⟨Nat.le_of_ble_eq_true rfl, Nat.le_of_ble_eq_true rfl⟩) (bx_pvr (ci := 2) (q0 := 0) hK hG (hP.sub (ws' := [(f, .inr (2, [.ref w, .int σ.2.1, .int σ.2.2])), (w, .inl (cA, 66, .inl σ.1))]) [1, 2] rfl) rfl rfl) rfl rfl hl.1 rfl (lv_room (Nat.le_of_ble_eq_true rfl)) dX3_imageWord_12 ⟨Nat.zero_le _, Nat.zero_le _⟩) (fun r_1 h_2 => ?_)
  have h_2 := h_2.symm
  subst h_2
  exact W.iret (v := (F_X2_read σ (((p0 * 29) + 5) + p1))) hx hb hr (fun t ht hW => ⟨(F_X2_read σ (((p0 * 29) + 5) + p1)), rfl, rfl, ht⟩) (fun _ h => nomatch h) dX3_imageWord_15
def F_X3_writeSlotWord (σ : FS) (p0 : Int32) (p1 : Int32) (p2 : Int32) : Int32 × (FS) := (match (F_X2_write σ ((p0 * 29) + p1) p2) with | (r_3, u_2) => (r_3, u_2))
set_option maxHeartbeats 4000000 in
set_option maxRecDepth 100000 in
theorem c_X3_writeSlotWord (l : Launch) (D : va_G) (cA : ClassId) (s0 f w : Nat) (sz : Nat) (σ : FS) (p0 : Int32) (p1 : Int32) (p2 : Int32) : Met l yX3_writeSlotWord wsX3_writeSlotWord ({ frames := 2, cells := 0, slots := 0, locals := 44 }) (va_Pc [.ref s0, .int p0, .int p1, .int p2] (bx_pre D [(cA, .int)] (wSt cA s0 f w σ) sz)) (va_Qi (fun r u => (r, u) = F_X3_writeSlotWord σ p0 p1 p2 ∧ (r = 0 ∨ r = 1)) (fun u t => bx_at D (wSt cA s0 f w u) (va_A (wSt cA s0 f w σ) sz) t) (va_A (wSt cA s0 f w σ) sz)) 0 0 (va_A (wSt cA s0 f w σ) sz) := by
  refine Met.ofW (cc := cX3_writeSlotWord) (maxL := 4) (ret := (some .boolean)) (by decide) rfl ?_
  intro p e s m args below meth c s₁ B hml hv
  obtain ⟨rfl, hsz, hP, hK, hD0, hG⟩ := hv
  have hx := B.exec
  have hb := B.bytes
  have hr := B.returns
  have hts := atoms_spec (ws := wsX3_writeSlotWord) B.pre
  have hown : s.vm.findClass RX3 = some m.cls := findClass_of_methodNamed B.named
  have hlocks := B.notSynchronized
  subst hsz
  have hD := hD0.self (sz := s.heap.size)
  generalize hAe : va_A (wSt cA s0 f w σ) s.heap.size = A at hD ⊢
  have hA : ∀ q : Nat, s.heap.size ≤ q → A q := fun q h => by rw [← hAe]; exact Or.inr h
  have hS : va_S A s.heap s.heap [] := va_S.rf
  have hD : va_D A [(s0, .inr (3, [.ref f])), (f, .inr (2, [.ref w, .int σ.2.1, .int σ.2.2])), (w, .inl (cA, 66, .inl σ.1))] := hD
  have hP : va_P D vwCl [(s0, .inr (3, [.ref f])), (f, .inr (2, [.ref w, .int σ.2.1, .int σ.2.2])), (w, .inl (cA, 66, .inl σ.1))] s.heap := hP
  have hl := lv_entry ([.ref s0, .int p0, .int p1, .int p2]) (n := 4) (Nat.le_of_ble_eq_true rfl)
  rw [lg_entry_eq]
  generalize (lg_sl ([.ref s0, .int p0, .int p1, .int p2]) ++ List.replicate (4 - (lg_sl ([.ref s0, .int p0, .int p1, .int p2])).length) Slot.unset).toArray = ls at hl ⊢
  have hl : lv_has ls 4 [(0, .ref s0), (1, .int p0), (2, .int p1), (3, .int p2)] := hl
  have hi3 : ∀ w ∈ u_ws RX3 TX3 1, w ∈ wsX3_writeSlotWord := by decide +kernel
  refine lv_aload_n hx hb dX3_writeSlotWord_0 rfl (lv_at hl 0 rfl) ?_
  refine va_get (D := D) (ci := 3) (v := .ref f) (C := RX3) (T := TX3) (N := 1) hx hb hts hi3 hown hK hP 0 rfl rfl 0 (by decide) (hts (.fieldLink RX3 14 "Bootstay$Store" "flash" "LBootstay$Flash;") (by decide +kernel)) (fun _ h9 => h9) rfl dX3_writeSlotWord_1 ?_
  refine lv_iload_n hx hb dX3_writeSlotWord_4 rfl (lv_at hl 1 rfl) ?_
  refine lv_bipush (v := 29) hx hb dX3_writeSlotWord_5 (by decide) ?_
  refine lv_imul hx hb dX3_writeSlotWord_7 ?_
  refine lv_iload_n hx hb dX3_writeSlotWord_8 rfl (lv_at hl 2 rfl) ?_
  refine lv_iadd hx hb dX3_writeSlotWord_9 ?_
  refine lv_iload_n hx hb dX3_writeSlotWord_10 rfl (lv_at hl 3 rfl) ?_
  refine bx_wi (wc := [(f, .inr (2, [.ref w, .int σ.2.1, .int σ.2.2])), (w, .inl (cA, 66, .inl σ.1))]) (wr := [(s0, .inr (3, [.ref f]))]) (wf := fun (u : (FS)) => [(f, .inr (2, [.ref w, .int u.2.1, .int u.2.2])), (w, .inl (cA, 66, .inl u.1))]) (wn := fun (u : (FS)) => [(s0, .inr (3, [.ref f])), (f, .inr (2, [.ref w, .int u.2.1, .int u.2.2])), (w, .inl (cA, 66, .inl u.1))]) hP hD hS hA [1, 2] [0] [0, 1, 2] rfl rfl (by decide) (by decide) (fun u => rfl) (by decide) (va_runV (As := [.int ((p0 * 29) + p1), .int p2]) (rest := []) ⟨hx, hb, hml, hown, hts⟩ (c_X2_write l D cA f w s.heap.size σ ((p0 * 29) + p1) p2) (cwV 2 hts gX3_writeSlotWord_X2_write rfl rfl rfl (by decide +kernel) ⟨Nat.le_of_ble_eq_true rfl, Nat.le_of_ble_eq_true rfl⟩) (bx_pv (ci := 2) (q0 := 0) hK hG (hP.sub (ws' := [(f, .inr (2, [.ref w, .int σ.2.1, .int σ.2.2])), (w, .inl (cA, 66, .inl σ.1))]) [1, 2] rfl) (hD.sub (ws' := [(f, .inr (2, [.ref w, .int σ.2.1, .int σ.2.2])), (w, .inl (cA, 66, .inl σ.1))]) [1, 2] (by decide) rfl) rfl rfl) rfl rfl hl.1 rfl (lv_room (Nat.le_of_ble_eq_true rfl)) dX3_writeSlotWord_11 ⟨Nat.zero_le _, Nat.zero_le _⟩) (fun r_3 u_2 H locs h_1 hP hD hS => ?_)
  obtain ⟨h_1, b_5⟩ := h_1
  have hP : va_P D vwCl [(s0, .inr (3, [.ref f])), (f, .inr (2, [.ref w, .int u_2.2.1, .int u_2.2.2])), (w, .inl (cA, 66, .inl u_2.1))] H := hP
  have hD : va_D A [(s0, .inr (3, [.ref f])), (f, .inr (2, [.ref w, .int u_2.2.1, .int u_2.2.2])), (w, .inl (cA, 66, .inl u_2.1))] := hD
  exact W.zret (v := r_3) hx hb hr (bx_nb b_5) (fun t ht hW => ⟨⟨r_3, u_2, rfl, ⟨(by simp only [F_X3_writeSlotWord, ← h_1]), b_5⟩, ⟨by rw [ht]; exact hP, hD⟩⟩, hS.F ht⟩) hS.2.2 dX3_writeSlotWord_14
def F_X3_writeImageWord (σ : FS) (p0 : Int32) (p1 : Int32) (p2 : Int32) : Int32 × (FS) := (match (F_X2_write σ (((p0 * 29) + 5) + p1) p2) with | (r_3, u_2) => (r_3, u_2))
set_option maxHeartbeats 4000000 in
set_option maxRecDepth 100000 in
theorem c_X3_writeImageWord (l : Launch) (D : va_G) (cA : ClassId) (s0 f w : Nat) (sz : Nat) (σ : FS) (p0 : Int32) (p1 : Int32) (p2 : Int32) : Met l yX3_writeImageWord wsX3_writeImageWord ({ frames := 2, cells := 0, slots := 0, locals := 44 }) (va_Pc [.ref s0, .int p0, .int p1, .int p2] (bx_pre D [(cA, .int)] (wSt cA s0 f w σ) sz)) (va_Qi (fun r u => (r, u) = F_X3_writeImageWord σ p0 p1 p2 ∧ (r = 0 ∨ r = 1)) (fun u t => bx_at D (wSt cA s0 f w u) (va_A (wSt cA s0 f w σ) sz) t) (va_A (wSt cA s0 f w σ) sz)) 0 0 (va_A (wSt cA s0 f w σ) sz) := by
  refine Met.ofW (cc := cX3_writeImageWord) (maxL := 4) (ret := (some .boolean)) (by decide) rfl ?_
  intro p e s m args below meth c s₁ B hml hv
  obtain ⟨rfl, hsz, hP, hK, hD0, hG⟩ := hv
  have hx := B.exec
  have hb := B.bytes
  have hr := B.returns
  have hts := atoms_spec (ws := wsX3_writeImageWord) B.pre
  have hown : s.vm.findClass RX3 = some m.cls := findClass_of_methodNamed B.named
  have hlocks := B.notSynchronized
  subst hsz
  have hD := hD0.self (sz := s.heap.size)
  generalize hAe : va_A (wSt cA s0 f w σ) s.heap.size = A at hD ⊢
  have hA : ∀ q : Nat, s.heap.size ≤ q → A q := fun q h => by rw [← hAe]; exact Or.inr h
  have hS : va_S A s.heap s.heap [] := va_S.rf
  have hD : va_D A [(s0, .inr (3, [.ref f])), (f, .inr (2, [.ref w, .int σ.2.1, .int σ.2.2])), (w, .inl (cA, 66, .inl σ.1))] := hD
  have hP : va_P D vwCl [(s0, .inr (3, [.ref f])), (f, .inr (2, [.ref w, .int σ.2.1, .int σ.2.2])), (w, .inl (cA, 66, .inl σ.1))] s.heap := hP
  have hl := lv_entry ([.ref s0, .int p0, .int p1, .int p2]) (n := 4) (Nat.le_of_ble_eq_true rfl)
  rw [lg_entry_eq]
  generalize (lg_sl ([.ref s0, .int p0, .int p1, .int p2]) ++ List.replicate (4 - (lg_sl ([.ref s0, .int p0, .int p1, .int p2])).length) Slot.unset).toArray = ls at hl ⊢
  have hl : lv_has ls 4 [(0, .ref s0), (1, .int p0), (2, .int p1), (3, .int p2)] := hl
  have hi3 : ∀ w ∈ u_ws RX3 TX3 1, w ∈ wsX3_writeImageWord := by decide +kernel
  refine lv_aload_n hx hb dX3_writeImageWord_0 rfl (lv_at hl 0 rfl) ?_
  refine va_get (D := D) (ci := 3) (v := .ref f) (C := RX3) (T := TX3) (N := 1) hx hb hts hi3 hown hK hP 0 rfl rfl 0 (by decide) (hts (.fieldLink RX3 14 "Bootstay$Store" "flash" "LBootstay$Flash;") (by decide +kernel)) (fun _ h9 => h9) rfl dX3_writeImageWord_1 ?_
  refine lv_iload_n hx hb dX3_writeImageWord_4 rfl (lv_at hl 1 rfl) ?_
  refine lv_bipush (v := 29) hx hb dX3_writeImageWord_5 (by decide) ?_
  refine lv_imul hx hb dX3_writeImageWord_7 ?_
  refine lv_iconst (v := 5) hx hb dX3_writeImageWord_8 (by decide) ?_
  refine lv_iadd hx hb dX3_writeImageWord_9 ?_
  refine lv_iload_n hx hb dX3_writeImageWord_10 rfl (lv_at hl 2 rfl) ?_
  refine lv_iadd hx hb dX3_writeImageWord_11 ?_
  refine lv_iload_n hx hb dX3_writeImageWord_12 rfl (lv_at hl 3 rfl) ?_
  refine bx_wi (wc := [(f, .inr (2, [.ref w, .int σ.2.1, .int σ.2.2])), (w, .inl (cA, 66, .inl σ.1))]) (wr := [(s0, .inr (3, [.ref f]))]) (wf := fun (u : (FS)) => [(f, .inr (2, [.ref w, .int u.2.1, .int u.2.2])), (w, .inl (cA, 66, .inl u.1))]) (wn := fun (u : (FS)) => [(s0, .inr (3, [.ref f])), (f, .inr (2, [.ref w, .int u.2.1, .int u.2.2])), (w, .inl (cA, 66, .inl u.1))]) hP hD hS hA [1, 2] [0] [0, 1, 2] rfl rfl (by decide) (by decide) (fun u => rfl) (by decide) (va_runV (As := [.int (((p0 * 29) + 5) + p1), .int p2]) (rest := []) ⟨hx, hb, hml, hown, hts⟩ (c_X2_write l D cA f w s.heap.size σ (((p0 * 29) + 5) + p1) p2) (cwV 2 hts gX3_writeImageWord_X2_write rfl rfl rfl (by decide +kernel) ⟨Nat.le_of_ble_eq_true rfl, Nat.le_of_ble_eq_true rfl⟩) (bx_pv (ci := 2) (q0 := 0) hK hG (hP.sub (ws' := [(f, .inr (2, [.ref w, .int σ.2.1, .int σ.2.2])), (w, .inl (cA, 66, .inl σ.1))]) [1, 2] rfl) (hD.sub (ws' := [(f, .inr (2, [.ref w, .int σ.2.1, .int σ.2.2])), (w, .inl (cA, 66, .inl σ.1))]) [1, 2] (by decide) rfl) rfl rfl) rfl rfl hl.1 rfl (lv_room (Nat.le_of_ble_eq_true rfl)) dX3_writeImageWord_13 ⟨Nat.zero_le _, Nat.zero_le _⟩) (fun r_3 u_2 H locs h_1 hP hD hS => ?_)
  obtain ⟨h_1, b_5⟩ := h_1
  have hP : va_P D vwCl [(s0, .inr (3, [.ref f])), (f, .inr (2, [.ref w, .int u_2.2.1, .int u_2.2.2])), (w, .inl (cA, 66, .inl u_2.1))] H := hP
  have hD : va_D A [(s0, .inr (3, [.ref f])), (f, .inr (2, [.ref w, .int u_2.2.1, .int u_2.2.2])), (w, .inl (cA, 66, .inl u_2.1))] := hD
  exact W.zret (v := r_3) hx hb hr (bx_nb b_5) (fun t ht hW => ⟨⟨r_3, u_2, rfl, ⟨(by simp only [F_X3_writeImageWord, ← h_1]), b_5⟩, ⟨by rw [ht]; exact hP, hD⟩⟩, hS.F ht⟩) hS.2.2 dX3_writeImageWord_16
def F_X3_imageHash (σ : FS) (p0 p1 : Int32) : Int32 := hashN (fun k => F_X3_imageWord σ p0 (nI k)) (min p1.toNatClampNeg 24)
 
set_option maxHeartbeats 4000000 in
set_option maxRecDepth 100000 in
theorem c_X3_imageHash (l : Launch) (D : va_G) (cA : ClassId) (s0 f w : Nat) (σ : FS) (p0 : Int32) (p1 : Int32) : Met l yX3_imageHash wsX3_imageHash ({ frames := 2, cells := 0, slots := 0, locals := 43 }) (va_Pc [.ref s0, .int p0, .int p1] (bx_ro D [(cA, .int)] (wSt cA s0 f w σ))) (vp_Si (fun r => r = F_X3_imageHash σ p0 p1)) 0 0 (fun _ => False) := by
  refine Met.ofW (cc := cX3_imageHash) (maxL := 5) (ret := (some .int)) (by decide) rfl ?_
  intro p e s m args below meth c s₁ B hml hv
  obtain ⟨rfl, hP, hK, hG⟩ := hv
  have hx := B.exec
  have hb := B.bytes
  have hr := B.returns
  have hts := atoms_spec (ws := wsX3_imageHash) B.pre
  have hown : s.vm.findClass RX3 = some m.cls := findClass_of_methodNamed B.named
  have hlocks := B.notSynchronized
  have hP : va_P D vwCl [(s0, .inr (3, [.ref f])), (f, .inr (2, [.ref w, .int σ.2.1, .int σ.2.2])), (w, .inl (cA, 66, .inl σ.1))] s.heap := hP
  have hl := lv_entry ([.ref s0, .int p0, .int p1]) (n := 5) (Nat.le_of_ble_eq_true rfl)
  rw [lg_entry_eq]
  generalize (lg_sl ([.ref s0, .int p0, .int p1]) ++ List.replicate (5 - (lg_sl ([.ref s0, .int p0, .int p1])).length) Slot.unset).toArray = ls at hl ⊢
  have hl : lv_has ls 5 [(0, .ref s0), (1, .int p0), (2, .int p1)] := hl
  refine lv_bipush (v := 17) hx hb dX3_imageHash_0 (by decide) ?_
  refine lv_istore_n (lv' := [(3, .int 17), (0, .ref s0), (1, .int p0), (2, .int p1)]) hx hb dX3_imageHash_2 rfl hl (by decide) rfl (fun ls hl => ?_)
  refine lv_iconst (v := 0) hx hb dX3_imageHash_3 (by decide) ?_
  refine lv_istore (lv' := [(4, .int 0), (3, .int 17), (0, .ref s0), (1, .int p0), (2, .int p1)]) hx hb dX3_imageHash_4 hl (by decide) rfl (fun ls hl => ?_)
  have loop6 : ∀ (n : Nat) (j : Nat) (h k : Int32), min p1.toNatClampNeg 24 - j < n → j ≤ min p1.toNatClampNeg 24 → k = nI j → h = hashN (fun k => F_X3_imageWord σ p0 (nI k)) j → ∀ (ls : Array Slot), lv_has ls 5 [(4, .int k), (3, .int h), (0, .ref s0), (1, .int p0), (2, .int p1)] → W p l e (headSpec wsX3_imageHash ({ frames := 2, cells := 0, slots := 0, locals := 43 })).room s m ([.ref s0, .int p0, .int p1] : List Value).toArray below meth c s.heap [] 0 0 (MQ below (vp_Si (fun r => r = F_X3_imageHash σ p0 p1)) ([.ref s0, .int p0, .int p1] : List Value).toArray s 0 0 (fun _ => False)) (F0 m 6 ls []) := by
    intro n
    induction n with
    | zero =>
      intro j h k h_f ij ik ih ls hl
      exact absurd h_f (Nat.not_lt_zero _)
    | succ n ih6 =>
      intro j h k h_f ij ik ih ls hl
      have hcl := bx_cl p1
      refine lv_iload hx hb dX3_imageHash_6 (lv_at hl 0 rfl) ?_
      refine lv_iload_n hx hb dX3_imageHash_8 rfl (lv_at hl 4 rfl) ?_
      refine lv_icmp_ge (tgt := 37) hx hb dX3_imageHash_9 (by decide) (fun c_1 => ?_) (fun c_1 => ?_)
      · skip
        have hj3 : min p1.toNatClampNeg 24 ≤ j := by
          have := (bx_le (N := p1) (j := j) (by omega)).mp (ik ▸ c_1)
          have e24 : (24 : Int32).toNatClampNeg = 24 := rfl
          omega
        refine lv_iload_n hx hb dX3_imageHash_37 rfl (lv_at hl 1 rfl) ?_
        exact W.iret (v := h) hx hb hr (fun t ht hW => ⟨h, rfl, (by rw [ih, Nat.le_antisymm ij hj3]; rfl), ht⟩) (fun _ h => nomatch h) dX3_imageHash_38
      · skip
        have hj : j < p1.toNatClampNeg := Nat.lt_of_not_le (fun h => c_1 (by rw [ik]; exact (bx_le (by omega)).mpr h))
        refine lv_iload hx hb dX3_imageHash_12 (lv_at hl 0 rfl) ?_
        refine lv_bipush (v := 24) hx hb dX3_imageHash_14 (by decide) ?_
        refine lv_icmp_ge (tgt := 37) hx hb dX3_imageHash_16 (by decide) (fun c_2 => ?_) (fun c_2 => ?_)
        · skip
          have hj3 : min p1.toNatClampNeg 24 ≤ j := by
            have := (bx_le (N := 24) (j := j) (by omega)).mp (ik ▸ c_2)
            have e24 : (24 : Int32).toNatClampNeg = 24 := rfl
            omega
          refine lv_iload_n hx hb dX3_imageHash_37 rfl (lv_at hl 1 rfl) ?_
          exact W.iret (v := h) hx hb hr (fun t ht hW => ⟨h, rfl, (by rw [ih, Nat.le_antisymm ij hj3]; rfl), ht⟩) (fun _ h => nomatch h) dX3_imageHash_38
        · skip
          have hj2 : j < 24 := Nat.lt_of_not_le (fun h => c_2 (by rw [ik]; exact (bx_le (by omega)).mpr h))
          refine lv_iload_n hx hb dX3_imageHash_19 rfl (lv_at hl 1 rfl) ?_
          refine lv_aload_n hx hb dX3_imageHash_20 rfl (lv_at hl 2 rfl) ?_
          refine lv_iload_n hx hb dX3_imageHash_21 rfl (lv_at hl 3 rfl) ?_
          refine lv_iload hx hb dX3_imageHash_22 (lv_at hl 0 rfl) ?_
          refine bx_ri (va_runV (As := [.int p0, .int k]) (rest := [.int h]) ⟨hx, hb, hml, hown, hts⟩ (c_X3_imageWord l D cA s0 f w σ p0 k) (cwV 2 hts gX3_imageHash_X3_imageWord rfl rfl rfl (by decide +kernel) ⟨Nat.le_of_ble_eq_true rfl, Nat.le_of_ble_eq_true rfl⟩) (bx_pvr (ci := 3) (q0 := 0) hK hG (hP.sub (ws' := [(s0, .inr (3, [.ref f])), (f, .inr (2, [.ref w, .int σ.2.1, .int σ.2.2])), (w, .inl (cA, 66, .inl σ.1))]) [0, 1, 2] rfl) rfl rfl) rfl rfl hl.1 rfl (lv_room (Nat.le_of_ble_eq_true rfl)) dX3_imageHash_24 ⟨Nat.zero_le _, Nat.zero_le _⟩) (fun r_3 h_4 => ?_)
          have h_4 := h_4.symm
          subst h_4
          refine bx_ri (va_runSN (As := [.int h, .int (F_X3_imageWord σ p0 k)]) (rest := []) ⟨hx, hb, hml, hown, hts⟩ (c_X5_hashWith l D h (F_X3_imageWord σ p0 k)) ⟨(va_cnB 2 hts gX3_imageHash_X5_hashWith_n45 rfl rfl rfl (hG.1 (.methodLinkNest RX3 45 yX5_hashWith RX5) (by decide +kernel)) (hts (.initialized RX5) (by decide +kernel)) (by decide +kernel) ⟨Nat.le_of_ble_eq_true rfl, Nat.le_of_ble_eq_true rfl⟩), hts (.static yX5_hashWith) (by decide +kernel), trivial⟩ (bx_psr (hK.sub (tys' := []) [] rfl) hG (hP.sub (ws' := []) [] rfl)) rfl rfl hl.1 rfl (lv_room (Nat.le_of_ble_eq_true rfl)) dX3_imageHash_27 ⟨Nat.zero_le _, Nat.zero_le _⟩) (fun r_5 h_6 => ?_)
          have h_6 := h_6.symm
          subst h_6
          refine lv_istore_n (lv' := [(3, .int (F_X5_hashWith h (F_X3_imageWord σ p0 k))), (4, .int k), (0, .ref s0), (1, .int p0), (2, .int p1)]) hx hb dX3_imageHash_30 rfl hl (by decide) rfl (fun ls hl => ?_)
          refine lv_iinc (v := (k + 1)) (lv' := [(4, .int (k + 1)), (3, .int (F_X5_hashWith h (F_X3_imageWord σ p0 k))), (0, .ref s0), (1, .int p0), (2, .int p1)]) hx hb dX3_imageHash_31 hl (k := 1) rfl rfl (by decide) rfl (fun ls hl => ?_)
          refine lv_goto (tgt := 6) hx hb dX3_imageHash_34 (by decide) ?_
          exact ih6 (j + 1) (F_X5_hashWith h (F_X3_imageWord σ p0 k)) (k + 1) (by omega) (by omega) (by rw [ik]; exact nI_1 j) (by rw [ih, ik]; rfl) ls (lv_sub hl [0, 1, 2, 3, 4] rfl)
  exact loop6 (min p1.toNatClampNeg 24 + 1) 0 17 0 (by omega) (Nat.zero_le _) nI_0.symm rfl ls (lv_sub hl [0, 1, 2, 3, 4] rfl)
def F_X3_canStart (σ : FS) (p0 : Int32) : Int32 := (if (F_X3_slotWord σ p0 0) = 1 then (if (F_X3_slotWord σ p0 2) < 1 then 0 else (if 24 < (F_X3_slotWord σ p0 2) then 0 else (if (F_X3_slotWord σ p0 3) = (F_X3_imageHash σ p0 (F_X3_slotWord σ p0 2)) then 1 else 0))) else 0)
set_option maxHeartbeats 4000000 in
set_option maxRecDepth 100000 in
theorem c_X3_canStart (l : Launch) (D : va_G) (cA : ClassId) (s0 f w : Nat) (σ : FS) (p0 : Int32) : Met l yX3_canStart wsX3_canStart ({ frames := 3, cells := 0, slots := 0, locals := 67 }) (va_Pc [.ref s0, .int p0] (bx_ro D [(cA, .int)] (wSt cA s0 f w σ))) (vp_Si (fun r => r = F_X3_canStart σ p0 ∧ (r = 0 ∨ r = 1))) 0 0 (fun _ => False) := by
  refine Met.ofW (cc := cX3_canStart) (maxL := 3) (ret := (some .boolean)) (by decide) rfl ?_
  intro p e s m args below meth c s₁ B hml hv
  obtain ⟨rfl, hP, hK, hG⟩ := hv
  have hx := B.exec
  have hb := B.bytes
  have hr := B.returns
  have hts := atoms_spec (ws := wsX3_canStart) B.pre
  have hown : s.vm.findClass RX3 = some m.cls := findClass_of_methodNamed B.named
  have hlocks := B.notSynchronized
  have hP : va_P D vwCl [(s0, .inr (3, [.ref f])), (f, .inr (2, [.ref w, .int σ.2.1, .int σ.2.2])), (w, .inl (cA, 66, .inl σ.1))] s.heap := hP
  have hl := lv_entry ([.ref s0, .int p0]) (n := 3) (Nat.le_of_ble_eq_true rfl)
  rw [lg_entry_eq]
  generalize (lg_sl ([.ref s0, .int p0]) ++ List.replicate (3 - (lg_sl ([.ref s0, .int p0])).length) Slot.unset).toArray = ls at hl ⊢
  have hl : lv_has ls 3 [(0, .ref s0), (1, .int p0)] := hl
  refine lv_aload_n hx hb dX3_canStart_0 rfl (lv_at hl 0 rfl) ?_
  refine lv_iload_n hx hb dX3_canStart_1 rfl (lv_at hl 1 rfl) ?_
  refine lv_iconst (v := 2) hx hb dX3_canStart_2 (by decide) ?_
  refine bx_ri (va_runV (As := [.int p0, .int 2]) (rest := []) ⟨hx, hb, hml, hown, hts⟩ (c_X3_slotWord l D cA s0 f w σ p0 2) (cwV 2 hts gX3_canStart_X3_slotWord rfl rfl rfl (by decide +kernel) ⟨Nat.le_of_ble_eq_true rfl, Nat.le_of_ble_eq_true rfl⟩) (bx_pvr (ci := 3) (q0 := 0) hK hG (hP.sub (ws' := [(s0, .inr (3, [.ref f])), (f, .inr (2, [.ref w, .int σ.2.1, .int σ.2.2])), (w, .inl (cA, 66, .inl σ.1))]) [0, 1, 2] rfl) rfl rfl) rfl rfl hl.1 rfl (lv_room (Nat.le_of_ble_eq_true rfl)) dX3_canStart_3 ⟨Nat.zero_le _, Nat.zero_le _⟩) (fun r_1 h_2 => ?_)
  have h_2 := h_2.symm
  subst h_2
  refine lv_istore_n (lv' := [(2, .int (F_X3_slotWord σ p0 2)), (0, .ref s0), (1, .int p0)]) hx hb dX3_canStart_6 rfl hl (by decide) rfl (fun ls hl => ?_)
  refine lv_aload_n hx hb dX3_canStart_7 rfl (lv_at hl 1 rfl) ?_
  refine lv_iload_n hx hb dX3_canStart_8 rfl (lv_at hl 2 rfl) ?_
  refine lv_iconst (v := 0) hx hb dX3_canStart_9 (by decide) ?_
  refine bx_ri (va_runV (As := [.int p0, .int 0]) (rest := []) ⟨hx, hb, hml, hown, hts⟩ (c_X3_slotWord l D cA s0 f w σ p0 0) (cwV 2 hts gX3_canStart_X3_slotWord rfl rfl rfl (by decide +kernel) ⟨Nat.le_of_ble_eq_true rfl, Nat.le_of_ble_eq_true rfl⟩) (bx_pvr (ci := 3) (q0 := 0) hK hG (hP.sub (ws' := [(s0, .inr (3, [.ref f])), (f, .inr (2, [.ref w, .int σ.2.1, .int σ.2.2])), (w, .inl (cA, 66, .inl σ.1))]) [0, 1, 2] rfl) rfl rfl) rfl rfl hl.1 rfl (lv_room (Nat.le_of_ble_eq_true rfl)) dX3_canStart_10 ⟨Nat.zero_le _, Nat.zero_le _⟩) (fun r_3 h_4 => ?_)
  have h_4 := h_4.symm
  subst h_4
  refine lv_iconst (v := 1) hx hb dX3_canStart_13 (by decide) ?_
  refine lv_icmp_ne (tgt := 47) hx hb dX3_canStart_14 (by decide) (fun c_5 => ?_) (fun c_5 => ?_)
  · skip
    refine lv_iconst (v := 0) hx hb dX3_canStart_47 (by decide) ?_
    exact W.zret (v := 0) hx hb hr rfl (fun t ht hW => ⟨0, rfl, ⟨(by simp only [F_X3_canStart, if_neg c_5]), (by decide)⟩, ht⟩) (fun _ h => nomatch h) dX3_canStart_48
  · skip
    refine lv_iload_n hx hb dX3_canStart_17 rfl (lv_at hl 0 rfl) ?_
    refine lv_iconst (v := 1) hx hb dX3_canStart_18 (by decide) ?_
    refine lv_icmp_lt (tgt := 47) hx hb dX3_canStart_19 (by decide) (fun c_6 => ?_) (fun c_6 => ?_)
    · skip
      refine lv_iconst (v := 0) hx hb dX3_canStart_47 (by decide) ?_
      exact W.zret (v := 0) hx hb hr rfl (fun t ht hW => ⟨0, rfl, ⟨(by simp only [F_X3_canStart, if_pos c_5, if_pos c_6]), (by decide)⟩, ht⟩) (fun _ h => nomatch h) dX3_canStart_48
    · skip
      refine lv_iload_n hx hb dX3_canStart_22 rfl (lv_at hl 0 rfl) ?_
      refine lv_bipush (v := 24) hx hb dX3_canStart_23 (by decide) ?_
      refine lv_icmp_gt (tgt := 47) hx hb dX3_canStart_25 (by decide) (fun c_7 => ?_) (fun c_7 => ?_)
      · skip
        refine lv_iconst (v := 0) hx hb dX3_canStart_47 (by decide) ?_
        exact W.zret (v := 0) hx hb hr rfl (fun t ht hW => ⟨0, rfl, ⟨(by simp only [F_X3_canStart, if_pos c_5, if_neg c_6, if_pos c_7]), (by decide)⟩, ht⟩) (fun _ h => nomatch h) dX3_canStart_48
      · skip
        refine lv_aload_n hx hb dX3_canStart_28 rfl (lv_at hl 1 rfl) ?_
        refine lv_iload_n hx hb dX3_canStart_29 rfl (lv_at hl 2 rfl) ?_
        refine lv_iconst (v := 3) hx hb dX3_canStart_30 (by decide) ?_
        refine bx_ri (va_runV (As := [.int p0, .int 3]) (rest := []) ⟨hx, hb, hml, hown, hts⟩ (c_X3_slotWord l D cA s0 f w σ p0 3) (cwV 2 hts gX3_canStart_X3_slotWord rfl rfl rfl (by decide +kernel) ⟨Nat.le_of_ble_eq_true rfl, Nat.le_of_ble_eq_true rfl⟩) (bx_pvr (ci := 3) (q0 := 0) hK hG (hP.sub (ws' := [(s0, .inr (3, [.ref f])), (f, .inr (2, [.ref w, .int σ.2.1, .int σ.2.2])), (w, .inl (cA, 66, .inl σ.1))]) [0, 1, 2] rfl) rfl rfl) rfl rfl hl.1 rfl (lv_room (Nat.le_of_ble_eq_true rfl)) dX3_canStart_31 ⟨Nat.zero_le _, Nat.zero_le _⟩) (fun r_8 h_9 => ?_)
        have h_9 := h_9.symm
        subst h_9
        refine lv_aload_n hx hb dX3_canStart_34 rfl (lv_at hl 1 rfl) ?_
        refine lv_iload_n hx hb dX3_canStart_35 rfl (lv_at hl 2 rfl) ?_
        refine lv_iload_n hx hb dX3_canStart_36 rfl (lv_at hl 0 rfl) ?_
        refine bx_ri (va_runV (As := [.int p0, .int (F_X3_slotWord σ p0 2)]) (rest := [.int (F_X3_slotWord σ p0 3)]) ⟨hx, hb, hml, hown, hts⟩ (c_X3_imageHash l D cA s0 f w σ p0 (F_X3_slotWord σ p0 2)) (cwV 2 hts gX3_canStart_X3_imageHash rfl rfl rfl (by decide +kernel) ⟨Nat.le_of_ble_eq_true rfl, Nat.le_of_ble_eq_true rfl⟩) (bx_pvr (ci := 3) (q0 := 0) hK hG (hP.sub (ws' := [(s0, .inr (3, [.ref f])), (f, .inr (2, [.ref w, .int σ.2.1, .int σ.2.2])), (w, .inl (cA, 66, .inl σ.1))]) [0, 1, 2] rfl) rfl rfl) rfl rfl hl.1 rfl (lv_room (Nat.le_of_ble_eq_true rfl)) dX3_canStart_37 ⟨Nat.zero_le _, Nat.zero_le _⟩) (fun r_10 h_11 => ?_)
        have h_11 := h_11.symm
        subst h_11
        refine lv_icmp_ne (tgt := 47) hx hb dX3_canStart_40 (by decide) (fun c_12 => ?_) (fun c_12 => ?_)
        · skip
          refine lv_iconst (v := 0) hx hb dX3_canStart_47 (by decide) ?_
          exact W.zret (v := 0) hx hb hr rfl (fun t ht hW => ⟨0, rfl, ⟨(by simp only [F_X3_canStart, if_pos c_5, if_neg c_6, if_neg c_7, if_neg c_12]), (by decide)⟩, ht⟩) (fun _ h => nomatch h) dX3_canStart_48
        · skip
          refine lv_iconst (v := 1) hx hb dX3_canStart_43 (by decide) ?_
          refine lv_goto (tgt := 48) hx hb dX3_canStart_44 (by decide) ?_
          exact W.zret (v := 1) hx hb hr rfl (fun t ht hW => ⟨1, rfl, ⟨(by simp only [F_X3_canStart, if_pos c_5, if_neg c_6, if_neg c_7, if_pos c_12]), (by decide)⟩, ht⟩) (fun _ h => nomatch h) dX3_canStart_48
def F_X3_checkOf (p0 : Int32) (p1 : Int32) (p2 : Int32) : Int32 := (1 + ((((7 * p0) + (13 * p1)) + (29 * p2)) - (((7 * p0) + (13 * p1)) + (29 * p2)) / 250 * 250))
set_option maxHeartbeats 4000000 in
set_option maxRecDepth 100000 in
theorem c_X3_checkOf (l : Launch) (D : va_G) (p0 : Int32) (p1 : Int32) (p2 : Int32) : Met l yX3_checkOf wsX3_checkOf ({ frames := 0, cells := 0, slots := 0, locals := 0 }) (va_Pc [.int p0, .int p1, .int p2] (bx_ro D [] (wNil))) (vp_Si (fun r => r = F_X3_checkOf p0 p1 p2)) 0 0 (fun _ => False) := by
  refine Met.ofW (cc := cX3_checkOf) (maxL := 3) (ret := (some .int)) (by decide) rfl ?_
  intro p e s m args below meth c s₁ B hml hv
  obtain ⟨rfl, hP, hK, hG⟩ := hv
  have hx := B.exec
  have hb := B.bytes
  have hr := B.returns
  have hts := atoms_spec (ws := wsX3_checkOf) B.pre
  have hown : s.vm.findClass RX3 = some m.cls := findClass_of_methodNamed B.named
  have hlocks := B.notSynchronized
  have hP : va_P D vwCl [] s.heap := hP
  have hl := lv_entry ([.int p0, .int p1, .int p2]) (n := 3) (Nat.le_of_ble_eq_true rfl)
  rw [lg_entry_eq]
  generalize (lg_sl ([.int p0, .int p1, .int p2]) ++ List.replicate (3 - (lg_sl ([.int p0, .int p1, .int p2])).length) Slot.unset).toArray = ls at hl ⊢
  have hl : lv_has ls 3 [(0, .int p0), (1, .int p1), (2, .int p2)] := hl
  refine lv_iconst (v := 1) hx hb dX3_checkOf_0 (by decide) ?_
  refine lv_bipush (v := 7) hx hb dX3_checkOf_1 (by decide) ?_
  refine lv_iload_n hx hb dX3_checkOf_3 rfl (lv_at hl 0 rfl) ?_
  refine lv_imul hx hb dX3_checkOf_4 ?_
  refine lv_bipush (v := 13) hx hb dX3_checkOf_5 (by decide) ?_
  refine lv_iload_n hx hb dX3_checkOf_7 rfl (lv_at hl 1 rfl) ?_
  refine lv_imul hx hb dX3_checkOf_8 ?_
  refine lv_iadd hx hb dX3_checkOf_9 ?_
  refine lv_bipush (v := 29) hx hb dX3_checkOf_10 (by decide) ?_
  refine lv_iload_n hx hb dX3_checkOf_12 rfl (lv_at hl 2 rfl) ?_
  refine lv_imul hx hb dX3_checkOf_13 ?_
  refine lv_iadd hx hb dX3_checkOf_14 ?_
  refine lv_sipush (v := 250) hx hb dX3_checkOf_15 (by decide) ?_
  refine lv_irem hx hb dX3_checkOf_18 (by decide) ?_
  refine lv_iadd hx hb dX3_checkOf_19 ?_
  exact W.iret (v := (1 + ((((7 * p0) + (13 * p1)) + (29 * p2)) - (((7 * p0) + (13 * p1)) + (29 * p2)) / 250 * 250))) hx hb hr (fun t ht hW => ⟨(1 + ((((7 * p0) + (13 * p1)) + (29 * p2)) - (((7 * p0) + (13 * p1)) + (29 * p2)) / 250 * 250)), rfl, rfl, ht⟩) (fun _ h => nomatch h) dX3_checkOf_20
def F_X3_recordWord (σ : FS) (p0 : Int32) (p1 : Int32) : Int32 := (F_X2_read σ ((58 + (p0 * 4)) + p1))
set_option maxHeartbeats 4000000 in
set_option maxRecDepth 100000 in
theorem c_X3_recordWord (l : Launch) (D : va_G) (cA : ClassId) (s0 f w : Nat) (σ : FS) (p0 : Int32) (p1 : Int32) : Met l yX3_recordWord wsX3_recordWord ({ frames := 1, cells := 0, slots := 0, locals := 21 }) (va_Pc [.ref s0, .int p0, .int p1] (bx_ro D [(cA, .int)] (wSt cA s0 f w σ))) (vp_Si (fun r => r = F_X3_recordWord σ p0 p1)) 0 0 (fun _ => False) := by
  refine Met.ofW (cc := cX3_recordWord) (maxL := 3) (ret := (some .int)) (by decide) rfl ?_
  intro p e s m args below meth c s₁ B hml hv
  obtain ⟨rfl, hP, hK, hG⟩ := hv
  have hx := B.exec
  have hb := B.bytes
  have hr := B.returns
  have hts := atoms_spec (ws := wsX3_recordWord) B.pre
  have hown : s.vm.findClass RX3 = some m.cls := findClass_of_methodNamed B.named
  have hlocks := B.notSynchronized
  have hP : va_P D vwCl [(s0, .inr (3, [.ref f])), (f, .inr (2, [.ref w, .int σ.2.1, .int σ.2.2])), (w, .inl (cA, 66, .inl σ.1))] s.heap := hP
  have hl := lv_entry ([.ref s0, .int p0, .int p1]) (n := 3) (Nat.le_of_ble_eq_true rfl)
  rw [lg_entry_eq]
  generalize (lg_sl ([.ref s0, .int p0, .int p1]) ++ List.replicate (3 - (lg_sl ([.ref s0, .int p0, .int p1])).length) Slot.unset).toArray = ls at hl ⊢
  have hl : lv_has ls 3 [(0, .ref s0), (1, .int p0), (2, .int p1)] := hl
  have hi3 : ∀ w ∈ u_ws RX3 TX3 1, w ∈ wsX3_recordWord := by decide +kernel
  refine lv_aload_n hx hb dX3_recordWord_0 rfl (lv_at hl 0 rfl) ?_
  refine va_get (D := D) (ci := 3) (v := .ref f) (C := RX3) (T := TX3) (N := 1) hx hb hts hi3 hown hK hP 0 rfl rfl 0 (by decide) (hts (.fieldLink RX3 14 "Bootstay$Store" "flash" "LBootstay$Flash;") (by decide +kernel)) (fun _ h9 => h9) rfl dX3_recordWord_1 ?_
  refine lv_bipush (v := 58) hx hb dX3_recordWord_4 (by decide) ?_
  refine lv_iload_n hx hb dX3_recordWord_6 rfl (lv_at hl 1 rfl) ?_
  refine lv_iconst (v := 4) hx hb dX3_recordWord_7 (by decide) ?_
  refine lv_imul hx hb dX3_recordWord_8 ?_
  refine lv_iadd hx hb dX3_recordWord_9 ?_
  refine lv_iload_n hx hb dX3_recordWord_10 rfl (lv_at hl 2 rfl) ?_
  refine lv_iadd hx hb dX3_recordWord_11 ?_
  refine bx_ri (va_runV (As := [.int ((58 + (p0 * 4)) + p1)]) (rest := []) ⟨hx, hb, hml, hown, hts⟩ (c_X2_read l D cA f w σ ((58 + (p0 * 4)) + p1)) (cwV 1 hts gX3_recordWord_X2_read rfl rfl rfl (by decide +kernel) ⟨Nat.le_of_ble_eq_true rfl, Nat.le_of_ble_eq_true rfl⟩) (bx_pvr (ci := 2) (q0 := 0) hK hG (hP.sub (ws' := [(f, .inr (2, [.ref w, .int σ.2.1, .int σ.2.2])), (w, .inl (cA, 66, .inl σ.1))]) [1, 2] rfl) rfl rfl) rfl rfl hl.1 rfl (lv_room (Nat.le_of_ble_eq_true rfl)) dX3_recordWord_12 ⟨Nat.zero_le _, Nat.zero_le _⟩) (fun r_1 h_2 => ?_)
  have h_2 := h_2.symm
  subst h_2
  exact W.iret (v := (F_X2_read σ ((58 + (p0 * 4)) + p1))) hx hb hr (fun t ht hW => ⟨(F_X2_read σ ((58 + (p0 * 4)) + p1)), rfl, rfl, ht⟩) (fun _ h => nomatch h) dX3_recordWord_15
def F_X3_writeRecordWord (σ : FS) (p0 : Int32) (p1 : Int32) (p2 : Int32) : Int32 × (FS) := (match (F_X2_write σ ((58 + (p0 * 4)) + p1) p2) with | (r_3, u_2) => (r_3, u_2))
set_option maxHeartbeats 4000000 in
set_option maxRecDepth 100000 in
theorem c_X3_writeRecordWord (l : Launch) (D : va_G) (cA : ClassId) (s0 f w : Nat) (sz : Nat) (σ : FS) (p0 : Int32) (p1 : Int32) (p2 : Int32) : Met l yX3_writeRecordWord wsX3_writeRecordWord ({ frames := 2, cells := 0, slots := 0, locals := 44 }) (va_Pc [.ref s0, .int p0, .int p1, .int p2] (bx_pre D [(cA, .int)] (wSt cA s0 f w σ) sz)) (va_Qi (fun r u => (r, u) = F_X3_writeRecordWord σ p0 p1 p2 ∧ (r = 0 ∨ r = 1)) (fun u t => bx_at D (wSt cA s0 f w u) (va_A (wSt cA s0 f w σ) sz) t) (va_A (wSt cA s0 f w σ) sz)) 0 0 (va_A (wSt cA s0 f w σ) sz) := by
  refine Met.ofW (cc := cX3_writeRecordWord) (maxL := 4) (ret := (some .boolean)) (by decide) rfl ?_
  intro p e s m args below meth c s₁ B hml hv
  obtain ⟨rfl, hsz, hP, hK, hD0, hG⟩ := hv
  have hx := B.exec
  have hb := B.bytes
  have hr := B.returns
  have hts := atoms_spec (ws := wsX3_writeRecordWord) B.pre
  have hown : s.vm.findClass RX3 = some m.cls := findClass_of_methodNamed B.named
  have hlocks := B.notSynchronized
  subst hsz
  have hD := hD0.self (sz := s.heap.size)
  generalize hAe : va_A (wSt cA s0 f w σ) s.heap.size = A at hD ⊢
  have hA : ∀ q : Nat, s.heap.size ≤ q → A q := fun q h => by rw [← hAe]; exact Or.inr h
  have hS : va_S A s.heap s.heap [] := va_S.rf
  have hD : va_D A [(s0, .inr (3, [.ref f])), (f, .inr (2, [.ref w, .int σ.2.1, .int σ.2.2])), (w, .inl (cA, 66, .inl σ.1))] := hD
  have hP : va_P D vwCl [(s0, .inr (3, [.ref f])), (f, .inr (2, [.ref w, .int σ.2.1, .int σ.2.2])), (w, .inl (cA, 66, .inl σ.1))] s.heap := hP
  have hl := lv_entry ([.ref s0, .int p0, .int p1, .int p2]) (n := 4) (Nat.le_of_ble_eq_true rfl)
  rw [lg_entry_eq]
  generalize (lg_sl ([.ref s0, .int p0, .int p1, .int p2]) ++ List.replicate (4 - (lg_sl ([.ref s0, .int p0, .int p1, .int p2])).length) Slot.unset).toArray = ls at hl ⊢
  have hl : lv_has ls 4 [(0, .ref s0), (1, .int p0), (2, .int p1), (3, .int p2)] := hl
  have hi3 : ∀ w ∈ u_ws RX3 TX3 1, w ∈ wsX3_writeRecordWord := by decide +kernel
  refine lv_aload_n hx hb dX3_writeRecordWord_0 rfl (lv_at hl 0 rfl) ?_
  refine va_get (D := D) (ci := 3) (v := .ref f) (C := RX3) (T := TX3) (N := 1) hx hb hts hi3 hown hK hP 0 rfl rfl 0 (by decide) (hts (.fieldLink RX3 14 "Bootstay$Store" "flash" "LBootstay$Flash;") (by decide +kernel)) (fun _ h9 => h9) rfl dX3_writeRecordWord_1 ?_
  refine lv_bipush (v := 58) hx hb dX3_writeRecordWord_4 (by decide) ?_
  refine lv_iload_n hx hb dX3_writeRecordWord_6 rfl (lv_at hl 1 rfl) ?_
  refine lv_iconst (v := 4) hx hb dX3_writeRecordWord_7 (by decide) ?_
  refine lv_imul hx hb dX3_writeRecordWord_8 ?_
  refine lv_iadd hx hb dX3_writeRecordWord_9 ?_
  refine lv_iload_n hx hb dX3_writeRecordWord_10 rfl (lv_at hl 2 rfl) ?_
  refine lv_iadd hx hb dX3_writeRecordWord_11 ?_
  refine lv_iload_n hx hb dX3_writeRecordWord_12 rfl (lv_at hl 3 rfl) ?_
  refine bx_wi (wc := [(f, .inr (2, [.ref w, .int σ.2.1, .int σ.2.2])), (w, .inl (cA, 66, .inl σ.1))]) (wr := [(s0, .inr (3, [.ref f]))]) (wf := fun (u : (FS)) => [(f, .inr (2, [.ref w, .int u.2.1, .int u.2.2])), (w, .inl (cA, 66, .inl u.1))]) (wn := fun (u : (FS)) => [(s0, .inr (3, [.ref f])), (f, .inr (2, [.ref w, .int u.2.1, .int u.2.2])), (w, .inl (cA, 66, .inl u.1))]) hP hD hS hA [1, 2] [0] [0, 1, 2] rfl rfl (by decide) (by decide) (fun u => rfl) (by decide) (va_runV (As := [.int ((58 + (p0 * 4)) + p1), .int p2]) (rest := []) ⟨hx, hb, hml, hown, hts⟩ (c_X2_write l D cA f w s.heap.size σ ((58 + (p0 * 4)) + p1) p2) (cwV 2 hts gX3_writeRecordWord_X2_write rfl rfl rfl (by decide +kernel) ⟨Nat.le_of_ble_eq_true rfl, Nat.le_of_ble_eq_true rfl⟩) (bx_pv (ci := 2) (q0 := 0) hK hG (hP.sub (ws' := [(f, .inr (2, [.ref w, .int σ.2.1, .int σ.2.2])), (w, .inl (cA, 66, .inl σ.1))]) [1, 2] rfl) (hD.sub (ws' := [(f, .inr (2, [.ref w, .int σ.2.1, .int σ.2.2])), (w, .inl (cA, 66, .inl σ.1))]) [1, 2] (by decide) rfl) rfl rfl) rfl rfl hl.1 rfl (lv_room (Nat.le_of_ble_eq_true rfl)) dX3_writeRecordWord_13 ⟨Nat.zero_le _, Nat.zero_le _⟩) (fun r_3 u_2 H locs h_1 hP hD hS => ?_)
  obtain ⟨h_1, b_5⟩ := h_1
  have hP : va_P D vwCl [(s0, .inr (3, [.ref f])), (f, .inr (2, [.ref w, .int u_2.2.1, .int u_2.2.2])), (w, .inl (cA, 66, .inl u_2.1))] H := hP
  have hD : va_D A [(s0, .inr (3, [.ref f])), (f, .inr (2, [.ref w, .int u_2.2.1, .int u_2.2.2])), (w, .inl (cA, 66, .inl u_2.1))] := hD
  exact W.zret (v := r_3) hx hb hr (bx_nb b_5) (fun t ht hW => ⟨⟨r_3, u_2, rfl, ⟨(by simp only [F_X3_writeRecordWord, ← h_1]), b_5⟩, ⟨by rw [ht]; exact hP, hD⟩⟩, hS.F ht⟩) hS.2.2 dX3_writeRecordWord_16
def F_X3_isRecordValid (σ : FS) (p0 : Int32) : Int32 := (if (F_X3_recordWord σ p0 0) = (F_X3_checkOf (F_X3_recordWord σ p0 1) (F_X3_recordWord σ p0 2) (F_X3_recordWord σ p0 3)) then 1 else 0)
set_option maxHeartbeats 4000000 in
set_option maxRecDepth 100000 in
theorem c_X3_isRecordValid (l : Launch) (D : va_G) (cA : ClassId) (s0 f w : Nat) (σ : FS) (p0 : Int32) : Met l yX3_isRecordValid wsX3_isRecordValid ({ frames := 2, cells := 0, slots := 0, locals := 43 }) (va_Pc [.ref s0, .int p0] (bx_ro D [(cA, .int)] (wSt cA s0 f w σ))) (vp_Si (fun r => r = F_X3_isRecordValid σ p0 ∧ (r = 0 ∨ r = 1))) 0 0 (fun _ => False) := by
  refine Met.ofW (cc := cX3_isRecordValid) (maxL := 2) (ret := (some .boolean)) (by decide) rfl ?_
  intro p e s m args below meth c s₁ B hml hv
  obtain ⟨rfl, hP, hK, hG⟩ := hv
  have hx := B.exec
  have hb := B.bytes
  have hr := B.returns
  have hts := atoms_spec (ws := wsX3_isRecordValid) B.pre
  have hown : s.vm.findClass RX3 = some m.cls := findClass_of_methodNamed B.named
  have hlocks := B.notSynchronized
  have hP : va_P D vwCl [(s0, .inr (3, [.ref f])), (f, .inr (2, [.ref w, .int σ.2.1, .int σ.2.2])), (w, .inl (cA, 66, .inl σ.1))] s.heap := hP
  have hl := lv_entry ([.ref s0, .int p0]) (n := 2) (Nat.le_of_ble_eq_true rfl)
  rw [lg_entry_eq]
  generalize (lg_sl ([.ref s0, .int p0]) ++ List.replicate (2 - (lg_sl ([.ref s0, .int p0])).length) Slot.unset).toArray = ls at hl ⊢
  have hl : lv_has ls 2 [(0, .ref s0), (1, .int p0)] := hl
  refine lv_aload_n hx hb dX3_isRecordValid_0 rfl (lv_at hl 0 rfl) ?_
  refine lv_iload_n hx hb dX3_isRecordValid_1 rfl (lv_at hl 1 rfl) ?_
  refine lv_iconst (v := 0) hx hb dX3_isRecordValid_2 (by decide) ?_
  refine bx_ri (va_runV (As := [.int p0, .int 0]) (rest := []) ⟨hx, hb, hml, hown, hts⟩ (c_X3_recordWord l D cA s0 f w σ p0 0) (cwV 2 hts gX3_isRecordValid_X3_recordWord rfl rfl rfl (by decide +kernel) ⟨Nat.le_of_ble_eq_true rfl, Nat.le_of_ble_eq_true rfl⟩) (bx_pvr (ci := 3) (q0 := 0) hK hG (hP.sub (ws' := [(s0, .inr (3, [.ref f])), (f, .inr (2, [.ref w, .int σ.2.1, .int σ.2.2])), (w, .inl (cA, 66, .inl σ.1))]) [0, 1, 2] rfl) rfl rfl) rfl rfl hl.1 rfl (lv_room (Nat.le_of_ble_eq_true rfl)) dX3_isRecordValid_3 ⟨Nat.zero_le _, Nat.zero_le _⟩) (fun r_1 h_2 => ?_)
  have h_2 := h_2.symm
  subst h_2
  refine lv_aload_n hx hb dX3_isRecordValid_6 rfl (lv_at hl 0 rfl) ?_
  refine lv_iload_n hx hb dX3_isRecordValid_7 rfl (lv_at hl 1 rfl) ?_
  refine lv_iconst (v := 1) hx hb dX3_isRecordValid_8 (by decide) ?_
  refine bx_ri (va_runV (As := [.int p0, .int 1]) (rest := [.int (F_X3_recordWord σ p0 0)]) ⟨hx, hb, hml, hown, hts⟩ (c_X3_recordWord l D cA s0 f w σ p0 1) (cwV 2 hts gX3_isRecordValid_X3_recordWord rfl rfl rfl (by decide +kernel) ⟨Nat.le_of_ble_eq_true rfl, Nat.le_of_ble_eq_true rfl⟩) (bx_pvr (ci := 3) (q0 := 0) hK hG (hP.sub (ws' := [(s0, .inr (3, [.ref f])), (f, .inr (2, [.ref w, .int σ.2.1, .int σ.2.2])), (w, .inl (cA, 66, .inl σ.1))]) [0, 1, 2] rfl) rfl rfl) rfl rfl hl.1 rfl (lv_room (Nat.le_of_ble_eq_true rfl)) dX3_isRecordValid_9 ⟨Nat.zero_le _, Nat.zero_le _⟩) (fun r_3 h_4 => ?_)
  have h_4 := h_4.symm
  subst h_4
  refine lv_aload_n hx hb dX3_isRecordValid_12 rfl (lv_at hl 0 rfl) ?_
  refine lv_iload_n hx hb dX3_isRecordValid_13 rfl (lv_at hl 1 rfl) ?_
  refine lv_iconst (v := 2) hx hb dX3_isRecordValid_14 (by decide) ?_
  refine bx_ri (va_runV (As := [.int p0, .int 2]) (rest := [.int (F_X3_recordWord σ p0 1), .int (F_X3_recordWord σ p0 0)]) ⟨hx, hb, hml, hown, hts⟩ (c_X3_recordWord l D cA s0 f w σ p0 2) (cwV 2 hts gX3_isRecordValid_X3_recordWord rfl rfl rfl (by decide +kernel) ⟨Nat.le_of_ble_eq_true rfl, Nat.le_of_ble_eq_true rfl⟩) (bx_pvr (ci := 3) (q0 := 0) hK hG (hP.sub (ws' := [(s0, .inr (3, [.ref f])), (f, .inr (2, [.ref w, .int σ.2.1, .int σ.2.2])), (w, .inl (cA, 66, .inl σ.1))]) [0, 1, 2] rfl) rfl rfl) rfl rfl hl.1 rfl (lv_room (Nat.le_of_ble_eq_true rfl)) dX3_isRecordValid_15 ⟨Nat.zero_le _, Nat.zero_le _⟩) (fun r_5 h_6 => ?_)
  have h_6 := h_6.symm
  subst h_6
  refine lv_aload_n hx hb dX3_isRecordValid_18 rfl (lv_at hl 0 rfl) ?_
  refine lv_iload_n hx hb dX3_isRecordValid_19 rfl (lv_at hl 1 rfl) ?_
  refine lv_iconst (v := 3) hx hb dX3_isRecordValid_20 (by decide) ?_
  refine bx_ri (va_runV (As := [.int p0, .int 3]) (rest := [.int (F_X3_recordWord σ p0 2), .int (F_X3_recordWord σ p0 1), .int (F_X3_recordWord σ p0 0)]) ⟨hx, hb, hml, hown, hts⟩ (c_X3_recordWord l D cA s0 f w σ p0 3) (cwV 2 hts gX3_isRecordValid_X3_recordWord rfl rfl rfl (by decide +kernel) ⟨Nat.le_of_ble_eq_true rfl, Nat.le_of_ble_eq_true rfl⟩) (bx_pvr (ci := 3) (q0 := 0) hK hG (hP.sub (ws' := [(s0, .inr (3, [.ref f])), (f, .inr (2, [.ref w, .int σ.2.1, .int σ.2.2])), (w, .inl (cA, 66, .inl σ.1))]) [0, 1, 2] rfl) rfl rfl) rfl rfl hl.1 rfl (lv_room (Nat.le_of_ble_eq_true rfl)) dX3_isRecordValid_21 ⟨Nat.zero_le _, Nat.zero_le _⟩) (fun r_7 h_8 => ?_)
  have h_8 := h_8.symm
  subst h_8
  refine bx_ri (va_runS (As := [.int (F_X3_recordWord σ p0 1), .int (F_X3_recordWord σ p0 2), .int (F_X3_recordWord σ p0 3)]) (rest := [.int (F_X3_recordWord σ p0 0)]) ⟨hx, hb, hml, hown, hts⟩ (c_X3_checkOf l D (F_X3_recordWord σ p0 1) (F_X3_recordWord σ p0 2) (F_X3_recordWord σ p0 3)) (va_cwS 3 hts gX3_isRecordValid_X3_checkOf rfl rfl rfl (by decide +kernel) ⟨Nat.le_of_ble_eq_true rfl, Nat.le_of_ble_eq_true rfl⟩) (bx_psr (hK.sub (tys' := []) [] rfl) hG (hP.sub (ws' := []) [] rfl)) rfl rfl hl.1 rfl (lv_room (Nat.le_of_ble_eq_true rfl)) dX3_isRecordValid_24 ⟨Nat.zero_le _, Nat.zero_le _⟩) (fun r_9 h_10 => ?_)
  have h_10 := h_10.symm
  subst h_10
  refine lv_icmp_ne (tgt := 34) hx hb dX3_isRecordValid_27 (by decide) (fun c_11 => ?_) (fun c_11 => ?_)
  · skip
    refine lv_iconst (v := 0) hx hb dX3_isRecordValid_34 (by decide) ?_
    exact W.zret (v := 0) hx hb hr rfl (fun t ht hW => ⟨0, rfl, ⟨(by simp only [F_X3_isRecordValid, if_neg c_11]), (by decide)⟩, ht⟩) (fun _ h => nomatch h) dX3_isRecordValid_35
  · skip
    refine lv_iconst (v := 1) hx hb dX3_isRecordValid_30 (by decide) ?_
    refine lv_goto (tgt := 35) hx hb dX3_isRecordValid_31 (by decide) ?_
    exact W.zret (v := 1) hx hb hr rfl (fun t ht hW => ⟨1, rfl, ⟨(by simp only [F_X3_isRecordValid, if_pos c_11]), (by decide)⟩, ht⟩) (fun _ h => nomatch h) dX3_isRecordValid_35
def F_X3_recordInForce (σ : FS) : Int32 := (if (F_X3_isRecordValid σ 1) = 0 then 0 else (if (F_X3_isRecordValid σ 0) = 0 then 1 else (if (F_X3_recordWord σ 1 1) ≤ (F_X3_recordWord σ 0 1) then 0 else 1)))
set_option maxHeartbeats 4000000 in
set_option maxRecDepth 100000 in
theorem c_X3_recordInForce (l : Launch) (D : va_G) (cA : ClassId) (s0 f w : Nat) (σ : FS) : Met l yX3_recordInForce wsX3_recordInForce ({ frames := 3, cells := 0, slots := 0, locals := 64 }) (va_Pc [.ref s0] (bx_ro D [(cA, .int)] (wSt cA s0 f w σ))) (vp_Si (fun r => r = F_X3_recordInForce σ)) 0 0 (fun _ => False) := by
  refine Met.ofW (cc := cX3_recordInForce) (maxL := 1) (ret := (some .int)) (by decide) rfl ?_
  intro p e s m args below meth c s₁ B hml hv
  obtain ⟨rfl, hP, hK, hG⟩ := hv
  have hx := B.exec
  have hb := B.bytes
  have hr := B.returns
  have hts := atoms_spec (ws := wsX3_recordInForce) B.pre
  have hown : s.vm.findClass RX3 = some m.cls := findClass_of_methodNamed B.named
  have hlocks := B.notSynchronized
  have hP : va_P D vwCl [(s0, .inr (3, [.ref f])), (f, .inr (2, [.ref w, .int σ.2.1, .int σ.2.2])), (w, .inl (cA, 66, .inl σ.1))] s.heap := hP
  have hl := lv_entry ([.ref s0]) (n := 1) (Nat.le_of_ble_eq_true rfl)
  rw [lg_entry_eq]
  generalize (lg_sl ([.ref s0]) ++ List.replicate (1 - (lg_sl ([.ref s0])).length) Slot.unset).toArray = ls at hl ⊢
  have hl : lv_has ls 1 [(0, .ref s0)] := hl
  refine lv_aload_n hx hb dX3_recordInForce_0 rfl (lv_at hl 0 rfl) ?_
  refine lv_iconst (v := 1) hx hb dX3_recordInForce_1 (by decide) ?_
  refine bx_ri (va_runV (As := [.int 1]) (rest := []) ⟨hx, hb, hml, hown, hts⟩ (c_X3_isRecordValid l D cA s0 f w σ 1) (cwV 1 hts gX3_recordInForce_X3_isRecordValid rfl rfl rfl (by decide +kernel) ⟨Nat.le_of_ble_eq_true rfl, Nat.le_of_ble_eq_true rfl⟩) (bx_pvr (ci := 3) (q0 := 0) hK hG (hP.sub (ws' := [(s0, .inr (3, [.ref f])), (f, .inr (2, [.ref w, .int σ.2.1, .int σ.2.2])), (w, .inl (cA, 66, .inl σ.1))]) [0, 1, 2] rfl) rfl rfl) rfl rfl hl.1 rfl (lv_room (Nat.le_of_ble_eq_true rfl)) dX3_recordInForce_2 ⟨Nat.zero_le _, Nat.zero_le _⟩) (fun r_1 h_2 => ?_)
  obtain ⟨h_2, b_3⟩ := h_2
  have h_2 := h_2.symm
  subst h_2
  refine lv_if_ne (tgt := 10) hx hb dX3_recordInForce_5 (by decide) (fun c_4 => ?_) (fun c_4 => ?_)
  · skip
    refine lv_aload_n hx hb dX3_recordInForce_10 rfl (lv_at hl 0 rfl) ?_
    refine lv_iconst (v := 0) hx hb dX3_recordInForce_11 (by decide) ?_
    refine bx_ri (va_runV (As := [.int 0]) (rest := []) ⟨hx, hb, hml, hown, hts⟩ (c_X3_isRecordValid l D cA s0 f w σ 0) (cwV 1 hts gX3_recordInForce_X3_isRecordValid rfl rfl rfl (by decide +kernel) ⟨Nat.le_of_ble_eq_true rfl, Nat.le_of_ble_eq_true rfl⟩) (bx_pvr (ci := 3) (q0 := 0) hK hG (hP.sub (ws' := [(s0, .inr (3, [.ref f])), (f, .inr (2, [.ref w, .int σ.2.1, .int σ.2.2])), (w, .inl (cA, 66, .inl σ.1))]) [0, 1, 2] rfl) rfl rfl) rfl rfl hl.1 rfl (lv_room (Nat.le_of_ble_eq_true rfl)) dX3_recordInForce_12 ⟨Nat.zero_le _, Nat.zero_le _⟩) (fun r_5 h_6 => ?_)
    obtain ⟨h_6, b_7⟩ := h_6
    have h_6 := h_6.symm
    subst h_6
    refine lv_if_ne (tgt := 20) hx hb dX3_recordInForce_15 (by decide) (fun c_8 => ?_) (fun c_8 => ?_)
    · skip
      refine lv_aload_n hx hb dX3_recordInForce_20 rfl (lv_at hl 0 rfl) ?_
      refine lv_iconst (v := 1) hx hb dX3_recordInForce_21 (by decide) ?_
      refine lv_iconst (v := 1) hx hb dX3_recordInForce_22 (by decide) ?_
      refine bx_ri (va_runV (As := [.int 1, .int 1]) (rest := []) ⟨hx, hb, hml, hown, hts⟩ (c_X3_recordWord l D cA s0 f w σ 1 1) (cwV 2 hts gX3_recordInForce_X3_recordWord rfl rfl rfl (by decide +kernel) ⟨Nat.le_of_ble_eq_true rfl, Nat.le_of_ble_eq_true rfl⟩) (bx_pvr (ci := 3) (q0 := 0) hK hG (hP.sub (ws' := [(s0, .inr (3, [.ref f])), (f, .inr (2, [.ref w, .int σ.2.1, .int σ.2.2])), (w, .inl (cA, 66, .inl σ.1))]) [0, 1, 2] rfl) rfl rfl) rfl rfl hl.1 rfl (lv_room (Nat.le_of_ble_eq_true rfl)) dX3_recordInForce_23 ⟨Nat.zero_le _, Nat.zero_le _⟩) (fun r_9 h_10 => ?_)
      have h_10 := h_10.symm
      subst h_10
      refine lv_aload_n hx hb dX3_recordInForce_26 rfl (lv_at hl 0 rfl) ?_
      refine lv_iconst (v := 0) hx hb dX3_recordInForce_27 (by decide) ?_
      refine lv_iconst (v := 1) hx hb dX3_recordInForce_28 (by decide) ?_
      refine bx_ri (va_runV (As := [.int 0, .int 1]) (rest := [.int (F_X3_recordWord σ 1 1)]) ⟨hx, hb, hml, hown, hts⟩ (c_X3_recordWord l D cA s0 f w σ 0 1) (cwV 2 hts gX3_recordInForce_X3_recordWord rfl rfl rfl (by decide +kernel) ⟨Nat.le_of_ble_eq_true rfl, Nat.le_of_ble_eq_true rfl⟩) (bx_pvr (ci := 3) (q0 := 0) hK hG (hP.sub (ws' := [(s0, .inr (3, [.ref f])), (f, .inr (2, [.ref w, .int σ.2.1, .int σ.2.2])), (w, .inl (cA, 66, .inl σ.1))]) [0, 1, 2] rfl) rfl rfl) rfl rfl hl.1 rfl (lv_room (Nat.le_of_ble_eq_true rfl)) dX3_recordInForce_29 ⟨Nat.zero_le _, Nat.zero_le _⟩) (fun r_11 h_12 => ?_)
      have h_12 := h_12.symm
      subst h_12
      refine lv_icmp_le (tgt := 39) hx hb dX3_recordInForce_32 (by decide) (fun c_13 => ?_) (fun c_13 => ?_)
      · skip
        refine lv_iconst (v := 0) hx hb dX3_recordInForce_39 (by decide) ?_
        exact W.iret (v := 0) hx hb hr (fun t ht hW => ⟨0, rfl, (by simp only [F_X3_recordInForce, if_neg c_4, if_neg c_8, if_pos c_13]), ht⟩) (fun _ h => nomatch h) dX3_recordInForce_40
      · skip
        refine lv_iconst (v := 1) hx hb dX3_recordInForce_35 (by decide) ?_
        refine lv_goto (tgt := 40) hx hb dX3_recordInForce_36 (by decide) ?_
        exact W.iret (v := 1) hx hb hr (fun t ht hW => ⟨1, rfl, (by simp only [F_X3_recordInForce, if_neg c_4, if_neg c_8, if_neg c_13]), ht⟩) (fun _ h => nomatch h) dX3_recordInForce_40
    · skip
      refine lv_iconst (v := 1) hx hb dX3_recordInForce_18 (by decide) ?_
      exact W.iret (v := 1) hx hb hr (fun t ht hW => ⟨1, rfl, (by simp only [F_X3_recordInForce, if_neg c_4, if_pos c_8]), ht⟩) (fun _ h => nomatch h) dX3_recordInForce_19
  · skip
    refine lv_iconst (v := 0) hx hb dX3_recordInForce_8 (by decide) ?_
    exact W.iret (v := 0) hx hb hr (fun t ht hW => ⟨0, rfl, (by simp only [F_X3_recordInForce, if_pos c_4]), ht⟩) (fun _ h => nomatch h) dX3_recordInForce_9
def F_X3_recordCounter (σ : FS) : Int32 := (F_X3_recordWord σ (F_X3_recordInForce σ) 3)
set_option maxHeartbeats 4000000 in
set_option maxRecDepth 100000 in
theorem c_X3_recordCounter (l : Launch) (D : va_G) (cA : ClassId) (s0 f w : Nat) (σ : FS) : Met l yX3_recordCounter wsX3_recordCounter ({ frames := 4, cells := 0, slots := 0, locals := 84 }) (va_Pc [.ref s0] (bx_ro D [(cA, .int)] (wSt cA s0 f w σ))) (vp_Si (fun r => r = F_X3_recordCounter σ)) 0 0 (fun _ => False) := by
  refine Met.ofW (cc := cX3_recordCounter) (maxL := 1) (ret := (some .int)) (by decide) rfl ?_
  intro p e s m args below meth c s₁ B hml hv
  obtain ⟨rfl, hP, hK, hG⟩ := hv
  have hx := B.exec
  have hb := B.bytes
  have hr := B.returns
  have hts := atoms_spec (ws := wsX3_recordCounter) B.pre
  have hown : s.vm.findClass RX3 = some m.cls := findClass_of_methodNamed B.named
  have hlocks := B.notSynchronized
  have hP : va_P D vwCl [(s0, .inr (3, [.ref f])), (f, .inr (2, [.ref w, .int σ.2.1, .int σ.2.2])), (w, .inl (cA, 66, .inl σ.1))] s.heap := hP
  have hl := lv_entry ([.ref s0]) (n := 1) (Nat.le_of_ble_eq_true rfl)
  rw [lg_entry_eq]
  generalize (lg_sl ([.ref s0]) ++ List.replicate (1 - (lg_sl ([.ref s0])).length) Slot.unset).toArray = ls at hl ⊢
  have hl : lv_has ls 1 [(0, .ref s0)] := hl
  refine lv_aload_n hx hb dX3_recordCounter_0 rfl (lv_at hl 0 rfl) ?_
  refine lv_aload_n hx hb dX3_recordCounter_1 rfl (lv_at hl 0 rfl) ?_
  refine bx_ri (va_runV (As := []) (rest := [.ref s0]) ⟨hx, hb, hml, hown, hts⟩ (c_X3_recordInForce l D cA s0 f w σ) (cwV 0 hts gX3_recordCounter_X3_recordInForce rfl rfl rfl (by decide +kernel) ⟨Nat.le_of_ble_eq_true rfl, Nat.le_of_ble_eq_true rfl⟩) (bx_pvr (ci := 3) (q0 := 0) hK hG (hP.sub (ws' := [(s0, .inr (3, [.ref f])), (f, .inr (2, [.ref w, .int σ.2.1, .int σ.2.2])), (w, .inl (cA, 66, .inl σ.1))]) [0, 1, 2] rfl) rfl rfl) rfl rfl hl.1 rfl (lv_room (Nat.le_of_ble_eq_true rfl)) dX3_recordCounter_2 ⟨Nat.zero_le _, Nat.zero_le _⟩) (fun r_1 h_2 => ?_)
  have h_2 := h_2.symm
  subst h_2
  refine lv_iconst (v := 3) hx hb dX3_recordCounter_5 (by decide) ?_
  refine bx_ri (va_runV (As := [.int (F_X3_recordInForce σ), .int 3]) (rest := []) ⟨hx, hb, hml, hown, hts⟩ (c_X3_recordWord l D cA s0 f w σ (F_X3_recordInForce σ) 3) (cwV 2 hts gX3_recordCounter_X3_recordWord rfl rfl rfl (by decide +kernel) ⟨Nat.le_of_ble_eq_true rfl, Nat.le_of_ble_eq_true rfl⟩) (bx_pvr (ci := 3) (q0 := 0) hK hG (hP.sub (ws' := [(s0, .inr (3, [.ref f])), (f, .inr (2, [.ref w, .int σ.2.1, .int σ.2.2])), (w, .inl (cA, 66, .inl σ.1))]) [0, 1, 2] rfl) rfl rfl) rfl rfl hl.1 rfl (lv_room (Nat.le_of_ble_eq_true rfl)) dX3_recordCounter_6 ⟨Nat.zero_le _, Nat.zero_le _⟩) (fun r_3 h_4 => ?_)
  have h_4 := h_4.symm
  subst h_4
  exact W.iret (v := (F_X3_recordWord σ (F_X3_recordInForce σ) 3)) hx hb hr (fun t ht hW => ⟨(F_X3_recordWord σ (F_X3_recordInForce σ) 3), rfl, rfl, ht⟩) (fun _ h => nomatch h) dX3_recordCounter_9
def F_X3_confirmedIn (p0 : Int32) : Int32 := (p0 &&& 1)
set_option maxHeartbeats 4000000 in
set_option maxRecDepth 100000 in
theorem c_X3_confirmedIn (l : Launch) (D : va_G) (p0 : Int32) : Met l yX3_confirmedIn wsX3_confirmedIn ({ frames := 0, cells := 0, slots := 0, locals := 0 }) (va_Pc [.int p0] (bx_ro D [] (wNil))) (vp_Si (fun r => r = F_X3_confirmedIn p0)) 0 0 (fun _ => False) := by
  refine Met.ofW (cc := cX3_confirmedIn) (maxL := 1) (ret := (some .int)) (by decide) rfl ?_
  intro p e s m args below meth c s₁ B hml hv
  obtain ⟨rfl, hP, hK, hG⟩ := hv
  have hx := B.exec
  have hb := B.bytes
  have hr := B.returns
  have hts := atoms_spec (ws := wsX3_confirmedIn) B.pre
  have hown : s.vm.findClass RX3 = some m.cls := findClass_of_methodNamed B.named
  have hlocks := B.notSynchronized
  have hP : va_P D vwCl [] s.heap := hP
  have hl := lv_entry ([.int p0]) (n := 1) (Nat.le_of_ble_eq_true rfl)
  rw [lg_entry_eq]
  generalize (lg_sl ([.int p0]) ++ List.replicate (1 - (lg_sl ([.int p0])).length) Slot.unset).toArray = ls at hl ⊢
  have hl : lv_has ls 1 [(0, .int p0)] := hl
  refine lv_iload_n hx hb dX3_confirmedIn_0 rfl (lv_at hl 0 rfl) ?_
  refine lv_iconst (v := 1) hx hb dX3_confirmedIn_1 (by decide) ?_
  refine lv_iand hx hb dX3_confirmedIn_2 ?_
  exact W.iret (v := (p0 &&& 1)) hx hb hr (fun t ht hW => ⟨(p0 &&& 1), rfl, rfl, ht⟩) (fun _ h => nomatch h) dX3_confirmedIn_3
def F_X3_isTrialIn (p0 : Int32) : Int32 := (if (p0 &&& 2) = 0 then 0 else 1)
set_option maxHeartbeats 4000000 in
set_option maxRecDepth 100000 in
theorem c_X3_isTrialIn (l : Launch) (D : va_G) (p0 : Int32) : Met l yX3_isTrialIn wsX3_isTrialIn ({ frames := 0, cells := 0, slots := 0, locals := 0 }) (va_Pc [.int p0] (bx_ro D [] (wNil))) (vp_Si (fun r => r = F_X3_isTrialIn p0 ∧ (r = 0 ∨ r = 1))) 0 0 (fun _ => False) := by
  refine Met.ofW (cc := cX3_isTrialIn) (maxL := 1) (ret := (some .boolean)) (by decide) rfl ?_
  intro p e s m args below meth c s₁ B hml hv
  obtain ⟨rfl, hP, hK, hG⟩ := hv
  have hx := B.exec
  have hb := B.bytes
  have hr := B.returns
  have hts := atoms_spec (ws := wsX3_isTrialIn) B.pre
  have hown : s.vm.findClass RX3 = some m.cls := findClass_of_methodNamed B.named
  have hlocks := B.notSynchronized
  have hP : va_P D vwCl [] s.heap := hP
  have hl := lv_entry ([.int p0]) (n := 1) (Nat.le_of_ble_eq_true rfl)
  rw [lg_entry_eq]
  generalize (lg_sl ([.int p0]) ++ List.replicate (1 - (lg_sl ([.int p0])).length) Slot.unset).toArray = ls at hl ⊢
  have hl : lv_has ls 1 [(0, .int p0)] := hl
  refine lv_iload_n hx hb dX3_isTrialIn_0 rfl (lv_at hl 0 rfl) ?_
  refine lv_iconst (v := 2) hx hb dX3_isTrialIn_1 (by decide) ?_
  refine lv_iand hx hb dX3_isTrialIn_2 ?_
  refine lv_if_eq (tgt := 10) hx hb dX3_isTrialIn_3 (by decide) (fun c_1 => ?_) (fun c_1 => ?_)
  · skip
    refine lv_iconst (v := 0) hx hb dX3_isTrialIn_10 (by decide) ?_
    exact W.zret (v := 0) hx hb hr rfl (fun t ht hW => ⟨0, rfl, ⟨(by simp only [F_X3_isTrialIn, if_pos c_1]), (by decide)⟩, ht⟩) (fun _ h => nomatch h) dX3_isTrialIn_11
  · skip
    refine lv_iconst (v := 1) hx hb dX3_isTrialIn_6 (by decide) ?_
    refine lv_goto (tgt := 11) hx hb dX3_isTrialIn_7 (by decide) ?_
    exact W.zret (v := 1) hx hb hr rfl (fun t ht hW => ⟨1, rfl, ⟨(by simp only [F_X3_isTrialIn, if_neg c_1]), (by decide)⟩, ht⟩) (fun _ h => nomatch h) dX3_isTrialIn_11
def F_X3_triesIn (p0 : Int32) : Int32 := (if (F_X3_isTrialIn p0) = 0 then 0 else (p0 >>> (2 &&& 31)))
set_option maxHeartbeats 4000000 in
set_option maxRecDepth 100000 in
theorem c_X3_triesIn (l : Launch) (D : va_G) (p0 : Int32) : Met l yX3_triesIn wsX3_triesIn ({ frames := 1, cells := 0, slots := 0, locals := 20 }) (va_Pc [.int p0] (bx_ro D [] (wNil))) (vp_Si (fun r => r = F_X3_triesIn p0)) 0 0 (fun _ => False) := by
  refine Met.ofW (cc := cX3_triesIn) (maxL := 1) (ret := (some .int)) (by decide) rfl ?_
  intro p e s m args below meth c s₁ B hml hv
  obtain ⟨rfl, hP, hK, hG⟩ := hv
  have hx := B.exec
  have hb := B.bytes
  have hr := B.returns
  have hts := atoms_spec (ws := wsX3_triesIn) B.pre
  have hown : s.vm.findClass RX3 = some m.cls := findClass_of_methodNamed B.named
  have hlocks := B.notSynchronized
  have hP : va_P D vwCl [] s.heap := hP
  have hl := lv_entry ([.int p0]) (n := 1) (Nat.le_of_ble_eq_true rfl)
  rw [lg_entry_eq]
  generalize (lg_sl ([.int p0]) ++ List.replicate (1 - (lg_sl ([.int p0])).length) Slot.unset).toArray = ls at hl ⊢
  have hl : lv_has ls 1 [(0, .int p0)] := hl
  refine lv_iload_n hx hb dX3_triesIn_0 rfl (lv_at hl 0 rfl) ?_
  refine bx_ri (va_runS (As := [.int p0]) (rest := []) ⟨hx, hb, hml, hown, hts⟩ (c_X3_isTrialIn l D p0) (va_cwS 1 hts gX3_triesIn_X3_isTrialIn rfl rfl rfl (by decide +kernel) ⟨Nat.le_of_ble_eq_true rfl, Nat.le_of_ble_eq_true rfl⟩) (bx_psr (hK.sub (tys' := []) [] rfl) hG (hP.sub (ws' := []) [] rfl)) rfl rfl hl.1 rfl (lv_room (Nat.le_of_ble_eq_true rfl)) dX3_triesIn_1 ⟨Nat.zero_le _, Nat.zero_le _⟩) (fun r_1 h_2 => ?_)
  obtain ⟨h_2, b_3⟩ := h_2
  have h_2 := h_2.symm
  subst h_2
  refine lv_if_eq (tgt := 13) hx hb dX3_triesIn_4 (by decide) (fun c_4 => ?_) (fun c_4 => ?_)
  · skip
    refine lv_iconst (v := 0) hx hb dX3_triesIn_13 (by decide) ?_
    exact W.iret (v := 0) hx hb hr (fun t ht hW => ⟨0, rfl, (by simp only [F_X3_triesIn, if_pos c_4]), ht⟩) (fun _ h => nomatch h) dX3_triesIn_14
  · skip
    refine lv_iload_n hx hb dX3_triesIn_7 rfl (lv_at hl 0 rfl) ?_
    refine lv_iconst (v := 2) hx hb dX3_triesIn_8 (by decide) ?_
    refine lv_ishr hx hb dX3_triesIn_9 ?_
    refine lv_goto (tgt := 14) hx hb dX3_triesIn_10 (by decide) ?_
    exact W.iret (v := (p0 >>> (2 &&& 31))) hx hb hr (fun t ht hW => ⟨(p0 >>> (2 &&& 31)), rfl, (by simp only [F_X3_triesIn, if_neg c_4]), ht⟩) (fun _ h => nomatch h) dX3_triesIn_14
def F_X3_settledState (p0 : Int32) : Int32 := p0
set_option maxHeartbeats 4000000 in
set_option maxRecDepth 100000 in
theorem c_X3_settledState (l : Launch) (D : va_G) (p0 : Int32) : Met l yX3_settledState wsX3_settledState ({ frames := 0, cells := 0, slots := 0, locals := 0 }) (va_Pc [.int p0] (bx_ro D [] (wNil))) (vp_Si (fun r => r = F_X3_settledState p0)) 0 0 (fun _ => False) := by
  refine Met.ofW (cc := cX3_settledState) (maxL := 1) (ret := (some .int)) (by decide) rfl ?_
  intro p e s m args below meth c s₁ B hml hv
  obtain ⟨rfl, hP, hK, hG⟩ := hv
  have hx := B.exec
  have hb := B.bytes
  have hr := B.returns
  have hts := atoms_spec (ws := wsX3_settledState) B.pre
  have hown : s.vm.findClass RX3 = some m.cls := findClass_of_methodNamed B.named
  have hlocks := B.notSynchronized
  have hP : va_P D vwCl [] s.heap := hP
  have hl := lv_entry ([.int p0]) (n := 1) (Nat.le_of_ble_eq_true rfl)
  rw [lg_entry_eq]
  generalize (lg_sl ([.int p0]) ++ List.replicate (1 - (lg_sl ([.int p0])).length) Slot.unset).toArray = ls at hl ⊢
  have hl : lv_has ls 1 [(0, .int p0)] := hl
  refine lv_iload_n hx hb dX3_settledState_0 rfl (lv_at hl 0 rfl) ?_
  exact W.iret (v := p0) hx hb hr (fun t ht hW => ⟨p0, rfl, rfl, ht⟩) (fun _ h => nomatch h) dX3_settledState_1
def F_X3_trialState (p0 : Int32) (p1 : Int32) : Int32 := ((p0 + 2) + (4 * p1))
set_option maxHeartbeats 4000000 in
set_option maxRecDepth 100000 in
theorem c_X3_trialState (l : Launch) (D : va_G) (p0 : Int32) (p1 : Int32) : Met l yX3_trialState wsX3_trialState ({ frames := 0, cells := 0, slots := 0, locals := 0 }) (va_Pc [.int p0, .int p1] (bx_ro D [] (wNil))) (vp_Si (fun r => r = F_X3_trialState p0 p1)) 0 0 (fun _ => False) := by
  refine Met.ofW (cc := cX3_trialState) (maxL := 2) (ret := (some .int)) (by decide) rfl ?_
  intro p e s m args below meth c s₁ B hml hv
  obtain ⟨rfl, hP, hK, hG⟩ := hv
  have hx := B.exec
  have hb := B.bytes
  have hr := B.returns
  have hts := atoms_spec (ws := wsX3_trialState) B.pre
  have hown : s.vm.findClass RX3 = some m.cls := findClass_of_methodNamed B.named
  have hlocks := B.notSynchronized
  have hP : va_P D vwCl [] s.heap := hP
  have hl := lv_entry ([.int p0, .int p1]) (n := 2) (Nat.le_of_ble_eq_true rfl)
  rw [lg_entry_eq]
  generalize (lg_sl ([.int p0, .int p1]) ++ List.replicate (2 - (lg_sl ([.int p0, .int p1])).length) Slot.unset).toArray = ls at hl ⊢
  have hl : lv_has ls 2 [(0, .int p0), (1, .int p1)] := hl
  refine lv_iload_n hx hb dX3_trialState_0 rfl (lv_at hl 0 rfl) ?_
  refine lv_iconst (v := 2) hx hb dX3_trialState_1 (by decide) ?_
  refine lv_iadd hx hb dX3_trialState_2 ?_
  refine lv_iconst (v := 4) hx hb dX3_trialState_3 (by decide) ?_
  refine lv_iload_n hx hb dX3_trialState_4 rfl (lv_at hl 1 rfl) ?_
  refine lv_imul hx hb dX3_trialState_5 ?_
  refine lv_iadd hx hb dX3_trialState_6 ?_
  exact W.iret (v := ((p0 + 2) + (4 * p1))) hx hb hr (fun t ht hW => ⟨((p0 + 2) + (4 * p1)), rfl, rfl, ht⟩) (fun _ h => nomatch h) dX3_trialState_7
def F_X3_confirmedSlot (σ : FS) : Int32 := (F_X3_confirmedIn (F_X3_recordWord σ (F_X3_recordInForce σ) 2))
set_option maxHeartbeats 4000000 in
set_option maxRecDepth 100000 in
theorem c_X3_confirmedSlot (l : Launch) (D : va_G) (cA : ClassId) (s0 f w : Nat) (σ : FS) : Met l yX3_confirmedSlot wsX3_confirmedSlot ({ frames := 4, cells := 0, slots := 0, locals := 84 }) (va_Pc [.ref s0] (bx_ro D [(cA, .int)] (wSt cA s0 f w σ))) (vp_Si (fun r => r = F_X3_confirmedSlot σ)) 0 0 (fun _ => False) := by
  refine Met.ofW (cc := cX3_confirmedSlot) (maxL := 1) (ret := (some .int)) (by decide) rfl ?_
  intro p e s m args below meth c s₁ B hml hv
  obtain ⟨rfl, hP, hK, hG⟩ := hv
  have hx := B.exec
  have hb := B.bytes
  have hr := B.returns
  have hts := atoms_spec (ws := wsX3_confirmedSlot) B.pre
  have hown : s.vm.findClass RX3 = some m.cls := findClass_of_methodNamed B.named
  have hlocks := B.notSynchronized
  have hP : va_P D vwCl [(s0, .inr (3, [.ref f])), (f, .inr (2, [.ref w, .int σ.2.1, .int σ.2.2])), (w, .inl (cA, 66, .inl σ.1))] s.heap := hP
  have hl := lv_entry ([.ref s0]) (n := 1) (Nat.le_of_ble_eq_true rfl)
  rw [lg_entry_eq]
  generalize (lg_sl ([.ref s0]) ++ List.replicate (1 - (lg_sl ([.ref s0])).length) Slot.unset).toArray = ls at hl ⊢
  have hl : lv_has ls 1 [(0, .ref s0)] := hl
  refine lv_aload_n hx hb dX3_confirmedSlot_0 rfl (lv_at hl 0 rfl) ?_
  refine lv_aload_n hx hb dX3_confirmedSlot_1 rfl (lv_at hl 0 rfl) ?_
  refine bx_ri (va_runV (As := []) (rest := [.ref s0]) ⟨hx, hb, hml, hown, hts⟩ (c_X3_recordInForce l D cA s0 f w σ) (cwV 0 hts gX3_confirmedSlot_X3_recordInForce rfl rfl rfl (by decide +kernel) ⟨Nat.le_of_ble_eq_true rfl, Nat.le_of_ble_eq_true rfl⟩) (bx_pvr (ci := 3) (q0 := 0) hK hG (hP.sub (ws' := [(s0, .inr (3, [.ref f])), (f, .inr (2, [.ref w, .int σ.2.1, .int σ.2.2])), (w, .inl (cA, 66, .inl σ.1))]) [0, 1, 2] rfl) rfl rfl) rfl rfl hl.1 rfl (lv_room (Nat.le_of_ble_eq_true rfl)) dX3_confirmedSlot_2 ⟨Nat.zero_le _, Nat.zero_le _⟩) (fun r_1 h_2 => ?_)
  have h_2 := h_2.symm
  subst h_2
  refine lv_iconst (v := 2) hx hb dX3_confirmedSlot_5 (by decide) ?_
  refine bx_ri (va_runV (As := [.int (F_X3_recordInForce σ), .int 2]) (rest := []) ⟨hx, hb, hml, hown, hts⟩ (c_X3_recordWord l D cA s0 f w σ (F_X3_recordInForce σ) 2) (cwV 2 hts gX3_confirmedSlot_X3_recordWord rfl rfl rfl (by decide +kernel) ⟨Nat.le_of_ble_eq_true rfl, Nat.le_of_ble_eq_true rfl⟩) (bx_pvr (ci := 3) (q0 := 0) hK hG (hP.sub (ws' := [(s0, .inr (3, [.ref f])), (f, .inr (2, [.ref w, .int σ.2.1, .int σ.2.2])), (w, .inl (cA, 66, .inl σ.1))]) [0, 1, 2] rfl) rfl rfl) rfl rfl hl.1 rfl (lv_room (Nat.le_of_ble_eq_true rfl)) dX3_confirmedSlot_6 ⟨Nat.zero_le _, Nat.zero_le _⟩) (fun r_3 h_4 => ?_)
  have h_4 := h_4.symm
  subst h_4
  refine bx_ri (va_runS (As := [.int (F_X3_recordWord σ (F_X3_recordInForce σ) 2)]) (rest := []) ⟨hx, hb, hml, hown, hts⟩ (c_X3_confirmedIn l D (F_X3_recordWord σ (F_X3_recordInForce σ) 2)) (va_cwS 1 hts gX3_confirmedSlot_X3_confirmedIn rfl rfl rfl (by decide +kernel) ⟨Nat.le_of_ble_eq_true rfl, Nat.le_of_ble_eq_true rfl⟩) (bx_psr (hK.sub (tys' := []) [] rfl) hG (hP.sub (ws' := []) [] rfl)) rfl rfl hl.1 rfl (lv_room (Nat.le_of_ble_eq_true rfl)) dX3_confirmedSlot_9 ⟨Nat.zero_le _, Nat.zero_le _⟩) (fun r_5 h_6 => ?_)
  have h_6 := h_6.symm
  subst h_6
  exact W.iret (v := (F_X3_confirmedIn (F_X3_recordWord σ (F_X3_recordInForce σ) 2))) hx hb hr (fun t ht hW => ⟨(F_X3_confirmedIn (F_X3_recordWord σ (F_X3_recordInForce σ) 2)), rfl, rfl, ht⟩) (fun _ h => nomatch h) dX3_confirmedSlot_12
def F_X3_isTrialDue (σ : FS) : Int32 := (F_X3_isTrialIn (F_X3_recordWord σ (F_X3_recordInForce σ) 2))
set_option maxHeartbeats 4000000 in
set_option maxRecDepth 100000 in
theorem c_X3_isTrialDue (l : Launch) (D : va_G) (cA : ClassId) (s0 f w : Nat) (σ : FS) : Met l yX3_isTrialDue wsX3_isTrialDue ({ frames := 4, cells := 0, slots := 0, locals := 84 }) (va_Pc [.ref s0] (bx_ro D [(cA, .int)] (wSt cA s0 f w σ))) (vp_Si (fun r => r = F_X3_isTrialDue σ ∧ (r = 0 ∨ r = 1))) 0 0 (fun _ => False) := by
  refine Met.ofW (cc := cX3_isTrialDue) (maxL := 1) (ret := (some .boolean)) (by decide) rfl ?_
  intro p e s m args below meth c s₁ B hml hv
  obtain ⟨rfl, hP, hK, hG⟩ := hv
  have hx := B.exec
  have hb := B.bytes
  have hr := B.returns
  have hts := atoms_spec (ws := wsX3_isTrialDue) B.pre
  have hown : s.vm.findClass RX3 = some m.cls := findClass_of_methodNamed B.named
  have hlocks := B.notSynchronized
  have hP : va_P D vwCl [(s0, .inr (3, [.ref f])), (f, .inr (2, [.ref w, .int σ.2.1, .int σ.2.2])), (w, .inl (cA, 66, .inl σ.1))] s.heap := hP
  have hl := lv_entry ([.ref s0]) (n := 1) (Nat.le_of_ble_eq_true rfl)
  rw [lg_entry_eq]
  generalize (lg_sl ([.ref s0]) ++ List.replicate (1 - (lg_sl ([.ref s0])).length) Slot.unset).toArray = ls at hl ⊢
  have hl : lv_has ls 1 [(0, .ref s0)] := hl
  refine lv_aload_n hx hb dX3_isTrialDue_0 rfl (lv_at hl 0 rfl) ?_
  refine lv_aload_n hx hb dX3_isTrialDue_1 rfl (lv_at hl 0 rfl) ?_
  refine bx_ri (va_runV (As := []) (rest := [.ref s0]) ⟨hx, hb, hml, hown, hts⟩ (c_X3_recordInForce l D cA s0 f w σ) (cwV 0 hts gX3_isTrialDue_X3_recordInForce rfl rfl rfl (by decide +kernel) ⟨Nat.le_of_ble_eq_true rfl, Nat.le_of_ble_eq_true rfl⟩) (bx_pvr (ci := 3) (q0 := 0) hK hG (hP.sub (ws' := [(s0, .inr (3, [.ref f])), (f, .inr (2, [.ref w, .int σ.2.1, .int σ.2.2])), (w, .inl (cA, 66, .inl σ.1))]) [0, 1, 2] rfl) rfl rfl) rfl rfl hl.1 rfl (lv_room (Nat.le_of_ble_eq_true rfl)) dX3_isTrialDue_2 ⟨Nat.zero_le _, Nat.zero_le _⟩) (fun r_1 h_2 => ?_)
  have h_2 := h_2.symm
  subst h_2
  refine lv_iconst (v := 2) hx hb dX3_isTrialDue_5 (by decide) ?_
  refine bx_ri (va_runV (As := [.int (F_X3_recordInForce σ), .int 2]) (rest := []) ⟨hx, hb, hml, hown, hts⟩ (c_X3_recordWord l D cA s0 f w σ (F_X3_recordInForce σ) 2) (cwV 2 hts gX3_isTrialDue_X3_recordWord rfl rfl rfl (by decide +kernel) ⟨Nat.le_of_ble_eq_true rfl, Nat.le_of_ble_eq_true rfl⟩) (bx_pvr (ci := 3) (q0 := 0) hK hG (hP.sub (ws' := [(s0, .inr (3, [.ref f])), (f, .inr (2, [.ref w, .int σ.2.1, .int σ.2.2])), (w, .inl (cA, 66, .inl σ.1))]) [0, 1, 2] rfl) rfl rfl) rfl rfl hl.1 rfl (lv_room (Nat.le_of_ble_eq_true rfl)) dX3_isTrialDue_6 ⟨Nat.zero_le _, Nat.zero_le _⟩) (fun r_3 h_4 => ?_)
  have h_4 := h_4.symm
  subst h_4
  refine bx_ri (va_runS (As := [.int (F_X3_recordWord σ (F_X3_recordInForce σ) 2)]) (rest := []) ⟨hx, hb, hml, hown, hts⟩ (c_X3_isTrialIn l D (F_X3_recordWord σ (F_X3_recordInForce σ) 2)) (va_cwS 1 hts gX3_isTrialDue_X3_isTrialIn rfl rfl rfl (by decide +kernel) ⟨Nat.le_of_ble_eq_true rfl, Nat.le_of_ble_eq_true rfl⟩) (bx_psr (hK.sub (tys' := []) [] rfl) hG (hP.sub (ws' := []) [] rfl)) rfl rfl hl.1 rfl (lv_room (Nat.le_of_ble_eq_true rfl)) dX3_isTrialDue_9 ⟨Nat.zero_le _, Nat.zero_le _⟩) (fun r_5 h_6 => ?_)
  obtain ⟨h_6, b_7⟩ := h_6
  have h_6 := h_6.symm
  subst h_6
  exact W.zret (v := (F_X3_isTrialIn (F_X3_recordWord σ (F_X3_recordInForce σ) 2))) hx hb hr (bx_nb b_7) (fun t ht hW => ⟨(F_X3_isTrialIn (F_X3_recordWord σ (F_X3_recordInForce σ) 2)), rfl, ⟨rfl, b_7⟩, ht⟩) (fun _ h => nomatch h) dX3_isTrialDue_12
def F_X3_triesLeft (σ : FS) : Int32 := (F_X3_triesIn (F_X3_recordWord σ (F_X3_recordInForce σ) 2))
set_option maxHeartbeats 4000000 in
set_option maxRecDepth 100000 in
theorem c_X3_triesLeft (l : Launch) (D : va_G) (cA : ClassId) (s0 f w : Nat) (σ : FS) : Met l yX3_triesLeft wsX3_triesLeft ({ frames := 4, cells := 0, slots := 0, locals := 84 }) (va_Pc [.ref s0] (bx_ro D [(cA, .int)] (wSt cA s0 f w σ))) (vp_Si (fun r => r = F_X3_triesLeft σ)) 0 0 (fun _ => False) := by
  refine Met.ofW (cc := cX3_triesLeft) (maxL := 1) (ret := (some .int)) (by decide) rfl ?_
  intro p e s m args below meth c s₁ B hml hv
  obtain ⟨rfl, hP, hK, hG⟩ := hv
  have hx := B.exec
  have hb := B.bytes
  have hr := B.returns
  have hts := atoms_spec (ws := wsX3_triesLeft) B.pre
  have hown : s.vm.findClass RX3 = some m.cls := findClass_of_methodNamed B.named
  have hlocks := B.notSynchronized
  have hP : va_P D vwCl [(s0, .inr (3, [.ref f])), (f, .inr (2, [.ref w, .int σ.2.1, .int σ.2.2])), (w, .inl (cA, 66, .inl σ.1))] s.heap := hP
  have hl := lv_entry ([.ref s0]) (n := 1) (Nat.le_of_ble_eq_true rfl)
  rw [lg_entry_eq]
  generalize (lg_sl ([.ref s0]) ++ List.replicate (1 - (lg_sl ([.ref s0])).length) Slot.unset).toArray = ls at hl ⊢
  have hl : lv_has ls 1 [(0, .ref s0)] := hl
  refine lv_aload_n hx hb dX3_triesLeft_0 rfl (lv_at hl 0 rfl) ?_
  refine lv_aload_n hx hb dX3_triesLeft_1 rfl (lv_at hl 0 rfl) ?_
  refine bx_ri (va_runV (As := []) (rest := [.ref s0]) ⟨hx, hb, hml, hown, hts⟩ (c_X3_recordInForce l D cA s0 f w σ) (cwV 0 hts gX3_triesLeft_X3_recordInForce rfl rfl rfl (by decide +kernel) ⟨Nat.le_of_ble_eq_true rfl, Nat.le_of_ble_eq_true rfl⟩) (bx_pvr (ci := 3) (q0 := 0) hK hG (hP.sub (ws' := [(s0, .inr (3, [.ref f])), (f, .inr (2, [.ref w, .int σ.2.1, .int σ.2.2])), (w, .inl (cA, 66, .inl σ.1))]) [0, 1, 2] rfl) rfl rfl) rfl rfl hl.1 rfl (lv_room (Nat.le_of_ble_eq_true rfl)) dX3_triesLeft_2 ⟨Nat.zero_le _, Nat.zero_le _⟩) (fun r_1 h_2 => ?_)
  have h_2 := h_2.symm
  subst h_2
  refine lv_iconst (v := 2) hx hb dX3_triesLeft_5 (by decide) ?_
  refine bx_ri (va_runV (As := [.int (F_X3_recordInForce σ), .int 2]) (rest := []) ⟨hx, hb, hml, hown, hts⟩ (c_X3_recordWord l D cA s0 f w σ (F_X3_recordInForce σ) 2) (cwV 2 hts gX3_triesLeft_X3_recordWord rfl rfl rfl (by decide +kernel) ⟨Nat.le_of_ble_eq_true rfl, Nat.le_of_ble_eq_true rfl⟩) (bx_pvr (ci := 3) (q0 := 0) hK hG (hP.sub (ws' := [(s0, .inr (3, [.ref f])), (f, .inr (2, [.ref w, .int σ.2.1, .int σ.2.2])), (w, .inl (cA, 66, .inl σ.1))]) [0, 1, 2] rfl) rfl rfl) rfl rfl hl.1 rfl (lv_room (Nat.le_of_ble_eq_true rfl)) dX3_triesLeft_6 ⟨Nat.zero_le _, Nat.zero_le _⟩) (fun r_3 h_4 => ?_)
  have h_4 := h_4.symm
  subst h_4
  refine bx_ri (va_runS (As := [.int (F_X3_recordWord σ (F_X3_recordInForce σ) 2)]) (rest := []) ⟨hx, hb, hml, hown, hts⟩ (c_X3_triesIn l D (F_X3_recordWord σ (F_X3_recordInForce σ) 2)) (va_cwS 1 hts gX3_triesLeft_X3_triesIn rfl rfl rfl (by decide +kernel) ⟨Nat.le_of_ble_eq_true rfl, Nat.le_of_ble_eq_true rfl⟩) (bx_psr (hK.sub (tys' := []) [] rfl) hG (hP.sub (ws' := []) [] rfl)) rfl rfl hl.1 rfl (lv_room (Nat.le_of_ble_eq_true rfl)) dX3_triesLeft_9 ⟨Nat.zero_le _, Nat.zero_le _⟩) (fun r_5 h_6 => ?_)
  have h_6 := h_6.symm
  subst h_6
  exact W.iret (v := (F_X3_triesIn (F_X3_recordWord σ (F_X3_recordInForce σ) 2))) hx hb hr (fun t ht hW => ⟨(F_X3_triesIn (F_X3_recordWord σ (F_X3_recordInForce σ) 2)), rfl, rfl, ht⟩) (fun _ h => nomatch h) dX3_triesLeft_12
def F_X3_writeRecord (σ : FS) (p0 : Int32) (p1 : Int32) : Int32 × (FS) := (match (F_X3_writeRecordWord σ (1 - (F_X3_recordInForce σ)) 0 0) with | (r_7, u_6) => (if r_7 = 0 then (0, u_6) else (match (F_X3_writeRecordWord u_6 (1 - (F_X3_recordInForce σ)) 1 ((F_X3_recordWord σ (F_X3_recordInForce σ) 1) + 1)) with | (r_13, u_12) => (if r_13 = 0 then (0, u_12) else (match (F_X3_writeRecordWord u_12 (1 - (F_X3_recordInForce σ)) 2 p0) with | (r_19, u_18) => (if r_19 = 0 then (0, u_18) else (match (F_X3_writeRecordWord u_18 (1 - (F_X3_recordInForce σ)) 3 p1) with | (r_25, u_24) => (if r_25 = 0 then (0, u_24) else (match (F_X3_writeRecordWord u_24 (1 - (F_X3_recordInForce σ)) 0 (F_X3_checkOf ((F_X3_recordWord σ (F_X3_recordInForce σ) 1) + 1) p0 p1)) with | (r_33, u_32) => (if r_33 = 0 then (0, u_32) else (1, u_32)))))))))))
set_option maxHeartbeats 4000000 in
set_option maxRecDepth 100000 in
theorem c_X3_writeRecord (l : Launch) (D : va_G) (cA : ClassId) (s0 f w : Nat) (sz : Nat) (σ : FS) (p0 : Int32) (p1 : Int32) : Met l yX3_writeRecord wsX3_writeRecord ({ frames := 4, cells := 0, slots := 0, locals := 84 }) (va_Pc [.ref s0, .int p0, .int p1] (bx_pre D [(cA, .int)] (wSt cA s0 f w σ) sz)) (va_Qi (fun r u => (r, u) = F_X3_writeRecord σ p0 p1 ∧ (r = 0 ∨ r = 1)) (fun u t => bx_at D (wSt cA s0 f w u) (va_A (wSt cA s0 f w σ) sz) t) (va_A (wSt cA s0 f w σ) sz)) 0 0 (va_A (wSt cA s0 f w σ) sz) := by
  refine Met.ofW (cc := cX3_writeRecord) (maxL := 6) (ret := (some .boolean)) (by decide) rfl ?_
  intro p e s m args below meth c s₁ B hml hv
  obtain ⟨rfl, hsz, hP, hK, hD0, hG⟩ := hv
  have hx := B.exec
  have hb := B.bytes
  have hr := B.returns
  have hts := atoms_spec (ws := wsX3_writeRecord) B.pre
  have hown : s.vm.findClass RX3 = some m.cls := findClass_of_methodNamed B.named
  have hlocks := B.notSynchronized
  subst hsz
  have hD := hD0.self (sz := s.heap.size)
  generalize hAe : va_A (wSt cA s0 f w σ) s.heap.size = A at hD ⊢
  have hA : ∀ q : Nat, s.heap.size ≤ q → A q := fun q h => by rw [← hAe]; exact Or.inr h
  have hS : va_S A s.heap s.heap [] := va_S.rf
  have hD : va_D A [(s0, .inr (3, [.ref f])), (f, .inr (2, [.ref w, .int σ.2.1, .int σ.2.2])), (w, .inl (cA, 66, .inl σ.1))] := hD
  have hP : va_P D vwCl [(s0, .inr (3, [.ref f])), (f, .inr (2, [.ref w, .int σ.2.1, .int σ.2.2])), (w, .inl (cA, 66, .inl σ.1))] s.heap := hP
  have hl := lv_entry ([.ref s0, .int p0, .int p1]) (n := 6) (Nat.le_of_ble_eq_true rfl)
  rw [lg_entry_eq]
  generalize (lg_sl ([.ref s0, .int p0, .int p1]) ++ List.replicate (6 - (lg_sl ([.ref s0, .int p0, .int p1])).length) Slot.unset).toArray = ls at hl ⊢
  have hl : lv_has ls 6 [(0, .ref s0), (1, .int p0), (2, .int p1)] := hl
  refine lv_aload_n hx hb dX3_writeRecord_0 rfl (lv_at hl 0 rfl) ?_
  refine bx_ri (va_runV (As := []) (rest := []) ⟨hx, hb, hml, hown, hts⟩ (c_X3_recordInForce l D cA s0 f w σ) (cwV 0 hts gX3_writeRecord_X3_recordInForce rfl rfl rfl (by decide +kernel) ⟨Nat.le_of_ble_eq_true rfl, Nat.le_of_ble_eq_true rfl⟩) (bx_pvr (ci := 3) (q0 := 0) hK hG (hP.sub (ws' := [(s0, .inr (3, [.ref f])), (f, .inr (2, [.ref w, .int σ.2.1, .int σ.2.2])), (w, .inl (cA, 66, .inl σ.1))]) [0, 1, 2] rfl) rfl rfl) rfl rfl hl.1 rfl (lv_room (Nat.le_of_ble_eq_true rfl)) dX3_writeRecord_1 ⟨Nat.zero_le _, Nat.zero_le _⟩) (fun r_1 h_2 => ?_)
  have h_2 := h_2.symm
  subst h_2
  refine lv_istore_n (lv' := [(3, .int (F_X3_recordInForce σ)), (0, .ref s0), (1, .int p0), (2, .int p1)]) hx hb dX3_writeRecord_4 rfl hl (by decide) rfl (fun ls hl => ?_)
  refine lv_iconst (v := 1) hx hb dX3_writeRecord_5 (by decide) ?_
  refine lv_iload_n hx hb dX3_writeRecord_6 rfl (lv_at hl 0 rfl) ?_
  refine lv_isub hx hb dX3_writeRecord_7 ?_
  refine lv_istore (lv' := [(4, .int (1 - (F_X3_recordInForce σ))), (3, .int (F_X3_recordInForce σ)), (0, .ref s0), (1, .int p0), (2, .int p1)]) hx hb dX3_writeRecord_8 hl (by decide) rfl (fun ls hl => ?_)
  refine lv_aload_n hx hb dX3_writeRecord_10 rfl (lv_at hl 2 rfl) ?_
  refine lv_iload_n hx hb dX3_writeRecord_11 rfl (lv_at hl 1 rfl) ?_
  refine lv_iconst (v := 1) hx hb dX3_writeRecord_12 (by decide) ?_
  refine bx_ri (va_runV (As := [.int (F_X3_recordInForce σ), .int 1]) (rest := []) ⟨hx, hb, hml, hown, hts⟩ (c_X3_recordWord l D cA s0 f w σ (F_X3_recordInForce σ) 1) (cwV 2 hts gX3_writeRecord_X3_recordWord rfl rfl rfl (by decide +kernel) ⟨Nat.le_of_ble_eq_true rfl, Nat.le_of_ble_eq_true rfl⟩) (bx_pvr (ci := 3) (q0 := 0) hK hG (hP.sub (ws' := [(s0, .inr (3, [.ref f])), (f, .inr (2, [.ref w, .int σ.2.1, .int σ.2.2])), (w, .inl (cA, 66, .inl σ.1))]) [0, 1, 2] rfl) rfl rfl) rfl rfl hl.1 rfl (lv_room (Nat.le_of_ble_eq_true rfl)) dX3_writeRecord_13 ⟨Nat.zero_le _, Nat.zero_le _⟩) (fun r_3 h_4 => ?_)
  have h_4 := h_4.symm
  subst h_4
  refine lv_iconst (v := 1) hx hb dX3_writeRecord_16 (by decide) ?_
  refine lv_iadd hx hb dX3_writeRecord_17 ?_
  refine lv_istore (lv' := [(5, .int ((F_X3_recordWord σ (F_X3_recordInForce σ) 1) + 1)), (4, .int (1 - (F_X3_recordInForce σ))), (3, .int (F_X3_recordInForce σ)), (0, .ref s0), (1, .int p0), (2, .int p1)]) hx hb dX3_writeRecord_18 hl (by decide) rfl (fun ls hl => ?_)
  refine lv_aload_n hx hb dX3_writeRecord_20 rfl (lv_at hl 3 rfl) ?_
  refine lv_iload hx hb dX3_writeRecord_21 (lv_at hl 1 rfl) ?_
  refine lv_iconst (v := 0) hx hb dX3_writeRecord_23 (by decide) ?_
  refine lv_iconst (v := 0) hx hb dX3_writeRecord_24 (by decide) ?_
  refine bx_wi (wc := [(s0, .inr (3, [.ref f])), (f, .inr (2, [.ref w, .int σ.2.1, .int σ.2.2])), (w, .inl (cA, 66, .inl σ.1))]) (wr := []) (wf := fun (u : (FS)) => [(s0, .inr (3, [.ref f])), (f, .inr (2, [.ref w, .int u.2.1, .int u.2.2])), (w, .inl (cA, 66, .inl u.1))]) (wn := fun (u : (FS)) => [(s0, .inr (3, [.ref f])), (f, .inr (2, [.ref w, .int u.2.1, .int u.2.2])), (w, .inl (cA, 66, .inl u.1))]) hP hD hS hA [0, 1, 2] [] [0, 1, 2] rfl rfl (by decide) (by decide) (fun u => rfl) (by decide) (va_runV (As := [.int (1 - (F_X3_recordInForce σ)), .int 0, .int 0]) (rest := []) ⟨hx, hb, hml, hown, hts⟩ (c_X3_writeRecordWord l D cA s0 f w s.heap.size σ (1 - (F_X3_recordInForce σ)) 0 0) (cwV 3 hts gX3_writeRecord_X3_writeRecordWord rfl rfl rfl (by decide +kernel) ⟨Nat.le_of_ble_eq_true rfl, Nat.le_of_ble_eq_true rfl⟩) (bx_pv (ci := 3) (q0 := 0) hK hG (hP.sub (ws' := [(s0, .inr (3, [.ref f])), (f, .inr (2, [.ref w, .int σ.2.1, .int σ.2.2])), (w, .inl (cA, 66, .inl σ.1))]) [0, 1, 2] rfl) (hD.sub (ws' := [(s0, .inr (3, [.ref f])), (f, .inr (2, [.ref w, .int σ.2.1, .int σ.2.2])), (w, .inl (cA, 66, .inl σ.1))]) [0, 1, 2] (by decide) rfl) rfl rfl) rfl rfl hl.1 rfl (lv_room (Nat.le_of_ble_eq_true rfl)) dX3_writeRecord_25 ⟨Nat.zero_le _, Nat.zero_le _⟩) (fun r_7 u_6 H locs h_5 hP hD hS => ?_)
  obtain ⟨h_5, b_9⟩ := h_5
  have hP : va_P D vwCl [(s0, .inr (3, [.ref f])), (f, .inr (2, [.ref w, .int u_6.2.1, .int u_6.2.2])), (w, .inl (cA, 66, .inl u_6.1))] H := hP
  have hD : va_D A [(s0, .inr (3, [.ref f])), (f, .inr (2, [.ref w, .int u_6.2.1, .int u_6.2.2])), (w, .inl (cA, 66, .inl u_6.1))] := hD
  refine lv_if_eq (tgt := 86) hx hb dX3_writeRecord_28 (by decide) (fun c_10 => ?_) (fun c_10 => ?_)
  · skip
    refine lv_iconst (v := 0) hx hb dX3_writeRecord_86 (by decide) ?_
    exact W.zret (v := 0) hx hb hr rfl (fun t ht hW => ⟨⟨0, u_6, rfl, ⟨(by simp only [F_X3_writeRecord, if_pos c_10, ← h_5]), (by decide)⟩, ⟨by rw [ht]; exact hP, hD⟩⟩, hS.F ht⟩) hS.2.2 dX3_writeRecord_87
  · skip
    refine lv_aload_n hx hb dX3_writeRecord_31 rfl (lv_at hl 3 rfl) ?_
    refine lv_iload hx hb dX3_writeRecord_32 (lv_at hl 1 rfl) ?_
    refine lv_iconst (v := 1) hx hb dX3_writeRecord_34 (by decide) ?_
    refine lv_iload hx hb dX3_writeRecord_35 (lv_at hl 0 rfl) ?_
    refine bx_wi (wc := [(s0, .inr (3, [.ref f])), (f, .inr (2, [.ref w, .int u_6.2.1, .int u_6.2.2])), (w, .inl (cA, 66, .inl u_6.1))]) (wr := []) (wf := fun (u : (FS)) => [(s0, .inr (3, [.ref f])), (f, .inr (2, [.ref w, .int u.2.1, .int u.2.2])), (w, .inl (cA, 66, .inl u.1))]) (wn := fun (u : (FS)) => [(s0, .inr (3, [.ref f])), (f, .inr (2, [.ref w, .int u.2.1, .int u.2.2])), (w, .inl (cA, 66, .inl u.1))]) hP hD hS hA [0, 1, 2] [] [0, 1, 2] rfl rfl (by decide) (by decide) (fun u => rfl) (by decide) (va_runV (As := [.int (1 - (F_X3_recordInForce σ)), .int 1, .int ((F_X3_recordWord σ (F_X3_recordInForce σ) 1) + 1)]) (rest := []) ⟨hx, hb, hml, hown, hts⟩ (c_X3_writeRecordWord l D cA s0 f w H.size u_6 (1 - (F_X3_recordInForce σ)) 1 ((F_X3_recordWord σ (F_X3_recordInForce σ) 1) + 1)) (cwV 3 hts gX3_writeRecord_X3_writeRecordWord rfl rfl rfl (by decide +kernel) ⟨Nat.le_of_ble_eq_true rfl, Nat.le_of_ble_eq_true rfl⟩) (bx_pv (ci := 3) (q0 := 0) hK hG (hP.sub (ws' := [(s0, .inr (3, [.ref f])), (f, .inr (2, [.ref w, .int u_6.2.1, .int u_6.2.2])), (w, .inl (cA, 66, .inl u_6.1))]) [0, 1, 2] rfl) (hD.sub (ws' := [(s0, .inr (3, [.ref f])), (f, .inr (2, [.ref w, .int u_6.2.1, .int u_6.2.2])), (w, .inl (cA, 66, .inl u_6.1))]) [0, 1, 2] (by decide) rfl) rfl rfl) rfl rfl hl.1 rfl (lv_room (Nat.le_of_ble_eq_true rfl)) dX3_writeRecord_37 ⟨Nat.zero_le _, Nat.zero_le _⟩) (fun r_13 u_12 H locs h_11 hP hD hS => ?_)
    obtain ⟨h_11, b_15⟩ := h_11
    have hP : va_P D vwCl [(s0, .inr (3, [.ref f])), (f, .inr (2, [.ref w, .int u_12.2.1, .int u_12.2.2])), (w, .inl (cA, 66, .inl u_12.1))] H := hP
    have hD : va_D A [(s0, .inr (3, [.ref f])), (f, .inr (2, [.ref w, .int u_12.2.1, .int u_12.2.2])), (w, .inl (cA, 66, .inl u_12.1))] := hD
    refine lv_if_eq (tgt := 86) hx hb dX3_writeRecord_40 (by decide) (fun c_16 => ?_) (fun c_16 => ?_)
    · skip
      refine lv_iconst (v := 0) hx hb dX3_writeRecord_86 (by decide) ?_
      exact W.zret (v := 0) hx hb hr rfl (fun t ht hW => ⟨⟨0, u_12, rfl, ⟨(by simp only [F_X3_writeRecord, if_neg c_10, if_pos c_16, ← h_5, ← h_11]), (by decide)⟩, ⟨by rw [ht]; exact hP, hD⟩⟩, hS.F ht⟩) hS.2.2 dX3_writeRecord_87
    · skip
      refine lv_aload_n hx hb dX3_writeRecord_43 rfl (lv_at hl 3 rfl) ?_
      refine lv_iload hx hb dX3_writeRecord_44 (lv_at hl 1 rfl) ?_
      refine lv_iconst (v := 2) hx hb dX3_writeRecord_46 (by decide) ?_
      refine lv_iload_n hx hb dX3_writeRecord_47 rfl (lv_at hl 4 rfl) ?_
      refine bx_wi (wc := [(s0, .inr (3, [.ref f])), (f, .inr (2, [.ref w, .int u_12.2.1, .int u_12.2.2])), (w, .inl (cA, 66, .inl u_12.1))]) (wr := []) (wf := fun (u : (FS)) => [(s0, .inr (3, [.ref f])), (f, .inr (2, [.ref w, .int u.2.1, .int u.2.2])), (w, .inl (cA, 66, .inl u.1))]) (wn := fun (u : (FS)) => [(s0, .inr (3, [.ref f])), (f, .inr (2, [.ref w, .int u.2.1, .int u.2.2])), (w, .inl (cA, 66, .inl u.1))]) hP hD hS hA [0, 1, 2] [] [0, 1, 2] rfl rfl (by decide) (by decide) (fun u => rfl) (by decide) (va_runV (As := [.int (1 - (F_X3_recordInForce σ)), .int 2, .int p0]) (rest := []) ⟨hx, hb, hml, hown, hts⟩ (c_X3_writeRecordWord l D cA s0 f w H.size u_12 (1 - (F_X3_recordInForce σ)) 2 p0) (cwV 3 hts gX3_writeRecord_X3_writeRecordWord rfl rfl rfl (by decide +kernel) ⟨Nat.le_of_ble_eq_true rfl, Nat.le_of_ble_eq_true rfl⟩) (bx_pv (ci := 3) (q0 := 0) hK hG (hP.sub (ws' := [(s0, .inr (3, [.ref f])), (f, .inr (2, [.ref w, .int u_12.2.1, .int u_12.2.2])), (w, .inl (cA, 66, .inl u_12.1))]) [0, 1, 2] rfl) (hD.sub (ws' := [(s0, .inr (3, [.ref f])), (f, .inr (2, [.ref w, .int u_12.2.1, .int u_12.2.2])), (w, .inl (cA, 66, .inl u_12.1))]) [0, 1, 2] (by decide) rfl) rfl rfl) rfl rfl hl.1 rfl (lv_room (Nat.le_of_ble_eq_true rfl)) dX3_writeRecord_48 ⟨Nat.zero_le _, Nat.zero_le _⟩) (fun r_19 u_18 H locs h_17 hP hD hS => ?_)
      obtain ⟨h_17, b_21⟩ := h_17
      have hP : va_P D vwCl [(s0, .inr (3, [.ref f])), (f, .inr (2, [.ref w, .int u_18.2.1, .int u_18.2.2])), (w, .inl (cA, 66, .inl u_18.1))] H := hP
      have hD : va_D A [(s0, .inr (3, [.ref f])), (f, .inr (2, [.ref w, .int u_18.2.1, .int u_18.2.2])), (w, .inl (cA, 66, .inl u_18.1))] := hD
      refine lv_if_eq (tgt := 86) hx hb dX3_writeRecord_51 (by decide) (fun c_22 => ?_) (fun c_22 => ?_)
      · skip
        refine lv_iconst (v := 0) hx hb dX3_writeRecord_86 (by decide) ?_
        exact W.zret (v := 0) hx hb hr rfl (fun t ht hW => ⟨⟨0, u_18, rfl, ⟨(by simp only [F_X3_writeRecord, if_neg c_10, if_neg c_16, if_pos c_22, ← h_5, ← h_11, ← h_17]), (by decide)⟩, ⟨by rw [ht]; exact hP, hD⟩⟩, hS.F ht⟩) hS.2.2 dX3_writeRecord_87
      · skip
        refine lv_aload_n hx hb dX3_writeRecord_54 rfl (lv_at hl 3 rfl) ?_
        refine lv_iload hx hb dX3_writeRecord_55 (lv_at hl 1 rfl) ?_
        refine lv_iconst (v := 3) hx hb dX3_writeRecord_57 (by decide) ?_
        refine lv_iload_n hx hb dX3_writeRecord_58 rfl (lv_at hl 5 rfl) ?_
        refine bx_wi (wc := [(s0, .inr (3, [.ref f])), (f, .inr (2, [.ref w, .int u_18.2.1, .int u_18.2.2])), (w, .inl (cA, 66, .inl u_18.1))]) (wr := []) (wf := fun (u : (FS)) => [(s0, .inr (3, [.ref f])), (f, .inr (2, [.ref w, .int u.2.1, .int u.2.2])), (w, .inl (cA, 66, .inl u.1))]) (wn := fun (u : (FS)) => [(s0, .inr (3, [.ref f])), (f, .inr (2, [.ref w, .int u.2.1, .int u.2.2])), (w, .inl (cA, 66, .inl u.1))]) hP hD hS hA [0, 1, 2] [] [0, 1, 2] rfl rfl (by decide) (by decide) (fun u => rfl) (by decide) (va_runV (As := [.int (1 - (F_X3_recordInForce σ)), .int 3, .int p1]) (rest := []) ⟨hx, hb, hml, hown, hts⟩ (c_X3_writeRecordWord l D cA s0 f w H.size u_18 (1 - (F_X3_recordInForce σ)) 3 p1) (cwV 3 hts gX3_writeRecord_X3_writeRecordWord rfl rfl rfl (by decide +kernel) ⟨Nat.le_of_ble_eq_true rfl, Nat.le_of_ble_eq_true rfl⟩) (bx_pv (ci := 3) (q0 := 0) hK hG (hP.sub (ws' := [(s0, .inr (3, [.ref f])), (f, .inr (2, [.ref w, .int u_18.2.1, .int u_18.2.2])), (w, .inl (cA, 66, .inl u_18.1))]) [0, 1, 2] rfl) (hD.sub (ws' := [(s0, .inr (3, [.ref f])), (f, .inr (2, [.ref w, .int u_18.2.1, .int u_18.2.2])), (w, .inl (cA, 66, .inl u_18.1))]) [0, 1, 2] (by decide) rfl) rfl rfl) rfl rfl hl.1 rfl (lv_room (Nat.le_of_ble_eq_true rfl)) dX3_writeRecord_59 ⟨Nat.zero_le _, Nat.zero_le _⟩) (fun r_25 u_24 H locs h_23 hP hD hS => ?_)
        obtain ⟨h_23, b_27⟩ := h_23
        have hP : va_P D vwCl [(s0, .inr (3, [.ref f])), (f, .inr (2, [.ref w, .int u_24.2.1, .int u_24.2.2])), (w, .inl (cA, 66, .inl u_24.1))] H := hP
        have hD : va_D A [(s0, .inr (3, [.ref f])), (f, .inr (2, [.ref w, .int u_24.2.1, .int u_24.2.2])), (w, .inl (cA, 66, .inl u_24.1))] := hD
        refine lv_if_eq (tgt := 86) hx hb dX3_writeRecord_62 (by decide) (fun c_28 => ?_) (fun c_28 => ?_)
        · skip
          refine lv_iconst (v := 0) hx hb dX3_writeRecord_86 (by decide) ?_
          exact W.zret (v := 0) hx hb hr rfl (fun t ht hW => ⟨⟨0, u_24, rfl, ⟨(by simp only [F_X3_writeRecord, if_neg c_10, if_neg c_16, if_neg c_22, if_pos c_28, ← h_5, ← h_11, ← h_17, ← h_23]), (by decide)⟩, ⟨by rw [ht]; exact hP, hD⟩⟩, hS.F ht⟩) hS.2.2 dX3_writeRecord_87
        · skip
          refine lv_aload_n hx hb dX3_writeRecord_65 rfl (lv_at hl 3 rfl) ?_
          refine lv_iload hx hb dX3_writeRecord_66 (lv_at hl 1 rfl) ?_
          refine lv_iconst (v := 0) hx hb dX3_writeRecord_68 (by decide) ?_
          refine lv_iload hx hb dX3_writeRecord_69 (lv_at hl 0 rfl) ?_
          refine lv_iload_n hx hb dX3_writeRecord_71 rfl (lv_at hl 4 rfl) ?_
          refine lv_iload_n hx hb dX3_writeRecord_72 rfl (lv_at hl 5 rfl) ?_
          refine bx_ri (va_runS (As := [.int ((F_X3_recordWord σ (F_X3_recordInForce σ) 1) + 1), .int p0, .int p1]) (rest := [.int 0, .int (1 - (F_X3_recordInForce σ)), .ref s0]) ⟨hx, hb, hml, hown, hts⟩ (c_X3_checkOf l D ((F_X3_recordWord σ (F_X3_recordInForce σ) 1) + 1) p0 p1) (va_cwS 3 hts gX3_writeRecord_X3_checkOf rfl rfl rfl (by decide +kernel) ⟨Nat.le_of_ble_eq_true rfl, Nat.le_of_ble_eq_true rfl⟩) (bx_psr (hK.sub (tys' := []) [] rfl) hG (hP.sub (ws' := []) [] rfl)) rfl rfl hl.1 rfl (lv_room (Nat.le_of_ble_eq_true rfl)) dX3_writeRecord_73 ⟨Nat.zero_le _, Nat.zero_le _⟩) (fun r_29 h_30 => ?_)
          have h_30 := h_30.symm
          subst h_30
          refine bx_wi (wc := [(s0, .inr (3, [.ref f])), (f, .inr (2, [.ref w, .int u_24.2.1, .int u_24.2.2])), (w, .inl (cA, 66, .inl u_24.1))]) (wr := []) (wf := fun (u : (FS)) => [(s0, .inr (3, [.ref f])), (f, .inr (2, [.ref w, .int u.2.1, .int u.2.2])), (w, .inl (cA, 66, .inl u.1))]) (wn := fun (u : (FS)) => [(s0, .inr (3, [.ref f])), (f, .inr (2, [.ref w, .int u.2.1, .int u.2.2])), (w, .inl (cA, 66, .inl u.1))]) hP hD hS hA [0, 1, 2] [] [0, 1, 2] rfl rfl (by decide) (by decide) (fun u => rfl) (by decide) (va_runV (As := [.int (1 - (F_X3_recordInForce σ)), .int 0, .int (F_X3_checkOf ((F_X3_recordWord σ (F_X3_recordInForce σ) 1) + 1) p0 p1)]) (rest := []) ⟨hx, hb, hml, hown, hts⟩ (c_X3_writeRecordWord l D cA s0 f w H.size u_24 (1 - (F_X3_recordInForce σ)) 0 (F_X3_checkOf ((F_X3_recordWord σ (F_X3_recordInForce σ) 1) + 1) p0 p1)) (cwV 3 hts gX3_writeRecord_X3_writeRecordWord rfl rfl rfl (by decide +kernel) ⟨Nat.le_of_ble_eq_true rfl, Nat.le_of_ble_eq_true rfl⟩) (bx_pv (ci := 3) (q0 := 0) hK hG (hP.sub (ws' := [(s0, .inr (3, [.ref f])), (f, .inr (2, [.ref w, .int u_24.2.1, .int u_24.2.2])), (w, .inl (cA, 66, .inl u_24.1))]) [0, 1, 2] rfl) (hD.sub (ws' := [(s0, .inr (3, [.ref f])), (f, .inr (2, [.ref w, .int u_24.2.1, .int u_24.2.2])), (w, .inl (cA, 66, .inl u_24.1))]) [0, 1, 2] (by decide) rfl) rfl rfl) rfl rfl hl.1 rfl (lv_room (Nat.le_of_ble_eq_true rfl)) dX3_writeRecord_76 ⟨Nat.zero_le _, Nat.zero_le _⟩) (fun r_33 u_32 H locs h_31 hP hD hS => ?_)
          obtain ⟨h_31, b_35⟩ := h_31
          have hP : va_P D vwCl [(s0, .inr (3, [.ref f])), (f, .inr (2, [.ref w, .int u_32.2.1, .int u_32.2.2])), (w, .inl (cA, 66, .inl u_32.1))] H := hP
          have hD : va_D A [(s0, .inr (3, [.ref f])), (f, .inr (2, [.ref w, .int u_32.2.1, .int u_32.2.2])), (w, .inl (cA, 66, .inl u_32.1))] := hD
          refine lv_if_eq (tgt := 86) hx hb dX3_writeRecord_79 (by decide) (fun c_36 => ?_) (fun c_36 => ?_)
          · skip
            refine lv_iconst (v := 0) hx hb dX3_writeRecord_86 (by decide) ?_
            exact W.zret (v := 0) hx hb hr rfl (fun t ht hW => ⟨⟨0, u_32, rfl, ⟨(by simp only [F_X3_writeRecord, if_neg c_10, if_neg c_16, if_neg c_22, if_neg c_28, if_pos c_36, ← h_5, ← h_11, ← h_17, ← h_23, ← h_31]), (by decide)⟩, ⟨by rw [ht]; exact hP, hD⟩⟩, hS.F ht⟩) hS.2.2 dX3_writeRecord_87
          · skip
            refine lv_iconst (v := 1) hx hb dX3_writeRecord_82 (by decide) ?_
            refine lv_goto (tgt := 87) hx hb dX3_writeRecord_83 (by decide) ?_
            exact W.zret (v := 1) hx hb hr rfl (fun t ht hW => ⟨⟨1, u_32, rfl, ⟨(by simp only [F_X3_writeRecord, if_neg c_10, if_neg c_16, if_neg c_22, if_neg c_28, if_neg c_36, ← h_5, ← h_11, ← h_17, ← h_23, ← h_31]), (by decide)⟩, ⟨by rw [ht]; exact hP, hD⟩⟩, hS.F ht⟩) hS.2.2 dX3_writeRecord_87
def F_X3_slotToStart (σ : FS) : Int32 := (if (F_X3_triesIn (F_X3_recordWord σ (F_X3_recordInForce σ) 2)) ≤ 0 then (F_X3_confirmedIn (F_X3_recordWord σ (F_X3_recordInForce σ) 2)) else (if (F_X3_canStart σ (1 - (F_X3_confirmedIn (F_X3_recordWord σ (F_X3_recordInForce σ) 2)))) = 0 then (F_X3_confirmedIn (F_X3_recordWord σ (F_X3_recordInForce σ) 2)) else (if (F_X3_slotWord σ (1 - (F_X3_confirmedIn (F_X3_recordWord σ (F_X3_recordInForce σ) 2))) 4) < (F_X3_recordWord σ (F_X3_recordInForce σ) 3) then (F_X3_confirmedIn (F_X3_recordWord σ (F_X3_recordInForce σ) 2)) else (1 - (F_X3_confirmedIn (F_X3_recordWord σ (F_X3_recordInForce σ) 2))))))
set_option maxHeartbeats 4000000 in
set_option maxRecDepth 100000 in
theorem c_X3_slotToStart (l : Launch) (D : va_G) (cA : ClassId) (s0 f w : Nat) (σ : FS) : Met l yX3_slotToStart wsX3_slotToStart ({ frames := 4, cells := 0, slots := 0, locals := 89 }) (va_Pc [.ref s0] (bx_ro D [(cA, .int)] (wSt cA s0 f w σ))) (vp_Si (fun r => r = F_X3_slotToStart σ)) 0 0 (fun _ => False) := by
  refine Met.ofW (cc := cX3_slotToStart) (maxL := 6) (ret := (some .int)) (by decide) rfl ?_
  intro p e s m args below meth c s₁ B hml hv
  obtain ⟨rfl, hP, hK, hG⟩ := hv
  have hx := B.exec
  have hb := B.bytes
  have hr := B.returns
  have hts := atoms_spec (ws := wsX3_slotToStart) B.pre
  have hown : s.vm.findClass RX3 = some m.cls := findClass_of_methodNamed B.named
  have hlocks := B.notSynchronized
  have hP : va_P D vwCl [(s0, .inr (3, [.ref f])), (f, .inr (2, [.ref w, .int σ.2.1, .int σ.2.2])), (w, .inl (cA, 66, .inl σ.1))] s.heap := hP
  have hl := lv_entry ([.ref s0]) (n := 6) (Nat.le_of_ble_eq_true rfl)
  rw [lg_entry_eq]
  generalize (lg_sl ([.ref s0]) ++ List.replicate (6 - (lg_sl ([.ref s0])).length) Slot.unset).toArray = ls at hl ⊢
  have hl : lv_has ls 6 [(0, .ref s0)] := hl
  refine lv_aload_n hx hb dX3_slotToStart_0 rfl (lv_at hl 0 rfl) ?_
  refine bx_ri (va_runV (As := []) (rest := []) ⟨hx, hb, hml, hown, hts⟩ (c_X3_recordInForce l D cA s0 f w σ) (cwV 0 hts gX3_slotToStart_X3_recordInForce rfl rfl rfl (by decide +kernel) ⟨Nat.le_of_ble_eq_true rfl, Nat.le_of_ble_eq_true rfl⟩) (bx_pvr (ci := 3) (q0 := 0) hK hG (hP.sub (ws' := [(s0, .inr (3, [.ref f])), (f, .inr (2, [.ref w, .int σ.2.1, .int σ.2.2])), (w, .inl (cA, 66, .inl σ.1))]) [0, 1, 2] rfl) rfl rfl) rfl rfl hl.1 rfl (lv_room (Nat.le_of_ble_eq_true rfl)) dX3_slotToStart_1 ⟨Nat.zero_le _, Nat.zero_le _⟩) (fun r_1 h_2 => ?_)
  have h_2 := h_2.symm
  subst h_2
  refine lv_istore_n (lv' := [(1, .int (F_X3_recordInForce σ)), (0, .ref s0)]) hx hb dX3_slotToStart_4 rfl hl (by decide) rfl (fun ls hl => ?_)
  refine lv_aload_n hx hb dX3_slotToStart_5 rfl (lv_at hl 1 rfl) ?_
  refine lv_iload_n hx hb dX3_slotToStart_6 rfl (lv_at hl 0 rfl) ?_
  refine lv_iconst (v := 2) hx hb dX3_slotToStart_7 (by decide) ?_
  refine bx_ri (va_runV (As := [.int (F_X3_recordInForce σ), .int 2]) (rest := []) ⟨hx, hb, hml, hown, hts⟩ (c_X3_recordWord l D cA s0 f w σ (F_X3_recordInForce σ) 2) (cwV 2 hts gX3_slotToStart_X3_recordWord rfl rfl rfl (by decide +kernel) ⟨Nat.le_of_ble_eq_true rfl, Nat.le_of_ble_eq_true rfl⟩) (bx_pvr (ci := 3) (q0 := 0) hK hG (hP.sub (ws' := [(s0, .inr (3, [.ref f])), (f, .inr (2, [.ref w, .int σ.2.1, .int σ.2.2])), (w, .inl (cA, 66, .inl σ.1))]) [0, 1, 2] rfl) rfl rfl) rfl rfl hl.1 rfl (lv_room (Nat.le_of_ble_eq_true rfl)) dX3_slotToStart_8 ⟨Nat.zero_le _, Nat.zero_le _⟩) (fun r_3 h_4 => ?_)
  have h_4 := h_4.symm
  subst h_4
  refine lv_istore_n (lv' := [(2, .int (F_X3_recordWord σ (F_X3_recordInForce σ) 2)), (1, .int (F_X3_recordInForce σ)), (0, .ref s0)]) hx hb dX3_slotToStart_11 rfl hl (by decide) rfl (fun ls hl => ?_)
  refine lv_iload_n hx hb dX3_slotToStart_12 rfl (lv_at hl 0 rfl) ?_
  refine bx_ri (va_runS (As := [.int (F_X3_recordWord σ (F_X3_recordInForce σ) 2)]) (rest := []) ⟨hx, hb, hml, hown, hts⟩ (c_X3_confirmedIn l D (F_X3_recordWord σ (F_X3_recordInForce σ) 2)) (va_cwS 1 hts gX3_slotToStart_X3_confirmedIn rfl rfl rfl (by decide +kernel) ⟨Nat.le_of_ble_eq_true rfl, Nat.le_of_ble_eq_true rfl⟩) (bx_psr (hK.sub (tys' := []) [] rfl) hG (hP.sub (ws' := []) [] rfl)) rfl rfl hl.1 rfl (lv_room (Nat.le_of_ble_eq_true rfl)) dX3_slotToStart_13 ⟨Nat.zero_le _, Nat.zero_le _⟩) (fun r_5 h_6 => ?_)
  have h_6 := h_6.symm
  subst h_6
  refine lv_istore_n (lv' := [(3, .int (F_X3_confirmedIn (F_X3_recordWord σ (F_X3_recordInForce σ) 2))), (2, .int (F_X3_recordWord σ (F_X3_recordInForce σ) 2)), (1, .int (F_X3_recordInForce σ)), (0, .ref s0)]) hx hb dX3_slotToStart_16 rfl hl (by decide) rfl (fun ls hl => ?_)
  refine lv_iconst (v := 1) hx hb dX3_slotToStart_17 (by decide) ?_
  refine lv_iload_n hx hb dX3_slotToStart_18 rfl (lv_at hl 0 rfl) ?_
  refine lv_isub hx hb dX3_slotToStart_19 ?_
  refine lv_istore (lv' := [(4, .int (1 - (F_X3_confirmedIn (F_X3_recordWord σ (F_X3_recordInForce σ) 2)))), (3, .int (F_X3_confirmedIn (F_X3_recordWord σ (F_X3_recordInForce σ) 2))), (2, .int (F_X3_recordWord σ (F_X3_recordInForce σ) 2)), (1, .int (F_X3_recordInForce σ)), (0, .ref s0)]) hx hb dX3_slotToStart_20 hl (by decide) rfl (fun ls hl => ?_)
  refine lv_iload_n hx hb dX3_slotToStart_22 rfl (lv_at hl 2 rfl) ?_
  refine bx_ri (va_runS (As := [.int (F_X3_recordWord σ (F_X3_recordInForce σ) 2)]) (rest := []) ⟨hx, hb, hml, hown, hts⟩ (c_X3_triesIn l D (F_X3_recordWord σ (F_X3_recordInForce σ) 2)) (va_cwS 1 hts gX3_slotToStart_X3_triesIn rfl rfl rfl (by decide +kernel) ⟨Nat.le_of_ble_eq_true rfl, Nat.le_of_ble_eq_true rfl⟩) (bx_psr (hK.sub (tys' := []) [] rfl) hG (hP.sub (ws' := []) [] rfl)) rfl rfl hl.1 rfl (lv_room (Nat.le_of_ble_eq_true rfl)) dX3_slotToStart_23 ⟨Nat.zero_le _, Nat.zero_le _⟩) (fun r_7 h_8 => ?_)
  have h_8 := h_8.symm
  subst h_8
  refine lv_if_le (tgt := 58) hx hb dX3_slotToStart_26 (by decide) (fun c_9 => ?_) (fun c_9 => ?_)
  · skip
    refine lv_iconst (v := 0) hx hb dX3_slotToStart_58 (by decide) ?_
    refine lv_istore (lv' := [(5, .int 0), (4, .int (1 - (F_X3_confirmedIn (F_X3_recordWord σ (F_X3_recordInForce σ) 2)))), (3, .int (F_X3_confirmedIn (F_X3_recordWord σ (F_X3_recordInForce σ) 2))), (2, .int (F_X3_recordWord σ (F_X3_recordInForce σ) 2)), (1, .int (F_X3_recordInForce σ)), (0, .ref s0)]) hx hb dX3_slotToStart_59 hl (by decide) rfl (fun ls hl => ?_)
    refine lv_iload hx hb dX3_slotToStart_61 (lv_at hl 0 rfl) ?_
    refine lv_if_eq (tgt := 71) hx hb dX3_slotToStart_63 (by decide) (fun c_10 => ?_) (fun c_10 => ?_)
    · skip
      refine lv_iload_n hx hb dX3_slotToStart_71 rfl (lv_at hl 2 rfl) ?_
      exact W.iret (v := (F_X3_confirmedIn (F_X3_recordWord σ (F_X3_recordInForce σ) 2))) hx hb hr (fun t ht hW => ⟨(F_X3_confirmedIn (F_X3_recordWord σ (F_X3_recordInForce σ) 2)), rfl, (by simp only [F_X3_slotToStart, if_pos c_9, if_pos c_10]), ht⟩) (fun _ h => nomatch h) dX3_slotToStart_72
    · skip
      exact absurd (by decide) c_10
  · skip
    refine lv_aload_n hx hb dX3_slotToStart_29 rfl (lv_at hl 4 rfl) ?_
    refine lv_iload hx hb dX3_slotToStart_30 (lv_at hl 0 rfl) ?_
    refine bx_ri (va_runV (As := [.int (1 - (F_X3_confirmedIn (F_X3_recordWord σ (F_X3_recordInForce σ) 2)))]) (rest := []) ⟨hx, hb, hml, hown, hts⟩ (c_X3_canStart l D cA s0 f w σ (1 - (F_X3_confirmedIn (F_X3_recordWord σ (F_X3_recordInForce σ) 2)))) (cwV 1 hts gX3_slotToStart_X3_canStart rfl rfl rfl (by decide +kernel) ⟨Nat.le_of_ble_eq_true rfl, Nat.le_of_ble_eq_true rfl⟩) (bx_pvr (ci := 3) (q0 := 0) hK hG (hP.sub (ws' := [(s0, .inr (3, [.ref f])), (f, .inr (2, [.ref w, .int σ.2.1, .int σ.2.2])), (w, .inl (cA, 66, .inl σ.1))]) [0, 1, 2] rfl) rfl rfl) rfl rfl hl.1 rfl (lv_room (Nat.le_of_ble_eq_true rfl)) dX3_slotToStart_32 ⟨Nat.zero_le _, Nat.zero_le _⟩) (fun r_11 h_12 => ?_)
    obtain ⟨h_12, b_13⟩ := h_12
    have h_12 := h_12.symm
    subst h_12
    refine lv_if_eq (tgt := 58) hx hb dX3_slotToStart_35 (by decide) (fun c_14 => ?_) (fun c_14 => ?_)
    · skip
      refine lv_iconst (v := 0) hx hb dX3_slotToStart_58 (by decide) ?_
      refine lv_istore (lv' := [(5, .int 0), (4, .int (1 - (F_X3_confirmedIn (F_X3_recordWord σ (F_X3_recordInForce σ) 2)))), (3, .int (F_X3_confirmedIn (F_X3_recordWord σ (F_X3_recordInForce σ) 2))), (2, .int (F_X3_recordWord σ (F_X3_recordInForce σ) 2)), (1, .int (F_X3_recordInForce σ)), (0, .ref s0)]) hx hb dX3_slotToStart_59 hl (by decide) rfl (fun ls hl => ?_)
      refine lv_iload hx hb dX3_slotToStart_61 (lv_at hl 0 rfl) ?_
      refine lv_if_eq (tgt := 71) hx hb dX3_slotToStart_63 (by decide) (fun c_15 => ?_) (fun c_15 => ?_)
      · skip
        refine lv_iload_n hx hb dX3_slotToStart_71 rfl (lv_at hl 2 rfl) ?_
        exact W.iret (v := (F_X3_confirmedIn (F_X3_recordWord σ (F_X3_recordInForce σ) 2))) hx hb hr (fun t ht hW => ⟨(F_X3_confirmedIn (F_X3_recordWord σ (F_X3_recordInForce σ) 2)), rfl, (by simp only [F_X3_slotToStart, if_neg c_9, if_pos c_14, if_pos c_15]), ht⟩) (fun _ h => nomatch h) dX3_slotToStart_72
      · skip
        exact absurd (by decide) c_15
    · skip
      refine lv_aload_n hx hb dX3_slotToStart_38 rfl (lv_at hl 4 rfl) ?_
      refine lv_iload hx hb dX3_slotToStart_39 (lv_at hl 0 rfl) ?_
      refine lv_iconst (v := 4) hx hb dX3_slotToStart_41 (by decide) ?_
      refine bx_ri (va_runV (As := [.int (1 - (F_X3_confirmedIn (F_X3_recordWord σ (F_X3_recordInForce σ) 2))), .int 4]) (rest := []) ⟨hx, hb, hml, hown, hts⟩ (c_X3_slotWord l D cA s0 f w σ (1 - (F_X3_confirmedIn (F_X3_recordWord σ (F_X3_recordInForce σ) 2))) 4) (cwV 2 hts gX3_slotToStart_X3_slotWord rfl rfl rfl (by decide +kernel) ⟨Nat.le_of_ble_eq_true rfl, Nat.le_of_ble_eq_true rfl⟩) (bx_pvr (ci := 3) (q0 := 0) hK hG (hP.sub (ws' := [(s0, .inr (3, [.ref f])), (f, .inr (2, [.ref w, .int σ.2.1, .int σ.2.2])), (w, .inl (cA, 66, .inl σ.1))]) [0, 1, 2] rfl) rfl rfl) rfl rfl hl.1 rfl (lv_room (Nat.le_of_ble_eq_true rfl)) dX3_slotToStart_42 ⟨Nat.zero_le _, Nat.zero_le _⟩) (fun r_16 h_17 => ?_)
      have h_17 := h_17.symm
      subst h_17
      refine lv_aload_n hx hb dX3_slotToStart_45 rfl (lv_at hl 4 rfl) ?_
      refine lv_iload_n hx hb dX3_slotToStart_46 rfl (lv_at hl 3 rfl) ?_
      refine lv_iconst (v := 3) hx hb dX3_slotToStart_47 (by decide) ?_
      refine bx_ri (va_runV (As := [.int (F_X3_recordInForce σ), .int 3]) (rest := [.int (F_X3_slotWord σ (1 - (F_X3_confirmedIn (F_X3_recordWord σ (F_X3_recordInForce σ) 2))) 4)]) ⟨hx, hb, hml, hown, hts⟩ (c_X3_recordWord l D cA s0 f w σ (F_X3_recordInForce σ) 3) (cwV 2 hts gX3_slotToStart_X3_recordWord rfl rfl rfl (by decide +kernel) ⟨Nat.le_of_ble_eq_true rfl, Nat.le_of_ble_eq_true rfl⟩) (bx_pvr (ci := 3) (q0 := 0) hK hG (hP.sub (ws' := [(s0, .inr (3, [.ref f])), (f, .inr (2, [.ref w, .int σ.2.1, .int σ.2.2])), (w, .inl (cA, 66, .inl σ.1))]) [0, 1, 2] rfl) rfl rfl) rfl rfl hl.1 rfl (lv_room (Nat.le_of_ble_eq_true rfl)) dX3_slotToStart_48 ⟨Nat.zero_le _, Nat.zero_le _⟩) (fun r_18 h_19 => ?_)
      have h_19 := h_19.symm
      subst h_19
      refine lv_icmp_lt (tgt := 58) hx hb dX3_slotToStart_51 (by decide) (fun c_20 => ?_) (fun c_20 => ?_)
      · skip
        refine lv_iconst (v := 0) hx hb dX3_slotToStart_58 (by decide) ?_
        refine lv_istore (lv' := [(5, .int 0), (4, .int (1 - (F_X3_confirmedIn (F_X3_recordWord σ (F_X3_recordInForce σ) 2)))), (3, .int (F_X3_confirmedIn (F_X3_recordWord σ (F_X3_recordInForce σ) 2))), (2, .int (F_X3_recordWord σ (F_X3_recordInForce σ) 2)), (1, .int (F_X3_recordInForce σ)), (0, .ref s0)]) hx hb dX3_slotToStart_59 hl (by decide) rfl (fun ls hl => ?_)
        refine lv_iload hx hb dX3_slotToStart_61 (lv_at hl 0 rfl) ?_
        refine lv_if_eq (tgt := 71) hx hb dX3_slotToStart_63 (by decide) (fun c_21 => ?_) (fun c_21 => ?_)
        · skip
          refine lv_iload_n hx hb dX3_slotToStart_71 rfl (lv_at hl 2 rfl) ?_
          exact W.iret (v := (F_X3_confirmedIn (F_X3_recordWord σ (F_X3_recordInForce σ) 2))) hx hb hr (fun t ht hW => ⟨(F_X3_confirmedIn (F_X3_recordWord σ (F_X3_recordInForce σ) 2)), rfl, (by simp only [F_X3_slotToStart, if_neg c_9, if_neg c_14, if_pos c_20, if_pos c_21]), ht⟩) (fun _ h => nomatch h) dX3_slotToStart_72
        · skip
          exact absurd (by decide) c_21
      · skip
        refine lv_iconst (v := 1) hx hb dX3_slotToStart_54 (by decide) ?_
        refine lv_goto (tgt := 59) hx hb dX3_slotToStart_55 (by decide) ?_
        refine lv_istore (lv' := [(5, .int 1), (4, .int (1 - (F_X3_confirmedIn (F_X3_recordWord σ (F_X3_recordInForce σ) 2)))), (3, .int (F_X3_confirmedIn (F_X3_recordWord σ (F_X3_recordInForce σ) 2))), (2, .int (F_X3_recordWord σ (F_X3_recordInForce σ) 2)), (1, .int (F_X3_recordInForce σ)), (0, .ref s0)]) hx hb dX3_slotToStart_59 hl (by decide) rfl (fun ls hl => ?_)
        refine lv_iload hx hb dX3_slotToStart_61 (lv_at hl 0 rfl) ?_
        refine lv_if_eq (tgt := 71) hx hb dX3_slotToStart_63 (by decide) (fun c_22 => ?_) (fun c_22 => ?_)
        · skip
          exact absurd c_22 (by decide)
        · skip
          refine lv_iload hx hb dX3_slotToStart_66 (lv_at hl 1 rfl) ?_
          refine lv_goto (tgt := 72) hx hb dX3_slotToStart_68 (by decide) ?_
          exact W.iret (v := (1 - (F_X3_confirmedIn (F_X3_recordWord σ (F_X3_recordInForce σ) 2)))) hx hb hr (fun t ht hW => ⟨(1 - (F_X3_confirmedIn (F_X3_recordWord σ (F_X3_recordInForce σ) 2))), rfl, (by simp only [F_X3_slotToStart, if_neg c_9, if_neg c_14, if_neg c_20, if_neg c_22]), ht⟩) (fun _ h => nomatch h) dX3_slotToStart_72
def F_X3_start (σ : FS) : Int32 × (FS) := (if (F_X3_isTrialDue σ) = 0 then ((F_X3_slotToStart σ), σ) else (if (F_X3_slotToStart σ) = (F_X3_confirmedSlot σ) then (match (F_X3_writeRecord σ (F_X3_settledState (F_X3_confirmedSlot σ)) (F_X3_recordCounter σ)) with | (r_28, u_27) => (if r_28 = 0 then ((-1), u_27) else ((F_X3_slotToStart σ), u_27))) else (match (F_X3_writeRecord σ (F_X3_trialState (F_X3_confirmedSlot σ) ((F_X3_triesLeft σ) - 1)) (F_X3_recordCounter σ)) with | (r_18, u_17) => (if r_18 = 0 then ((-1), u_17) else ((F_X3_slotToStart σ), u_17)))))
set_option maxHeartbeats 4000000 in
set_option maxRecDepth 100000 in
theorem c_X3_start (l : Launch) (D : va_G) (cA : ClassId) (s0 f w : Nat) (sz : Nat) (σ : FS) : Met l yX3_start wsX3_start ({ frames := 5, cells := 0, slots := 0, locals := 114 }) (va_Pc [.ref s0] (bx_pre D [(cA, .int)] (wSt cA s0 f w σ) sz)) (va_Qi (fun r u => (r, u) = F_X3_start σ) (fun u t => bx_at D (wSt cA s0 f w u) (va_A (wSt cA s0 f w σ) sz) t) (va_A (wSt cA s0 f w σ) sz)) 0 0 (va_A (wSt cA s0 f w σ) sz) := by
  refine Met.ofW (cc := cX3_start) (maxL := 4) (ret := (some .int)) (by decide) rfl ?_
  intro p e s m args below meth c s₁ B hml hv
  obtain ⟨rfl, hsz, hP, hK, hD0, hG⟩ := hv
  have hx := B.exec
  have hb := B.bytes
  have hr := B.returns
  have hts := atoms_spec (ws := wsX3_start) B.pre
  have hown : s.vm.findClass RX3 = some m.cls := findClass_of_methodNamed B.named
  have hlocks := B.notSynchronized
  subst hsz
  have hD := hD0.self (sz := s.heap.size)
  generalize hAe : va_A (wSt cA s0 f w σ) s.heap.size = A at hD ⊢
  have hA : ∀ q : Nat, s.heap.size ≤ q → A q := fun q h => by rw [← hAe]; exact Or.inr h
  have hS : va_S A s.heap s.heap [] := va_S.rf
  have hD : va_D A [(s0, .inr (3, [.ref f])), (f, .inr (2, [.ref w, .int σ.2.1, .int σ.2.2])), (w, .inl (cA, 66, .inl σ.1))] := hD
  have hP : va_P D vwCl [(s0, .inr (3, [.ref f])), (f, .inr (2, [.ref w, .int σ.2.1, .int σ.2.2])), (w, .inl (cA, 66, .inl σ.1))] s.heap := hP
  have hl := lv_entry ([.ref s0]) (n := 4) (Nat.le_of_ble_eq_true rfl)
  rw [lg_entry_eq]
  generalize (lg_sl ([.ref s0]) ++ List.replicate (4 - (lg_sl ([.ref s0])).length) Slot.unset).toArray = ls at hl ⊢
  have hl : lv_has ls 4 [(0, .ref s0)] := hl
  refine lv_aload_n hx hb dX3_start_0 rfl (lv_at hl 0 rfl) ?_
  refine bx_ri (va_runV (As := []) (rest := []) ⟨hx, hb, hml, hown, hts⟩ (c_X3_slotToStart l D cA s0 f w σ) (cwV 0 hts gX3_start_X3_slotToStart rfl rfl rfl (by decide +kernel) ⟨Nat.le_of_ble_eq_true rfl, Nat.le_of_ble_eq_true rfl⟩) (bx_pvr (ci := 3) (q0 := 0) hK hG (hP.sub (ws' := [(s0, .inr (3, [.ref f])), (f, .inr (2, [.ref w, .int σ.2.1, .int σ.2.2])), (w, .inl (cA, 66, .inl σ.1))]) [0, 1, 2] rfl) rfl rfl) rfl rfl hl.1 rfl (lv_room (Nat.le_of_ble_eq_true rfl)) dX3_start_1 ⟨Nat.zero_le _, Nat.zero_le _⟩) (fun r_1 h_2 => ?_)
  have h_2 := h_2.symm
  subst h_2
  refine lv_istore_n (lv' := [(1, .int (F_X3_slotToStart σ)), (0, .ref s0)]) hx hb dX3_start_4 rfl hl (by decide) rfl (fun ls hl => ?_)
  refine lv_aload_n hx hb dX3_start_5 rfl (lv_at hl 1 rfl) ?_
  refine bx_ri (va_runV (As := []) (rest := []) ⟨hx, hb, hml, hown, hts⟩ (c_X3_isTrialDue l D cA s0 f w σ) (cwV 0 hts gX3_start_X3_isTrialDue rfl rfl rfl (by decide +kernel) ⟨Nat.le_of_ble_eq_true rfl, Nat.le_of_ble_eq_true rfl⟩) (bx_pvr (ci := 3) (q0 := 0) hK hG (hP.sub (ws' := [(s0, .inr (3, [.ref f])), (f, .inr (2, [.ref w, .int σ.2.1, .int σ.2.2])), (w, .inl (cA, 66, .inl σ.1))]) [0, 1, 2] rfl) rfl rfl) rfl rfl hl.1 rfl (lv_room (Nat.le_of_ble_eq_true rfl)) dX3_start_6 ⟨Nat.zero_le _, Nat.zero_le _⟩) (fun r_3 h_4 => ?_)
  obtain ⟨h_4, b_5⟩ := h_4
  have h_4 := h_4.symm
  subst h_4
  refine lv_if_ne (tgt := 14) hx hb dX3_start_9 (by decide) (fun c_6 => ?_) (fun c_6 => ?_)
  · skip
    refine lv_aload_n hx hb dX3_start_14 rfl (lv_at hl 1 rfl) ?_
    refine bx_ri (va_runV (As := []) (rest := []) ⟨hx, hb, hml, hown, hts⟩ (c_X3_confirmedSlot l D cA s0 f w σ) (cwV 0 hts gX3_start_X3_confirmedSlot rfl rfl rfl (by decide +kernel) ⟨Nat.le_of_ble_eq_true rfl, Nat.le_of_ble_eq_true rfl⟩) (bx_pvr (ci := 3) (q0 := 0) hK hG (hP.sub (ws' := [(s0, .inr (3, [.ref f])), (f, .inr (2, [.ref w, .int σ.2.1, .int σ.2.2])), (w, .inl (cA, 66, .inl σ.1))]) [0, 1, 2] rfl) rfl rfl) rfl rfl hl.1 rfl (lv_room (Nat.le_of_ble_eq_true rfl)) dX3_start_15 ⟨Nat.zero_le _, Nat.zero_le _⟩) (fun r_7 h_8 => ?_)
    have h_8 := h_8.symm
    subst h_8
    refine lv_istore_n (lv' := [(2, .int (F_X3_confirmedSlot σ)), (1, .int (F_X3_slotToStart σ)), (0, .ref s0)]) hx hb dX3_start_18 rfl hl (by decide) rfl (fun ls hl => ?_)
    refine lv_iload_n hx hb dX3_start_19 rfl (lv_at hl 1 rfl) ?_
    refine lv_iload_n hx hb dX3_start_20 rfl (lv_at hl 0 rfl) ?_
    refine lv_icmp_ne (tgt := 31) hx hb dX3_start_21 (by decide) (fun c_9 => ?_) (fun c_9 => ?_)
    · skip
      refine lv_iload_n hx hb dX3_start_31 rfl (lv_at hl 0 rfl) ?_
      refine lv_aload_n hx hb dX3_start_32 rfl (lv_at hl 2 rfl) ?_
      refine bx_ri (va_runV (As := []) (rest := [.int (F_X3_confirmedSlot σ)]) ⟨hx, hb, hml, hown, hts⟩ (c_X3_triesLeft l D cA s0 f w σ) (cwV 0 hts gX3_start_X3_triesLeft rfl rfl rfl (by decide +kernel) ⟨Nat.le_of_ble_eq_true rfl, Nat.le_of_ble_eq_true rfl⟩) (bx_pvr (ci := 3) (q0 := 0) hK hG (hP.sub (ws' := [(s0, .inr (3, [.ref f])), (f, .inr (2, [.ref w, .int σ.2.1, .int σ.2.2])), (w, .inl (cA, 66, .inl σ.1))]) [0, 1, 2] rfl) rfl rfl) rfl rfl hl.1 rfl (lv_room (Nat.le_of_ble_eq_true rfl)) dX3_start_33 ⟨Nat.zero_le _, Nat.zero_le _⟩) (fun r_10 h_11 => ?_)
      have h_11 := h_11.symm
      subst h_11
      refine lv_iconst (v := 1) hx hb dX3_start_36 (by decide) ?_
      refine lv_isub hx hb dX3_start_37 ?_
      refine bx_ri (va_runS (As := [.int (F_X3_confirmedSlot σ), .int ((F_X3_triesLeft σ) - 1)]) (rest := []) ⟨hx, hb, hml, hown, hts⟩ (c_X3_trialState l D (F_X3_confirmedSlot σ) ((F_X3_triesLeft σ) - 1)) (va_cwS 2 hts gX3_start_X3_trialState rfl rfl rfl (by decide +kernel) ⟨Nat.le_of_ble_eq_true rfl, Nat.le_of_ble_eq_true rfl⟩) (bx_psr (hK.sub (tys' := []) [] rfl) hG (hP.sub (ws' := []) [] rfl)) rfl rfl hl.1 rfl (lv_room (Nat.le_of_ble_eq_true rfl)) dX3_start_38 ⟨Nat.zero_le _, Nat.zero_le _⟩) (fun r_12 h_13 => ?_)
      have h_13 := h_13.symm
      subst h_13
      refine lv_istore_n (lv' := [(3, .int (F_X3_trialState (F_X3_confirmedSlot σ) ((F_X3_triesLeft σ) - 1))), (2, .int (F_X3_confirmedSlot σ)), (1, .int (F_X3_slotToStart σ)), (0, .ref s0)]) hx hb dX3_start_41 rfl hl (by decide) rfl (fun ls hl => ?_)
      refine lv_aload_n hx hb dX3_start_42 rfl (lv_at hl 3 rfl) ?_
      refine lv_iload_n hx hb dX3_start_43 rfl (lv_at hl 0 rfl) ?_
      refine lv_aload_n hx hb dX3_start_44 rfl (lv_at hl 3 rfl) ?_
      refine bx_ri (va_runV (As := []) (rest := [.int (F_X3_trialState (F_X3_confirmedSlot σ) ((F_X3_triesLeft σ) - 1)), .ref s0]) ⟨hx, hb, hml, hown, hts⟩ (c_X3_recordCounter l D cA s0 f w σ) (cwV 0 hts gX3_start_X3_recordCounter rfl rfl rfl (by decide +kernel) ⟨Nat.le_of_ble_eq_true rfl, Nat.le_of_ble_eq_true rfl⟩) (bx_pvr (ci := 3) (q0 := 0) hK hG (hP.sub (ws' := [(s0, .inr (3, [.ref f])), (f, .inr (2, [.ref w, .int σ.2.1, .int σ.2.2])), (w, .inl (cA, 66, .inl σ.1))]) [0, 1, 2] rfl) rfl rfl) rfl rfl hl.1 rfl (lv_room (Nat.le_of_ble_eq_true rfl)) dX3_start_45 ⟨Nat.zero_le _, Nat.zero_le _⟩) (fun r_14 h_15 => ?_)
      have h_15 := h_15.symm
      subst h_15
      refine bx_wi (wc := [(s0, .inr (3, [.ref f])), (f, .inr (2, [.ref w, .int σ.2.1, .int σ.2.2])), (w, .inl (cA, 66, .inl σ.1))]) (wr := []) (wf := fun (u : (FS)) => [(s0, .inr (3, [.ref f])), (f, .inr (2, [.ref w, .int u.2.1, .int u.2.2])), (w, .inl (cA, 66, .inl u.1))]) (wn := fun (u : (FS)) => [(s0, .inr (3, [.ref f])), (f, .inr (2, [.ref w, .int u.2.1, .int u.2.2])), (w, .inl (cA, 66, .inl u.1))]) hP hD hS hA [0, 1, 2] [] [0, 1, 2] rfl rfl (by decide) (by decide) (fun u => rfl) (by decide) (va_runV (As := [.int (F_X3_trialState (F_X3_confirmedSlot σ) ((F_X3_triesLeft σ) - 1)), .int (F_X3_recordCounter σ)]) (rest := []) ⟨hx, hb, hml, hown, hts⟩ (c_X3_writeRecord l D cA s0 f w s.heap.size σ (F_X3_trialState (F_X3_confirmedSlot σ) ((F_X3_triesLeft σ) - 1)) (F_X3_recordCounter σ)) (cwV 2 hts gX3_start_X3_writeRecord rfl rfl rfl (by decide +kernel) ⟨Nat.le_of_ble_eq_true rfl, Nat.le_of_ble_eq_true rfl⟩) (bx_pv (ci := 3) (q0 := 0) hK hG (hP.sub (ws' := [(s0, .inr (3, [.ref f])), (f, .inr (2, [.ref w, .int σ.2.1, .int σ.2.2])), (w, .inl (cA, 66, .inl σ.1))]) [0, 1, 2] rfl) (hD.sub (ws' := [(s0, .inr (3, [.ref f])), (f, .inr (2, [.ref w, .int σ.2.1, .int σ.2.2])), (w, .inl (cA, 66, .inl σ.1))]) [0, 1, 2] (by decide) rfl) rfl rfl) rfl rfl hl.1 rfl (lv_room (Nat.le_of_ble_eq_true rfl)) dX3_start_48 ⟨Nat.zero_le _, Nat.zero_le _⟩) (fun r_18 u_17 H locs h_16 hP hD hS => ?_)
      obtain ⟨h_16, b_20⟩ := h_16
      have hP : va_P D vwCl [(s0, .inr (3, [.ref f])), (f, .inr (2, [.ref w, .int u_17.2.1, .int u_17.2.2])), (w, .inl (cA, 66, .inl u_17.1))] H := hP
      have hD : va_D A [(s0, .inr (3, [.ref f])), (f, .inr (2, [.ref w, .int u_17.2.1, .int u_17.2.2])), (w, .inl (cA, 66, .inl u_17.1))] := hD
      refine lv_if_eq (tgt := 58) hx hb dX3_start_51 (by decide) (fun c_21 => ?_) (fun c_21 => ?_)
      · skip
        refine lv_iconst (v := (-1)) hx hb dX3_start_58 (by decide) ?_
        exact W.iret (v := (-1)) hx hb hr (fun t ht hW => ⟨⟨(-1), u_17, rfl, (by simp only [F_X3_start, if_neg c_6, if_neg c_9, if_pos c_21, ← h_16]), ⟨by rw [ht]; exact hP, hD⟩⟩, hS.F ht⟩) hS.2.2 dX3_start_59
      · skip
        refine lv_iload_n hx hb dX3_start_54 rfl (lv_at hl 2 rfl) ?_
        refine lv_goto (tgt := 59) hx hb dX3_start_55 (by decide) ?_
        exact W.iret (v := (F_X3_slotToStart σ)) hx hb hr (fun t ht hW => ⟨⟨(F_X3_slotToStart σ), u_17, rfl, (by simp only [F_X3_start, if_neg c_6, if_neg c_9, if_neg c_21, ← h_16]), ⟨by rw [ht]; exact hP, hD⟩⟩, hS.F ht⟩) hS.2.2 dX3_start_59
    · skip
      refine lv_iload_n hx hb dX3_start_24 rfl (lv_at hl 0 rfl) ?_
      refine bx_ri (va_runS (As := [.int (F_X3_confirmedSlot σ)]) (rest := []) ⟨hx, hb, hml, hown, hts⟩ (c_X3_settledState l D (F_X3_confirmedSlot σ)) (va_cwS 1 hts gX3_start_X3_settledState rfl rfl rfl (by decide +kernel) ⟨Nat.le_of_ble_eq_true rfl, Nat.le_of_ble_eq_true rfl⟩) (bx_psr (hK.sub (tys' := []) [] rfl) hG (hP.sub (ws' := []) [] rfl)) rfl rfl hl.1 rfl (lv_room (Nat.le_of_ble_eq_true rfl)) dX3_start_25 ⟨Nat.zero_le _, Nat.zero_le _⟩) (fun r_22 h_23 => ?_)
      have h_23 := h_23.symm
      subst h_23
      refine lv_goto (tgt := 41) hx hb dX3_start_28 (by decide) ?_
      refine lv_istore_n (lv' := [(3, .int (F_X3_settledState (F_X3_confirmedSlot σ))), (2, .int (F_X3_confirmedSlot σ)), (1, .int (F_X3_slotToStart σ)), (0, .ref s0)]) hx hb dX3_start_41 rfl hl (by decide) rfl (fun ls hl => ?_)
      refine lv_aload_n hx hb dX3_start_42 rfl (lv_at hl 3 rfl) ?_
      refine lv_iload_n hx hb dX3_start_43 rfl (lv_at hl 0 rfl) ?_
      refine lv_aload_n hx hb dX3_start_44 rfl (lv_at hl 3 rfl) ?_
      refine bx_ri (va_runV (As := []) (rest := [.int (F_X3_settledState (F_X3_confirmedSlot σ)), .ref s0]) ⟨hx, hb, hml, hown, hts⟩ (c_X3_recordCounter l D cA s0 f w σ) (cwV 0 hts gX3_start_X3_recordCounter rfl rfl rfl (by decide +kernel) ⟨Nat.le_of_ble_eq_true rfl, Nat.le_of_ble_eq_true rfl⟩) (bx_pvr (ci := 3) (q0 := 0) hK hG (hP.sub (ws' := [(s0, .inr (3, [.ref f])), (f, .inr (2, [.ref w, .int σ.2.1, .int σ.2.2])), (w, .inl (cA, 66, .inl σ.1))]) [0, 1, 2] rfl) rfl rfl) rfl rfl hl.1 rfl (lv_room (Nat.le_of_ble_eq_true rfl)) dX3_start_45 ⟨Nat.zero_le _, Nat.zero_le _⟩) (fun r_24 h_25 => ?_)
      have h_25 := h_25.symm
      subst h_25
      refine bx_wi (wc := [(s0, .inr (3, [.ref f])), (f, .inr (2, [.ref w, .int σ.2.1, .int σ.2.2])), (w, .inl (cA, 66, .inl σ.1))]) (wr := []) (wf := fun (u : (FS)) => [(s0, .inr (3, [.ref f])), (f, .inr (2, [.ref w, .int u.2.1, .int u.2.2])), (w, .inl (cA, 66, .inl u.1))]) (wn := fun (u : (FS)) => [(s0, .inr (3, [.ref f])), (f, .inr (2, [.ref w, .int u.2.1, .int u.2.2])), (w, .inl (cA, 66, .inl u.1))]) hP hD hS hA [0, 1, 2] [] [0, 1, 2] rfl rfl (by decide) (by decide) (fun u => rfl) (by decide) (va_runV (As := [.int (F_X3_settledState (F_X3_confirmedSlot σ)), .int (F_X3_recordCounter σ)]) (rest := []) ⟨hx, hb, hml, hown, hts⟩ (c_X3_writeRecord l D cA s0 f w s.heap.size σ (F_X3_settledState (F_X3_confirmedSlot σ)) (F_X3_recordCounter σ)) (cwV 2 hts gX3_start_X3_writeRecord rfl rfl rfl (by decide +kernel) ⟨Nat.le_of_ble_eq_true rfl, Nat.le_of_ble_eq_true rfl⟩) (bx_pv (ci := 3) (q0 := 0) hK hG (hP.sub (ws' := [(s0, .inr (3, [.ref f])), (f, .inr (2, [.ref w, .int σ.2.1, .int σ.2.2])), (w, .inl (cA, 66, .inl σ.1))]) [0, 1, 2] rfl) (hD.sub (ws' := [(s0, .inr (3, [.ref f])), (f, .inr (2, [.ref w, .int σ.2.1, .int σ.2.2])), (w, .inl (cA, 66, .inl σ.1))]) [0, 1, 2] (by decide) rfl) rfl rfl) rfl rfl hl.1 rfl (lv_room (Nat.le_of_ble_eq_true rfl)) dX3_start_48 ⟨Nat.zero_le _, Nat.zero_le _⟩) (fun r_28 u_27 H locs h_26 hP hD hS => ?_)
      obtain ⟨h_26, b_30⟩ := h_26
      have hP : va_P D vwCl [(s0, .inr (3, [.ref f])), (f, .inr (2, [.ref w, .int u_27.2.1, .int u_27.2.2])), (w, .inl (cA, 66, .inl u_27.1))] H := hP
      have hD : va_D A [(s0, .inr (3, [.ref f])), (f, .inr (2, [.ref w, .int u_27.2.1, .int u_27.2.2])), (w, .inl (cA, 66, .inl u_27.1))] := hD
      refine lv_if_eq (tgt := 58) hx hb dX3_start_51 (by decide) (fun c_31 => ?_) (fun c_31 => ?_)
      · skip
        refine lv_iconst (v := (-1)) hx hb dX3_start_58 (by decide) ?_
        exact W.iret (v := (-1)) hx hb hr (fun t ht hW => ⟨⟨(-1), u_27, rfl, (by simp only [F_X3_start, if_neg c_6, if_pos c_9, if_pos c_31, ← h_26]), ⟨by rw [ht]; exact hP, hD⟩⟩, hS.F ht⟩) hS.2.2 dX3_start_59
      · skip
        refine lv_iload_n hx hb dX3_start_54 rfl (lv_at hl 2 rfl) ?_
        refine lv_goto (tgt := 59) hx hb dX3_start_55 (by decide) ?_
        exact W.iret (v := (F_X3_slotToStart σ)) hx hb hr (fun t ht hW => ⟨⟨(F_X3_slotToStart σ), u_27, rfl, (by simp only [F_X3_start, if_neg c_6, if_pos c_9, if_neg c_31, ← h_26]), ⟨by rw [ht]; exact hP, hD⟩⟩, hS.F ht⟩) hS.2.2 dX3_start_59
  · skip
    refine lv_iload_n hx hb dX3_start_12 rfl (lv_at hl 0 rfl) ?_
    exact W.iret (v := (F_X3_slotToStart σ)) hx hb hr (fun t ht hW => ⟨⟨(F_X3_slotToStart σ), σ, rfl, (by simp only [F_X3_start, if_pos c_6]), ⟨by rw [ht]; exact hP, hD⟩⟩, hS.F ht⟩) hS.2.2 dX3_start_13
def F_X3_writeUpdate (σ : FS) (τ : TS) (p0 : Int32) (p1 : Int32) : Int32 × (FS) := (match (F_X3_writeSlotWord σ p0 1 τ.1) with | (r_3, u_2) => (if r_3 = 0 then (0, u_2) else (match (F_X3_writeSlotWord u_2 p0 2 τ.2.1) with | (r_9, u_8) => (if r_9 = 0 then (0, u_8) else (match (F_X3_writeSlotWord u_8 p0 3 τ.2.2.1) with | (r_15, u_14) => (if r_15 = 0 then (0, u_14) else (match (F_X3_writeSlotWord u_14 p0 4 τ.2.2.2.1) with | (r_21, u_20) => (if r_21 = 0 then (0, u_20) else (match (F_X3_writeSlotWord u_20 p0 0 1) with | (r_27, u_26) => (if r_27 = 0 then (0, u_26) else (match (F_X3_writeRecord u_26 (F_X3_trialState (F_X3_confirmedSlot u_26) p1) (F_X3_recordCounter u_26)) with | (r_39, u_38) => (if r_39 = 0 then (0, u_38) else (1, u_38)))))))))))))
set_option maxHeartbeats 4000000 in
set_option maxRecDepth 100000 in
theorem c_X3_writeUpdate (l : Launch) (D : va_G) (cA : ClassId) (s0 f w t0 : Nat) (sz : Nat) (σ : FS) (τ : TS) (p0 : Int32) (p1 : Int32) : Met l yX3_writeUpdate wsX3_writeUpdate ({ frames := 5, cells := 0, slots := 0, locals := 109 }) (va_Pc [.ref s0, .int p0, .ref t0, .int p1] (bx_pre D [(cA, .int)] (wST cA s0 f w t0 σ τ) sz)) (va_Qi (fun r u => (r, u) = F_X3_writeUpdate σ τ p0 p1 ∧ (r = 0 ∨ r = 1)) (fun u t => bx_at D (wST cA s0 f w t0 u τ) (va_A (wST cA s0 f w t0 σ τ) sz) t) (va_A (wST cA s0 f w t0 σ τ) sz)) 0 0 (va_A (wST cA s0 f w t0 σ τ) sz) := by
  refine Met.ofW (cc := cX3_writeUpdate) (maxL := 4) (ret := (some .boolean)) (by decide) rfl ?_
  intro p e s m args below meth c s₁ B hml hv
  obtain ⟨rfl, hsz, hP, hK, hD0, hG⟩ := hv
  have hx := B.exec
  have hb := B.bytes
  have hr := B.returns
  have hts := atoms_spec (ws := wsX3_writeUpdate) B.pre
  have hown : s.vm.findClass RX3 = some m.cls := findClass_of_methodNamed B.named
  have hlocks := B.notSynchronized
  subst hsz
  have hD := hD0.self (sz := s.heap.size)
  generalize hAe : va_A (wST cA s0 f w t0 σ τ) s.heap.size = A at hD ⊢
  have hA : ∀ q : Nat, s.heap.size ≤ q → A q := fun q h => by rw [← hAe]; exact Or.inr h
  have hS : va_S A s.heap s.heap [] := va_S.rf
  have hD : va_D A [(s0, .inr (3, [.ref f])), (f, .inr (2, [.ref w, .int σ.2.1, .int σ.2.2])), (w, .inl (cA, 66, .inl σ.1)), (t0, .inr (4, [.int τ.1, .int τ.2.1, .int τ.2.2.1, .int τ.2.2.2.1, .int τ.2.2.2.2.1, .int τ.2.2.2.2.2]))] := hD
  have hP : va_P D vwCl [(s0, .inr (3, [.ref f])), (f, .inr (2, [.ref w, .int σ.2.1, .int σ.2.2])), (w, .inl (cA, 66, .inl σ.1)), (t0, .inr (4, [.int τ.1, .int τ.2.1, .int τ.2.2.1, .int τ.2.2.2.1, .int τ.2.2.2.2.1, .int τ.2.2.2.2.2]))] s.heap := hP
  have hl := lv_entry ([.ref s0, .int p0, .ref t0, .int p1]) (n := 4) (Nat.le_of_ble_eq_true rfl)
  rw [lg_entry_eq]
  generalize (lg_sl ([.ref s0, .int p0, .ref t0, .int p1]) ++ List.replicate (4 - (lg_sl ([.ref s0, .int p0, .ref t0, .int p1])).length) Slot.unset).toArray = ls at hl ⊢
  have hl : lv_has ls 4 [(0, .ref s0), (1, .int p0), (2, .ref t0), (3, .int p1)] := hl
  have hi4 : ∀ w ∈ u_ws RX4 TX4 6, w ∈ wsX3_writeUpdate := by decide +kernel
  refine lv_aload_n hx hb dX3_writeUpdate_0 rfl (lv_at hl 0 rfl) ?_
  refine lv_iload_n hx hb dX3_writeUpdate_1 rfl (lv_at hl 1 rfl) ?_
  refine lv_iconst (v := 1) hx hb dX3_writeUpdate_2 (by decide) ?_
  refine lv_aload_n hx hb dX3_writeUpdate_3 rfl (lv_at hl 2 rfl) ?_
  refine va_get (D := D) (ci := 4) (v := .int τ.1) (C := RX4) (T := TX4) (N := 6) hx hb hts hi4 hown hK hP 3 rfl rfl 0 (by decide) (hts (.fieldLink RX3 103 "Bootstay$Transfer" "version" "I") (by decide +kernel)) (fun _ h9 => h9) rfl dX3_writeUpdate_4 ?_
  refine bx_wi (wc := [(s0, .inr (3, [.ref f])), (f, .inr (2, [.ref w, .int σ.2.1, .int σ.2.2])), (w, .inl (cA, 66, .inl σ.1))]) (wr := [(t0, .inr (4, [.int τ.1, .int τ.2.1, .int τ.2.2.1, .int τ.2.2.2.1, .int τ.2.2.2.2.1, .int τ.2.2.2.2.2]))]) (wf := fun (u : (FS)) => [(s0, .inr (3, [.ref f])), (f, .inr (2, [.ref w, .int u.2.1, .int u.2.2])), (w, .inl (cA, 66, .inl u.1))]) (wn := fun (u : (FS)) => [(s0, .inr (3, [.ref f])), (f, .inr (2, [.ref w, .int u.2.1, .int u.2.2])), (w, .inl (cA, 66, .inl u.1)), (t0, .inr (4, [.int τ.1, .int τ.2.1, .int τ.2.2.1, .int τ.2.2.2.1, .int τ.2.2.2.2.1, .int τ.2.2.2.2.2]))]) hP hD hS hA [0, 1, 2] [3] [1, 2, 3, 0] rfl rfl (by decide) (by decide) (fun u => rfl) (by decide) (va_runV (As := [.int p0, .int 1, .int τ.1]) (rest := []) ⟨hx, hb, hml, hown, hts⟩ (c_X3_writeSlotWord l D cA s0 f w s.heap.size σ p0 1 τ.1) (cwV 3 hts gX3_writeUpdate_X3_writeSlotWord rfl rfl rfl (by decide +kernel) ⟨Nat.le_of_ble_eq_true rfl, Nat.le_of_ble_eq_true rfl⟩) (bx_pv (ci := 3) (q0 := 0) hK hG (hP.sub (ws' := [(s0, .inr (3, [.ref f])), (f, .inr (2, [.ref w, .int σ.2.1, .int σ.2.2])), (w, .inl (cA, 66, .inl σ.1))]) [0, 1, 2] rfl) (hD.sub (ws' := [(s0, .inr (3, [.ref f])), (f, .inr (2, [.ref w, .int σ.2.1, .int σ.2.2])), (w, .inl (cA, 66, .inl σ.1))]) [0, 1, 2] (by decide) rfl) rfl rfl) rfl rfl hl.1 rfl (lv_room (Nat.le_of_ble_eq_true rfl)) dX3_writeUpdate_7 ⟨Nat.zero_le _, Nat.zero_le _⟩) (fun r_3 u_2 H locs h_1 hP hD hS => ?_)
  obtain ⟨h_1, b_5⟩ := h_1
  have hP : va_P D vwCl [(s0, .inr (3, [.ref f])), (f, .inr (2, [.ref w, .int u_2.2.1, .int u_2.2.2])), (w, .inl (cA, 66, .inl u_2.1)), (t0, .inr (4, [.int τ.1, .int τ.2.1, .int τ.2.2.1, .int τ.2.2.2.1, .int τ.2.2.2.2.1, .int τ.2.2.2.2.2]))] H := hP
  have hD : va_D A [(s0, .inr (3, [.ref f])), (f, .inr (2, [.ref w, .int u_2.2.1, .int u_2.2.2])), (w, .inl (cA, 66, .inl u_2.1)), (t0, .inr (4, [.int τ.1, .int τ.2.1, .int τ.2.2.1, .int τ.2.2.2.1, .int τ.2.2.2.2.1, .int τ.2.2.2.2.2]))] := hD
  refine lv_if_eq (tgt := 85) hx hb dX3_writeUpdate_10 (by decide) (fun c_6 => ?_) (fun c_6 => ?_)
  · skip
    refine lv_iconst (v := 0) hx hb dX3_writeUpdate_85 (by decide) ?_
    exact W.zret (v := 0) hx hb hr rfl (fun t ht hW => ⟨⟨0, u_2, rfl, ⟨(by simp only [F_X3_writeUpdate, if_pos c_6, ← h_1]), (by decide)⟩, ⟨by rw [ht]; exact hP, hD⟩⟩, hS.F ht⟩) hS.2.2 dX3_writeUpdate_86
  · skip
    refine lv_aload_n hx hb dX3_writeUpdate_13 rfl (lv_at hl 0 rfl) ?_
    refine lv_iload_n hx hb dX3_writeUpdate_14 rfl (lv_at hl 1 rfl) ?_
    refine lv_iconst (v := 2) hx hb dX3_writeUpdate_15 (by decide) ?_
    refine lv_aload_n hx hb dX3_writeUpdate_16 rfl (lv_at hl 2 rfl) ?_
    refine va_get (D := D) (ci := 4) (v := .int τ.2.1) (C := RX4) (T := TX4) (N := 6) hx hb hts hi4 hown hK hP 3 rfl rfl 1 (by decide) (hts (.fieldLink RX3 112 "Bootstay$Transfer" "length" "I") (by decide +kernel)) (fun _ h9 => h9) rfl dX3_writeUpdate_17 ?_
    refine bx_wi (wc := [(s0, .inr (3, [.ref f])), (f, .inr (2, [.ref w, .int u_2.2.1, .int u_2.2.2])), (w, .inl (cA, 66, .inl u_2.1))]) (wr := [(t0, .inr (4, [.int τ.1, .int τ.2.1, .int τ.2.2.1, .int τ.2.2.2.1, .int τ.2.2.2.2.1, .int τ.2.2.2.2.2]))]) (wf := fun (u : (FS)) => [(s0, .inr (3, [.ref f])), (f, .inr (2, [.ref w, .int u.2.1, .int u.2.2])), (w, .inl (cA, 66, .inl u.1))]) (wn := fun (u : (FS)) => [(s0, .inr (3, [.ref f])), (f, .inr (2, [.ref w, .int u.2.1, .int u.2.2])), (w, .inl (cA, 66, .inl u.1)), (t0, .inr (4, [.int τ.1, .int τ.2.1, .int τ.2.2.1, .int τ.2.2.2.1, .int τ.2.2.2.2.1, .int τ.2.2.2.2.2]))]) hP hD hS hA [0, 1, 2] [3] [1, 2, 3, 0] rfl rfl (by decide) (by decide) (fun u => rfl) (by decide) (va_runV (As := [.int p0, .int 2, .int τ.2.1]) (rest := []) ⟨hx, hb, hml, hown, hts⟩ (c_X3_writeSlotWord l D cA s0 f w H.size u_2 p0 2 τ.2.1) (cwV 3 hts gX3_writeUpdate_X3_writeSlotWord rfl rfl rfl (by decide +kernel) ⟨Nat.le_of_ble_eq_true rfl, Nat.le_of_ble_eq_true rfl⟩) (bx_pv (ci := 3) (q0 := 0) hK hG (hP.sub (ws' := [(s0, .inr (3, [.ref f])), (f, .inr (2, [.ref w, .int u_2.2.1, .int u_2.2.2])), (w, .inl (cA, 66, .inl u_2.1))]) [0, 1, 2] rfl) (hD.sub (ws' := [(s0, .inr (3, [.ref f])), (f, .inr (2, [.ref w, .int u_2.2.1, .int u_2.2.2])), (w, .inl (cA, 66, .inl u_2.1))]) [0, 1, 2] (by decide) rfl) rfl rfl) rfl rfl hl.1 rfl (lv_room (Nat.le_of_ble_eq_true rfl)) dX3_writeUpdate_20 ⟨Nat.zero_le _, Nat.zero_le _⟩) (fun r_9 u_8 H locs h_7 hP hD hS => ?_)
    obtain ⟨h_7, b_11⟩ := h_7
    have hP : va_P D vwCl [(s0, .inr (3, [.ref f])), (f, .inr (2, [.ref w, .int u_8.2.1, .int u_8.2.2])), (w, .inl (cA, 66, .inl u_8.1)), (t0, .inr (4, [.int τ.1, .int τ.2.1, .int τ.2.2.1, .int τ.2.2.2.1, .int τ.2.2.2.2.1, .int τ.2.2.2.2.2]))] H := hP
    have hD : va_D A [(s0, .inr (3, [.ref f])), (f, .inr (2, [.ref w, .int u_8.2.1, .int u_8.2.2])), (w, .inl (cA, 66, .inl u_8.1)), (t0, .inr (4, [.int τ.1, .int τ.2.1, .int τ.2.2.1, .int τ.2.2.2.1, .int τ.2.2.2.2.1, .int τ.2.2.2.2.2]))] := hD
    refine lv_if_eq (tgt := 85) hx hb dX3_writeUpdate_23 (by decide) (fun c_12 => ?_) (fun c_12 => ?_)
    · skip
      refine lv_iconst (v := 0) hx hb dX3_writeUpdate_85 (by decide) ?_
      exact W.zret (v := 0) hx hb hr rfl (fun t ht hW => ⟨⟨0, u_8, rfl, ⟨(by simp only [F_X3_writeUpdate, if_neg c_6, if_pos c_12, ← h_1, ← h_7]), (by decide)⟩, ⟨by rw [ht]; exact hP, hD⟩⟩, hS.F ht⟩) hS.2.2 dX3_writeUpdate_86
    · skip
      refine lv_aload_n hx hb dX3_writeUpdate_26 rfl (lv_at hl 0 rfl) ?_
      refine lv_iload_n hx hb dX3_writeUpdate_27 rfl (lv_at hl 1 rfl) ?_
      refine lv_iconst (v := 3) hx hb dX3_writeUpdate_28 (by decide) ?_
      refine lv_aload_n hx hb dX3_writeUpdate_29 rfl (lv_at hl 2 rfl) ?_
      refine va_get (D := D) (ci := 4) (v := .int τ.2.2.1) (C := RX4) (T := TX4) (N := 6) hx hb hts hi4 hown hK hP 3 rfl rfl 2 (by decide) (hts (.fieldLink RX3 115 "Bootstay$Transfer" "hash" "I") (by decide +kernel)) (fun _ h9 => h9) rfl dX3_writeUpdate_30 ?_
      refine bx_wi (wc := [(s0, .inr (3, [.ref f])), (f, .inr (2, [.ref w, .int u_8.2.1, .int u_8.2.2])), (w, .inl (cA, 66, .inl u_8.1))]) (wr := [(t0, .inr (4, [.int τ.1, .int τ.2.1, .int τ.2.2.1, .int τ.2.2.2.1, .int τ.2.2.2.2.1, .int τ.2.2.2.2.2]))]) (wf := fun (u : (FS)) => [(s0, .inr (3, [.ref f])), (f, .inr (2, [.ref w, .int u.2.1, .int u.2.2])), (w, .inl (cA, 66, .inl u.1))]) (wn := fun (u : (FS)) => [(s0, .inr (3, [.ref f])), (f, .inr (2, [.ref w, .int u.2.1, .int u.2.2])), (w, .inl (cA, 66, .inl u.1)), (t0, .inr (4, [.int τ.1, .int τ.2.1, .int τ.2.2.1, .int τ.2.2.2.1, .int τ.2.2.2.2.1, .int τ.2.2.2.2.2]))]) hP hD hS hA [0, 1, 2] [3] [1, 2, 3, 0] rfl rfl (by decide) (by decide) (fun u => rfl) (by decide) (va_runV (As := [.int p0, .int 3, .int τ.2.2.1]) (rest := []) ⟨hx, hb, hml, hown, hts⟩ (c_X3_writeSlotWord l D cA s0 f w H.size u_8 p0 3 τ.2.2.1) (cwV 3 hts gX3_writeUpdate_X3_writeSlotWord rfl rfl rfl (by decide +kernel) ⟨Nat.le_of_ble_eq_true rfl, Nat.le_of_ble_eq_true rfl⟩) (bx_pv (ci := 3) (q0 := 0) hK hG (hP.sub (ws' := [(s0, .inr (3, [.ref f])), (f, .inr (2, [.ref w, .int u_8.2.1, .int u_8.2.2])), (w, .inl (cA, 66, .inl u_8.1))]) [0, 1, 2] rfl) (hD.sub (ws' := [(s0, .inr (3, [.ref f])), (f, .inr (2, [.ref w, .int u_8.2.1, .int u_8.2.2])), (w, .inl (cA, 66, .inl u_8.1))]) [0, 1, 2] (by decide) rfl) rfl rfl) rfl rfl hl.1 rfl (lv_room (Nat.le_of_ble_eq_true rfl)) dX3_writeUpdate_33 ⟨Nat.zero_le _, Nat.zero_le _⟩) (fun r_15 u_14 H locs h_13 hP hD hS => ?_)
      obtain ⟨h_13, b_17⟩ := h_13
      have hP : va_P D vwCl [(s0, .inr (3, [.ref f])), (f, .inr (2, [.ref w, .int u_14.2.1, .int u_14.2.2])), (w, .inl (cA, 66, .inl u_14.1)), (t0, .inr (4, [.int τ.1, .int τ.2.1, .int τ.2.2.1, .int τ.2.2.2.1, .int τ.2.2.2.2.1, .int τ.2.2.2.2.2]))] H := hP
      have hD : va_D A [(s0, .inr (3, [.ref f])), (f, .inr (2, [.ref w, .int u_14.2.1, .int u_14.2.2])), (w, .inl (cA, 66, .inl u_14.1)), (t0, .inr (4, [.int τ.1, .int τ.2.1, .int τ.2.2.1, .int τ.2.2.2.1, .int τ.2.2.2.2.1, .int τ.2.2.2.2.2]))] := hD
      refine lv_if_eq (tgt := 85) hx hb dX3_writeUpdate_36 (by decide) (fun c_18 => ?_) (fun c_18 => ?_)
      · skip
        refine lv_iconst (v := 0) hx hb dX3_writeUpdate_85 (by decide) ?_
        exact W.zret (v := 0) hx hb hr rfl (fun t ht hW => ⟨⟨0, u_14, rfl, ⟨(by simp only [F_X3_writeUpdate, if_neg c_6, if_neg c_12, if_pos c_18, ← h_1, ← h_7, ← h_13]), (by decide)⟩, ⟨by rw [ht]; exact hP, hD⟩⟩, hS.F ht⟩) hS.2.2 dX3_writeUpdate_86
      · skip
        refine lv_aload_n hx hb dX3_writeUpdate_39 rfl (lv_at hl 0 rfl) ?_
        refine lv_iload_n hx hb dX3_writeUpdate_40 rfl (lv_at hl 1 rfl) ?_
        refine lv_iconst (v := 4) hx hb dX3_writeUpdate_41 (by decide) ?_
        refine lv_aload_n hx hb dX3_writeUpdate_42 rfl (lv_at hl 2 rfl) ?_
        refine va_get (D := D) (ci := 4) (v := .int τ.2.2.2.1) (C := RX4) (T := TX4) (N := 6) hx hb hts hi4 hown hK hP 3 rfl rfl 3 (by decide) (hts (.fieldLink RX3 118 "Bootstay$Transfer" "counter" "I") (by decide +kernel)) (fun _ h9 => h9) rfl dX3_writeUpdate_43 ?_
        refine bx_wi (wc := [(s0, .inr (3, [.ref f])), (f, .inr (2, [.ref w, .int u_14.2.1, .int u_14.2.2])), (w, .inl (cA, 66, .inl u_14.1))]) (wr := [(t0, .inr (4, [.int τ.1, .int τ.2.1, .int τ.2.2.1, .int τ.2.2.2.1, .int τ.2.2.2.2.1, .int τ.2.2.2.2.2]))]) (wf := fun (u : (FS)) => [(s0, .inr (3, [.ref f])), (f, .inr (2, [.ref w, .int u.2.1, .int u.2.2])), (w, .inl (cA, 66, .inl u.1))]) (wn := fun (u : (FS)) => [(s0, .inr (3, [.ref f])), (f, .inr (2, [.ref w, .int u.2.1, .int u.2.2])), (w, .inl (cA, 66, .inl u.1)), (t0, .inr (4, [.int τ.1, .int τ.2.1, .int τ.2.2.1, .int τ.2.2.2.1, .int τ.2.2.2.2.1, .int τ.2.2.2.2.2]))]) hP hD hS hA [0, 1, 2] [3] [1, 2, 3, 0] rfl rfl (by decide) (by decide) (fun u => rfl) (by decide) (va_runV (As := [.int p0, .int 4, .int τ.2.2.2.1]) (rest := []) ⟨hx, hb, hml, hown, hts⟩ (c_X3_writeSlotWord l D cA s0 f w H.size u_14 p0 4 τ.2.2.2.1) (cwV 3 hts gX3_writeUpdate_X3_writeSlotWord rfl rfl rfl (by decide +kernel) ⟨Nat.le_of_ble_eq_true rfl, Nat.le_of_ble_eq_true rfl⟩) (bx_pv (ci := 3) (q0 := 0) hK hG (hP.sub (ws' := [(s0, .inr (3, [.ref f])), (f, .inr (2, [.ref w, .int u_14.2.1, .int u_14.2.2])), (w, .inl (cA, 66, .inl u_14.1))]) [0, 1, 2] rfl) (hD.sub (ws' := [(s0, .inr (3, [.ref f])), (f, .inr (2, [.ref w, .int u_14.2.1, .int u_14.2.2])), (w, .inl (cA, 66, .inl u_14.1))]) [0, 1, 2] (by decide) rfl) rfl rfl) rfl rfl hl.1 rfl (lv_room (Nat.le_of_ble_eq_true rfl)) dX3_writeUpdate_46 ⟨Nat.zero_le _, Nat.zero_le _⟩) (fun r_21 u_20 H locs h_19 hP hD hS => ?_)
        obtain ⟨h_19, b_23⟩ := h_19
        have hP : va_P D vwCl [(s0, .inr (3, [.ref f])), (f, .inr (2, [.ref w, .int u_20.2.1, .int u_20.2.2])), (w, .inl (cA, 66, .inl u_20.1)), (t0, .inr (4, [.int τ.1, .int τ.2.1, .int τ.2.2.1, .int τ.2.2.2.1, .int τ.2.2.2.2.1, .int τ.2.2.2.2.2]))] H := hP
        have hD : va_D A [(s0, .inr (3, [.ref f])), (f, .inr (2, [.ref w, .int u_20.2.1, .int u_20.2.2])), (w, .inl (cA, 66, .inl u_20.1)), (t0, .inr (4, [.int τ.1, .int τ.2.1, .int τ.2.2.1, .int τ.2.2.2.1, .int τ.2.2.2.2.1, .int τ.2.2.2.2.2]))] := hD
        refine lv_if_eq (tgt := 85) hx hb dX3_writeUpdate_49 (by decide) (fun c_24 => ?_) (fun c_24 => ?_)
        · skip
          refine lv_iconst (v := 0) hx hb dX3_writeUpdate_85 (by decide) ?_
          exact W.zret (v := 0) hx hb hr rfl (fun t ht hW => ⟨⟨0, u_20, rfl, ⟨(by simp only [F_X3_writeUpdate, if_neg c_6, if_neg c_12, if_neg c_18, if_pos c_24, ← h_1, ← h_7, ← h_13, ← h_19]), (by decide)⟩, ⟨by rw [ht]; exact hP, hD⟩⟩, hS.F ht⟩) hS.2.2 dX3_writeUpdate_86
        · skip
          refine lv_aload_n hx hb dX3_writeUpdate_52 rfl (lv_at hl 0 rfl) ?_
          refine lv_iload_n hx hb dX3_writeUpdate_53 rfl (lv_at hl 1 rfl) ?_
          refine lv_iconst (v := 0) hx hb dX3_writeUpdate_54 (by decide) ?_
          refine lv_iconst (v := 1) hx hb dX3_writeUpdate_55 (by decide) ?_
          refine bx_wi (wc := [(s0, .inr (3, [.ref f])), (f, .inr (2, [.ref w, .int u_20.2.1, .int u_20.2.2])), (w, .inl (cA, 66, .inl u_20.1))]) (wr := [(t0, .inr (4, [.int τ.1, .int τ.2.1, .int τ.2.2.1, .int τ.2.2.2.1, .int τ.2.2.2.2.1, .int τ.2.2.2.2.2]))]) (wf := fun (u : (FS)) => [(s0, .inr (3, [.ref f])), (f, .inr (2, [.ref w, .int u.2.1, .int u.2.2])), (w, .inl (cA, 66, .inl u.1))]) (wn := fun (u : (FS)) => [(s0, .inr (3, [.ref f])), (f, .inr (2, [.ref w, .int u.2.1, .int u.2.2])), (w, .inl (cA, 66, .inl u.1)), (t0, .inr (4, [.int τ.1, .int τ.2.1, .int τ.2.2.1, .int τ.2.2.2.1, .int τ.2.2.2.2.1, .int τ.2.2.2.2.2]))]) hP hD hS hA [0, 1, 2] [3] [1, 2, 3, 0] rfl rfl (by decide) (by decide) (fun u => rfl) (by decide) (va_runV (As := [.int p0, .int 0, .int 1]) (rest := []) ⟨hx, hb, hml, hown, hts⟩ (c_X3_writeSlotWord l D cA s0 f w H.size u_20 p0 0 1) (cwV 3 hts gX3_writeUpdate_X3_writeSlotWord rfl rfl rfl (by decide +kernel) ⟨Nat.le_of_ble_eq_true rfl, Nat.le_of_ble_eq_true rfl⟩) (bx_pv (ci := 3) (q0 := 0) hK hG (hP.sub (ws' := [(s0, .inr (3, [.ref f])), (f, .inr (2, [.ref w, .int u_20.2.1, .int u_20.2.2])), (w, .inl (cA, 66, .inl u_20.1))]) [0, 1, 2] rfl) (hD.sub (ws' := [(s0, .inr (3, [.ref f])), (f, .inr (2, [.ref w, .int u_20.2.1, .int u_20.2.2])), (w, .inl (cA, 66, .inl u_20.1))]) [0, 1, 2] (by decide) rfl) rfl rfl) rfl rfl hl.1 rfl (lv_room (Nat.le_of_ble_eq_true rfl)) dX3_writeUpdate_56 ⟨Nat.zero_le _, Nat.zero_le _⟩) (fun r_27 u_26 H locs h_25 hP hD hS => ?_)
          obtain ⟨h_25, b_29⟩ := h_25
          have hP : va_P D vwCl [(s0, .inr (3, [.ref f])), (f, .inr (2, [.ref w, .int u_26.2.1, .int u_26.2.2])), (w, .inl (cA, 66, .inl u_26.1)), (t0, .inr (4, [.int τ.1, .int τ.2.1, .int τ.2.2.1, .int τ.2.2.2.1, .int τ.2.2.2.2.1, .int τ.2.2.2.2.2]))] H := hP
          have hD : va_D A [(s0, .inr (3, [.ref f])), (f, .inr (2, [.ref w, .int u_26.2.1, .int u_26.2.2])), (w, .inl (cA, 66, .inl u_26.1)), (t0, .inr (4, [.int τ.1, .int τ.2.1, .int τ.2.2.1, .int τ.2.2.2.1, .int τ.2.2.2.2.1, .int τ.2.2.2.2.2]))] := hD
          refine lv_if_eq (tgt := 85) hx hb dX3_writeUpdate_59 (by decide) (fun c_30 => ?_) (fun c_30 => ?_)
          · skip
            refine lv_iconst (v := 0) hx hb dX3_writeUpdate_85 (by decide) ?_
            exact W.zret (v := 0) hx hb hr rfl (fun t ht hW => ⟨⟨0, u_26, rfl, ⟨(by simp only [F_X3_writeUpdate, if_neg c_6, if_neg c_12, if_neg c_18, if_neg c_24, if_pos c_30, ← h_1, ← h_7, ← h_13, ← h_19, ← h_25]), (by decide)⟩, ⟨by rw [ht]; exact hP, hD⟩⟩, hS.F ht⟩) hS.2.2 dX3_writeUpdate_86
          · skip
            refine lv_aload_n hx hb dX3_writeUpdate_62 rfl (lv_at hl 0 rfl) ?_
            refine lv_aload_n hx hb dX3_writeUpdate_63 rfl (lv_at hl 0 rfl) ?_
            refine bx_ri (va_runV (As := []) (rest := [.ref s0]) ⟨hx, hb, hml, hown, hts⟩ (c_X3_confirmedSlot l D cA s0 f w u_26) (cwV 0 hts gX3_writeUpdate_X3_confirmedSlot rfl rfl rfl (by decide +kernel) ⟨Nat.le_of_ble_eq_true rfl, Nat.le_of_ble_eq_true rfl⟩) (bx_pvr (ci := 3) (q0 := 0) hK hG (hP.sub (ws' := [(s0, .inr (3, [.ref f])), (f, .inr (2, [.ref w, .int u_26.2.1, .int u_26.2.2])), (w, .inl (cA, 66, .inl u_26.1))]) [0, 1, 2] rfl) rfl rfl) rfl rfl hl.1 rfl (lv_room (Nat.le_of_ble_eq_true rfl)) dX3_writeUpdate_64 ⟨Nat.zero_le _, Nat.zero_le _⟩) (fun r_31 h_32 => ?_)
            have h_32 := h_32.symm
            subst h_32
            refine lv_iload_n hx hb dX3_writeUpdate_67 rfl (lv_at hl 3 rfl) ?_
            refine bx_ri (va_runS (As := [.int (F_X3_confirmedSlot u_26), .int p1]) (rest := [.ref s0]) ⟨hx, hb, hml, hown, hts⟩ (c_X3_trialState l D (F_X3_confirmedSlot u_26) p1) (va_cwS 2 hts gX3_writeUpdate_X3_trialState rfl rfl rfl (by decide +kernel) ⟨Nat.le_of_ble_eq_true rfl, Nat.le_of_ble_eq_true rfl⟩) (bx_psr (hK.sub (tys' := []) [] rfl) hG (hP.sub (ws' := []) [] rfl)) rfl rfl hl.1 rfl (lv_room (Nat.le_of_ble_eq_true rfl)) dX3_writeUpdate_68 ⟨Nat.zero_le _, Nat.zero_le _⟩) (fun r_33 h_34 => ?_)
            have h_34 := h_34.symm
            subst h_34
            refine lv_aload_n hx hb dX3_writeUpdate_71 rfl (lv_at hl 0 rfl) ?_
            refine bx_ri (va_runV (As := []) (rest := [.int (F_X3_trialState (F_X3_confirmedSlot u_26) p1), .ref s0]) ⟨hx, hb, hml, hown, hts⟩ (c_X3_recordCounter l D cA s0 f w u_26) (cwV 0 hts gX3_writeUpdate_X3_recordCounter rfl rfl rfl (by decide +kernel) ⟨Nat.le_of_ble_eq_true rfl, Nat.le_of_ble_eq_true rfl⟩) (bx_pvr (ci := 3) (q0 := 0) hK hG (hP.sub (ws' := [(s0, .inr (3, [.ref f])), (f, .inr (2, [.ref w, .int u_26.2.1, .int u_26.2.2])), (w, .inl (cA, 66, .inl u_26.1))]) [0, 1, 2] rfl) rfl rfl) rfl rfl hl.1 rfl (lv_room (Nat.le_of_ble_eq_true rfl)) dX3_writeUpdate_72 ⟨Nat.zero_le _, Nat.zero_le _⟩) (fun r_35 h_36 => ?_)
            have h_36 := h_36.symm
            subst h_36
            refine bx_wi (wc := [(s0, .inr (3, [.ref f])), (f, .inr (2, [.ref w, .int u_26.2.1, .int u_26.2.2])), (w, .inl (cA, 66, .inl u_26.1))]) (wr := [(t0, .inr (4, [.int τ.1, .int τ.2.1, .int τ.2.2.1, .int τ.2.2.2.1, .int τ.2.2.2.2.1, .int τ.2.2.2.2.2]))]) (wf := fun (u : (FS)) => [(s0, .inr (3, [.ref f])), (f, .inr (2, [.ref w, .int u.2.1, .int u.2.2])), (w, .inl (cA, 66, .inl u.1))]) (wn := fun (u : (FS)) => [(s0, .inr (3, [.ref f])), (f, .inr (2, [.ref w, .int u.2.1, .int u.2.2])), (w, .inl (cA, 66, .inl u.1)), (t0, .inr (4, [.int τ.1, .int τ.2.1, .int τ.2.2.1, .int τ.2.2.2.1, .int τ.2.2.2.2.1, .int τ.2.2.2.2.2]))]) hP hD hS hA [0, 1, 2] [3] [1, 2, 3, 0] rfl rfl (by decide) (by decide) (fun u => rfl) (by decide) (va_runV (As := [.int (F_X3_trialState (F_X3_confirmedSlot u_26) p1), .int (F_X3_recordCounter u_26)]) (rest := []) ⟨hx, hb, hml, hown, hts⟩ (c_X3_writeRecord l D cA s0 f w H.size u_26 (F_X3_trialState (F_X3_confirmedSlot u_26) p1) (F_X3_recordCounter u_26)) (cwV 2 hts gX3_writeUpdate_X3_writeRecord rfl rfl rfl (by decide +kernel) ⟨Nat.le_of_ble_eq_true rfl, Nat.le_of_ble_eq_true rfl⟩) (bx_pv (ci := 3) (q0 := 0) hK hG (hP.sub (ws' := [(s0, .inr (3, [.ref f])), (f, .inr (2, [.ref w, .int u_26.2.1, .int u_26.2.2])), (w, .inl (cA, 66, .inl u_26.1))]) [0, 1, 2] rfl) (hD.sub (ws' := [(s0, .inr (3, [.ref f])), (f, .inr (2, [.ref w, .int u_26.2.1, .int u_26.2.2])), (w, .inl (cA, 66, .inl u_26.1))]) [0, 1, 2] (by decide) rfl) rfl rfl) rfl rfl hl.1 rfl (lv_room (Nat.le_of_ble_eq_true rfl)) dX3_writeUpdate_75 ⟨Nat.zero_le _, Nat.zero_le _⟩) (fun r_39 u_38 H locs h_37 hP hD hS => ?_)
            obtain ⟨h_37, b_41⟩ := h_37
            have hP : va_P D vwCl [(s0, .inr (3, [.ref f])), (f, .inr (2, [.ref w, .int u_38.2.1, .int u_38.2.2])), (w, .inl (cA, 66, .inl u_38.1)), (t0, .inr (4, [.int τ.1, .int τ.2.1, .int τ.2.2.1, .int τ.2.2.2.1, .int τ.2.2.2.2.1, .int τ.2.2.2.2.2]))] H := hP
            have hD : va_D A [(s0, .inr (3, [.ref f])), (f, .inr (2, [.ref w, .int u_38.2.1, .int u_38.2.2])), (w, .inl (cA, 66, .inl u_38.1)), (t0, .inr (4, [.int τ.1, .int τ.2.1, .int τ.2.2.1, .int τ.2.2.2.1, .int τ.2.2.2.2.1, .int τ.2.2.2.2.2]))] := hD
            refine lv_if_eq (tgt := 85) hx hb dX3_writeUpdate_78 (by decide) (fun c_42 => ?_) (fun c_42 => ?_)
            · skip
              refine lv_iconst (v := 0) hx hb dX3_writeUpdate_85 (by decide) ?_
              exact W.zret (v := 0) hx hb hr rfl (fun t ht hW => ⟨⟨0, u_38, rfl, ⟨(by simp only [F_X3_writeUpdate, if_neg c_6, if_neg c_12, if_neg c_18, if_neg c_24, if_neg c_30, if_pos c_42, ← h_1, ← h_7, ← h_13, ← h_19, ← h_25, ← h_37]), (by decide)⟩, ⟨by rw [ht]; exact hP, hD⟩⟩, hS.F ht⟩) hS.2.2 dX3_writeUpdate_86
            · skip
              refine lv_iconst (v := 1) hx hb dX3_writeUpdate_81 (by decide) ?_
              refine lv_goto (tgt := 86) hx hb dX3_writeUpdate_82 (by decide) ?_
              exact W.zret (v := 1) hx hb hr rfl (fun t ht hW => ⟨⟨1, u_38, rfl, ⟨(by simp only [F_X3_writeUpdate, if_neg c_6, if_neg c_12, if_neg c_18, if_neg c_24, if_neg c_30, if_neg c_42, ← h_1, ← h_7, ← h_13, ← h_19, ← h_25, ← h_37]), (by decide)⟩, ⟨by rw [ht]; exact hP, hD⟩⟩, hS.F ht⟩) hS.2.2 dX3_writeUpdate_86
def F_X3_mirror (σ : FS) (ρ : FS) : (FS) := (let u_2 := (F_X2_mirror σ ρ); u_2)
set_option maxHeartbeats 4000000 in
set_option maxRecDepth 100000 in
theorem c_X3_mirror (l : Launch) (D : va_G) (cA : ClassId) (s0 f w s2 f2 w2 : Nat) (sz : Nat) (σ : FS) (ρ : FS) : Met l yX3_mirror wsX3_mirror ({ frames := 2, cells := 0, slots := 0, locals := 43 }) (va_Pc [.ref s0, .ref s2] (bx_pre D [(cA, .int)] (wSS cA s0 f w s2 f2 w2 σ ρ) sz)) (va_Qv (fun u => u = F_X3_mirror σ ρ) (fun u t => bx_at D (wSS cA s0 f w s2 f2 w2 u ρ) (va_A (wSS cA s0 f w s2 f2 w2 σ ρ) sz) t) (va_A (wSS cA s0 f w s2 f2 w2 σ ρ) sz)) 0 0 (va_A (wSS cA s0 f w s2 f2 w2 σ ρ) sz) := by
  refine Met.ofW (cc := cX3_mirror) (maxL := 2) (ret := none) (by decide) rfl ?_
  intro p e s m args below meth c s₁ B hml hv
  obtain ⟨rfl, hsz, hP, hK, hD0, hG⟩ := hv
  have hx := B.exec
  have hb := B.bytes
  have hr := B.returns
  have hts := atoms_spec (ws := wsX3_mirror) B.pre
  have hown : s.vm.findClass RX3 = some m.cls := findClass_of_methodNamed B.named
  have hlocks := B.notSynchronized
  subst hsz
  have hD := hD0.self (sz := s.heap.size)
  generalize hAe : va_A (wSS cA s0 f w s2 f2 w2 σ ρ) s.heap.size = A at hD ⊢
  have hA : ∀ q : Nat, s.heap.size ≤ q → A q := fun q h => by rw [← hAe]; exact Or.inr h
  have hS : va_S A s.heap s.heap [] := va_S.rf
  have hD : va_D A [(s0, .inr (3, [.ref f])), (f, .inr (2, [.ref w, .int σ.2.1, .int σ.2.2])), (w, .inl (cA, 66, .inl σ.1)), (s2, .inr (3, [.ref f2])), (f2, .inr (2, [.ref w2, .int ρ.2.1, .int ρ.2.2])), (w2, .inl (cA, 66, .inl ρ.1))] := hD
  have hP : va_P D vwCl [(s0, .inr (3, [.ref f])), (f, .inr (2, [.ref w, .int σ.2.1, .int σ.2.2])), (w, .inl (cA, 66, .inl σ.1)), (s2, .inr (3, [.ref f2])), (f2, .inr (2, [.ref w2, .int ρ.2.1, .int ρ.2.2])), (w2, .inl (cA, 66, .inl ρ.1))] s.heap := hP
  have hl := lv_entry ([.ref s0, .ref s2]) (n := 2) (Nat.le_of_ble_eq_true rfl)
  rw [lg_entry_eq]
  generalize (lg_sl ([.ref s0, .ref s2]) ++ List.replicate (2 - (lg_sl ([.ref s0, .ref s2])).length) Slot.unset).toArray = ls at hl ⊢
  have hl : lv_has ls 2 [(0, .ref s0), (1, .ref s2)] := hl
  have hi3 : ∀ w ∈ u_ws RX3 TX3 1, w ∈ wsX3_mirror := by decide +kernel
  refine lv_aload_n hx hb dX3_mirror_0 rfl (lv_at hl 0 rfl) ?_
  refine va_get (D := D) (ci := 3) (v := .ref f) (C := RX3) (T := TX3) (N := 1) hx hb hts hi3 hown hK hP 0 rfl rfl 0 (by decide) (hts (.fieldLink RX3 14 "Bootstay$Store" "flash" "LBootstay$Flash;") (by decide +kernel)) (fun _ h9 => h9) rfl dX3_mirror_1 ?_
  refine lv_aload_n hx hb dX3_mirror_4 rfl (lv_at hl 1 rfl) ?_
  refine va_get (D := D) (ci := 3) (v := .ref f2) (C := RX3) (T := TX3) (N := 1) hx hb hts hi3 hown hK hP 3 rfl rfl 0 (by decide) (hts (.fieldLink RX3 14 "Bootstay$Store" "flash" "LBootstay$Flash;") (by decide +kernel)) (fun _ h9 => h9) rfl dX3_mirror_5 ?_
  refine bx_wv (wc := [(f, .inr (2, [.ref w, .int σ.2.1, .int σ.2.2])), (w, .inl (cA, 66, .inl σ.1)), (f2, .inr (2, [.ref w2, .int ρ.2.1, .int ρ.2.2])), (w2, .inl (cA, 66, .inl ρ.1))]) (wr := [(s0, .inr (3, [.ref f])), (s2, .inr (3, [.ref f2]))]) (wf := fun (u : (FS)) => [(f, .inr (2, [.ref w, .int u.2.1, .int u.2.2])), (w, .inl (cA, 66, .inl u.1)), (f2, .inr (2, [.ref w2, .int ρ.2.1, .int ρ.2.2])), (w2, .inl (cA, 66, .inl ρ.1))]) (wn := fun (u : (FS)) => [(s0, .inr (3, [.ref f])), (f, .inr (2, [.ref w, .int u.2.1, .int u.2.2])), (w, .inl (cA, 66, .inl u.1)), (s2, .inr (3, [.ref f2])), (f2, .inr (2, [.ref w2, .int ρ.2.1, .int ρ.2.2])), (w2, .inl (cA, 66, .inl ρ.1))]) hP hD hS hA [1, 2, 4, 5] [0, 3] [0, 2, 3, 1, 4, 5] rfl rfl (by decide) (by decide) (fun u => rfl) (by decide) (va_runV (As := [.ref f2]) (rest := []) ⟨hx, hb, hml, hown, hts⟩ (c_X2_mirror l D cA f w f2 w2 s.heap.size σ ρ) (cwV 1 hts gX3_mirror_X2_mirror rfl rfl rfl (by decide +kernel) ⟨Nat.le_of_ble_eq_true rfl, Nat.le_of_ble_eq_true rfl⟩) (bx_pv (ci := 2) (q0 := 0) hK hG (hP.sub (ws' := [(f, .inr (2, [.ref w, .int σ.2.1, .int σ.2.2])), (w, .inl (cA, 66, .inl σ.1)), (f2, .inr (2, [.ref w2, .int ρ.2.1, .int ρ.2.2])), (w2, .inl (cA, 66, .inl ρ.1))]) [1, 2, 4, 5] rfl) (hD.sub (ws' := [(f, .inr (2, [.ref w, .int σ.2.1, .int σ.2.2])), (w, .inl (cA, 66, .inl σ.1)), (f2, .inr (2, [.ref w2, .int ρ.2.1, .int ρ.2.2])), (w2, .inl (cA, 66, .inl ρ.1))]) [1, 2, 4, 5] (by decide) rfl) rfl rfl) rfl rfl hl.1 rfl (lv_room (Nat.le_of_ble_eq_true rfl)) dX3_mirror_8 ⟨Nat.zero_le _, Nat.zero_le _⟩) (fun  u_2 H locs h_1 hP hD hS => ?_)
  have hP : va_P D vwCl [(s0, .inr (3, [.ref f])), (f, .inr (2, [.ref w, .int u_2.2.1, .int u_2.2.2])), (w, .inl (cA, 66, .inl u_2.1)), (s2, .inr (3, [.ref f2])), (f2, .inr (2, [.ref w2, .int ρ.2.1, .int ρ.2.2])), (w2, .inl (cA, 66, .inl ρ.1))] H := hP
  have hD : va_D A [(s0, .inr (3, [.ref f])), (f, .inr (2, [.ref w, .int u_2.2.1, .int u_2.2.2])), (w, .inl (cA, 66, .inl u_2.1)), (s2, .inr (3, [.ref f2])), (f2, .inr (2, [.ref w2, .int ρ.2.1, .int ρ.2.2])), (w2, .inl (cA, 66, .inl ρ.1))] := hD
  exact W.vret hx hb hr (fun t ht hW => ⟨⟨u_2, rfl, (by simp only [F_X3_mirror, ← h_1]), ⟨by rw [ht]; exact hP, hD⟩⟩, hS.F ht⟩) hS.2.2 dX3_mirror_11
