def F_X5_requireWithin (p0 : Int32) (p1 : Int32) (p2 : Int32) : Int32 := (if p0 < p1 then 1 else (if p0 ≤ p2 then 0 else 1))
set_option maxHeartbeats 4000000 in
set_option maxRecDepth 100000 in
theorem c_X5_requireWithin (l : Launch) (hl9 : l.stackTraces = false) (D : va_G) (p0 : Int32) (p1 : Int32) (p2 : Int32) : vx_Met l yX5_requireWithin wsX5_requireWithin ({ frames := 6, cells := 1, slots := 6, locals := 90 }) (va_Pc [.int p0, .int p1, .int p2] (bx_rox D [] (wNil))) (va_Sv (fun _ => F_X5_requireWithin p0 p1 p2 = 0)) (bx_XC (F_X5_requireWithin p0 p1 p2)) 1 6 (fun _ => False) := by
  refine vx_ofW (cc := cX5_requireWithin) (maxL := 3) (ret := none) (by decide) rfl ?_
  intro p e s m args below meth c s₁ B hml hnx hv
  obtain ⟨rfl, hP, hK, hG, hZ⟩ := hv
  have hx := B.exec
  have hb := B.bytes
  have hr := B.returns
  have hts := atoms_spec (ws := wsX5_requireWithin) B.pre
  have hown : s.vm.findClass RX5 = some m.cls := findClass_of_methodNamed B.named
  have hlocks := B.notSynchronized
  have hS : va_S (fun _ => False) s.heap s.heap [] := va_S.rf
  have hP : va_P D vwCl [] s.heap := hP
  have hl := lv_entry ([.int p0, .int p1, .int p2]) (n := 3) (Nat.le_of_ble_eq_true rfl)
  rw [lg_entry_eq]
  generalize (lg_sl ([.int p0, .int p1, .int p2]) ++ List.replicate (3 - (lg_sl ([.int p0, .int p1, .int p2])).length) Slot.unset).toArray = ls at hl ⊢
  have hl : lv_has ls 3 [(0, .int p0), (1, .int p1), (2, .int p2)] := hl
  refine lv_iload_n hx hb dX5_requireWithin_0 rfl (lv_at hl 0 rfl) ?_
  refine lv_iload_n hx hb dX5_requireWithin_1 rfl (lv_at hl 1 rfl) ?_
  refine lv_icmp_lt (tgt := 10) hx hb dX5_requireWithin_2 (by decide) (fun c_1 => ?_) (fun c_1 => ?_)
  · skip
    obtain ⟨sa, hstr⟩ := hG.2.2 (218, "an argument is out of range") (by decide +kernel)
    exact vx_throwS hx hb hl9 (own := RX5) (cls := bx_iae) (text := "an argument is out of range") (names := ["java/lang/RuntimeException", "java/lang/Exception"]) (ic := 128) (A := fun _ => False) hown (by decide +kernel) (by decide +kernel) (hts (.classLink RX5 124 bx_iae) (by decide +kernel)) (hts (.initialized bx_iae) (by decide +kernel)) hstr (bx_hat1 hG (fun w hw => hts w (by first | exact List.mem_cons_of_mem _ (List.mem_append_right _ hw) | exact List.mem_cons_of_mem _ (List.mem_append_left _ (List.mem_append_right _ hw)) | exact List.mem_cons_of_mem _ (List.mem_append_left _ (List.mem_append_left _ (List.mem_append_right _ hw)))))) bx_hg1 hZ.1 hZ.2 va_S.rf (by rw [hml]; exact hl.1) dX5_requireWithin_10 dX5_requireWithin_13 dX5_requireWithin_14 dX5_requireWithin_16 dX5_requireWithin_19 (fun x h => (hnx x h).elim) (Nat.le_of_ble_eq_true rfl) (Nat.le_of_ble_eq_true rfl) (Nat.le_of_ble_eq_true rfl) (Nat.le_of_ble_eq_true rfl) hlocks (fun t hvm hz hk => ⟨(by simp only [F_X5_requireWithin, if_pos c_1]; exact bx_e1), hz, fun q h _ => hk q h⟩) (fun _ h => nomatch h) (Nat.le_of_ble_eq_true rfl) (Nat.le_of_ble_eq_true rfl)
  · skip
    refine lv_iload_n hx hb dX5_requireWithin_5 rfl (lv_at hl 0 rfl) ?_
    refine lv_iload_n hx hb dX5_requireWithin_6 rfl (lv_at hl 2 rfl) ?_
    refine lv_icmp_le (tgt := 20) hx hb dX5_requireWithin_7 (by decide) (fun c_2 => ?_) (fun c_2 => ?_)
    · skip
      refine vx_ret ?_
      refine W.widen (k := 1) (n := 6) (Nat.zero_le _) (Nat.zero_le _) ?_
      exact W.vret hx hb hr (fun t ht hW => ⟨rfl, (by simp only [F_X5_requireWithin, if_neg c_1, if_pos c_2]), ht⟩) (fun _ h => nomatch h) dX5_requireWithin_20
    · skip
      obtain ⟨sa, hstr⟩ := hG.2.2 (218, "an argument is out of range") (by decide +kernel)
      exact vx_throwS hx hb hl9 (own := RX5) (cls := bx_iae) (text := "an argument is out of range") (names := ["java/lang/RuntimeException", "java/lang/Exception"]) (ic := 128) (A := fun _ => False) hown (by decide +kernel) (by decide +kernel) (hts (.classLink RX5 124 bx_iae) (by decide +kernel)) (hts (.initialized bx_iae) (by decide +kernel)) hstr (bx_hat1 hG (fun w hw => hts w (by first | exact List.mem_cons_of_mem _ (List.mem_append_right _ hw) | exact List.mem_cons_of_mem _ (List.mem_append_left _ (List.mem_append_right _ hw)) | exact List.mem_cons_of_mem _ (List.mem_append_left _ (List.mem_append_left _ (List.mem_append_right _ hw)))))) bx_hg1 hZ.1 hZ.2 va_S.rf (by rw [hml]; exact hl.1) dX5_requireWithin_10 dX5_requireWithin_13 dX5_requireWithin_14 dX5_requireWithin_16 dX5_requireWithin_19 (fun x h => (hnx x h).elim) (Nat.le_of_ble_eq_true rfl) (Nat.le_of_ble_eq_true rfl) (Nat.le_of_ble_eq_true rfl) (Nat.le_of_ble_eq_true rfl) hlocks (fun t hvm hz hk => ⟨(by simp only [F_X5_requireWithin, if_neg c_1, if_neg c_2]; exact bx_e1), hz, fun q h _ => hk q h⟩) (fun _ h => nomatch h) (Nat.le_of_ble_eq_true rfl) (Nat.le_of_ble_eq_true rfl)
def F_X5_requirePiece (p0 : Int32) : Int32 := (if p0 = (-1) then 3 else 0)
set_option maxHeartbeats 4000000 in
set_option maxRecDepth 100000 in
theorem c_X5_requirePiece (l : Launch) (hl9 : l.stackTraces = false) (D : va_G) (p0 : Int32) : vx_Met l yX5_requirePiece wsX5_requirePiece ({ frames := 6, cells := 1, slots := 6, locals := 90 }) (va_Pc [.int p0] (bx_rox D [] (wNil))) (va_Sv (fun _ => F_X5_requirePiece p0 = 0)) (bx_XC (F_X5_requirePiece p0)) 1 6 (fun _ => False) := by
  refine vx_ofW (cc := cX5_requirePiece) (maxL := 1) (ret := none) (by decide) rfl ?_
  intro p e s m args below meth c s₁ B hml hnx hv
  obtain ⟨rfl, hP, hK, hG, hZ⟩ := hv
  have hx := B.exec
  have hb := B.bytes
  have hr := B.returns
  have hts := atoms_spec (ws := wsX5_requirePiece) B.pre
  have hown : s.vm.findClass RX5 = some m.cls := findClass_of_methodNamed B.named
  have hlocks := B.notSynchronized
  have hS : va_S (fun _ => False) s.heap s.heap [] := va_S.rf
  have hP : va_P D vwCl [] s.heap := hP
  have hl := lv_entry ([.int p0]) (n := 1) (Nat.le_of_ble_eq_true rfl)
  rw [lg_entry_eq]
  generalize (lg_sl ([.int p0]) ++ List.replicate (1 - (lg_sl ([.int p0])).length) Slot.unset).toArray = ls at hl ⊢
  have hl : lv_has ls 1 [(0, .int p0)] := hl
  refine lv_iload_n hx hb dX5_requirePiece_0 rfl (lv_at hl 0 rfl) ?_
  refine lv_iconst (v := (-1)) hx hb dX5_requirePiece_1 (by decide) ?_
  refine lv_icmp_ne (tgt := 15) hx hb dX5_requirePiece_2 (by decide) (fun c_1 => ?_) (fun c_1 => ?_)
  · skip
    refine vx_ret ?_
    refine W.widen (k := 1) (n := 6) (Nat.zero_le _) (Nat.zero_le _) ?_
    exact W.vret hx hb hr (fun t ht hW => ⟨rfl, (by simp only [F_X5_requirePiece, if_neg c_1]), ht⟩) (fun _ h => nomatch h) dX5_requirePiece_15
  · skip
    obtain ⟨sa, hstr⟩ := hG.2.2 (238, "the delta has no such piece") (by decide +kernel)
    exact vx_throwS hx hb hl9 (own := RX5) (cls := bx_ioe) (text := "the delta has no such piece") (names := ["java/lang/RuntimeException", "java/lang/Exception"]) (ic := 201) (A := fun _ => False) hown (by decide +kernel) (by decide +kernel) (hts (.classLink RX5 197 bx_ioe) (by decide +kernel)) (hts (.initialized bx_ioe) (by decide +kernel)) hstr (bx_hat3 hG (fun w hw => hts w (by first | exact List.mem_cons_of_mem _ (List.mem_append_right _ hw) | exact List.mem_cons_of_mem _ (List.mem_append_left _ (List.mem_append_right _ hw)) | exact List.mem_cons_of_mem _ (List.mem_append_left _ (List.mem_append_left _ (List.mem_append_right _ hw)))))) bx_hg3 hZ.1 hZ.2 va_S.rf (by rw [hml]; exact hl.1) dX5_requirePiece_5 dX5_requirePiece_8 dX5_requirePiece_9 dX5_requirePiece_11 dX5_requirePiece_14 (fun x h => (hnx x h).elim) (Nat.le_of_ble_eq_true rfl) (Nat.le_of_ble_eq_true rfl) (Nat.le_of_ble_eq_true rfl) (Nat.le_of_ble_eq_true rfl) hlocks (fun t hvm hz hk => ⟨(by simp only [F_X5_requirePiece, if_pos c_1]; exact bx_e3), hz, fun q h _ => hk q h⟩) (fun _ h => nomatch h) (Nat.le_of_ble_eq_true rfl) (Nat.le_of_ble_eq_true rfl)
def F_X5_isOn (run : Int32) : Int32 := (if run = (-1) then 0 else 1)
set_option maxHeartbeats 4000000 in
set_option maxRecDepth 100000 in
theorem c_X5_isOn (l : Launch) (D : va_G) (cA : ClassId) (b s0 f w s2 f2 w2 t0 d db e0 : Nat) (σ : FS) (ρ : FS) (τ : TS) (δ : DS) (run : Int32) : Met l yX5_isOn wsX5_isOn ({ frames := 0, cells := 0, slots := 0, locals := 0 }) (va_Pc [.ref b] (bx_ro D [(cA, .int)] (wBo cA b s0 f w s2 f2 w2 t0 d db e0 σ ρ τ δ run))) (vp_Si (fun r => r = F_X5_isOn run ∧ (r = 0 ∨ r = 1))) 0 0 (fun _ => False) := by
  refine Met.ofW (cc := cX5_isOn) (maxL := 1) (ret := (some .boolean)) (by decide) rfl ?_
  intro p e s m args below meth c s₁ B hml hv
  obtain ⟨rfl, hP, hK, hG⟩ := hv
  have hx := B.exec
  have hb := B.bytes
  have hr := B.returns
  have hts := atoms_spec (ws := wsX5_isOn) B.pre
  have hown : s.vm.findClass RX5 = some m.cls := findClass_of_methodNamed B.named
  have hlocks := B.notSynchronized
  have hP : va_P D vwCl [(b, .inr (5, [.ref s0, .ref s2, .ref t0, .ref d, .ref e0, .int run])), (s0, .inr (3, [.ref f])), (f, .inr (2, [.ref w, .int σ.2.1, .int σ.2.2])), (w, .inl (cA, 66, .inl σ.1)), (s2, .inr (3, [.ref f2])), (f2, .inr (2, [.ref w2, .int ρ.2.1, .int ρ.2.2])), (w2, .inl (cA, 66, .inl ρ.1)), (t0, .inr (4, [.int τ.1, .int τ.2.1, .int τ.2.2.1, .int τ.2.2.2.1, .int τ.2.2.2.2.1, .int τ.2.2.2.2.2])), (d, .inr (1, [.int δ.1, .ref db])), (db, .inl (cA, 24, .inl δ.2)), (e0, .inr (0, [.ref d, .ref s0]))] s.heap := hP
  have hl := lv_entry ([.ref b]) (n := 1) (Nat.le_of_ble_eq_true rfl)
  rw [lg_entry_eq]
  generalize (lg_sl ([.ref b]) ++ List.replicate (1 - (lg_sl ([.ref b])).length) Slot.unset).toArray = ls at hl ⊢
  have hl : lv_has ls 1 [(0, .ref b)] := hl
  have hi5 : ∀ w ∈ u_ws RX5 TX5 6, w ∈ wsX5_isOn := by decide +kernel
  refine lv_aload_n hx hb dX5_isOn_0 rfl (lv_at hl 0 rfl) ?_
  refine va_get (D := D) (ci := 5) (v := .int run) (C := RX5) (T := TX5) (N := 6) hx hb hts hi5 hown hK hP 0 rfl rfl 5 (by decide) (hts (.fieldLink RX5 42 "Bootstay" "runningSlot" "I") (by decide +kernel)) (fun _ h9 => h9) rfl dX5_isOn_1 ?_
  refine lv_iconst (v := (-1)) hx hb dX5_isOn_4 (by decide) ?_
  refine lv_icmp_eq (tgt := 12) hx hb dX5_isOn_5 (by decide) (fun c_1 => ?_) (fun c_1 => ?_)
  · skip
    refine lv_iconst (v := 0) hx hb dX5_isOn_12 (by decide) ?_
    exact W.zret (v := 0) hx hb hr rfl (fun t ht hW => ⟨0, rfl, ⟨(by simp only [F_X5_isOn, if_pos c_1]), (by decide)⟩, ht⟩) (fun _ h => nomatch h) dX5_isOn_13
  · skip
    refine lv_iconst (v := 1) hx hb dX5_isOn_8 (by decide) ?_
    refine lv_goto (tgt := 13) hx hb dX5_isOn_9 (by decide) ?_
    exact W.zret (v := 1) hx hb hr rfl (fun t ht hW => ⟨1, rfl, ⟨(by simp only [F_X5_isOn, if_neg c_1]), (by decide)⟩, ht⟩) (fun _ h => nomatch h) dX5_isOn_13
def F_X5_running (run : Int32) : Int32 := run
set_option maxHeartbeats 4000000 in
set_option maxRecDepth 100000 in
theorem c_X5_running (l : Launch) (D : va_G) (cA : ClassId) (b s0 f w s2 f2 w2 t0 d db e0 : Nat) (σ : FS) (ρ : FS) (τ : TS) (δ : DS) (run : Int32) : Met l yX5_running wsX5_running ({ frames := 0, cells := 0, slots := 0, locals := 0 }) (va_Pc [.ref b] (bx_ro D [(cA, .int)] (wBo cA b s0 f w s2 f2 w2 t0 d db e0 σ ρ τ δ run))) (vp_Si (fun r => r = F_X5_running run)) 0 0 (fun _ => False) := by
  refine Met.ofW (cc := cX5_running) (maxL := 1) (ret := (some .int)) (by decide) rfl ?_
  intro p e s m args below meth c s₁ B hml hv
  obtain ⟨rfl, hP, hK, hG⟩ := hv
  have hx := B.exec
  have hb := B.bytes
  have hr := B.returns
  have hts := atoms_spec (ws := wsX5_running) B.pre
  have hown : s.vm.findClass RX5 = some m.cls := findClass_of_methodNamed B.named
  have hlocks := B.notSynchronized
  have hP : va_P D vwCl [(b, .inr (5, [.ref s0, .ref s2, .ref t0, .ref d, .ref e0, .int run])), (s0, .inr (3, [.ref f])), (f, .inr (2, [.ref w, .int σ.2.1, .int σ.2.2])), (w, .inl (cA, 66, .inl σ.1)), (s2, .inr (3, [.ref f2])), (f2, .inr (2, [.ref w2, .int ρ.2.1, .int ρ.2.2])), (w2, .inl (cA, 66, .inl ρ.1)), (t0, .inr (4, [.int τ.1, .int τ.2.1, .int τ.2.2.1, .int τ.2.2.2.1, .int τ.2.2.2.2.1, .int τ.2.2.2.2.2])), (d, .inr (1, [.int δ.1, .ref db])), (db, .inl (cA, 24, .inl δ.2)), (e0, .inr (0, [.ref d, .ref s0]))] s.heap := hP
  have hl := lv_entry ([.ref b]) (n := 1) (Nat.le_of_ble_eq_true rfl)
  rw [lg_entry_eq]
  generalize (lg_sl ([.ref b]) ++ List.replicate (1 - (lg_sl ([.ref b])).length) Slot.unset).toArray = ls at hl ⊢
  have hl : lv_has ls 1 [(0, .ref b)] := hl
  have hi5 : ∀ w ∈ u_ws RX5 TX5 6, w ∈ wsX5_running := by decide +kernel
  refine lv_aload_n hx hb dX5_running_0 rfl (lv_at hl 0 rfl) ?_
  refine va_get (D := D) (ci := 5) (v := .int run) (C := RX5) (T := TX5) (N := 6) hx hb hts hi5 hown hK hP 0 rfl rfl 5 (by decide) (hts (.fieldLink RX5 42 "Bootstay" "runningSlot" "I") (by decide +kernel)) (fun _ h9 => h9) rfl dX5_running_1 ?_
  exact W.iret (v := run) hx hb hr (fun t ht hW => ⟨run, rfl, rfl, ht⟩) (fun _ h => nomatch h) dX5_running_4
def F_X5_idleSlot (run : Int32) : Int32 := (1 - run)
set_option maxHeartbeats 4000000 in
set_option maxRecDepth 100000 in
theorem c_X5_idleSlot (l : Launch) (D : va_G) (cA : ClassId) (b s0 f w s2 f2 w2 t0 d db e0 : Nat) (σ : FS) (ρ : FS) (τ : TS) (δ : DS) (run : Int32) : Met l yX5_idleSlot wsX5_idleSlot ({ frames := 0, cells := 0, slots := 0, locals := 0 }) (va_Pc [.ref b] (bx_ro D [(cA, .int)] (wBo cA b s0 f w s2 f2 w2 t0 d db e0 σ ρ τ δ run))) (vp_Si (fun r => r = F_X5_idleSlot run)) 0 0 (fun _ => False) := by
  refine Met.ofW (cc := cX5_idleSlot) (maxL := 1) (ret := (some .int)) (by decide) rfl ?_
  intro p e s m args below meth c s₁ B hml hv
  obtain ⟨rfl, hP, hK, hG⟩ := hv
  have hx := B.exec
  have hb := B.bytes
  have hr := B.returns
  have hts := atoms_spec (ws := wsX5_idleSlot) B.pre
  have hown : s.vm.findClass RX5 = some m.cls := findClass_of_methodNamed B.named
  have hlocks := B.notSynchronized
  have hP : va_P D vwCl [(b, .inr (5, [.ref s0, .ref s2, .ref t0, .ref d, .ref e0, .int run])), (s0, .inr (3, [.ref f])), (f, .inr (2, [.ref w, .int σ.2.1, .int σ.2.2])), (w, .inl (cA, 66, .inl σ.1)), (s2, .inr (3, [.ref f2])), (f2, .inr (2, [.ref w2, .int ρ.2.1, .int ρ.2.2])), (w2, .inl (cA, 66, .inl ρ.1)), (t0, .inr (4, [.int τ.1, .int τ.2.1, .int τ.2.2.1, .int τ.2.2.2.1, .int τ.2.2.2.2.1, .int τ.2.2.2.2.2])), (d, .inr (1, [.int δ.1, .ref db])), (db, .inl (cA, 24, .inl δ.2)), (e0, .inr (0, [.ref d, .ref s0]))] s.heap := hP
  have hl := lv_entry ([.ref b]) (n := 1) (Nat.le_of_ble_eq_true rfl)
  rw [lg_entry_eq]
  generalize (lg_sl ([.ref b]) ++ List.replicate (1 - (lg_sl ([.ref b])).length) Slot.unset).toArray = ls at hl ⊢
  have hl : lv_has ls 1 [(0, .ref b)] := hl
  have hi5 : ∀ w ∈ u_ws RX5 TX5 6, w ∈ wsX5_idleSlot := by decide +kernel
  refine lv_iconst (v := 1) hx hb dX5_idleSlot_0 (by decide) ?_
  refine lv_aload_n hx hb dX5_idleSlot_1 rfl (lv_at hl 0 rfl) ?_
  refine va_get (D := D) (ci := 5) (v := .int run) (C := RX5) (T := TX5) (N := 6) hx hb hts hi5 hown hK hP 0 rfl rfl 5 (by decide) (hts (.fieldLink RX5 42 "Bootstay" "runningSlot" "I") (by decide +kernel)) (fun _ h9 => h9) rfl dX5_idleSlot_2 ?_
  refine lv_isub hx hb dX5_idleSlot_5 ?_
  exact W.iret (v := (1 - run)) hx hb hr (fun t ht hW => ⟨(1 - run), rfl, rfl, ht⟩) (fun _ h => nomatch h) dX5_idleSlot_6
def F_X5_losePower (τ : TS) : (TS) × (Int32) := (let u_2 := (F_X4_end τ); (u_2, (-1)))
set_option maxHeartbeats 4000000 in
set_option maxRecDepth 100000 in
theorem c_X5_losePower (l : Launch) (D : va_G) (cA : ClassId) (b s0 f w s2 f2 w2 t0 d db e0 : Nat) (sz : Nat) (σ : FS) (ρ : FS) (τ : TS) (δ : DS) (run : Int32) : Met l yX5_losePower wsX5_losePower ({ frames := 1, cells := 0, slots := 0, locals := 20 }) (va_Pc [.ref b] (bx_pre D [(cA, .int)] (wBo cA b s0 f w s2 f2 w2 t0 d db e0 σ ρ τ δ run) sz)) (va_Qv (fun u => u = F_X5_losePower τ) (fun u t => bx_at D (wBo cA b s0 f w s2 f2 w2 t0 d db e0 σ ρ u.1 δ u.2) (va_A (wBo cA b s0 f w s2 f2 w2 t0 d db e0 σ ρ τ δ run) sz) t) (va_A (wBo cA b s0 f w s2 f2 w2 t0 d db e0 σ ρ τ δ run) sz)) 0 0 (va_A (wBo cA b s0 f w s2 f2 w2 t0 d db e0 σ ρ τ δ run) sz) := by
  refine Met.ofW (cc := cX5_losePower) (maxL := 1) (ret := none) (by decide) rfl ?_
  intro p e s m args below meth c s₁ B hml hv
  obtain ⟨rfl, hsz, hP, hK, hD0, hG⟩ := hv
  have hx := B.exec
  have hb := B.bytes
  have hr := B.returns
  have hts := atoms_spec (ws := wsX5_losePower) B.pre
  have hown : s.vm.findClass RX5 = some m.cls := findClass_of_methodNamed B.named
  have hlocks := B.notSynchronized
  subst hsz
  have hD := hD0.self (sz := s.heap.size)
  generalize hAe : va_A (wBo cA b s0 f w s2 f2 w2 t0 d db e0 σ ρ τ δ run) s.heap.size = A at hD ⊢
  have hA : ∀ q : Nat, s.heap.size ≤ q → A q := fun q h => by rw [← hAe]; exact Or.inr h
  have hS : va_S A s.heap s.heap [] := va_S.rf
  have hD : va_D A [(b, .inr (5, [.ref s0, .ref s2, .ref t0, .ref d, .ref e0, .int run])), (s0, .inr (3, [.ref f])), (f, .inr (2, [.ref w, .int σ.2.1, .int σ.2.2])), (w, .inl (cA, 66, .inl σ.1)), (s2, .inr (3, [.ref f2])), (f2, .inr (2, [.ref w2, .int ρ.2.1, .int ρ.2.2])), (w2, .inl (cA, 66, .inl ρ.1)), (t0, .inr (4, [.int τ.1, .int τ.2.1, .int τ.2.2.1, .int τ.2.2.2.1, .int τ.2.2.2.2.1, .int τ.2.2.2.2.2])), (d, .inr (1, [.int δ.1, .ref db])), (db, .inl (cA, 24, .inl δ.2)), (e0, .inr (0, [.ref d, .ref s0]))] := hD
  have hP : va_P D vwCl [(b, .inr (5, [.ref s0, .ref s2, .ref t0, .ref d, .ref e0, .int run])), (s0, .inr (3, [.ref f])), (f, .inr (2, [.ref w, .int σ.2.1, .int σ.2.2])), (w, .inl (cA, 66, .inl σ.1)), (s2, .inr (3, [.ref f2])), (f2, .inr (2, [.ref w2, .int ρ.2.1, .int ρ.2.2])), (w2, .inl (cA, 66, .inl ρ.1)), (t0, .inr (4, [.int τ.1, .int τ.2.1, .int τ.2.2.1, .int τ.2.2.2.1, .int τ.2.2.2.2.1, .int τ.2.2.2.2.2])), (d, .inr (1, [.int δ.1, .ref db])), (db, .inl (cA, 24, .inl δ.2)), (e0, .inr (0, [.ref d, .ref s0]))] s.heap := hP
  have hl := lv_entry ([.ref b]) (n := 1) (Nat.le_of_ble_eq_true rfl)
  rw [lg_entry_eq]
  generalize (lg_sl ([.ref b]) ++ List.replicate (1 - (lg_sl ([.ref b])).length) Slot.unset).toArray = ls at hl ⊢
  have hl : lv_has ls 1 [(0, .ref b)] := hl
  have hi5 : ∀ w ∈ u_ws RX5 TX5 6, w ∈ wsX5_losePower := by decide +kernel
  refine lv_aload_n hx hb dX5_losePower_0 rfl (lv_at hl 0 rfl) ?_
  refine lv_iconst (v := (-1)) hx hb dX5_losePower_1 (by decide) ?_
  refine va_put (D := D) (ci := 5) (v := .int (-1)) (ty := .int) (C := RX5) (T := TX5) (N := 6) hx hb hts hi5 tyX5 tyX5_ok nmX5 hown hK hP hD hS 0 rfl rfl 5 (by decide) (hts (.fieldLink RX5 42 "Bootstay" "runningSlot" "I") (by decide +kernel)) (fun _ h9 => h9) rfl (by decide +kernel) rfl rfl (Nat.le_of_ble_eq_true rfl) dX5_losePower_2 (fun H locs hP hD hS => ?_)
  have hP : va_P D vwCl [(b, .inr (5, [.ref s0, .ref s2, .ref t0, .ref d, .ref e0, .int (-1)])), (s0, .inr (3, [.ref f])), (f, .inr (2, [.ref w, .int σ.2.1, .int σ.2.2])), (w, .inl (cA, 66, .inl σ.1)), (s2, .inr (3, [.ref f2])), (f2, .inr (2, [.ref w2, .int ρ.2.1, .int ρ.2.2])), (w2, .inl (cA, 66, .inl ρ.1)), (t0, .inr (4, [.int τ.1, .int τ.2.1, .int τ.2.2.1, .int τ.2.2.2.1, .int τ.2.2.2.2.1, .int τ.2.2.2.2.2])), (d, .inr (1, [.int δ.1, .ref db])), (db, .inl (cA, 24, .inl δ.2)), (e0, .inr (0, [.ref d, .ref s0]))] H := hP
  have hD : va_D A [(b, .inr (5, [.ref s0, .ref s2, .ref t0, .ref d, .ref e0, .int (-1)])), (s0, .inr (3, [.ref f])), (f, .inr (2, [.ref w, .int σ.2.1, .int σ.2.2])), (w, .inl (cA, 66, .inl σ.1)), (s2, .inr (3, [.ref f2])), (f2, .inr (2, [.ref w2, .int ρ.2.1, .int ρ.2.2])), (w2, .inl (cA, 66, .inl ρ.1)), (t0, .inr (4, [.int τ.1, .int τ.2.1, .int τ.2.2.1, .int τ.2.2.2.1, .int τ.2.2.2.2.1, .int τ.2.2.2.2.2])), (d, .inr (1, [.int δ.1, .ref db])), (db, .inl (cA, 24, .inl δ.2)), (e0, .inr (0, [.ref d, .ref s0]))] := hD
  refine lv_aload_n hx hb dX5_losePower_5 rfl (lv_at hl 0 rfl) ?_
  refine va_get (D := D) (ci := 5) (v := .ref t0) (C := RX5) (T := TX5) (N := 6) hx hb hts hi5 hown hK hP 0 rfl rfl 2 (by decide) (hts (.fieldLink RX5 22 "Bootstay" "transfer" "LBootstay$Transfer;") (by decide +kernel)) (fun _ h9 => h9) rfl dX5_losePower_6 ?_
  refine bx_wv (wc := [(t0, .inr (4, [.int τ.1, .int τ.2.1, .int τ.2.2.1, .int τ.2.2.2.1, .int τ.2.2.2.2.1, .int τ.2.2.2.2.2]))]) (wr := [(b, .inr (5, [.ref s0, .ref s2, .ref t0, .ref d, .ref e0, .int (-1)])), (s0, .inr (3, [.ref f])), (f, .inr (2, [.ref w, .int σ.2.1, .int σ.2.2])), (w, .inl (cA, 66, .inl σ.1)), (s2, .inr (3, [.ref f2])), (f2, .inr (2, [.ref w2, .int ρ.2.1, .int ρ.2.2])), (w2, .inl (cA, 66, .inl ρ.1)), (d, .inr (1, [.int δ.1, .ref db])), (db, .inl (cA, 24, .inl δ.2)), (e0, .inr (0, [.ref d, .ref s0]))]) (wf := fun (u : (TS)) => [(t0, .inr (4, [.int u.1, .int u.2.1, .int u.2.2.1, .int u.2.2.2.1, .int u.2.2.2.2.1, .int u.2.2.2.2.2]))]) (wn := fun (u : (TS)) => [(b, .inr (5, [.ref s0, .ref s2, .ref t0, .ref d, .ref e0, .int (-1)])), (s0, .inr (3, [.ref f])), (f, .inr (2, [.ref w, .int σ.2.1, .int σ.2.2])), (w, .inl (cA, 66, .inl σ.1)), (s2, .inr (3, [.ref f2])), (f2, .inr (2, [.ref w2, .int ρ.2.1, .int ρ.2.2])), (w2, .inl (cA, 66, .inl ρ.1)), (t0, .inr (4, [.int u.1, .int u.2.1, .int u.2.2.1, .int u.2.2.2.1, .int u.2.2.2.2.1, .int u.2.2.2.2.2])), (d, .inr (1, [.int δ.1, .ref db])), (db, .inl (cA, 24, .inl δ.2)), (e0, .inr (0, [.ref d, .ref s0]))]) hP hD hS hA [7] [0, 1, 2, 3, 4, 5, 6, 8, 9, 10] [0, 1, 2, 3, 4, 5, 6, 10, 7, 8, 9] rfl rfl (by decide) (by decide) (fun u => rfl) (by decide) (va_runV (As := []) (rest := []) ⟨hx, hb, hml, hown, hts⟩ (c_X4_end l D t0 H.size τ) (cwV 0 hts gX5_losePower_X4_end rfl rfl rfl (by decide +kernel) ⟨Nat.le_of_ble_eq_true rfl, Nat.le_of_ble_eq_true rfl⟩) (bx_pv (ci := 4) (q0 := 0) (hK.sub (tys' := []) [] rfl) hG (hP.sub (ws' := [(t0, .inr (4, [.int τ.1, .int τ.2.1, .int τ.2.2.1, .int τ.2.2.2.1, .int τ.2.2.2.2.1, .int τ.2.2.2.2.2]))]) [7] rfl) (hD.sub (ws' := [(t0, .inr (4, [.int τ.1, .int τ.2.1, .int τ.2.2.1, .int τ.2.2.2.1, .int τ.2.2.2.2.1, .int τ.2.2.2.2.2]))]) [7] (by decide) rfl) rfl rfl) rfl rfl hl.1 rfl (lv_room (Nat.le_of_ble_eq_true rfl)) dX5_losePower_9 ⟨Nat.zero_le _, Nat.zero_le _⟩) (fun  u_2 H locs h_1 hP hD hS => ?_)
  have hP : va_P D vwCl [(b, .inr (5, [.ref s0, .ref s2, .ref t0, .ref d, .ref e0, .int (-1)])), (s0, .inr (3, [.ref f])), (f, .inr (2, [.ref w, .int σ.2.1, .int σ.2.2])), (w, .inl (cA, 66, .inl σ.1)), (s2, .inr (3, [.ref f2])), (f2, .inr (2, [.ref w2, .int ρ.2.1, .int ρ.2.2])), (w2, .inl (cA, 66, .inl ρ.1)), (t0, .inr (4, [.int u_2.1, .int u_2.2.1, .int u_2.2.2.1, .int u_2.2.2.2.1, .int u_2.2.2.2.2.1, .int u_2.2.2.2.2.2])), (d, .inr (1, [.int δ.1, .ref db])), (db, .inl (cA, 24, .inl δ.2)), (e0, .inr (0, [.ref d, .ref s0]))] H := hP
  have hD : va_D A [(b, .inr (5, [.ref s0, .ref s2, .ref t0, .ref d, .ref e0, .int (-1)])), (s0, .inr (3, [.ref f])), (f, .inr (2, [.ref w, .int σ.2.1, .int σ.2.2])), (w, .inl (cA, 66, .inl σ.1)), (s2, .inr (3, [.ref f2])), (f2, .inr (2, [.ref w2, .int ρ.2.1, .int ρ.2.2])), (w2, .inl (cA, 66, .inl ρ.1)), (t0, .inr (4, [.int u_2.1, .int u_2.2.1, .int u_2.2.2.1, .int u_2.2.2.2.1, .int u_2.2.2.2.2.1, .int u_2.2.2.2.2.2])), (d, .inr (1, [.int δ.1, .ref db])), (db, .inl (cA, 24, .inl δ.2)), (e0, .inr (0, [.ref d, .ref s0]))] := hD
  exact W.vret hx hb hr (fun t ht hW => ⟨⟨(u_2, (-1)), rfl, (by simp only [F_X5_losePower, ← h_1]), ⟨by rw [ht]; exact hP, hD⟩⟩, hS.F ht⟩) hS.2.2 dX5_losePower_12
def F_X5_stayOn (τ : TS) (run : Int32) (p0 : Int32) : Int32 × (TS) × (Int32) := (if p0 = 0 then (match (F_X5_losePower τ) with | (τ4, run5) => (p0, τ4, run5)) else (p0, τ, run))
set_option maxHeartbeats 4000000 in
set_option maxRecDepth 100000 in
theorem c_X5_stayOn (l : Launch) (D : va_G) (cA : ClassId) (b s0 f w s2 f2 w2 t0 d db e0 : Nat) (sz : Nat) (σ : FS) (ρ : FS) (τ : TS) (δ : DS) (run : Int32) (p0 : Int32) (hz : p0 = 0 ∨ p0 = 1) : Met l yX5_stayOn wsX5_stayOn ({ frames := 2, cells := 0, slots := 0, locals := 40 }) (va_Pc [.ref b, .int p0] (bx_pre D [(cA, .int)] (wBo cA b s0 f w s2 f2 w2 t0 d db e0 σ ρ τ δ run) sz)) (va_Qi (fun r u => (r, u) = F_X5_stayOn τ run p0 ∧ (r = 0 ∨ r = 1)) (fun u t => bx_at D (wBo cA b s0 f w s2 f2 w2 t0 d db e0 σ ρ u.1 δ u.2) (va_A (wBo cA b s0 f w s2 f2 w2 t0 d db e0 σ ρ τ δ run) sz) t) (va_A (wBo cA b s0 f w s2 f2 w2 t0 d db e0 σ ρ τ δ run) sz)) 0 0 (va_A (wBo cA b s0 f w s2 f2 w2 t0 d db e0 σ ρ τ δ run) sz) := by
  refine Met.ofW (cc := cX5_stayOn) (maxL := 2) (ret := (some .boolean)) (by decide) rfl ?_
  intro p e s m args below meth c s₁ B hml hv
  obtain ⟨rfl, hsz, hP, hK, hD0, hG⟩ := hv
  have hx := B.exec
  have hb := B.bytes
  have hr := B.returns
  have hts := atoms_spec (ws := wsX5_stayOn) B.pre
  have hown : s.vm.findClass RX5 = some m.cls := findClass_of_methodNamed B.named
  have hlocks := B.notSynchronized
  subst hsz
  have hD := hD0.self (sz := s.heap.size)
  generalize hAe : va_A (wBo cA b s0 f w s2 f2 w2 t0 d db e0 σ ρ τ δ run) s.heap.size = A at hD ⊢
  have hA : ∀ q : Nat, s.heap.size ≤ q → A q := fun q h => by rw [← hAe]; exact Or.inr h
  have hS : va_S A s.heap s.heap [] := va_S.rf
  have hD : va_D A [(b, .inr (5, [.ref s0, .ref s2, .ref t0, .ref d, .ref e0, .int run])), (s0, .inr (3, [.ref f])), (f, .inr (2, [.ref w, .int σ.2.1, .int σ.2.2])), (w, .inl (cA, 66, .inl σ.1)), (s2, .inr (3, [.ref f2])), (f2, .inr (2, [.ref w2, .int ρ.2.1, .int ρ.2.2])), (w2, .inl (cA, 66, .inl ρ.1)), (t0, .inr (4, [.int τ.1, .int τ.2.1, .int τ.2.2.1, .int τ.2.2.2.1, .int τ.2.2.2.2.1, .int τ.2.2.2.2.2])), (d, .inr (1, [.int δ.1, .ref db])), (db, .inl (cA, 24, .inl δ.2)), (e0, .inr (0, [.ref d, .ref s0]))] := hD
  have hP : va_P D vwCl [(b, .inr (5, [.ref s0, .ref s2, .ref t0, .ref d, .ref e0, .int run])), (s0, .inr (3, [.ref f])), (f, .inr (2, [.ref w, .int σ.2.1, .int σ.2.2])), (w, .inl (cA, 66, .inl σ.1)), (s2, .inr (3, [.ref f2])), (f2, .inr (2, [.ref w2, .int ρ.2.1, .int ρ.2.2])), (w2, .inl (cA, 66, .inl ρ.1)), (t0, .inr (4, [.int τ.1, .int τ.2.1, .int τ.2.2.1, .int τ.2.2.2.1, .int τ.2.2.2.2.1, .int τ.2.2.2.2.2])), (d, .inr (1, [.int δ.1, .ref db])), (db, .inl (cA, 24, .inl δ.2)), (e0, .inr (0, [.ref d, .ref s0]))] s.heap := hP
  have hl := lv_entry ([.ref b, .int p0]) (n := 2) (Nat.le_of_ble_eq_true rfl)
  rw [lg_entry_eq]
  generalize (lg_sl ([.ref b, .int p0]) ++ List.replicate (2 - (lg_sl ([.ref b, .int p0])).length) Slot.unset).toArray = ls at hl ⊢
  have hl : lv_has ls 2 [(0, .ref b), (1, .int p0)] := hl
  refine lv_iload_n hx hb dX5_stayOn_0 rfl (lv_at hl 1 rfl) ?_
  refine lv_if_ne (tgt := 8) hx hb dX5_stayOn_1 (by decide) (fun c_1 => ?_) (fun c_1 => ?_)
  · skip
    refine lv_iload_n hx hb dX5_stayOn_8 rfl (lv_at hl 1 rfl) ?_
    exact W.zret (v := p0) hx hb hr (bx_nb hz) (fun t ht hW => ⟨⟨p0, (τ, run), rfl, ⟨(by simp only [F_X5_stayOn, if_neg c_1]), hz⟩, ⟨by rw [ht]; exact hP, hD⟩⟩, hS.F ht⟩) hS.2.2 dX5_stayOn_9
  · skip
    refine lv_aload_n hx hb dX5_stayOn_4 rfl (lv_at hl 0 rfl) ?_
    refine bx_wv (wc := [(b, .inr (5, [.ref s0, .ref s2, .ref t0, .ref d, .ref e0, .int run])), (s0, .inr (3, [.ref f])), (f, .inr (2, [.ref w, .int σ.2.1, .int σ.2.2])), (w, .inl (cA, 66, .inl σ.1)), (s2, .inr (3, [.ref f2])), (f2, .inr (2, [.ref w2, .int ρ.2.1, .int ρ.2.2])), (w2, .inl (cA, 66, .inl ρ.1)), (t0, .inr (4, [.int τ.1, .int τ.2.1, .int τ.2.2.1, .int τ.2.2.2.1, .int τ.2.2.2.2.1, .int τ.2.2.2.2.2])), (d, .inr (1, [.int δ.1, .ref db])), (db, .inl (cA, 24, .inl δ.2)), (e0, .inr (0, [.ref d, .ref s0]))]) (wr := []) (wf := fun (u : (TS) × (Int32)) => [(b, .inr (5, [.ref s0, .ref s2, .ref t0, .ref d, .ref e0, .int u.2])), (s0, .inr (3, [.ref f])), (f, .inr (2, [.ref w, .int σ.2.1, .int σ.2.2])), (w, .inl (cA, 66, .inl σ.1)), (s2, .inr (3, [.ref f2])), (f2, .inr (2, [.ref w2, .int ρ.2.1, .int ρ.2.2])), (w2, .inl (cA, 66, .inl ρ.1)), (t0, .inr (4, [.int u.1.1, .int u.1.2.1, .int u.1.2.2.1, .int u.1.2.2.2.1, .int u.1.2.2.2.2.1, .int u.1.2.2.2.2.2])), (d, .inr (1, [.int δ.1, .ref db])), (db, .inl (cA, 24, .inl δ.2)), (e0, .inr (0, [.ref d, .ref s0]))]) (wn := fun (u : (TS) × (Int32)) => [(b, .inr (5, [.ref s0, .ref s2, .ref t0, .ref d, .ref e0, .int u.2])), (s0, .inr (3, [.ref f])), (f, .inr (2, [.ref w, .int σ.2.1, .int σ.2.2])), (w, .inl (cA, 66, .inl σ.1)), (s2, .inr (3, [.ref f2])), (f2, .inr (2, [.ref w2, .int ρ.2.1, .int ρ.2.2])), (w2, .inl (cA, 66, .inl ρ.1)), (t0, .inr (4, [.int u.1.1, .int u.1.2.1, .int u.1.2.2.1, .int u.1.2.2.2.1, .int u.1.2.2.2.2.1, .int u.1.2.2.2.2.2])), (d, .inr (1, [.int δ.1, .ref db])), (db, .inl (cA, 24, .inl δ.2)), (e0, .inr (0, [.ref d, .ref s0]))]) hP hD hS hA [0, 1, 2, 3, 4, 5, 6, 7, 8, 9, 10] [] [0, 1, 2, 3, 4, 5, 6, 7, 8, 9, 10] rfl rfl (by decide) (by decide) (fun u => rfl) (by decide) (va_runV (As := []) (rest := []) ⟨hx, hb, hml, hown, hts⟩ (c_X5_losePower l D cA b s0 f w s2 f2 w2 t0 d db e0 s.heap.size σ ρ τ δ run) (cwV 0 hts gX5_stayOn_X5_losePower rfl rfl rfl (by decide +kernel) ⟨Nat.le_of_ble_eq_true rfl, Nat.le_of_ble_eq_true rfl⟩) (bx_pv (ci := 5) (q0 := 0) hK hG (hP.sub (ws' := [(b, .inr (5, [.ref s0, .ref s2, .ref t0, .ref d, .ref e0, .int run])), (s0, .inr (3, [.ref f])), (f, .inr (2, [.ref w, .int σ.2.1, .int σ.2.2])), (w, .inl (cA, 66, .inl σ.1)), (s2, .inr (3, [.ref f2])), (f2, .inr (2, [.ref w2, .int ρ.2.1, .int ρ.2.2])), (w2, .inl (cA, 66, .inl ρ.1)), (t0, .inr (4, [.int τ.1, .int τ.2.1, .int τ.2.2.1, .int τ.2.2.2.1, .int τ.2.2.2.2.1, .int τ.2.2.2.2.2])), (d, .inr (1, [.int δ.1, .ref db])), (db, .inl (cA, 24, .inl δ.2)), (e0, .inr (0, [.ref d, .ref s0]))]) [0, 1, 2, 3, 4, 5, 6, 7, 8, 9, 10] rfl) (hD.sub (ws' := [(b, .inr (5, [.ref s0, .ref s2, .ref t0, .ref d, .ref e0, .int run])), (s0, .inr (3, [.ref f])), (f, .inr (2, [.ref w, .int σ.2.1, .int σ.2.2])), (w, .inl (cA, 66, .inl σ.1)), (s2, .inr (3, [.ref f2])), (f2, .inr (2, [.ref w2, .int ρ.2.1, .int ρ.2.2])), (w2, .inl (cA, 66, .inl ρ.1)), (t0, .inr (4, [.int τ.1, .int τ.2.1, .int τ.2.2.1, .int τ.2.2.2.1, .int τ.2.2.2.2.1, .int τ.2.2.2.2.2])), (d, .inr (1, [.int δ.1, .ref db])), (db, .inl (cA, 24, .inl δ.2)), (e0, .inr (0, [.ref d, .ref s0]))]) [0, 1, 2, 3, 4, 5, 6, 7, 8, 9, 10] (by decide) rfl) rfl rfl) rfl rfl hl.1 rfl (lv_room (Nat.le_of_ble_eq_true rfl)) dX5_stayOn_5 ⟨Nat.zero_le _, Nat.zero_le _⟩) (fun  u_3 H locs h_2 hP hD hS => ?_)
    obtain ⟨τ4, run5⟩ := u_3
    have hP : va_P D vwCl [(b, .inr (5, [.ref s0, .ref s2, .ref t0, .ref d, .ref e0, .int run5])), (s0, .inr (3, [.ref f])), (f, .inr (2, [.ref w, .int σ.2.1, .int σ.2.2])), (w, .inl (cA, 66, .inl σ.1)), (s2, .inr (3, [.ref f2])), (f2, .inr (2, [.ref w2, .int ρ.2.1, .int ρ.2.2])), (w2, .inl (cA, 66, .inl ρ.1)), (t0, .inr (4, [.int τ4.1, .int τ4.2.1, .int τ4.2.2.1, .int τ4.2.2.2.1, .int τ4.2.2.2.2.1, .int τ4.2.2.2.2.2])), (d, .inr (1, [.int δ.1, .ref db])), (db, .inl (cA, 24, .inl δ.2)), (e0, .inr (0, [.ref d, .ref s0]))] H := hP
    have hD : va_D A [(b, .inr (5, [.ref s0, .ref s2, .ref t0, .ref d, .ref e0, .int run5])), (s0, .inr (3, [.ref f])), (f, .inr (2, [.ref w, .int σ.2.1, .int σ.2.2])), (w, .inl (cA, 66, .inl σ.1)), (s2, .inr (3, [.ref f2])), (f2, .inr (2, [.ref w2, .int ρ.2.1, .int ρ.2.2])), (w2, .inl (cA, 66, .inl ρ.1)), (t0, .inr (4, [.int τ4.1, .int τ4.2.1, .int τ4.2.2.1, .int τ4.2.2.2.1, .int τ4.2.2.2.2.1, .int τ4.2.2.2.2.2])), (d, .inr (1, [.int δ.1, .ref db])), (db, .inl (cA, 24, .inl δ.2)), (e0, .inr (0, [.ref d, .ref s0]))] := hD
    refine lv_iload_n hx hb dX5_stayOn_8 rfl (lv_at hl 1 rfl) ?_
    exact W.zret (v := p0) hx hb hr (bx_nb hz) (fun t ht hW => ⟨⟨p0, (τ4, run5), rfl, ⟨(by simp only [F_X5_stayOn, if_pos c_1, ← h_2]), hz⟩, ⟨by rw [ht]; exact hP, hD⟩⟩, hS.F ht⟩) hS.2.2 dX5_stayOn_9
def F_X5_requireOn (run : Int32) : Int32 := (if (F_X5_isOn run) = 0 then 2 else 0)
set_option maxHeartbeats 4000000 in
set_option maxRecDepth 100000 in
theorem c_X5_requireOn (l : Launch) (hl9 : l.stackTraces = false) (D : va_G) (cA : ClassId) (b s0 f w s2 f2 w2 t0 d db e0 : Nat) (σ : FS) (ρ : FS) (τ : TS) (δ : DS) (run : Int32) : vx_Met l yX5_requireOn wsX5_requireOn ({ frames := 6, cells := 1, slots := 6, locals := 90 }) (va_Pc [.ref b] (bx_rox D [(cA, .int)] (wBo cA b s0 f w s2 f2 w2 t0 d db e0 σ ρ τ δ run))) (va_Sv (fun _ => F_X5_requireOn run = 0)) (bx_XC (F_X5_requireOn run)) 1 6 (fun _ => False) := by
  refine vx_ofW (cc := cX5_requireOn) (maxL := 1) (ret := none) (by decide) rfl ?_
  intro p e s m args below meth c s₁ B hml hnx hv
  obtain ⟨rfl, hP, hK, hG, hZ⟩ := hv
  have hx := B.exec
  have hb := B.bytes
  have hr := B.returns
  have hts := atoms_spec (ws := wsX5_requireOn) B.pre
  have hown : s.vm.findClass RX5 = some m.cls := findClass_of_methodNamed B.named
  have hlocks := B.notSynchronized
  have hS : va_S (fun _ => False) s.heap s.heap [] := va_S.rf
  have hP : va_P D vwCl [(b, .inr (5, [.ref s0, .ref s2, .ref t0, .ref d, .ref e0, .int run])), (s0, .inr (3, [.ref f])), (f, .inr (2, [.ref w, .int σ.2.1, .int σ.2.2])), (w, .inl (cA, 66, .inl σ.1)), (s2, .inr (3, [.ref f2])), (f2, .inr (2, [.ref w2, .int ρ.2.1, .int ρ.2.2])), (w2, .inl (cA, 66, .inl ρ.1)), (t0, .inr (4, [.int τ.1, .int τ.2.1, .int τ.2.2.1, .int τ.2.2.2.1, .int τ.2.2.2.2.1, .int τ.2.2.2.2.2])), (d, .inr (1, [.int δ.1, .ref db])), (db, .inl (cA, 24, .inl δ.2)), (e0, .inr (0, [.ref d, .ref s0]))] s.heap := hP
  have hl := lv_entry ([.ref b]) (n := 1) (Nat.le_of_ble_eq_true rfl)
  rw [lg_entry_eq]
  generalize (lg_sl ([.ref b]) ++ List.replicate (1 - (lg_sl ([.ref b])).length) Slot.unset).toArray = ls at hl ⊢
  have hl : lv_has ls 1 [(0, .ref b)] := hl
  refine lv_aload_n hx hb dX5_requireOn_0 rfl (lv_at hl 0 rfl) ?_
  refine bx_ri (va_runV (As := []) (rest := []) ⟨hx, hb, hml, hown, hts⟩ (c_X5_isOn l D cA b s0 f w s2 f2 w2 t0 d db e0 σ ρ τ δ run) (cwV 0 hts gX5_requireOn_X5_isOn rfl rfl rfl (by decide +kernel) ⟨Nat.le_of_ble_eq_true rfl, Nat.le_of_ble_eq_true rfl⟩) (bx_pvr (ci := 5) (q0 := 0) hK hG (hP.sub (ws' := [(b, .inr (5, [.ref s0, .ref s2, .ref t0, .ref d, .ref e0, .int run])), (s0, .inr (3, [.ref f])), (f, .inr (2, [.ref w, .int σ.2.1, .int σ.2.2])), (w, .inl (cA, 66, .inl σ.1)), (s2, .inr (3, [.ref f2])), (f2, .inr (2, [.ref w2, .int ρ.2.1, .int ρ.2.2])), (w2, .inl (cA, 66, .inl ρ.1)), (t0, .inr (4, [.int τ.1, .int τ.2.1, .int τ.2.2.1, .int τ.2.2.2.1, .int τ.2.2.2.2.1, .int τ.2.2.2.2.2])), (d, .inr (1, [.int δ.1, .ref db])), (db, .inl (cA, 24, .inl δ.2)), (e0, .inr (0, [.ref d, .ref s0]))]) [0, 1, 2, 3, 4, 5, 6, 7, 8, 9, 10] rfl) rfl rfl) rfl rfl hl.1 rfl (lv_room (Nat.le_of_ble_eq_true rfl)) dX5_requireOn_1 ⟨Nat.zero_le _, Nat.zero_le _⟩) (fun r_1 h_2 => ?_)
  obtain ⟨h_2, b_3⟩ := h_2
  have h_2 := h_2.symm
  subst h_2
  refine lv_if_ne (tgt := 17) hx hb dX5_requireOn_4 (by decide) (fun c_4 => ?_) (fun c_4 => ?_)
  · skip
    refine vx_ret ?_
    refine W.widen (k := 1) (n := 6) (Nat.zero_le _) (Nat.zero_le _) ?_
    exact W.vret hx hb hr (fun t ht hW => ⟨rfl, (by simp only [F_X5_requireOn, if_neg c_4]), ht⟩) (fun _ h => nomatch h) dX5_requireOn_17
  · skip
    obtain ⟨sa, hstr⟩ := hG.2.2 (220, "the device is off") (by decide +kernel)
    exact vx_throwS hx hb hl9 (own := RX5) (cls := bx_ise) (text := "the device is off") (names := ["java/lang/RuntimeException", "java/lang/Exception"]) (ic := 54) (A := fun _ => False) hown (by decide +kernel) (by decide +kernel) (hts (.classLink RX5 50 bx_ise) (by decide +kernel)) (hts (.initialized bx_ise) (by decide +kernel)) hstr (bx_hat2 hG (fun w hw => hts w (by first | exact List.mem_cons_of_mem _ (List.mem_append_right _ hw) | exact List.mem_cons_of_mem _ (List.mem_append_left _ (List.mem_append_right _ hw)) | exact List.mem_cons_of_mem _ (List.mem_append_left _ (List.mem_append_left _ (List.mem_append_right _ hw)))))) bx_hg2 hZ.1 hZ.2 va_S.rf (by rw [hml]; exact hl.1) dX5_requireOn_7 dX5_requireOn_10 dX5_requireOn_11 dX5_requireOn_13 dX5_requireOn_16 (fun x h => (hnx x h).elim) (Nat.le_of_ble_eq_true rfl) (Nat.le_of_ble_eq_true rfl) (Nat.le_of_ble_eq_true rfl) (Nat.le_of_ble_eq_true rfl) hlocks (fun t hvm hz hk => ⟨(by simp only [F_X5_requireOn, if_pos c_4]; exact bx_e2), hz, fun q h _ => hk q h⟩) (fun _ h => nomatch h) (Nat.le_of_ble_eq_true rfl) (Nat.le_of_ble_eq_true rfl)
def F_X5_requireToCome (τ : TS) (p0 : Int32) : Int32 := (if p0 ≤ (F_X4_bytesToCome τ) then 0 else 2)
set_option maxHeartbeats 4000000 in
set_option maxRecDepth 100000 in
theorem c_X5_requireToCome (l : Launch) (hl9 : l.stackTraces = false) (D : va_G) (cA : ClassId) (b s0 f w s2 f2 w2 t0 d db e0 : Nat) (σ : FS) (ρ : FS) (τ : TS) (δ : DS) (run : Int32) (p0 : Int32) : vx_Met l yX5_requireToCome wsX5_requireToCome ({ frames := 6, cells := 1, slots := 6, locals := 90 }) (va_Pc [.ref b, .int p0] (bx_rox D [(cA, .int)] (wBo cA b s0 f w s2 f2 w2 t0 d db e0 σ ρ τ δ run))) (va_Sv (fun _ => F_X5_requireToCome τ p0 = 0)) (bx_XC (F_X5_requireToCome τ p0)) 1 6 (fun _ => False) := by
  refine vx_ofW (cc := cX5_requireToCome) (maxL := 2) (ret := none) (by decide) rfl ?_
  intro p e s m args below meth c s₁ B hml hnx hv
  obtain ⟨rfl, hP, hK, hG, hZ⟩ := hv
  have hx := B.exec
  have hb := B.bytes
  have hr := B.returns
  have hts := atoms_spec (ws := wsX5_requireToCome) B.pre
  have hown : s.vm.findClass RX5 = some m.cls := findClass_of_methodNamed B.named
  have hlocks := B.notSynchronized
  have hS : va_S (fun _ => False) s.heap s.heap [] := va_S.rf
  have hP : va_P D vwCl [(b, .inr (5, [.ref s0, .ref s2, .ref t0, .ref d, .ref e0, .int run])), (s0, .inr (3, [.ref f])), (f, .inr (2, [.ref w, .int σ.2.1, .int σ.2.2])), (w, .inl (cA, 66, .inl σ.1)), (s2, .inr (3, [.ref f2])), (f2, .inr (2, [.ref w2, .int ρ.2.1, .int ρ.2.2])), (w2, .inl (cA, 66, .inl ρ.1)), (t0, .inr (4, [.int τ.1, .int τ.2.1, .int τ.2.2.1, .int τ.2.2.2.1, .int τ.2.2.2.2.1, .int τ.2.2.2.2.2])), (d, .inr (1, [.int δ.1, .ref db])), (db, .inl (cA, 24, .inl δ.2)), (e0, .inr (0, [.ref d, .ref s0]))] s.heap := hP
  have hl := lv_entry ([.ref b, .int p0]) (n := 2) (Nat.le_of_ble_eq_true rfl)
  rw [lg_entry_eq]
  generalize (lg_sl ([.ref b, .int p0]) ++ List.replicate (2 - (lg_sl ([.ref b, .int p0])).length) Slot.unset).toArray = ls at hl ⊢
  have hl : lv_has ls 2 [(0, .ref b), (1, .int p0)] := hl
  have hi5 : ∀ w ∈ u_ws RX5 TX5 6, w ∈ wsX5_requireToCome := by decide +kernel
  refine lv_aload_n hx hb dX5_requireToCome_0 rfl (lv_at hl 0 rfl) ?_
  refine va_get (D := D) (ci := 5) (v := .ref t0) (C := RX5) (T := TX5) (N := 6) hx hb hts hi5 hown hK hP 0 rfl rfl 2 (by decide) (hts (.fieldLink RX5 22 "Bootstay" "transfer" "LBootstay$Transfer;") (by decide +kernel)) (fun _ h9 => h9) rfl dX5_requireToCome_1 ?_
  refine bx_ri (va_runV (As := []) (rest := []) ⟨hx, hb, hml, hown, hts⟩ (c_X4_bytesToCome l D t0 τ) (cwV 0 hts gX5_requireToCome_X4_bytesToCome rfl rfl rfl (by decide +kernel) ⟨Nat.le_of_ble_eq_true rfl, Nat.le_of_ble_eq_true rfl⟩) (bx_pvr (ci := 4) (q0 := 0) (hK.sub (tys' := []) [] rfl) hG (hP.sub (ws' := [(t0, .inr (4, [.int τ.1, .int τ.2.1, .int τ.2.2.1, .int τ.2.2.2.1, .int τ.2.2.2.2.1, .int τ.2.2.2.2.2]))]) [7] rfl) rfl rfl) rfl rfl hl.1 rfl (lv_room (Nat.le_of_ble_eq_true rfl)) dX5_requireToCome_4 ⟨Nat.zero_le _, Nat.zero_le _⟩) (fun r_1 h_2 => ?_)
  have h_2 := h_2.symm
  subst h_2
  refine lv_iload_n hx hb dX5_requireToCome_7 rfl (lv_at hl 1 rfl) ?_
  refine lv_icmp_ge (tgt := 21) hx hb dX5_requireToCome_8 (by decide) (fun c_3 => ?_) (fun c_3 => ?_)
  · skip
    refine vx_ret ?_
    refine W.widen (k := 1) (n := 6) (Nat.zero_le _) (Nat.zero_le _) ?_
    exact W.vret hx hb hr (fun t ht hW => ⟨rfl, (by simp only [F_X5_requireToCome, if_pos c_3]), ht⟩) (fun _ h => nomatch h) dX5_requireToCome_21
  · skip
    obtain ⟨sa, hstr⟩ := hG.2.2 (222, "no transfer has that many bytes to come") (by decide +kernel)
    exact vx_throwS hx hb hl9 (own := RX5) (cls := bx_ise) (text := "no transfer has that many bytes to come") (names := ["java/lang/RuntimeException", "java/lang/Exception"]) (ic := 54) (A := fun _ => False) hown (by decide +kernel) (by decide +kernel) (hts (.classLink RX5 50 bx_ise) (by decide +kernel)) (hts (.initialized bx_ise) (by decide +kernel)) hstr (bx_hat2 hG (fun w hw => hts w (by first | exact List.mem_cons_of_mem _ (List.mem_append_right _ hw) | exact List.mem_cons_of_mem _ (List.mem_append_left _ (List.mem_append_right _ hw)) | exact List.mem_cons_of_mem _ (List.mem_append_left _ (List.mem_append_left _ (List.mem_append_right _ hw)))))) bx_hg2 hZ.1 hZ.2 va_S.rf (by rw [hml]; exact hl.1) dX5_requireToCome_11 dX5_requireToCome_14 dX5_requireToCome_15 dX5_requireToCome_17 dX5_requireToCome_20 (fun x h => (hnx x h).elim) (Nat.le_of_ble_eq_true rfl) (Nat.le_of_ble_eq_true rfl) (Nat.le_of_ble_eq_true rfl) (Nat.le_of_ble_eq_true rfl) hlocks (fun t hvm hz hk => ⟨(by simp only [F_X5_requireToCome, if_neg c_3]; exact bx_e2), hz, fun q h _ => hk q h⟩) (fun _ h => nomatch h) (Nat.le_of_ble_eq_true rfl) (Nat.le_of_ble_eq_true rfl)
def F_X5_requireFinishable (σ : FS) (τ : TS) (run : Int32) (p0 : Int32) : Int32 := (if (F_X5_requireWithin p0 1 3) = 0 then (if (F_X4_bytesToCome τ) = 0 then (if (F_X3_imageHash σ (F_X5_idleSlot run) τ.2.1) = τ.2.2.1 then 0 else 2) else 2) else (F_X5_requireWithin p0 1 3))
set_option maxHeartbeats 4000000 in
set_option maxRecDepth 100000 in
theorem c_X5_requireFinishable (l : Launch) (hl9 : l.stackTraces = false) (D : va_G) (cA : ClassId) (b s0 f w s2 f2 w2 t0 d db e0 : Nat) (σ : FS) (ρ : FS) (τ : TS) (δ : DS) (run : Int32) (p0 : Int32) : vx_Met l yX5_requireFinishable wsX5_requireFinishable ({ frames := 7, cells := 1, slots := 6, locals := 112 }) (va_Pc [.ref b, .int p0] (bx_rox D [(cA, .int)] (wBo cA b s0 f w s2 f2 w2 t0 d db e0 σ ρ τ δ run))) (va_Sv (fun _ => F_X5_requireFinishable σ τ run p0 = 0)) (bx_XC (F_X5_requireFinishable σ τ run p0)) 1 6 (fun _ => False) := by
  refine vx_ofW (cc := cX5_requireFinishable) (maxL := 2) (ret := none) (by decide) rfl ?_
  intro p e s m args below meth c s₁ B hml hnx hv
  obtain ⟨rfl, hP, hK, hG, hZ⟩ := hv
  have hx := B.exec
  have hb := B.bytes
  have hr := B.returns
  have hts := atoms_spec (ws := wsX5_requireFinishable) B.pre
  have hown : s.vm.findClass RX5 = some m.cls := findClass_of_methodNamed B.named
  have hlocks := B.notSynchronized
  have hS : va_S (fun _ => False) s.heap s.heap [] := va_S.rf
  have hP : va_P D vwCl [(b, .inr (5, [.ref s0, .ref s2, .ref t0, .ref d, .ref e0, .int run])), (s0, .inr (3, [.ref f])), (f, .inr (2, [.ref w, .int σ.2.1, .int σ.2.2])), (w, .inl (cA, 66, .inl σ.1)), (s2, .inr (3, [.ref f2])), (f2, .inr (2, [.ref w2, .int ρ.2.1, .int ρ.2.2])), (w2, .inl (cA, 66, .inl ρ.1)), (t0, .inr (4, [.int τ.1, .int τ.2.1, .int τ.2.2.1, .int τ.2.2.2.1, .int τ.2.2.2.2.1, .int τ.2.2.2.2.2])), (d, .inr (1, [.int δ.1, .ref db])), (db, .inl (cA, 24, .inl δ.2)), (e0, .inr (0, [.ref d, .ref s0]))] s.heap := hP
  have hl := lv_entry ([.ref b, .int p0]) (n := 2) (Nat.le_of_ble_eq_true rfl)
  rw [lg_entry_eq]
  generalize (lg_sl ([.ref b, .int p0]) ++ List.replicate (2 - (lg_sl ([.ref b, .int p0])).length) Slot.unset).toArray = ls at hl ⊢
  have hl : lv_has ls 2 [(0, .ref b), (1, .int p0)] := hl
  have hi4 : ∀ w ∈ u_ws RX4 TX4 6, w ∈ wsX5_requireFinishable := by decide +kernel
  have hi5 : ∀ w ∈ u_ws RX5 TX5 6, w ∈ wsX5_requireFinishable := by decide +kernel
  refine lv_iload_n hx hb dX5_requireFinishable_0 rfl (lv_at hl 1 rfl) ?_
  refine lv_iconst (v := 1) hx hb dX5_requireFinishable_1 (by decide) ?_
  refine lv_iconst (v := 3) hx hb dX5_requireFinishable_2 (by decide) ?_
  refine bx_xsv (vx_runS (As := [.int p0, .int 1, .int 3]) (rest := []) ⟨hx, hb, hml, hown, hts⟩ (c_X5_requireWithin l hl9 D p0 1 3) (va_cwS 3 hts gX5_requireFinishable_X5_requireWithin rfl rfl rfl (by decide +kernel) ⟨Nat.le_of_ble_eq_true rfl, Nat.le_of_ble_eq_true rfl⟩) (bx_psrx (hK.sub (tys' := []) [] rfl) hG hZ (hP.sub (ws' := []) [] rfl)) rfl rfl hl.1 rfl (lv_room (Nat.le_of_ble_eq_true rfl)) dX5_requireFinishable_3 ⟨Nat.le_of_ble_eq_true rfl, Nat.le_of_ble_eq_true rfl⟩) hS (fun _ h => h.elim) (fun E ce q9 H1 locs E_2 hz9 hk9 hS hce hcv hcl => ?_) (fun e_1 => ?_)
  · skip
    refine vx_out (fun x h => (hnx x h).elim) hlocks hce hcv hcl (fun t ht hvm => ⟨(by simp only [F_X5_requireFinishable, if_neg (bx_ne E_2)]; exact E_2), by rw [ht]; exact hz9, fun q h _ => by rw [ht]; exact hk9 q h⟩) hS.2.2 (Nat.le_of_ble_eq_true rfl) (Nat.le_of_ble_eq_true rfl)
  · skip
    refine lv_aload_n hx hb dX5_requireFinishable_6 rfl (lv_at hl 0 rfl) ?_
    refine va_get (D := D) (ci := 5) (v := .ref t0) (C := RX5) (T := TX5) (N := 6) hx hb hts hi5 hown hK hP 0 rfl rfl 2 (by decide) (hts (.fieldLink RX5 22 "Bootstay" "transfer" "LBootstay$Transfer;") (by decide +kernel)) (fun _ h9 => h9) rfl dX5_requireFinishable_7 ?_
    refine bx_ri (va_runV (As := []) (rest := []) ⟨hx, hb, hml, hown, hts⟩ (c_X4_bytesToCome l D t0 τ) (cwV 0 hts gX5_requireFinishable_X4_bytesToCome rfl rfl rfl (by decide +kernel) ⟨Nat.le_of_ble_eq_true rfl, Nat.le_of_ble_eq_true rfl⟩) (bx_pvr (ci := 4) (q0 := 0) (hK.sub (tys' := []) [] rfl) hG (hP.sub (ws' := [(t0, .inr (4, [.int τ.1, .int τ.2.1, .int τ.2.2.1, .int τ.2.2.2.1, .int τ.2.2.2.2.1, .int τ.2.2.2.2.2]))]) [7] rfl) rfl rfl) rfl rfl hl.1 rfl (lv_room (Nat.le_of_ble_eq_true rfl)) dX5_requireFinishable_10 ⟨Nat.zero_le _, Nat.zero_le _⟩) (fun r_3 h_4 => ?_)
    have h_4 := h_4.symm
    subst h_4
    refine lv_if_eq (tgt := 26) hx hb dX5_requireFinishable_13 (by decide) (fun c_5 => ?_) (fun c_5 => ?_)
    · skip
      refine lv_aload_n hx hb dX5_requireFinishable_26 rfl (lv_at hl 0 rfl) ?_
      refine va_get (D := D) (ci := 5) (v := .ref s0) (C := RX5) (T := TX5) (N := 6) hx hb hts hi5 hown hK hP 0 rfl rfl 0 (by decide) (hts (.fieldLink RX5 10 "Bootstay" "store" "LBootstay$Store;") (by decide +kernel)) (fun _ h9 => h9) rfl dX5_requireFinishable_27 ?_
      refine lv_aload_n hx hb dX5_requireFinishable_30 rfl (lv_at hl 0 rfl) ?_
      refine bx_ri (va_runV (As := []) (rest := [.ref s0]) ⟨hx, hb, hml, hown, hts⟩ (c_X5_idleSlot l D cA b s0 f w s2 f2 w2 t0 d db e0 σ ρ τ δ run) (cwV 0 hts gX5_requireFinishable_X5_idleSlot rfl rfl rfl (by decide +kernel) ⟨Nat.le_of_ble_eq_true rfl, Nat.le_of_ble_eq_true rfl⟩) (bx_pvr (ci := 5) (q0 := 0) hK hG (hP.sub (ws' := [(b, .inr (5, [.ref s0, .ref s2, .ref t0, .ref d, .ref e0, .int run])), (s0, .inr (3, [.ref f])), (f, .inr (2, [.ref w, .int σ.2.1, .int σ.2.2])), (w, .inl (cA, 66, .inl σ.1)), (s2, .inr (3, [.ref f2])), (f2, .inr (2, [.ref w2, .int ρ.2.1, .int ρ.2.2])), (w2, .inl (cA, 66, .inl ρ.1)), (t0, .inr (4, [.int τ.1, .int τ.2.1, .int τ.2.2.1, .int τ.2.2.2.1, .int τ.2.2.2.2.1, .int τ.2.2.2.2.2])), (d, .inr (1, [.int δ.1, .ref db])), (db, .inl (cA, 24, .inl δ.2)), (e0, .inr (0, [.ref d, .ref s0]))]) [0, 1, 2, 3, 4, 5, 6, 7, 8, 9, 10] rfl) rfl rfl) rfl rfl hl.1 rfl (lv_room (Nat.le_of_ble_eq_true rfl)) dX5_requireFinishable_31 ⟨Nat.zero_le _, Nat.zero_le _⟩) (fun r_6 h_7 => ?_)
      have h_7 := h_7.symm
      subst h_7
      refine lv_aload_n hx hb dX5_requireFinishable_34 rfl (lv_at hl 0 rfl) ?_
      refine va_get (D := D) (ci := 5) (v := .ref t0) (C := RX5) (T := TX5) (N := 6) hx hb hts hi5 hown hK hP 0 rfl rfl 2 (by decide) (hts (.fieldLink RX5 22 "Bootstay" "transfer" "LBootstay$Transfer;") (by decide +kernel)) (fun _ h9 => h9) rfl dX5_requireFinishable_35 ?_
      refine va_get (D := D) (ci := 4) (v := .int τ.2.1) (C := RX4) (T := TX4) (N := 6) hx hb hts hi4 hown hK hP 7 rfl rfl 1 (by decide) (hts (.fieldLink RX5 226 "Bootstay$Transfer" "length" "I") (by decide +kernel)) (fun _ h9 => h9) rfl dX5_requireFinishable_38 ?_
      refine bx_ri (va_runV (As := [.int (F_X5_idleSlot run), .int τ.2.1]) (rest := []) ⟨hx, hb, hml, hown, hts⟩ (c_X3_imageHash l D cA s0 f w σ (F_X5_idleSlot run) τ.2.1) (cwV 2 hts gX5_requireFinishable_X3_imageHash rfl rfl rfl (by decide +kernel) ⟨Nat.le_of_ble_eq_true rfl, Nat.le_of_ble_eq_true rfl⟩) (bx_pvr (ci := 3) (q0 := 0) hK hG (hP.sub (ws' := [(s0, .inr (3, [.ref f])), (f, .inr (2, [.ref w, .int σ.2.1, .int σ.2.2])), (w, .inl (cA, 66, .inl σ.1))]) [1, 2, 3] rfl) rfl rfl) rfl rfl hl.1 rfl (lv_room (Nat.le_of_ble_eq_true rfl)) dX5_requireFinishable_41 ⟨Nat.zero_le _, Nat.zero_le _⟩) (fun r_8 h_9 => ?_)
      have h_9 := h_9.symm
      subst h_9
      refine lv_aload_n hx hb dX5_requireFinishable_44 rfl (lv_at hl 0 rfl) ?_
      refine va_get (D := D) (ci := 5) (v := .ref t0) (C := RX5) (T := TX5) (N := 6) hx hb hts hi5 hown hK hP 0 rfl rfl 2 (by decide) (hts (.fieldLink RX5 22 "Bootstay" "transfer" "LBootstay$Transfer;") (by decide +kernel)) (fun _ h9 => h9) rfl dX5_requireFinishable_45 ?_
      refine va_get (D := D) (ci := 4) (v := .int τ.2.2.1) (C := RX4) (T := TX4) (N := 6) hx hb hts hi4 hown hK hP 7 rfl rfl 2 (by decide) (hts (.fieldLink RX5 232 "Bootstay$Transfer" "hash" "I") (by decide +kernel)) (fun _ h9 => h9) rfl dX5_requireFinishable_48 ?_
      refine lv_icmp_eq (tgt := 64) hx hb dX5_requireFinishable_51 (by decide) (fun c_10 => ?_) (fun c_10 => ?_)
      · skip
        refine vx_ret ?_
        refine W.widen (k := 1) (n := 6) (Nat.zero_le _) (Nat.zero_le _) ?_
        exact W.vret hx hb hr (fun t ht hW => ⟨rfl, (by simp only [F_X5_requireFinishable, if_pos e_1, if_pos c_5, if_pos c_10]), ht⟩) (fun _ h => nomatch h) dX5_requireFinishable_64
      · skip
        obtain ⟨sa, hstr⟩ := hG.2.2 (234, "the bytes have another hash than was offered") (by decide +kernel)
        exact vx_throwS hx hb hl9 (own := RX5) (cls := bx_ise) (text := "the bytes have another hash than was offered") (names := ["java/lang/RuntimeException", "java/lang/Exception"]) (ic := 54) (A := fun _ => False) hown (by decide +kernel) (by decide +kernel) (hts (.classLink RX5 50 bx_ise) (by decide +kernel)) (hts (.initialized bx_ise) (by decide +kernel)) hstr (bx_hat2 hG (fun w hw => hts w (by first | exact List.mem_cons_of_mem _ (List.mem_append_right _ hw) | exact List.mem_cons_of_mem _ (List.mem_append_left _ (List.mem_append_right _ hw)) | exact List.mem_cons_of_mem _ (List.mem_append_left _ (List.mem_append_left _ (List.mem_append_right _ hw)))))) bx_hg2 hZ.1 hZ.2 va_S.rf (by rw [hml]; exact hl.1) dX5_requireFinishable_54 dX5_requireFinishable_57 dX5_requireFinishable_58 dX5_requireFinishable_60 dX5_requireFinishable_63 (fun x h => (hnx x h).elim) (Nat.le_of_ble_eq_true rfl) (Nat.le_of_ble_eq_true rfl) (Nat.le_of_ble_eq_true rfl) (Nat.le_of_ble_eq_true rfl) hlocks (fun t hvm hz hk => ⟨(by simp only [F_X5_requireFinishable, if_pos e_1, if_pos c_5, if_neg c_10]; exact bx_e2), hz, fun q h _ => hk q h⟩) (fun _ h => nomatch h) (Nat.le_of_ble_eq_true rfl) (Nat.le_of_ble_eq_true rfl)
    · skip
      obtain ⟨sa, hstr⟩ := hG.2.2 (224, "no transfer has all its bytes") (by decide +kernel)
      exact vx_throwS hx hb hl9 (own := RX5) (cls := bx_ise) (text := "no transfer has all its bytes") (names := ["java/lang/RuntimeException", "java/lang/Exception"]) (ic := 54) (A := fun _ => False) hown (by decide +kernel) (by decide +kernel) (hts (.classLink RX5 50 bx_ise) (by decide +kernel)) (hts (.initialized bx_ise) (by decide +kernel)) hstr (bx_hat2 hG (fun w hw => hts w (by first | exact List.mem_cons_of_mem _ (List.mem_append_right _ hw) | exact List.mem_cons_of_mem _ (List.mem_append_left _ (List.mem_append_right _ hw)) | exact List.mem_cons_of_mem _ (List.mem_append_left _ (List.mem_append_left _ (List.mem_append_right _ hw)))))) bx_hg2 hZ.1 hZ.2 va_S.rf (by rw [hml]; exact hl.1) dX5_requireFinishable_16 dX5_requireFinishable_19 dX5_requireFinishable_20 dX5_requireFinishable_22 dX5_requireFinishable_25 (fun x h => (hnx x h).elim) (Nat.le_of_ble_eq_true rfl) (Nat.le_of_ble_eq_true rfl) (Nat.le_of_ble_eq_true rfl) (Nat.le_of_ble_eq_true rfl) hlocks (fun t hvm hz hk => ⟨(by simp only [F_X5_requireFinishable, if_pos e_1, if_neg c_5]; exact bx_e2), hz, fun q h _ => hk q h⟩) (fun _ h => nomatch h) (Nat.le_of_ble_eq_true rfl) (Nat.le_of_ble_eq_true rfl)
def F_X5_requireStartable (σ : FS) (p0 : Int32) : Int32 := (if (F_X5_requireWithin p0 0 1) = 0 then (if (F_X3_canStart σ p0) = 0 then 2 else 0) else (F_X5_requireWithin p0 0 1))
set_option maxHeartbeats 4000000 in
set_option maxRecDepth 100000 in
theorem c_X5_requireStartable (l : Launch) (hl9 : l.stackTraces = false) (D : va_G) (cA : ClassId) (b s0 f w s2 f2 w2 t0 d db e0 : Nat) (σ : FS) (ρ : FS) (τ : TS) (δ : DS) (run : Int32) (p0 : Int32) : vx_Met l yX5_requireStartable wsX5_requireStartable ({ frames := 7, cells := 1, slots := 6, locals := 112 }) (va_Pc [.ref b, .int p0] (bx_rox D [(cA, .int)] (wBo cA b s0 f w s2 f2 w2 t0 d db e0 σ ρ τ δ run))) (va_Sv (fun _ => F_X5_requireStartable σ p0 = 0)) (bx_XC (F_X5_requireStartable σ p0)) 1 6 (fun _ => False) := by
  refine vx_ofW (cc := cX5_requireStartable) (maxL := 2) (ret := none) (by decide) rfl ?_
  intro p e s m args below meth c s₁ B hml hnx hv
  obtain ⟨rfl, hP, hK, hG, hZ⟩ := hv
  have hx := B.exec
  have hb := B.bytes
  have hr := B.returns
  have hts := atoms_spec (ws := wsX5_requireStartable) B.pre
  have hown : s.vm.findClass RX5 = some m.cls := findClass_of_methodNamed B.named
  have hlocks := B.notSynchronized
  have hS : va_S (fun _ => False) s.heap s.heap [] := va_S.rf
  have hP : va_P D vwCl [(b, .inr (5, [.ref s0, .ref s2, .ref t0, .ref d, .ref e0, .int run])), (s0, .inr (3, [.ref f])), (f, .inr (2, [.ref w, .int σ.2.1, .int σ.2.2])), (w, .inl (cA, 66, .inl σ.1)), (s2, .inr (3, [.ref f2])), (f2, .inr (2, [.ref w2, .int ρ.2.1, .int ρ.2.2])), (w2, .inl (cA, 66, .inl ρ.1)), (t0, .inr (4, [.int τ.1, .int τ.2.1, .int τ.2.2.1, .int τ.2.2.2.1, .int τ.2.2.2.2.1, .int τ.2.2.2.2.2])), (d, .inr (1, [.int δ.1, .ref db])), (db, .inl (cA, 24, .inl δ.2)), (e0, .inr (0, [.ref d, .ref s0]))] s.heap := hP
  have hl := lv_entry ([.ref b, .int p0]) (n := 2) (Nat.le_of_ble_eq_true rfl)
  rw [lg_entry_eq]
  generalize (lg_sl ([.ref b, .int p0]) ++ List.replicate (2 - (lg_sl ([.ref b, .int p0])).length) Slot.unset).toArray = ls at hl ⊢
  have hl : lv_has ls 2 [(0, .ref b), (1, .int p0)] := hl
  have hi5 : ∀ w ∈ u_ws RX5 TX5 6, w ∈ wsX5_requireStartable := by decide +kernel
  refine lv_iload_n hx hb dX5_requireStartable_0 rfl (lv_at hl 1 rfl) ?_
  refine lv_iconst (v := 0) hx hb dX5_requireStartable_1 (by decide) ?_
  refine lv_iconst (v := 1) hx hb dX5_requireStartable_2 (by decide) ?_
  refine bx_xsv (vx_runS (As := [.int p0, .int 0, .int 1]) (rest := []) ⟨hx, hb, hml, hown, hts⟩ (c_X5_requireWithin l hl9 D p0 0 1) (va_cwS 3 hts gX5_requireStartable_X5_requireWithin rfl rfl rfl (by decide +kernel) ⟨Nat.le_of_ble_eq_true rfl, Nat.le_of_ble_eq_true rfl⟩) (bx_psrx (hK.sub (tys' := []) [] rfl) hG hZ (hP.sub (ws' := []) [] rfl)) rfl rfl hl.1 rfl (lv_room (Nat.le_of_ble_eq_true rfl)) dX5_requireStartable_3 ⟨Nat.le_of_ble_eq_true rfl, Nat.le_of_ble_eq_true rfl⟩) hS (fun _ h => h.elim) (fun E ce q9 H1 locs E_2 hz9 hk9 hS hce hcv hcl => ?_) (fun e_1 => ?_)
  · skip
    refine vx_out (fun x h => (hnx x h).elim) hlocks hce hcv hcl (fun t ht hvm => ⟨(by simp only [F_X5_requireStartable, if_neg (bx_ne E_2)]; exact E_2), by rw [ht]; exact hz9, fun q h _ => by rw [ht]; exact hk9 q h⟩) hS.2.2 (Nat.le_of_ble_eq_true rfl) (Nat.le_of_ble_eq_true rfl)
  · skip
    refine lv_aload_n hx hb dX5_requireStartable_6 rfl (lv_at hl 0 rfl) ?_
    refine va_get (D := D) (ci := 5) (v := .ref s0) (C := RX5) (T := TX5) (N := 6) hx hb hts hi5 hown hK hP 0 rfl rfl 0 (by decide) (hts (.fieldLink RX5 10 "Bootstay" "store" "LBootstay$Store;") (by decide +kernel)) (fun _ h9 => h9) rfl dX5_requireStartable_7 ?_
    refine lv_iload_n hx hb dX5_requireStartable_10 rfl (lv_at hl 1 rfl) ?_
    refine bx_ri (va_runV (As := [.int p0]) (rest := []) ⟨hx, hb, hml, hown, hts⟩ (c_X3_canStart l D cA s0 f w σ p0) (cwV 1 hts gX5_requireStartable_X3_canStart rfl rfl rfl (by decide +kernel) ⟨Nat.le_of_ble_eq_true rfl, Nat.le_of_ble_eq_true rfl⟩) (bx_pvr (ci := 3) (q0 := 0) hK hG (hP.sub (ws' := [(s0, .inr (3, [.ref f])), (f, .inr (2, [.ref w, .int σ.2.1, .int σ.2.2])), (w, .inl (cA, 66, .inl σ.1))]) [1, 2, 3] rfl) rfl rfl) rfl rfl hl.1 rfl (lv_room (Nat.le_of_ble_eq_true rfl)) dX5_requireStartable_11 ⟨Nat.zero_le _, Nat.zero_le _⟩) (fun r_3 h_4 => ?_)
    obtain ⟨h_4, b_5⟩ := h_4
    have h_4 := h_4.symm
    subst h_4
    refine lv_if_ne (tgt := 27) hx hb dX5_requireStartable_14 (by decide) (fun c_6 => ?_) (fun c_6 => ?_)
    · skip
      refine vx_ret ?_
      refine W.widen (k := 1) (n := 6) (Nat.zero_le _) (Nat.zero_le _) ?_
      exact W.vret hx hb hr (fun t ht hW => ⟨rfl, (by simp only [F_X5_requireStartable, if_pos e_1, if_neg c_6]), ht⟩) (fun _ h => nomatch h) dX5_requireStartable_27
    · skip
      obtain ⟨sa, hstr⟩ := hG.2.2 (236, "the slot is not startable") (by decide +kernel)
      exact vx_throwS hx hb hl9 (own := RX5) (cls := bx_ise) (text := "the slot is not startable") (names := ["java/lang/RuntimeException", "java/lang/Exception"]) (ic := 54) (A := fun _ => False) hown (by decide +kernel) (by decide +kernel) (hts (.classLink RX5 50 bx_ise) (by decide +kernel)) (hts (.initialized bx_ise) (by decide +kernel)) hstr (bx_hat2 hG (fun w hw => hts w (by first | exact List.mem_cons_of_mem _ (List.mem_append_right _ hw) | exact List.mem_cons_of_mem _ (List.mem_append_left _ (List.mem_append_right _ hw)) | exact List.mem_cons_of_mem _ (List.mem_append_left _ (List.mem_append_left _ (List.mem_append_right _ hw)))))) bx_hg2 hZ.1 hZ.2 va_S.rf (by rw [hml]; exact hl.1) dX5_requireStartable_17 dX5_requireStartable_20 dX5_requireStartable_21 dX5_requireStartable_23 dX5_requireStartable_26 (fun x h => (hnx x h).elim) (Nat.le_of_ble_eq_true rfl) (Nat.le_of_ble_eq_true rfl) (Nat.le_of_ble_eq_true rfl) (Nat.le_of_ble_eq_true rfl) hlocks (fun t hvm hz hk => ⟨(by simp only [F_X5_requireStartable, if_pos e_1, if_pos c_6]; exact bx_e2), hz, fun q h _ => hk q h⟩) (fun _ h => nomatch h) (Nat.le_of_ble_eq_true rfl) (Nat.le_of_ble_eq_true rfl)
def F_X5_append (σ : FS) (τ : TS) (run : Int32) (p0 : Int32) : Int32 × (FS) × (TS) × (Int32) := (match (F_X4_nextPlace τ) with | (r_5, u_4) => (match (F_X3_writeImageWord σ (F_X5_idleSlot run) r_5 p0) with | (r_9, u_8) => (match (F_X5_stayOn u_4 run r_9) with | (r_14, τ15, run16) => (r_14, u_8, τ15, run16))))
set_option maxHeartbeats 4000000 in
set_option maxRecDepth 100000 in
theorem c_X5_append (l : Launch) (D : va_G) (cA : ClassId) (b s0 f w s2 f2 w2 t0 d db e0 : Nat) (sz : Nat) (σ : FS) (ρ : FS) (τ : TS) (δ : DS) (run : Int32) (p0 : Int32) : Met l yX5_append wsX5_append ({ frames := 3, cells := 0, slots := 0, locals := 67 }) (va_Pc [.ref b, .int p0] (bx_pre D [(cA, .int)] (wBo cA b s0 f w s2 f2 w2 t0 d db e0 σ ρ τ δ run) sz)) (va_Qi (fun r u => (r, u) = F_X5_append σ τ run p0 ∧ (r = 0 ∨ r = 1)) (fun u t => bx_at D (wBo cA b s0 f w s2 f2 w2 t0 d db e0 u.1 ρ u.2.1 δ u.2.2) (va_A (wBo cA b s0 f w s2 f2 w2 t0 d db e0 σ ρ τ δ run) sz) t) (va_A (wBo cA b s0 f w s2 f2 w2 t0 d db e0 σ ρ τ δ run) sz)) 0 0 (va_A (wBo cA b s0 f w s2 f2 w2 t0 d db e0 σ ρ τ δ run) sz) := by
  refine Met.ofW (cc := cX5_append) (maxL := 2) (ret := (some .boolean)) (by decide) rfl ?_
  intro p e s m args below meth c s₁ B hml hv
  obtain ⟨rfl, hsz, hP, hK, hD0, hG⟩ := hv
  have hx := B.exec
  have hb := B.bytes
  have hr := B.returns
  have hts := atoms_spec (ws := wsX5_append) B.pre
  have hown : s.vm.findClass RX5 = some m.cls := findClass_of_methodNamed B.named
  have hlocks := B.notSynchronized
  subst hsz
  have hD := hD0.self (sz := s.heap.size)
  generalize hAe : va_A (wBo cA b s0 f w s2 f2 w2 t0 d db e0 σ ρ τ δ run) s.heap.size = A at hD ⊢
  have hA : ∀ q : Nat, s.heap.size ≤ q → A q := fun q h => by rw [← hAe]; exact Or.inr h
  have hS : va_S A s.heap s.heap [] := va_S.rf
  have hD : va_D A [(b, .inr (5, [.ref s0, .ref s2, .ref t0, .ref d, .ref e0, .int run])), (s0, .inr (3, [.ref f])), (f, .inr (2, [.ref w, .int σ.2.1, .int σ.2.2])), (w, .inl (cA, 66, .inl σ.1)), (s2, .inr (3, [.ref f2])), (f2, .inr (2, [.ref w2, .int ρ.2.1, .int ρ.2.2])), (w2, .inl (cA, 66, .inl ρ.1)), (t0, .inr (4, [.int τ.1, .int τ.2.1, .int τ.2.2.1, .int τ.2.2.2.1, .int τ.2.2.2.2.1, .int τ.2.2.2.2.2])), (d, .inr (1, [.int δ.1, .ref db])), (db, .inl (cA, 24, .inl δ.2)), (e0, .inr (0, [.ref d, .ref s0]))] := hD
  have hP : va_P D vwCl [(b, .inr (5, [.ref s0, .ref s2, .ref t0, .ref d, .ref e0, .int run])), (s0, .inr (3, [.ref f])), (f, .inr (2, [.ref w, .int σ.2.1, .int σ.2.2])), (w, .inl (cA, 66, .inl σ.1)), (s2, .inr (3, [.ref f2])), (f2, .inr (2, [.ref w2, .int ρ.2.1, .int ρ.2.2])), (w2, .inl (cA, 66, .inl ρ.1)), (t0, .inr (4, [.int τ.1, .int τ.2.1, .int τ.2.2.1, .int τ.2.2.2.1, .int τ.2.2.2.2.1, .int τ.2.2.2.2.2])), (d, .inr (1, [.int δ.1, .ref db])), (db, .inl (cA, 24, .inl δ.2)), (e0, .inr (0, [.ref d, .ref s0]))] s.heap := hP
  have hl := lv_entry ([.ref b, .int p0]) (n := 2) (Nat.le_of_ble_eq_true rfl)
  rw [lg_entry_eq]
  generalize (lg_sl ([.ref b, .int p0]) ++ List.replicate (2 - (lg_sl ([.ref b, .int p0])).length) Slot.unset).toArray = ls at hl ⊢
  have hl : lv_has ls 2 [(0, .ref b), (1, .int p0)] := hl
  have hi5 : ∀ w ∈ u_ws RX5 TX5 6, w ∈ wsX5_append := by decide +kernel
  refine lv_aload_n hx hb dX5_append_0 rfl (lv_at hl 0 rfl) ?_
  refine lv_aload_n hx hb dX5_append_1 rfl (lv_at hl 0 rfl) ?_
  refine va_get (D := D) (ci := 5) (v := .ref s0) (C := RX5) (T := TX5) (N := 6) hx hb hts hi5 hown hK hP 0 rfl rfl 0 (by decide) (hts (.fieldLink RX5 10 "Bootstay" "store" "LBootstay$Store;") (by decide +kernel)) (fun _ h9 => h9) rfl dX5_append_2 ?_
  refine lv_aload_n hx hb dX5_append_5 rfl (lv_at hl 0 rfl) ?_
  refine bx_ri (va_runV (As := []) (rest := [.ref s0, .ref b]) ⟨hx, hb, hml, hown, hts⟩ (c_X5_idleSlot l D cA b s0 f w s2 f2 w2 t0 d db e0 σ ρ τ δ run) (cwV 0 hts gX5_append_X5_idleSlot rfl rfl rfl (by decide +kernel) ⟨Nat.le_of_ble_eq_true rfl, Nat.le_of_ble_eq_true rfl⟩) (bx_pvr (ci := 5) (q0 := 0) hK hG (hP.sub (ws' := [(b, .inr (5, [.ref s0, .ref s2, .ref t0, .ref d, .ref e0, .int run])), (s0, .inr (3, [.ref f])), (f, .inr (2, [.ref w, .int σ.2.1, .int σ.2.2])), (w, .inl (cA, 66, .inl σ.1)), (s2, .inr (3, [.ref f2])), (f2, .inr (2, [.ref w2, .int ρ.2.1, .int ρ.2.2])), (w2, .inl (cA, 66, .inl ρ.1)), (t0, .inr (4, [.int τ.1, .int τ.2.1, .int τ.2.2.1, .int τ.2.2.2.1, .int τ.2.2.2.2.1, .int τ.2.2.2.2.2])), (d, .inr (1, [.int δ.1, .ref db])), (db, .inl (cA, 24, .inl δ.2)), (e0, .inr (0, [.ref d, .ref s0]))]) [0, 1, 2, 3, 4, 5, 6, 7, 8, 9, 10] rfl) rfl rfl) rfl rfl hl.1 rfl (lv_room (Nat.le_of_ble_eq_true rfl)) dX5_append_6 ⟨Nat.zero_le _, Nat.zero_le _⟩) (fun r_1 h_2 => ?_)
  have h_2 := h_2.symm
  subst h_2
  refine lv_aload_n hx hb dX5_append_9 rfl (lv_at hl 0 rfl) ?_
  refine va_get (D := D) (ci := 5) (v := .ref t0) (C := RX5) (T := TX5) (N := 6) hx hb hts hi5 hown hK hP 0 rfl rfl 2 (by decide) (hts (.fieldLink RX5 22 "Bootstay" "transfer" "LBootstay$Transfer;") (by decide +kernel)) (fun _ h9 => h9) rfl dX5_append_10 ?_
  refine bx_wi (wc := [(t0, .inr (4, [.int τ.1, .int τ.2.1, .int τ.2.2.1, .int τ.2.2.2.1, .int τ.2.2.2.2.1, .int τ.2.2.2.2.2]))]) (wr := [(b, .inr (5, [.ref s0, .ref s2, .ref t0, .ref d, .ref e0, .int run])), (s0, .inr (3, [.ref f])), (f, .inr (2, [.ref w, .int σ.2.1, .int σ.2.2])), (w, .inl (cA, 66, .inl σ.1)), (s2, .inr (3, [.ref f2])), (f2, .inr (2, [.ref w2, .int ρ.2.1, .int ρ.2.2])), (w2, .inl (cA, 66, .inl ρ.1)), (d, .inr (1, [.int δ.1, .ref db])), (db, .inl (cA, 24, .inl δ.2)), (e0, .inr (0, [.ref d, .ref s0]))]) (wf := fun (u : (TS)) => [(t0, .inr (4, [.int u.1, .int u.2.1, .int u.2.2.1, .int u.2.2.2.1, .int u.2.2.2.2.1, .int u.2.2.2.2.2]))]) (wn := fun (u : (TS)) => [(b, .inr (5, [.ref s0, .ref s2, .ref t0, .ref d, .ref e0, .int run])), (s0, .inr (3, [.ref f])), (f, .inr (2, [.ref w, .int σ.2.1, .int σ.2.2])), (w, .inl (cA, 66, .inl σ.1)), (s2, .inr (3, [.ref f2])), (f2, .inr (2, [.ref w2, .int ρ.2.1, .int ρ.2.2])), (w2, .inl (cA, 66, .inl ρ.1)), (t0, .inr (4, [.int u.1, .int u.2.1, .int u.2.2.1, .int u.2.2.2.1, .int u.2.2.2.2.1, .int u.2.2.2.2.2])), (d, .inr (1, [.int δ.1, .ref db])), (db, .inl (cA, 24, .inl δ.2)), (e0, .inr (0, [.ref d, .ref s0]))]) hP hD hS hA [7] [0, 1, 2, 3, 4, 5, 6, 8, 9, 10] [0, 1, 2, 3, 4, 5, 6, 10, 7, 8, 9] rfl rfl (by decide) (by decide) (fun u => rfl) (by decide) (va_runV (As := []) (rest := [.int (F_X5_idleSlot run), .ref s0, .ref b]) ⟨hx, hb, hml, hown, hts⟩ (c_X4_nextPlace l D t0 s.heap.size τ) (cwV 0 hts gX5_append_X4_nextPlace rfl rfl rfl (by decide +kernel) ⟨Nat.le_of_ble_eq_true rfl, Nat.le_of_ble_eq_true rfl⟩) (bx_pv (ci := 4) (q0 := 0) (hK.sub (tys' := []) [] rfl) hG (hP.sub (ws' := [(t0, .inr (4, [.int τ.1, .int τ.2.1, .int τ.2.2.1, .int τ.2.2.2.1, .int τ.2.2.2.2.1, .int τ.2.2.2.2.2]))]) [7] rfl) (hD.sub (ws' := [(t0, .inr (4, [.int τ.1, .int τ.2.1, .int τ.2.2.1, .int τ.2.2.2.1, .int τ.2.2.2.2.1, .int τ.2.2.2.2.2]))]) [7] (by decide) rfl) rfl rfl) rfl rfl hl.1 rfl (lv_room (Nat.le_of_ble_eq_true rfl)) dX5_append_13 ⟨Nat.zero_le _, Nat.zero_le _⟩) (fun r_5 u_4 H locs h_3 hP hD hS => ?_)
  have hP : va_P D vwCl [(b, .inr (5, [.ref s0, .ref s2, .ref t0, .ref d, .ref e0, .int run])), (s0, .inr (3, [.ref f])), (f, .inr (2, [.ref w, .int σ.2.1, .int σ.2.2])), (w, .inl (cA, 66, .inl σ.1)), (s2, .inr (3, [.ref f2])), (f2, .inr (2, [.ref w2, .int ρ.2.1, .int ρ.2.2])), (w2, .inl (cA, 66, .inl ρ.1)), (t0, .inr (4, [.int u_4.1, .int u_4.2.1, .int u_4.2.2.1, .int u_4.2.2.2.1, .int u_4.2.2.2.2.1, .int u_4.2.2.2.2.2])), (d, .inr (1, [.int δ.1, .ref db])), (db, .inl (cA, 24, .inl δ.2)), (e0, .inr (0, [.ref d, .ref s0]))] H := hP
  have hD : va_D A [(b, .inr (5, [.ref s0, .ref s2, .ref t0, .ref d, .ref e0, .int run])), (s0, .inr (3, [.ref f])), (f, .inr (2, [.ref w, .int σ.2.1, .int σ.2.2])), (w, .inl (cA, 66, .inl σ.1)), (s2, .inr (3, [.ref f2])), (f2, .inr (2, [.ref w2, .int ρ.2.1, .int ρ.2.2])), (w2, .inl (cA, 66, .inl ρ.1)), (t0, .inr (4, [.int u_4.1, .int u_4.2.1, .int u_4.2.2.1, .int u_4.2.2.2.1, .int u_4.2.2.2.2.1, .int u_4.2.2.2.2.2])), (d, .inr (1, [.int δ.1, .ref db])), (db, .inl (cA, 24, .inl δ.2)), (e0, .inr (0, [.ref d, .ref s0]))] := hD
  refine lv_iload_n hx hb dX5_append_16 rfl (lv_at hl 1 rfl) ?_
  refine bx_wi (wc := [(s0, .inr (3, [.ref f])), (f, .inr (2, [.ref w, .int σ.2.1, .int σ.2.2])), (w, .inl (cA, 66, .inl σ.1))]) (wr := [(b, .inr (5, [.ref s0, .ref s2, .ref t0, .ref d, .ref e0, .int run])), (s2, .inr (3, [.ref f2])), (f2, .inr (2, [.ref w2, .int ρ.2.1, .int ρ.2.2])), (w2, .inl (cA, 66, .inl ρ.1)), (t0, .inr (4, [.int u_4.1, .int u_4.2.1, .int u_4.2.2.1, .int u_4.2.2.2.1, .int u_4.2.2.2.2.1, .int u_4.2.2.2.2.2])), (d, .inr (1, [.int δ.1, .ref db])), (db, .inl (cA, 24, .inl δ.2)), (e0, .inr (0, [.ref d, .ref s0]))]) (wf := fun (u : (FS)) => [(s0, .inr (3, [.ref f])), (f, .inr (2, [.ref w, .int u.2.1, .int u.2.2])), (w, .inl (cA, 66, .inl u.1))]) (wn := fun (u : (FS)) => [(b, .inr (5, [.ref s0, .ref s2, .ref t0, .ref d, .ref e0, .int run])), (s0, .inr (3, [.ref f])), (f, .inr (2, [.ref w, .int u.2.1, .int u.2.2])), (w, .inl (cA, 66, .inl u.1)), (s2, .inr (3, [.ref f2])), (f2, .inr (2, [.ref w2, .int ρ.2.1, .int ρ.2.2])), (w2, .inl (cA, 66, .inl ρ.1)), (t0, .inr (4, [.int u_4.1, .int u_4.2.1, .int u_4.2.2.1, .int u_4.2.2.2.1, .int u_4.2.2.2.2.1, .int u_4.2.2.2.2.2])), (d, .inr (1, [.int δ.1, .ref db])), (db, .inl (cA, 24, .inl δ.2)), (e0, .inr (0, [.ref d, .ref s0]))]) hP hD hS hA [1, 2, 3] [0, 4, 5, 6, 7, 8, 9, 10] [0, 8, 9, 10, 1, 2, 3, 4, 5, 6, 7] rfl rfl (by decide) (by decide) (fun u => rfl) (by decide) (va_runV (As := [.int (F_X5_idleSlot run), .int r_5, .int p0]) (rest := [.ref b]) ⟨hx, hb, hml, hown, hts⟩ (c_X3_writeImageWord l D cA s0 f w H.size σ (F_X5_idleSlot run) r_5 p0) (cwV 3 hts gX5_append_X3_writeImageWord rfl rfl rfl (by decide +kernel) ⟨Nat.le_of_ble_eq_true rfl, Nat.le_of_ble_eq_true rfl⟩) (bx_pv (ci := 3) (q0 := 0) hK hG (hP.sub (ws' := [(s0, .inr (3, [.ref f])), (f, .inr (2, [.ref w, .int σ.2.1, .int σ.2.2])), (w, .inl (cA, 66, .inl σ.1))]) [1, 2, 3] rfl) (hD.sub (ws' := [(s0, .inr (3, [.ref f])), (f, .inr (2, [.ref w, .int σ.2.1, .int σ.2.2])), (w, .inl (cA, 66, .inl σ.1))]) [1, 2, 3] (by decide) rfl) rfl rfl) rfl rfl hl.1 rfl (lv_room (Nat.le_of_ble_eq_true rfl)) dX5_append_17 ⟨Nat.zero_le _, Nat.zero_le _⟩) (fun r_9 u_8 H locs h_7 hP hD hS => ?_)
  obtain ⟨h_7, b_11⟩ := h_7
  have hP : va_P D vwCl [(b, .inr (5, [.ref s0, .ref s2, .ref t0, .ref d, .ref e0, .int run])), (s0, .inr (3, [.ref f])), (f, .inr (2, [.ref w, .int u_8.2.1, .int u_8.2.2])), (w, .inl (cA, 66, .inl u_8.1)), (s2, .inr (3, [.ref f2])), (f2, .inr (2, [.ref w2, .int ρ.2.1, .int ρ.2.2])), (w2, .inl (cA, 66, .inl ρ.1)), (t0, .inr (4, [.int u_4.1, .int u_4.2.1, .int u_4.2.2.1, .int u_4.2.2.2.1, .int u_4.2.2.2.2.1, .int u_4.2.2.2.2.2])), (d, .inr (1, [.int δ.1, .ref db])), (db, .inl (cA, 24, .inl δ.2)), (e0, .inr (0, [.ref d, .ref s0]))] H := hP
  have hD : va_D A [(b, .inr (5, [.ref s0, .ref s2, .ref t0, .ref d, .ref e0, .int run])), (s0, .inr (3, [.ref f])), (f, .inr (2, [.ref w, .int u_8.2.1, .int u_8.2.2])), (w, .inl (cA, 66, .inl u_8.1)), (s2, .inr (3, [.ref f2])), (f2, .inr (2, [.ref w2, .int ρ.2.1, .int ρ.2.2])), (w2, .inl (cA, 66, .inl ρ.1)), (t0, .inr (4, [.int u_4.1, .int u_4.2.1, .int u_4.2.2.1, .int u_4.2.2.2.1, .int u_4.2.2.2.2.1, .int u_4.2.2.2.2.2])), (d, .inr (1, [.int δ.1, .ref db])), (db, .inl (cA, 24, .inl δ.2)), (e0, .inr (0, [.ref d, .ref s0]))] := hD
  refine bx_wi (wc := [(b, .inr (5, [.ref s0, .ref s2, .ref t0, .ref d, .ref e0, .int run])), (s0, .inr (3, [.ref f])), (f, .inr (2, [.ref w, .int u_8.2.1, .int u_8.2.2])), (w, .inl (cA, 66, .inl u_8.1)), (s2, .inr (3, [.ref f2])), (f2, .inr (2, [.ref w2, .int ρ.2.1, .int ρ.2.2])), (w2, .inl (cA, 66, .inl ρ.1)), (t0, .inr (4, [.int u_4.1, .int u_4.2.1, .int u_4.2.2.1, .int u_4.2.2.2.1, .int u_4.2.2.2.2.1, .int u_4.2.2.2.2.2])), (d, .inr (1, [.int δ.1, .ref db])), (db, .inl (cA, 24, .inl δ.2)), (e0, .inr (0, [.ref d, .ref s0]))]) (wr := []) (wf := fun (u : (TS) × (Int32)) => [(b, .inr (5, [.ref s0, .ref s2, .ref t0, .ref d, .ref e0, .int u.2])), (s0, .inr (3, [.ref f])), (f, .inr (2, [.ref w, .int u_8.2.1, .int u_8.2.2])), (w, .inl (cA, 66, .inl u_8.1)), (s2, .inr (3, [.ref f2])), (f2, .inr (2, [.ref w2, .int ρ.2.1, .int ρ.2.2])), (w2, .inl (cA, 66, .inl ρ.1)), (t0, .inr (4, [.int u.1.1, .int u.1.2.1, .int u.1.2.2.1, .int u.1.2.2.2.1, .int u.1.2.2.2.2.1, .int u.1.2.2.2.2.2])), (d, .inr (1, [.int δ.1, .ref db])), (db, .inl (cA, 24, .inl δ.2)), (e0, .inr (0, [.ref d, .ref s0]))]) (wn := fun (u : (TS) × (Int32)) => [(b, .inr (5, [.ref s0, .ref s2, .ref t0, .ref d, .ref e0, .int u.2])), (s0, .inr (3, [.ref f])), (f, .inr (2, [.ref w, .int u_8.2.1, .int u_8.2.2])), (w, .inl (cA, 66, .inl u_8.1)), (s2, .inr (3, [.ref f2])), (f2, .inr (2, [.ref w2, .int ρ.2.1, .int ρ.2.2])), (w2, .inl (cA, 66, .inl ρ.1)), (t0, .inr (4, [.int u.1.1, .int u.1.2.1, .int u.1.2.2.1, .int u.1.2.2.2.1, .int u.1.2.2.2.2.1, .int u.1.2.2.2.2.2])), (d, .inr (1, [.int δ.1, .ref db])), (db, .inl (cA, 24, .inl δ.2)), (e0, .inr (0, [.ref d, .ref s0]))]) hP hD hS hA [0, 1, 2, 3, 4, 5, 6, 7, 8, 9, 10] [] [0, 1, 2, 3, 4, 5, 6, 7, 8, 9, 10] rfl rfl (by decide) (by decide) (fun u => rfl) (by decide) (va_runV (As := [.int r_9]) (rest := []) ⟨hx, hb, hml, hown, hts⟩ (c_X5_stayOn l D cA b s0 f w s2 f2 w2 t0 d db e0 H.size u_8 ρ u_4 δ run r_9 b_11) (cwV 1 hts gX5_append_X5_stayOn rfl rfl rfl (by decide +kernel) ⟨Nat.le_of_ble_eq_true rfl, Nat.le_of_ble_eq_true rfl⟩) (bx_pv (ci := 5) (q0 := 0) hK hG (hP.sub (ws' := [(b, .inr (5, [.ref s0, .ref s2, .ref t0, .ref d, .ref e0, .int run])), (s0, .inr (3, [.ref f])), (f, .inr (2, [.ref w, .int u_8.2.1, .int u_8.2.2])), (w, .inl (cA, 66, .inl u_8.1)), (s2, .inr (3, [.ref f2])), (f2, .inr (2, [.ref w2, .int ρ.2.1, .int ρ.2.2])), (w2, .inl (cA, 66, .inl ρ.1)), (t0, .inr (4, [.int u_4.1, .int u_4.2.1, .int u_4.2.2.1, .int u_4.2.2.2.1, .int u_4.2.2.2.2.1, .int u_4.2.2.2.2.2])), (d, .inr (1, [.int δ.1, .ref db])), (db, .inl (cA, 24, .inl δ.2)), (e0, .inr (0, [.ref d, .ref s0]))]) [0, 1, 2, 3, 4, 5, 6, 7, 8, 9, 10] rfl) (hD.sub (ws' := [(b, .inr (5, [.ref s0, .ref s2, .ref t0, .ref d, .ref e0, .int run])), (s0, .inr (3, [.ref f])), (f, .inr (2, [.ref w, .int u_8.2.1, .int u_8.2.2])), (w, .inl (cA, 66, .inl u_8.1)), (s2, .inr (3, [.ref f2])), (f2, .inr (2, [.ref w2, .int ρ.2.1, .int ρ.2.2])), (w2, .inl (cA, 66, .inl ρ.1)), (t0, .inr (4, [.int u_4.1, .int u_4.2.1, .int u_4.2.2.1, .int u_4.2.2.2.1, .int u_4.2.2.2.2.1, .int u_4.2.2.2.2.2])), (d, .inr (1, [.int δ.1, .ref db])), (db, .inl (cA, 24, .inl δ.2)), (e0, .inr (0, [.ref d, .ref s0]))]) [0, 1, 2, 3, 4, 5, 6, 7, 8, 9, 10] (by decide) rfl) rfl rfl) rfl rfl hl.1 rfl (lv_room (Nat.le_of_ble_eq_true rfl)) dX5_append_20 ⟨Nat.zero_le _, Nat.zero_le _⟩) (fun r_14 u_13 H locs h_12 hP hD hS => ?_)
  obtain ⟨τ15, run16⟩ := u_13
  obtain ⟨h_12, b_17⟩ := h_12
  have hP : va_P D vwCl [(b, .inr (5, [.ref s0, .ref s2, .ref t0, .ref d, .ref e0, .int run16])), (s0, .inr (3, [.ref f])), (f, .inr (2, [.ref w, .int u_8.2.1, .int u_8.2.2])), (w, .inl (cA, 66, .inl u_8.1)), (s2, .inr (3, [.ref f2])), (f2, .inr (2, [.ref w2, .int ρ.2.1, .int ρ.2.2])), (w2, .inl (cA, 66, .inl ρ.1)), (t0, .inr (4, [.int τ15.1, .int τ15.2.1, .int τ15.2.2.1, .int τ15.2.2.2.1, .int τ15.2.2.2.2.1, .int τ15.2.2.2.2.2])), (d, .inr (1, [.int δ.1, .ref db])), (db, .inl (cA, 24, .inl δ.2)), (e0, .inr (0, [.ref d, .ref s0]))] H := hP
  have hD : va_D A [(b, .inr (5, [.ref s0, .ref s2, .ref t0, .ref d, .ref e0, .int run16])), (s0, .inr (3, [.ref f])), (f, .inr (2, [.ref w, .int u_8.2.1, .int u_8.2.2])), (w, .inl (cA, 66, .inl u_8.1)), (s2, .inr (3, [.ref f2])), (f2, .inr (2, [.ref w2, .int ρ.2.1, .int ρ.2.2])), (w2, .inl (cA, 66, .inl ρ.1)), (t0, .inr (4, [.int τ15.1, .int τ15.2.1, .int τ15.2.2.1, .int τ15.2.2.2.1, .int τ15.2.2.2.2.1, .int τ15.2.2.2.2.2])), (d, .inr (1, [.int δ.1, .ref db])), (db, .inl (cA, 24, .inl δ.2)), (e0, .inr (0, [.ref d, .ref s0]))] := hD
  exact W.zret (v := r_14) hx hb hr (bx_nb b_17) (fun t ht hW => ⟨⟨r_14, (u_8, τ15, run16), rfl, ⟨(by simp only [F_X5_append, ← h_3, ← h_7, ← h_12]), b_17⟩, ⟨by rw [ht]; exact hP, hD⟩⟩, hS.F ht⟩) hS.2.2 dX5_append_23
