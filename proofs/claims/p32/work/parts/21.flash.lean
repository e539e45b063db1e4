abbrev wFl (cA : ClassId) (f w : Nat) (σ : FS) : va_W := [(f, .inr (2, [.ref w, .int σ.2.1, .int σ.2.2])), (w, .inl (cA, 66, .inl σ.1))]
abbrev wSt (cA : ClassId) (s0 f w : Nat) (σ : FS) : va_W := [(s0, .inr (3, [.ref f])), (f, .inr (2, [.ref w, .int σ.2.1, .int σ.2.2])), (w, .inl (cA, 66, .inl σ.1))]
abbrev wFF (cA : ClassId) (f w f2 w2 : Nat) (σ : FS) (ρ : FS) : va_W := [(f, .inr (2, [.ref w, .int σ.2.1, .int σ.2.2])), (w, .inl (cA, 66, .inl σ.1)), (f2, .inr (2, [.ref w2, .int ρ.2.1, .int ρ.2.2])), (w2, .inl (cA, 66, .inl ρ.1))]
abbrev wSS (cA : ClassId) (s0 f w s2 f2 w2 : Nat) (σ : FS) (ρ : FS) : va_W := [(s0, .inr (3, [.ref f])), (f, .inr (2, [.ref w, .int σ.2.1, .int σ.2.2])), (w, .inl (cA, 66, .inl σ.1)), (s2, .inr (3, [.ref f2])), (f2, .inr (2, [.ref w2, .int ρ.2.1, .int ρ.2.2])), (w2, .inl (cA, 66, .inl ρ.1))]
abbrev wTr (t0 : Nat) (τ : TS) : va_W := [(t0, .inr (4, [.int τ.1, .int τ.2.1, .int τ.2.2.1, .int τ.2.2.2.1, .int τ.2.2.2.2.1, .int τ.2.2.2.2.2]))]
abbrev wDr (cA : ClassId) (d db : Nat) (δ : DS) : va_W := [(d, .inr (1, [.int δ.1, .ref db])), (db, .inl (cA, 24, .inl δ.2))]
abbrev wDe (cA : ClassId) (e0 d db s0 f w : Nat) (δ : DS) (σ : FS) : va_W := [(e0, .inr (0, [.ref d, .ref s0])), (d, .inr (1, [.int δ.1, .ref db])), (db, .inl (cA, 24, .inl δ.2)), (s0, .inr (3, [.ref f])), (f, .inr (2, [.ref w, .int σ.2.1, .int σ.2.2])), (w, .inl (cA, 66, .inl σ.1))]
abbrev wST (cA : ClassId) (s0 f w t0 : Nat) (σ : FS) (τ : TS) : va_W := [(s0, .inr (3, [.ref f])), (f, .inr (2, [.ref w, .int σ.2.1, .int σ.2.2])), (w, .inl (cA, 66, .inl σ.1)), (t0, .inr (4, [.int τ.1, .int τ.2.1, .int τ.2.2.1, .int τ.2.2.2.1, .int τ.2.2.2.2.1, .int τ.2.2.2.2.2]))]
abbrev wBo (cA : ClassId) (b s0 f w s2 f2 w2 t0 d db e0 : Nat) (σ : FS) (ρ : FS) (τ : TS) (δ : DS) (run : Int32) : va_W := [(b, .inr (5, [.ref s0, .ref s2, .ref t0, .ref d, .ref e0, .int run])), (s0, .inr (3, [.ref f])), (f, .inr (2, [.ref w, .int σ.2.1, .int σ.2.2])), (w, .inl (cA, 66, .inl σ.1)), (s2, .inr (3, [.ref f2])), (f2, .inr (2, [.ref w2, .int ρ.2.1, .int ρ.2.2])), (w2, .inl (cA, 66, .inl ρ.1)), (t0, .inr (4, [.int τ.1, .int τ.2.1, .int τ.2.2.1, .int τ.2.2.2.1, .int τ.2.2.2.2.1, .int τ.2.2.2.2.2])), (d, .inr (1, [.int δ.1, .ref db])), (db, .inl (cA, 24, .inl δ.2)), (e0, .inr (0, [.ref d, .ref s0]))]
abbrev wNil : va_W := []
def F_X2_read (σ : FS) (p0 : Int32) : Int32 := (if p0 < 0 then 0 else (if 66 ≤ p0 then 0 else (rd σ.1 p0)))
set_option maxHeartbeats 4000000 in
set_option maxRecDepth 100000 in
theorem c_X2_read (l : Launch) (D : va_G) (cA : ClassId) (f w : Nat) (σ : FS) (p0 : Int32) : Met l yX2_read wsX2_read ({ frames := 0, cells := 0, slots := 0, locals := 0 }) (va_Pc [.ref f, .int p0] (bx_ro D [(cA, .int)] (wFl cA f w σ))) (vp_Si (fun r => r = F_X2_read σ p0)) 0 0 (fun _ => False) := by
  refine Met.ofW (cc := cX2_read) (maxL := 2) (ret := (some .int)) (by decide) rfl ?_
  intro p e s m args below meth c s₁ B hml hv
  obtain ⟨rfl, hP, hK, hG⟩ := hv
  have hx := B.exec
  have hb := B.bytes
  have hr := B.returns
  have hts := atoms_spec (ws := wsX2_read) B.pre
  have hown : s.vm.findClass RX2 = some m.cls := findClass_of_methodNamed B.named
  have hlocks := B.notSynchronized
  have hP : va_P D vwCl [(f, .inr (2, [.ref w, .int σ.2.1, .int σ.2.2])), (w, .inl (cA, 66, .inl σ.1))] s.heap := hP
  have hl := lv_entry ([.ref f, .int p0]) (n := 2) (Nat.le_of_ble_eq_true rfl)
  rw [lg_entry_eq]
  generalize (lg_sl ([.ref f, .int p0]) ++ List.replicate (2 - (lg_sl ([.ref f, .int p0])).length) Slot.unset).toArray = ls at hl ⊢
  have hl : lv_has ls 2 [(0, .ref f), (1, .int p0)] := hl
  have hi2 : ∀ w ∈ u_ws RX2 TX2 3, w ∈ wsX2_read := by decide +kernel
  refine lv_iload_n hx hb dX2_read_0 rfl (lv_at hl 1 rfl) ?_
  refine lv_if_lt (tgt := 22) hx hb dX2_read_1 (by decide) (fun c_1 => ?_) (fun c_1 => ?_)
  · skip
    refine lv_iconst (v := 0) hx hb dX2_read_22 (by decide) ?_
    exact W.iret (v := 0) hx hb hr (fun t ht hW => ⟨0, rfl, (by simp only [F_X2_read, if_pos c_1]), ht⟩) (fun _ h => nomatch h) dX2_read_23
  · skip
    refine lv_iload_n hx hb dX2_read_4 rfl (lv_at hl 1 rfl) ?_
    refine lv_aload_n hx hb dX2_read_5 rfl (lv_at hl 0 rfl) ?_
    refine va_get (D := D) (ci := 2) (v := .ref w) (C := RX2) (T := TX2) (N := 3) hx hb hts hi2 hown hK hP 0 rfl rfl 0 (by decide) (hts (.fieldLink RX2 11 "Bootstay$Flash" "words" "[I") (by decide +kernel)) (fun _ h9 => h9) rfl dX2_read_6 ?_
    refine va_alen (D := D) (v := 66) hx hb hK hP 1 0 rfl rfl rfl dX2_read_9 ?_
    refine lv_icmp_ge (tgt := 22) hx hb dX2_read_10 (by decide) (fun c_2 => ?_) (fun c_2 => ?_)
    · skip
      refine lv_iconst (v := 0) hx hb dX2_read_22 (by decide) ?_
      exact W.iret (v := 0) hx hb hr (fun t ht hW => ⟨0, rfl, (by simp only [F_X2_read, if_neg c_1, if_pos c_2]), ht⟩) (fun _ h => nomatch h) dX2_read_23
    · skip
      refine lv_aload_n hx hb dX2_read_13 rfl (lv_at hl 0 rfl) ?_
      refine va_get (D := D) (ci := 2) (v := .ref w) (C := RX2) (T := TX2) (N := 3) hx hb hts hi2 hown hK hP 0 rfl rfl 0 (by decide) (hts (.fieldLink RX2 11 "Bootstay$Flash" "words" "[I") (by decide +kernel)) (fun _ h9 => h9) rfl dX2_read_14 ?_
      refine lv_iload_n hx hb dX2_read_17 rfl (lv_at hl 1 rfl) ?_
      refine bx_ald (D := D) hx hb hK hP 1 0 rfl rfl (bx_in c_1 c_2 (by decide)) dX2_read_18 ?_
      refine lv_goto (tgt := 23) hx hb dX2_read_19 (by decide) ?_
      exact W.iret (v := (rd σ.1 p0)) hx hb hr (fun t ht hW => ⟨(rd σ.1 p0), rfl, (by simp only [F_X2_read, if_neg c_1, if_neg c_2]), ht⟩) (fun _ h => nomatch h) dX2_read_23
def F_X2_preset (σ : FS) (p0 : Int32) (p1 : Int32) : (FS) := (if p0 < 0 then σ else (if 66 ≤ p0 then σ else ((wr σ.1 p0 p1), σ.2.1, σ.2.2)))
set_option maxHeartbeats 4000000 in
set_option maxRecDepth 100000 in
theorem c_X2_preset (l : Launch) (D : va_G) (cA : ClassId) (f w : Nat) (sz : Nat) (σ : FS) (p0 : Int32) (p1 : Int32) : Met l yX2_preset wsX2_preset ({ frames := 0, cells := 0, slots := 0, locals := 0 }) (va_Pc [.ref f, .int p0, .int p1] (bx_pre D [(cA, .int)] (wFl cA f w σ) sz)) (va_Qv (fun u => u = F_X2_preset σ p0 p1) (fun u t => bx_at D (wFl cA f w u) (va_A (wFl cA f w σ) sz) t) (va_A (wFl cA f w σ) sz)) 0 0 (va_A (wFl cA f w σ) sz) := by
  refine Met.ofW (cc := cX2_preset) (maxL := 3) (ret := none) (by decide) rfl ?_
  intro p e s m args below meth c s₁ B hml hv
  obtain ⟨rfl, hsz, hP, hK, hD0, hG⟩ := hv
  have hx := B.exec
  have hb := B.bytes
  have hr := B.returns
  have hts := atoms_spec (ws := wsX2_preset) B.pre
  have hown : s.vm.findClass RX2 = some m.cls := findClass_of_methodNamed B.named
  have hlocks := B.notSynchronized
  subst hsz
  have hD := hD0.self (sz := s.heap.size)
  generalize hAe : va_A (wFl cA f w σ) s.heap.size = A at hD ⊢
  have hA : ∀ q : Nat, s.heap.size ≤ q → A q := fun q h => by rw [← hAe]; exact Or.inr h
  have hS : va_S A s.heap s.heap [] := va_S.rf
  have hD : va_D A [(f, .inr (2, [.ref w, .int σ.2.1, .int σ.2.2])), (w, .inl (cA, 66, .inl σ.1))] := hD
  have hP : va_P D vwCl [(f, .inr (2, [.ref w, .int σ.2.1, .int σ.2.2])), (w, .inl (cA, 66, .inl σ.1))] s.heap := hP
  have hl := lv_entry ([.ref f, .int p0, .int p1]) (n := 3) (Nat.le_of_ble_eq_true rfl)
  rw [lg_entry_eq]
  generalize (lg_sl ([.ref f, .int p0, .int p1]) ++ List.replicate (3 - (lg_sl ([.ref f, .int p0, .int p1])).length) Slot.unset).toArray = ls at hl ⊢
  have hl : lv_has ls 3 [(0, .ref f), (1, .int p0), (2, .int p1)] := hl
  have hi2 : ∀ w ∈ u_ws RX2 TX2 3, w ∈ wsX2_preset := by decide +kernel
  refine lv_iload_n hx hb dX2_preset_0 rfl (lv_at hl 1 rfl) ?_
  refine lv_if_lt (tgt := 20) hx hb dX2_preset_1 (by decide) (fun c_1 => ?_) (fun c_1 => ?_)
  · skip
    exact W.vret hx hb hr (fun t ht hW => ⟨⟨σ, rfl, (by simp only [F_X2_preset, if_pos c_1]), ⟨by rw [ht]; exact hP, hD⟩⟩, hS.F ht⟩) hS.2.2 dX2_preset_20
  · skip
    refine lv_iload_n hx hb dX2_preset_4 rfl (lv_at hl 1 rfl) ?_
    refine lv_aload_n hx hb dX2_preset_5 rfl (lv_at hl 0 rfl) ?_
    refine va_get (D := D) (ci := 2) (v := .ref w) (C := RX2) (T := TX2) (N := 3) hx hb hts hi2 hown hK hP 0 rfl rfl 0 (by decide) (hts (.fieldLink RX2 11 "Bootstay$Flash" "words" "[I") (by decide +kernel)) (fun _ h9 => h9) rfl dX2_preset_6 ?_
    refine va_alen (D := D) (v := 66) hx hb hK hP 1 0 rfl rfl rfl dX2_preset_9 ?_
    refine lv_icmp_ge (tgt := 20) hx hb dX2_preset_10 (by decide) (fun c_2 => ?_) (fun c_2 => ?_)
    · skip
      exact W.vret hx hb hr (fun t ht hW => ⟨⟨σ, rfl, (by simp only [F_X2_preset, if_neg c_1, if_pos c_2]), ⟨by rw [ht]; exact hP, hD⟩⟩, hS.F ht⟩) hS.2.2 dX2_preset_20
    · skip
      refine lv_aload_n hx hb dX2_preset_13 rfl (lv_at hl 0 rfl) ?_
      refine va_get (D := D) (ci := 2) (v := .ref w) (C := RX2) (T := TX2) (N := 3) hx hb hts hi2 hown hK hP 0 rfl rfl 0 (by decide) (hts (.fieldLink RX2 11 "Bootstay$Flash" "words" "[I") (by decide +kernel)) (fun _ h9 => h9) rfl dX2_preset_14 ?_
      refine lv_iload_n hx hb dX2_preset_17 rfl (lv_at hl 1 rfl) ?_
      refine lv_iload_n hx hb dX2_preset_18 rfl (lv_at hl 2 rfl) ?_
      refine bx_ast (D := D) hx hb hK hP hD hS 1 0 rfl rfl (bx_in c_1 c_2 (by decide)) dX2_preset_19 (fun H locs hP hD hS => ?_)
      have hP : va_P D vwCl [(f, .inr (2, [.ref w, .int σ.2.1, .int σ.2.2])), (w, .inl (cA, 66, .inl (wr σ.1 p0 p1)))] H := hP
      have hD : va_D A [(f, .inr (2, [.ref w, .int σ.2.1, .int σ.2.2])), (w, .inl (cA, 66, .inl (wr σ.1 p0 p1)))] := hD
      exact W.vret hx hb hr (fun t ht hW => ⟨⟨((wr σ.1 p0 p1), σ.2.1, σ.2.2), rfl, (by simp only [F_X2_preset, if_neg c_1, if_neg c_2]), ⟨by rw [ht]; exact hP, hD⟩⟩, hS.F ht⟩) hS.2.2 dX2_preset_20
def F_X2_write (σ : FS) (p0 : Int32) (p1 : Int32) : Int32 × (FS) := (if σ.2.2 = 0 then (let u_12 := (F_X2_preset (σ.1, (σ.2.1 + 1), (-1)) p0 ((F_X2_read (σ.1, (σ.2.1 + 1), (-1)) p0) &&& p1)); (0, u_12)) else (if σ.2.2 ≤ 0 then (let u_4 := (F_X2_preset (σ.1, (σ.2.1 + 1), σ.2.2) p0 p1); (1, u_4)) else (let u_7 := (F_X2_preset (σ.1, (σ.2.1 + 1), (σ.2.2 - 1)) p0 p1); (1, u_7))))
set_option maxHeartbeats 4000000 in
set_option maxRecDepth 100000 in
theorem c_X2_write (l : Launch) (D : va_G) (cA : ClassId) (f w : Nat) (sz : Nat) (σ : FS) (p0 : Int32) (p1 : Int32) : Met l yX2_write wsX2_write ({ frames := 1, cells := 0, slots := 0, locals := 22 }) (va_Pc [.ref f, .int p0, .int p1] (bx_pre D [(cA, .int)] (wFl cA f w σ) sz)) (va_Qi (fun r u => (r, u) = F_X2_write σ p0 p1 ∧ (r = 0 ∨ r = 1)) (fun u t => bx_at D (wFl cA f w u) (va_A (wFl cA f w σ) sz) t) (va_A (wFl cA f w σ) sz)) 0 0 (va_A (wFl cA f w σ) sz) := by
  refine Met.ofW (cc := cX2_write) (maxL := 3) (ret := (some .boolean)) (by decide) rfl ?_
  intro p e s m args below meth c s₁ B hml hv
  obtain ⟨rfl, hsz, hP, hK, hD0, hG⟩ := hv
  have hx := B.exec
  have hb := B.bytes
  have hr := B.returns
  have hts := atoms_spec (ws := wsX2_write) B.pre
  have hown : s.vm.findClass RX2 = some m.cls := findClass_of_methodNamed B.named
  have hlocks := B.notSynchronized
  subst hsz
  have hD := hD0.self (sz := s.heap.size)
  generalize hAe : va_A (wFl cA f w σ) s.heap.size = A at hD ⊢
  have hA : ∀ q : Nat, s.heap.size ≤ q → A q := fun q h => by rw [← hAe]; exact Or.inr h
  have hS : va_S A s.heap s.heap [] := va_S.rf
  have hD : va_D A [(f, .inr (2, [.ref w, .int σ.2.1, .int σ.2.2])), (w, .inl (cA, 66, .inl σ.1))] := hD
  have hP : va_P D vwCl [(f, .inr (2, [.ref w, .int σ.2.1, .int σ.2.2])), (w, .inl (cA, 66, .inl σ.1))] s.heap := hP
  have hl := lv_entry ([.ref f, .int p0, .int p1]) (n := 3) (Nat.le_of_ble_eq_true rfl)
  rw [lg_entry_eq]
  generalize (lg_sl ([.ref f, .int p0, .int p1]) ++ List.replicate (3 - (lg_sl ([.ref f, .int p0, .int p1])).length) Slot.unset).toArray = ls at hl ⊢
  have hl : lv_has ls 3 [(0, .ref f), (1, .int p0), (2, .int p1)] := hl
  have hi2 : ∀ w ∈ u_ws RX2 TX2 3, w ∈ wsX2_write := by decide +kernel
  refine lv_aload_n hx hb dX2_write_0 rfl (lv_at hl 0 rfl) ?_
  refine lv_dup hx hb dX2_write_1 rfl ?_
  refine va_get (D := D) (ci := 2) (v := .int σ.2.1) (C := RX2) (T := TX2) (N := 3) hx hb hts hi2 hown hK hP 0 rfl rfl 1 (by decide) (hts (.fieldLink RX2 17 "Bootstay$Flash" "begun" "I") (by decide +kernel)) (fun _ h9 => h9) rfl dX2_write_2 ?_
  refine lv_iconst (v := 1) hx hb dX2_write_5 (by decide) ?_
  refine lv_iadd hx hb dX2_write_6 ?_
  refine va_put (D := D) (ci := 2) (v := .int (σ.2.1 + 1)) (ty := .int) (C := RX2) (T := TX2) (N := 3) hx hb hts hi2 tyX2 tyX2_ok nmX2 hown hK hP hD hS 0 rfl rfl 1 (by decide) (hts (.fieldLink RX2 17 "Bootstay$Flash" "begun" "I") (by decide +kernel)) (fun _ h9 => h9) rfl (by decide +kernel) rfl rfl (Nat.le_of_ble_eq_true rfl) dX2_write_7 (fun H locs hP hD hS => ?_)
  have hP : va_P D vwCl [(f, .inr (2, [.ref w, .int (σ.2.1 + 1), .int σ.2.2])), (w, .inl (cA, 66, .inl σ.1))] H := hP
  have hD : va_D A [(f, .inr (2, [.ref w, .int (σ.2.1 + 1), .int σ.2.2])), (w, .inl (cA, 66, .inl σ.1))] := hD
  refine lv_aload_n hx hb dX2_write_10 rfl (lv_at hl 0 rfl) ?_
  refine va_get (D := D) (ci := 2) (v := .int σ.2.2) (C := RX2) (T := TX2) (N := 3) hx hb hts hi2 hown hK hP 0 rfl rfl 2 (by decide) (hts (.fieldLink RX2 21 "Bootstay$Flash" "writesToFailure" "I") (by decide +kernel)) (fun _ h9 => h9) rfl dX2_write_11 ?_
  refine lv_if_ne (tgt := 36) hx hb dX2_write_14 (by decide) (fun c_1 => ?_) (fun c_1 => ?_)
  · skip
    refine lv_aload_n hx hb dX2_write_36 rfl (lv_at hl 0 rfl) ?_
    refine va_get (D := D) (ci := 2) (v := .int σ.2.2) (C := RX2) (T := TX2) (N := 3) hx hb hts hi2 hown hK hP 0 rfl rfl 2 (by decide) (hts (.fieldLink RX2 21 "Bootstay$Flash" "writesToFailure" "I") (by decide +kernel)) (fun _ h9 => h9) rfl dX2_write_37 ?_
    refine lv_if_le (tgt := 53) hx hb dX2_write_40 (by decide) (fun c_2 => ?_) (fun c_2 => ?_)
    · skip
      refine lv_aload_n hx hb dX2_write_53 rfl (lv_at hl 0 rfl) ?_
      refine lv_iload_n hx hb dX2_write_54 rfl (lv_at hl 1 rfl) ?_
      refine lv_iload_n hx hb dX2_write_55 rfl (lv_at hl 2 rfl) ?_
      refine bx_wv (wc := [(f, .inr (2, [.ref w, .int (σ.2.1 + 1), .int σ.2.2])), (w, .inl (cA, 66, .inl σ.1))]) (wr := []) (wf := fun (u : (FS)) => [(f, .inr (2, [.ref w, .int u.2.1, .int u.2.2])), (w, .inl (cA, 66, .inl u.1))]) (wn := fun (u : (FS)) => [(f, .inr (2, [.ref w, .int u.2.1, .int u.2.2])), (w, .inl (cA, 66, .inl u.1))]) hP hD hS hA [0, 1] [] [0, 1] rfl rfl (by decide) (by decide) (fun u => rfl) (by decide) (va_runV (As := [.int p0, .int p1]) (rest := []) ⟨hx, hb, hml, hown, hts⟩ (c_X2_preset l D cA f w H.size (σ.1, (σ.2.1 + 1), σ.2.2) p0 p1) (cwV 2 hts gX2_write_X2_preset rfl rfl rfl (by decide +kernel) ⟨Nat.le_of_ble_eq_true rfl, Nat.le_of_ble_eq_true rfl⟩) (bx_pv (ci := 2) (q0 := 0) hK hG (hP.sub (ws' := [(f, .inr (2, [.ref w, .int (σ.2.1 + 1), .int σ.2.2])), (w, .inl (cA, 66, .inl σ.1))]) [0, 1] rfl) (hD.sub (ws' := [(f, .inr (2, [.ref w, .int (σ.2.1 + 1), .int σ.2.2])), (w, .inl (cA, 66, .inl σ.1))]) [0, 1] (by decide) rfl) rfl rfl) rfl rfl hl.1 rfl (lv_room (Nat.le_of_ble_eq_true rfl)) dX2_write_56 ⟨Nat.zero_le _, Nat.zero_le _⟩) (fun  u_4 H locs h_3 hP hD hS => ?_)
      have hP : va_P D vwCl [(f, .inr (2, [.ref w, .int u_4.2.1, .int u_4.2.2])), (w, .inl (cA, 66, .inl u_4.1))] H := hP
      have hD : va_D A [(f, .inr (2, [.ref w, .int u_4.2.1, .int u_4.2.2])), (w, .inl (cA, 66, .inl u_4.1))] := hD
      refine lv_iconst (v := 1) hx hb dX2_write_59 (by decide) ?_
      exact W.zret (v := 1) hx hb hr rfl (fun t ht hW => ⟨⟨1, u_4, rfl, ⟨(by simp only [F_X2_write, if_neg c_1, if_pos c_2, ← h_3]), (by decide)⟩, ⟨by rw [ht]; exact hP, hD⟩⟩, hS.F ht⟩) hS.2.2 dX2_write_60
    · skip
      refine lv_aload_n hx hb dX2_write_43 rfl (lv_at hl 0 rfl) ?_
      refine lv_dup hx hb dX2_write_44 rfl ?_
      refine va_get (D := D) (ci := 2) (v := .int σ.2.2) (C := RX2) (T := TX2) (N := 3) hx hb hts hi2 hown hK hP 0 rfl rfl 2 (by decide) (hts (.fieldLink RX2 21 "Bootstay$Flash" "writesToFailure" "I") (by decide +kernel)) (fun _ h9 => h9) rfl dX2_write_45 ?_
      refine lv_iconst (v := 1) hx hb dX2_write_48 (by decide) ?_
      refine lv_isub hx hb dX2_write_49 ?_
      refine va_put (D := D) (ci := 2) (v := .int (σ.2.2 - 1)) (ty := .int) (C := RX2) (T := TX2) (N := 3) hx hb hts hi2 tyX2 tyX2_ok nmX2 hown hK hP hD hS 0 rfl rfl 2 (by decide) (hts (.fieldLink RX2 21 "Bootstay$Flash" "writesToFailure" "I") (by decide +kernel)) (fun _ h9 => h9) rfl (by decide +kernel) rfl rfl (Nat.le_of_ble_eq_true rfl) dX2_write_50 (fun H locs hP hD hS => ?_)
      have hP : va_P D vwCl [(f, .inr (2, [.ref w, .int (σ.2.1 + 1), .int (σ.2.2 - 1)])), (w, .inl (cA, 66, .inl σ.1))] H := hP
      have hD : va_D A [(f, .inr (2, [.ref w, .int (σ.2.1 + 1), .int (σ.2.2 - 1)])), (w, .inl (cA, 66, .inl σ.1))] := hD
      refine lv_aload_n hx hb dX2_write_53 rfl (lv_at hl 0 rfl) ?_
      refine lv_iload_n hx hb dX2_write_54 rfl (lv_at hl 1 rfl) ?_
      refine lv_iload_n hx hb dX2_write_55 rfl (lv_at hl 2 rfl) ?_
      refine bx_wv (wc := [(f, .inr (2, [.ref w, .int (σ.2.1 + 1), .int (σ.2.2 - 1)])), (w, .inl (cA, 66, .inl σ.1))]) (wr := []) (wf := fun (u : (FS)) => [(f, .inr (2, [.ref w, .int u.2.1, .int u.2.2])), (w, .inl (cA, 66, .inl u.1))]) (wn := fun (u : (FS)) => [(f, .inr (2, [.ref w, .int u.2.1, .int u.2.2])), (w, .inl (cA, 66, .inl u.1))]) hP hD hS hA [0, 1] [] [0, 1] rfl rfl (by decide) (by decide) (fun u => rfl) (by decide) (va_runV (As := [.int p0, .int p1]) (rest := []) ⟨hx, hb, hml, hown, hts⟩ (c_X2_preset l D cA f w H.size (σ.1, (σ.2.1 + 1), (σ.2.2 - 1)) p0 p1) (cwV 2 hts gX2_write_X2_preset rfl rfl rfl (by decide +kernel) ⟨Nat.le_of_ble_eq_true rfl, Nat.le_of_ble_eq_true rfl⟩) (bx_pv (ci := 2) (q0 := 0) hK hG (hP.sub (ws' := [(f, .inr (2, [.ref w, .int (σ.2.1 + 1), .int (σ.2.2 - 1)])), (w, .inl (cA, 66, .inl σ.1))]) [0, 1] rfl) (hD.sub (ws' := [(f, .inr (2, [.ref w, .int (σ.2.1 + 1), .int (σ.2.2 - 1)])), (w, .inl (cA, 66, .inl σ.1))]) [0, 1] (by decide) rfl) rfl rfl) rfl rfl hl.1 rfl (lv_room (Nat.le_of_ble_eq_true rfl)) dX2_write_56 ⟨Nat.zero_le _, Nat.zero_le _⟩) (fun  u_7 H locs h_6 hP hD hS => ?_)
      have hP : va_P D vwCl [(f, .inr (2, [.ref w, .int u_7.2.1, .int u_7.2.2])), (w, .inl (cA, 66, .inl u_7.1))] H := hP
      have hD : va_D A [(f, .inr (2, [.ref w, .int u_7.2.1, .int u_7.2.2])), (w, .inl (cA, 66, .inl u_7.1))] := hD
      refine lv_iconst (v := 1) hx hb dX2_write_59 (by decide) ?_
      exact W.zret (v := 1) hx hb hr rfl (fun t ht hW => ⟨⟨1, u_7, rfl, ⟨(by simp only [F_X2_write, if_neg c_1, if_neg c_2, ← h_6]), (by decide)⟩, ⟨by rw [ht]; exact hP, hD⟩⟩, hS.F ht⟩) hS.2.2 dX2_write_60
  · skip
    refine lv_aload_n hx hb dX2_write_17 rfl (lv_at hl 0 rfl) ?_
    refine lv_iconst (v := (-1)) hx hb dX2_write_18 (by decide) ?_
    refine va_put (D := D) (ci := 2) (v := .int (-1)) (ty := .int) (C := RX2) (T := TX2) (N := 3) hx hb hts hi2 tyX2 tyX2_ok nmX2 hown hK hP hD hS 0 rfl rfl 2 (by decide) (hts (.fieldLink RX2 21 "Bootstay$Flash" "writesToFailure" "I") (by decide +kernel)) (fun _ h9 => h9) rfl (by decide +kernel) rfl rfl (Nat.le_of_ble_eq_true rfl) dX2_write_19 (fun H locs hP hD hS => ?_)
    have hP : va_P D vwCl [(f, .inr (2, [.ref w, .int (σ.2.1 + 1), .int (-1)])), (w, .inl (cA, 66, .inl σ.1))] H := hP
    have hD : va_D A [(f, .inr (2, [.ref w, .int (σ.2.1 + 1), .int (-1)])), (w, .inl (cA, 66, .inl σ.1))] := hD
    refine lv_aload_n hx hb dX2_write_22 rfl (lv_at hl 0 rfl) ?_
    refine lv_iload_n hx hb dX2_write_23 rfl (lv_at hl 1 rfl) ?_
    refine lv_aload_n hx hb dX2_write_24 rfl (lv_at hl 0 rfl) ?_
    refine lv_iload_n hx hb dX2_write_25 rfl (lv_at hl 1 rfl) ?_
    refine bx_ri (va_runV (As := [.int p0]) (rest := [.int p0, .ref f]) ⟨hx, hb, hml, hown, hts⟩ (c_X2_read l D cA f w (σ.1, (σ.2.1 + 1), (-1)) p0) (cwV 1 hts gX2_write_X2_read rfl rfl rfl (by decide +kernel) ⟨Nat.le_of_ble_eq_true rfl, Nat.le_of_ble_eq_true rfl⟩) (bx_pvr (ci := 2) (q0 := 0) hK hG (hP.sub (ws' := [(f, .inr (2, [.ref w, .int (σ.2.1 + 1), .int (-1)])), (w, .inl (cA, 66, .inl σ.1))]) [0, 1] rfl) rfl rfl) rfl rfl hl.1 rfl (lv_room (Nat.le_of_ble_eq_true rfl)) dX2_write_26 ⟨Nat.zero_le _, Nat.zero_le _⟩) (fun r_9 h_10 => ?_)
    have h_10 := h_10.symm
    subst h_10
    refine lv_iload_n hx hb dX2_write_29 rfl (lv_at hl 2 rfl) ?_
    refine lv_iand hx hb dX2_write_30 ?_
    refine bx_wv (wc := [(f, .inr (2, [.ref w, .int (σ.2.1 + 1), .int (-1)])), (w, .inl (cA, 66, .inl σ.1))]) (wr := []) (wf := fun (u : (FS)) => [(f, .inr (2, [.ref w, .int u.2.1, .int u.2.2])), (w, .inl (cA, 66, .inl u.1))]) (wn := fun (u : (FS)) => [(f, .inr (2, [.ref w, .int u.2.1, .int u.2.2])), (w, .inl (cA, 66, .inl u.1))]) hP hD hS hA [0, 1] [] [0, 1] rfl rfl (by decide) (by decide) (fun u => rfl) (by decide) (va_runV (As := [.int p0, .int ((F_X2_read (σ.1, (σ.2.1 + 1), (-1)) p0) &&& p1)]) (rest := []) ⟨hx, hb, hml, hown, hts⟩ (c_X2_preset l D cA f w H.size (σ.1, (σ.2.1 + 1), (-1)) p0 ((F_X2_read (σ.1, (σ.2.1 + 1), (-1)) p0) &&& p1)) (cwV 2 hts gX2_write_X2_preset rfl rfl rfl (by decide +kernel) ⟨Nat.le_of_ble_eq_true rfl, Nat.le_of_ble_eq_true rfl⟩) (bx_pv (ci := 2) (q0 := 0) hK hG (hP.sub (ws' := [(f, .inr (2, [.ref w, .int (σ.2.1 + 1), .int (-1)])), (w, .inl (cA, 66, .inl σ.1))]) [0, 1] rfl) (hD.sub (ws' := [(f, .inr (2, [.ref w, .int (σ.2.1 + 1), .int (-1)])), (w, .inl (cA, 66, .inl σ.1))]) [0, 1] (by decide) rfl) rfl rfl) rfl rfl hl.1 rfl (lv_room (Nat.le_of_ble_eq_true rfl)) dX2_write_31 ⟨Nat.zero_le _, Nat.zero_le _⟩) (fun  u_12 H locs h_11 hP hD hS => ?_)
    have hP : va_P D vwCl [(f, .inr (2, [.ref w, .int u_12.2.1, .int u_12.2.2])), (w, .inl (cA, 66, .inl u_12.1))] H := hP
    have hD : va_D A [(f, .inr (2, [.ref w, .int u_12.2.1, .int u_12.2.2])), (w, .inl (cA, 66, .inl u_12.1))] := hD
    refine lv_iconst (v := 0) hx hb dX2_write_34 (by decide) ?_
    exact W.zret (v := 0) hx hb hr rfl (fun t ht hW => ⟨⟨0, u_12, rfl, ⟨(by simp only [F_X2_write, if_pos c_1, ← h_11]), (by decide)⟩, ⟨by rw [ht]; exact hP, hD⟩⟩, hS.F ht⟩) hS.2.2 dX2_write_35
def F_X2_chooseFailure (σ : FS) (p0 : Int32) : (FS) := (σ.1, σ.2.1, p0)
set_option maxHeartbeats 4000000 in
set_option maxRecDepth 100000 in
theorem c_X2_chooseFailure (l : Launch) (D : va_G) (cA : ClassId) (f w : Nat) (sz : Nat) (σ : FS) (p0 : Int32) : Met l yX2_chooseFailure wsX2_chooseFailure ({ frames := 0, cells := 0, slots := 0, locals := 0 }) (va_Pc [.ref f, .int p0] (bx_pre D [(cA, .int)] (wFl cA f w σ) sz)) (va_Qv (fun u => u = F_X2_chooseFailure σ p0) (fun u t => bx_at D (wFl cA f w u) (va_A (wFl cA f w σ) sz) t) (va_A (wFl cA f w σ) sz)) 0 0 (va_A (wFl cA f w σ) sz) := by
  refine Met.ofW (cc := cX2_chooseFailure) (maxL := 2) (ret := none) (by decide) rfl ?_
  intro p e s m args below meth c s₁ B hml hv
  obtain ⟨rfl, hsz, hP, hK, hD0, hG⟩ := hv
  have hx := B.exec
  have hb := B.bytes
  have hr := B.returns
  have hts := atoms_spec (ws := wsX2_chooseFailure) B.pre
  have hown : s.vm.findClass RX2 = some m.cls := findClass_of_methodNamed B.named
  have hlocks := B.notSynchronized
  subst hsz
  have hD := hD0.self (sz := s.heap.size)
  generalize hAe : va_A (wFl cA f w σ) s.heap.size = A at hD ⊢
  have hA : ∀ q : Nat, s.heap.size ≤ q → A q := fun q h => by rw [← hAe]; exact Or.inr h
  have hS : va_S A s.heap s.heap [] := va_S.rf
  have hD : va_D A [(f, .inr (2, [.ref w, .int σ.2.1, .int σ.2.2])), (w, .inl (cA, 66, .inl σ.1))] := hD
  have hP : va_P D vwCl [(f, .inr (2, [.ref w, .int σ.2.1, .int σ.2.2])), (w, .inl (cA, 66, .inl σ.1))] s.heap := hP
  have hl := lv_entry ([.ref f, .int p0]) (n := 2) (Nat.le_of_ble_eq_true rfl)
  rw [lg_entry_eq]
  generalize (lg_sl ([.ref f, .int p0]) ++ List.replicate (2 - (lg_sl ([.ref f, .int p0])).length) Slot.unset).toArray = ls at hl ⊢
  have hl : lv_has ls 2 [(0, .ref f), (1, .int p0)] := hl
  have hi2 : ∀ w ∈ u_ws RX2 TX2 3, w ∈ wsX2_chooseFailure := by decide +kernel
  refine lv_aload_n hx hb dX2_chooseFailure_0 rfl (lv_at hl 0 rfl) ?_
  refine lv_iload_n hx hb dX2_chooseFailure_1 rfl (lv_at hl 1 rfl) ?_
  refine va_put (D := D) (ci := 2) (v := .int p0) (ty := .int) (C := RX2) (T := TX2) (N := 3) hx hb hts hi2 tyX2 tyX2_ok nmX2 hown hK hP hD hS 0 rfl rfl 2 (by decide) (hts (.fieldLink RX2 21 "Bootstay$Flash" "writesToFailure" "I") (by decide +kernel)) (fun _ h9 => h9) rfl (by decide +kernel) rfl rfl (Nat.le_of_ble_eq_true rfl) dX2_chooseFailure_2 (fun H locs hP hD hS => ?_)
  have hP : va_P D vwCl [(f, .inr (2, [.ref w, .int σ.2.1, .int p0])), (w, .inl (cA, 66, .inl σ.1))] H := hP
  have hD : va_D A [(f, .inr (2, [.ref w, .int σ.2.1, .int p0])), (w, .inl (cA, 66, .inl σ.1))] := hD
  exact W.vret hx hb hr (fun t ht hW => ⟨⟨(σ.1, σ.2.1, p0), rfl, rfl, ⟨by rw [ht]; exact hP, hD⟩⟩, hS.F ht⟩) hS.2.2 dX2_chooseFailure_5
def F_X2_begunWrites (σ : FS) : Int32 := σ.2.1
set_option maxHeartbeats 4000000 in
set_option maxRecDepth 100000 in
theorem c_X2_begunWrites (l : Launch) (D : va_G) (cA : ClassId) (f w : Nat) (σ : FS) : Met l yX2_begunWrites wsX2_begunWrites ({ frames := 0, cells := 0, slots := 0, locals := 0 }) (va_Pc [.ref f] (bx_ro D [(cA, .int)] (wFl cA f w σ))) (vp_Si (fun r => r = F_X2_begunWrites σ)) 0 0 (fun _ => False) := by
  refine Met.ofW (cc := cX2_begunWrites) (maxL := 1) (ret := (some .int)) (by decide) rfl ?_
  intro p e s m args below meth c s₁ B hml hv
  obtain ⟨rfl, hP, hK, hG⟩ := hv
  have hx := B.exec
  have hb := B.bytes
  have hr := B.returns
  have hts := atoms_spec (ws := wsX2_begunWrites) B.pre
  have hown : s.vm.findClass RX2 = some m.cls := findClass_of_methodNamed B.named
  have hlocks := B.notSynchronized
  have hP : va_P D vwCl [(f, .inr (2, [.ref w, .int σ.2.1, .int σ.2.2])), (w, .inl (cA, 66, .inl σ.1))] s.heap := hP
  have hl := lv_entry ([.ref f]) (n := 1) (Nat.le_of_ble_eq_true rfl)
  rw [lg_entry_eq]
  generalize (lg_sl ([.ref f]) ++ List.replicate (1 - (lg_sl ([.ref f])).length) Slot.unset).toArray = ls at hl ⊢
  have hl : lv_has ls 1 [(0, .ref f)] := hl
  have hi2 : ∀ w ∈ u_ws RX2 TX2 3, w ∈ wsX2_begunWrites := by decide +kernel
  refine lv_aload_n hx hb dX2_begunWrites_0 rfl (lv_at hl 0 rfl) ?_
  refine va_get (D := D) (ci := 2) (v := .int σ.2.1) (C := RX2) (T := TX2) (N := 3) hx hb hts hi2 hown hK hP 0 rfl rfl 1 (by decide) (hts (.fieldLink RX2 17 "Bootstay$Flash" "begun" "I") (by decide +kernel)) (fun _ h9 => h9) rfl dX2_begunWrites_1 ?_
  exact W.iret (v := σ.2.1) hx hb hr (fun t ht hW => ⟨σ.2.1, rfl, rfl, ht⟩) (fun _ h => nomatch h) dX2_begunWrites_4
/-- the first n words of g, then those of f -/
def mirr (f g : Nat → Int32) (n : Nat) : Nat → Int32 := fun k => if k < n then g k else f k
theorem mirr_0 (f g : Nat → Int32) : mirr f g 0 = f := by funext k; simp [mirr]
theorem mirr_s {f g : Nat → Int32} {j : Nat} (hj : j < 66) {x : Int32} (hx : x = g j) : wr (mirr f g j) (nI j) x = mirr f g (j + 1) := by
  funext k
  show upd (mirr f g j) (nI j).toNatClampNeg x k = _
  rw [nI_clamp (by omega)]
  unfold mirr upd
  subst hx
  by_cases h : k = j
  · subst h; simp
  · simp only [h, if_false]
    by_cases h2 : k < j
    · rw [if_pos h2, if_pos (by omega)]
    · rw [if_neg h2, if_neg (by omega)]
theorem read_nI {σ : FS} {j : Nat} (hj : j < 66) : F_X2_read σ (nI j) = σ.1 j := by
  unfold F_X2_read
  rw [if_neg (nI_pos (by omega)), if_neg (by have := @nI_ge j 66 (by omega) (by omega); exact this)]
  show σ.1 (nI j).toNatClampNeg = _
  rw [nI_clamp (by omega)]
def F_X2_mirror (σ ρ : FS) : FS := (mirr σ.1 ρ.1 66, σ.2.1, σ.2.2)
 
set_option maxHeartbeats 4000000 in
set_option maxRecDepth 100000 in
theorem c_X2_mirror (l : Launch) (D : va_G) (cA : ClassId) (f w f2 w2 : Nat) (sz : Nat) (σ : FS) (ρ : FS) : Met l yX2_mirror wsX2_mirror ({ frames := 1, cells := 0, slots := 0, locals := 21 }) (va_Pc [.ref f, .ref f2] (bx_pre D [(cA, .int)] (wFF cA f w f2 w2 σ ρ) sz)) (va_Qv (fun u => u = F_X2_mirror σ ρ) (fun u t => bx_at D (wFF cA f w f2 w2 u ρ) (va_A (wFF cA f w f2 w2 σ ρ) sz) t) (va_A (wFF cA f w f2 w2 σ ρ) sz)) 0 0 (va_A (wFF cA f w f2 w2 σ ρ) sz) := by
  refine Met.ofW (cc := cX2_mirror) (maxL := 3) (ret := none) (by decide) rfl ?_
  intro p e s m args below meth c s₁ B hml hv
  obtain ⟨rfl, hsz, hP, hK, hD0, hG⟩ := hv
  have hx := B.exec
  have hb := B.bytes
  have hr := B.returns
  have hts := atoms_spec (ws := wsX2_mirror) B.pre
  have hown : s.vm.findClass RX2 = some m.cls := findClass_of_methodNamed B.named
  have hlocks := B.notSynchronized
  subst hsz
  have hD := hD0.self (sz := s.heap.size)
  generalize hAe : va_A (wFF cA f w f2 w2 σ ρ) s.heap.size = A at hD ⊢
  have hA : ∀ q : Nat, s.heap.size ≤ q → A q := fun q h => by rw [← hAe]; exact Or.inr h
  have hS : va_S A s.heap s.heap [] := va_S.rf
  have hD : va_D A [(f, .inr (2, [.ref w, .int σ.2.1, .int σ.2.2])), (w, .inl (cA, 66, .inl σ.1)), (f2, .inr (2, [.ref w2, .int ρ.2.1, .int ρ.2.2])), (w2, .inl (cA, 66, .inl ρ.1))] := hD
  have hP : va_P D vwCl [(f, .inr (2, [.ref w, .int σ.2.1, .int σ.2.2])), (w, .inl (cA, 66, .inl σ.1)), (f2, .inr (2, [.ref w2, .int ρ.2.1, .int ρ.2.2])), (w2, .inl (cA, 66, .inl ρ.1))] s.heap := hP
  have hl := lv_entry ([.ref f, .ref f2]) (n := 3) (Nat.le_of_ble_eq_true rfl)
  rw [lg_entry_eq]
  generalize (lg_sl ([.ref f, .ref f2]) ++ List.replicate (3 - (lg_sl ([.ref f, .ref f2])).length) Slot.unset).toArray = ls at hl ⊢
  have hl : lv_has ls 3 [(0, .ref f), (1, .ref f2)] := hl
  have hi2 : ∀ w ∈ u_ws RX2 TX2 3, w ∈ wsX2_mirror := by decide +kernel
  refine lv_iconst (v := 0) hx hb dX2_mirror_0 (by decide) ?_
  refine lv_istore_n (lv' := [(2, .int 0), (0, .ref f), (1, .ref f2)]) hx hb dX2_mirror_1 rfl hl (by decide) rfl (fun ls hl => ?_)
  have loop2 : ∀ (n : Nat) (j : Nat) (k : Int32) (σ9 : FS), 66 - j < n → j ≤ 66 → k = nI j → σ9 = (mirr σ.1 ρ.1 j, σ.2.1, σ.2.2) → ∀ (H : Heap) (locs : List Loc), va_P D vwCl [(f, .inr (2, [.ref w, .int σ9.2.1, .int σ9.2.2])), (w, .inl (cA, 66, .inl σ9.1)), (f2, .inr (2, [.ref w2, .int ρ.2.1, .int ρ.2.2])), (w2, .inl (cA, 66, .inl ρ.1))] H → va_D A [(f, .inr (2, [.ref w, .int σ9.2.1, .int σ9.2.2])), (w, .inl (cA, 66, .inl σ9.1)), (f2, .inr (2, [.ref w2, .int ρ.2.1, .int ρ.2.2])), (w2, .inl (cA, 66, .inl ρ.1))] → va_S A s.heap H locs → ∀ (ls : Array Slot), lv_has ls 3 [(2, .int k), (0, .ref f), (1, .ref f2)] → W p l e (headSpec wsX2_mirror ({ frames := 1, cells := 0, slots := 0, locals := 21 })).room s m ([.ref f, .ref f2] : List Value).toArray below meth c H locs 0 0 (MQ below (va_Qv (fun u => u = F_X2_mirror σ ρ) (fun u t => bx_at D (wFF cA f w f2 w2 u ρ) (A) t) (A)) ([.ref f, .ref f2] : List Value).toArray s 0 0 (A)) (F0 m 2 ls []) := by
    intro n
    induction n with
    | zero =>
      intro j k σ9 h_f ij ik iσ H locs hP hD hS ls hl
      exact absurd h_f (Nat.not_lt_zero _)
    | succ n ih2 =>
      intro j k σ9 h_f ij ik iσ H locs hP hD hS ls hl
      refine lv_iload_n hx hb dX2_mirror_2 rfl (lv_at hl 0 rfl) ?_
      refine lv_aload_n hx hb dX2_mirror_3 rfl (lv_at hl 1 rfl) ?_
      refine va_get (D := D) (ci := 2) (v := .ref w) (C := RX2) (T := TX2) (N := 3) hx hb hts hi2 hown hK hP 0 rfl rfl 0 (by decide) (hts (.fieldLink RX2 11 "Bootstay$Flash" "words" "[I") (by decide +kernel)) (fun _ h9 => h9) rfl dX2_mirror_4 ?_
      refine va_alen (D := D) (v := 66) hx hb hK hP 1 0 rfl rfl rfl dX2_mirror_7 ?_
      refine lv_icmp_ge (tgt := 28) hx hb dX2_mirror_8 (by decide) (fun c_1 => ?_) (fun c_1 => ?_)
      · skip
        have hj : 66 ≤ j := (bx_le (by omega)).mp (ik ▸ c_1)
        exact W.vret hx hb hr (fun t ht hW => ⟨⟨σ9, rfl, (by rw [iσ, Nat.le_antisymm ij hj]; rfl), ⟨by rw [ht]; exact hP, hD⟩⟩, hS.F ht⟩) hS.2.2 dX2_mirror_28
      · skip
        have hj : j < 66 := Nat.lt_of_not_le (fun h => c_1 (by rw [ik]; exact (bx_le (by omega)).mpr h))
        refine lv_aload_n hx hb dX2_mirror_11 rfl (lv_at hl 1 rfl) ?_
        refine va_get (D := D) (ci := 2) (v := .ref w) (C := RX2) (T := TX2) (N := 3) hx hb hts hi2 hown hK hP 0 rfl rfl 0 (by decide) (hts (.fieldLink RX2 11 "Bootstay$Flash" "words" "[I") (by decide +kernel)) (fun _ h9 => h9) rfl dX2_mirror_12 ?_
        refine lv_iload_n hx hb dX2_mirror_15 rfl (lv_at hl 0 rfl) ?_
        refine lv_aload_n hx hb dX2_mirror_16 rfl (lv_at hl 2 rfl) ?_
        refine lv_iload_n hx hb dX2_mirror_17 rfl (lv_at hl 0 rfl) ?_
        refine bx_ri (va_runV (As := [.int k]) (rest := [.int k, .ref w]) ⟨hx, hb, hml, hown, hts⟩ (c_X2_read l D cA f2 w2 ρ k) (cwV 1 hts gX2_mirror_X2_read rfl rfl rfl (by decide +kernel) ⟨Nat.le_of_ble_eq_true rfl, Nat.le_of_ble_eq_true rfl⟩) (bx_pvr (ci := 2) (q0 := 0) hK hG (hP.sub (ws' := [(f2, .inr (2, [.ref w2, .int ρ.2.1, .int ρ.2.2])), (w2, .inl (cA, 66, .inl ρ.1))]) [2, 3] rfl) rfl rfl) rfl rfl hl.1 rfl (lv_room (Nat.le_of_ble_eq_true rfl)) dX2_mirror_18 ⟨Nat.zero_le _, Nat.zero_le _⟩) (fun r_2 h_3 => ?_)
        have h_3 := h_3.symm
        subst h_3
        refine bx_ast (D := D) hx hb hK hP hD hS 1 0 rfl rfl (by rw [ik]; exact vp_in_nI hj (by decide)) dX2_mirror_21 (fun H locs hP hD hS => ?_)
        have hP : va_P D vwCl [(f, .inr (2, [.ref w, .int σ9.2.1, .int σ9.2.2])), (w, .inl (cA, 66, .inl (wr σ9.1 k (F_X2_read ρ k)))), (f2, .inr (2, [.ref w2, .int ρ.2.1, .int ρ.2.2])), (w2, .inl (cA, 66, .inl ρ.1))] H := hP
        have hD : va_D A [(f, .inr (2, [.ref w, .int σ9.2.1, .int σ9.2.2])), (w, .inl (cA, 66, .inl (wr σ9.1 k (F_X2_read ρ k)))), (f2, .inr (2, [.ref w2, .int ρ.2.1, .int ρ.2.2])), (w2, .inl (cA, 66, .inl ρ.1))] := hD
        refine lv_iinc (v := (k + 1)) (lv' := [(2, .int (k + 1)), (0, .ref f), (1, .ref f2)]) hx hb dX2_mirror_22 hl (k := 0) rfl rfl (by decide) rfl (fun ls hl => ?_)
        refine lv_goto (tgt := 2) hx hb dX2_mirror_25 (by decide) ?_
        exact ih2 (j + 1) (k + 1) ((wr σ9.1 k (F_X2_read ρ k)), σ9.2.1, σ9.2.2) (by omega) hj (by rw [ik]; exact nI_1 j) (by rw [iσ, ik, mirr_s hj (read_nI hj)]) _ _ hP hD hS ls (lv_sub hl [0, 1, 2] rfl)
  exact loop2 67 0 0 σ (by omega) (by omega) nI_0.symm (by rw [mirr_0]) _ _ hP hD hS ls (lv_sub hl [0, 1, 2] rfl)
