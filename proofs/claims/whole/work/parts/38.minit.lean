def mi0 : Nat → Int32 := fun _ => 0
def mi1 : Nat → Int32 := wr (wr (wr mi0 0 1) 1 1) 2 8
def miN : Nat → (Nat → Int32)
  | 0 => mi1
  | n + 1 => wr (miN n) (5 + nI n) (nI n + 1)
def mi3 : Nat → Int32 := wr (miN 8) 3 (F_X6_hashIn (miN 8) 0 8)
def mi4 : Nat → Int32 := wr mi3 59 1
def F_X6_init : Nat → Int32 := wr mi4 58 (F_X6_rightCheck mi4 0)
set_option maxHeartbeats 4000000 in
set_option maxRecDepth 100000 in
theorem c_X6_init (l : Launch) (D : va_G) (mo : Nat) (sz : Nat) : Met l yX6_init wsX6_init ({ frames := 2, cells := 3, slots := 156, locals := 45 }) (va_Pc [.ref mo] (bx_pre D [] [(mo, .inr (6, [.null, .null, .int 0, .int 0, .int 0, .int 0, .int 0, .int 0, .int 0, .int 0, .int 0, .null, .int 0, .int 0]))] sz)) (va_Qv (fun _ : (Nat) × (Nat) × (Nat) × (ClassId) => True) (fun u t => bx_at D [(mo, .inr (6, [.ref u.1, .ref u.2.1, .int 0, .int (-1), .int (-1), .int 0, .int 0, .int 0, .int 0, .int 0, .int (-1), .ref u.2.2.1, .int 0, .int 0])), (u.1, .inl (u.2.2.2, 66, .inl F_X6_init)), (u.2.1, .inl (u.2.2.2, 66, .inl (fun _ => 0))), (u.2.2.1, .inl (u.2.2.2, 24, .inl (fun _ => 0)))] (va_A [(mo, .inr (6, [.null, .null, .int 0, .int 0, .int 0, .int 0, .int 0, .int 0, .int 0, .int 0, .int 0, .null, .int 0, .int 0]))] sz) t ∧ va_K D vwCl [(u.2.2.2, .int)] t) (va_A [(mo, .inr (6, [.null, .null, .int 0, .int 0, .int 0, .int 0, .int 0, .int 0, .int 0, .int 0, .int 0, .null, .int 0, .int 0]))] sz)) 3 156 (va_A [(mo, .inr (6, [.null, .null, .int 0, .int 0, .int 0, .int 0, .int 0, .int 0, .int 0, .int 0, .int 0, .null, .int 0, .int 0]))] sz) := by
  refine Met.ofW (cc := cX6_init) (maxL := 2) (ret := none) (by decide) rfl ?_
  intro p e s m args below meth c s₁ B hml hv
  obtain ⟨rfl, hsz, hP, hK, hD0, hG⟩ := hv
  have hx := B.exec
  have hb := B.bytes
  have hr := B.returns
  have hts := atoms_spec (ws := wsX6_init) B.pre
  have hown : s.vm.findClass RX6 = some m.cls := findClass_of_methodNamed B.named
  have hlocks := B.notSynchronized
  have hin : meth.name = "<init>" := (name_of_methodNamed B.named B.method).1
  subst hsz
  have hD := hD0.self (sz := s.heap.size)
  generalize hAe : va_A [(mo, .inr (6, [.null, .null, .int 0, .int 0, .int 0, .int 0, .int 0, .int 0, .int 0, .int 0, .int 0, .null, .int 0, .int 0]))] s.heap.size = A at hD ⊢
  have hA : ∀ q : Nat, s.heap.size ≤ q → A q := fun q h => by rw [← hAe]; exact Or.inr h
  have hS : va_S A s.heap s.heap [] := va_S.rf
  have hP : va_P D vwCl [(mo, .inr (6, [.null, .null, .int 0, .int 0, .int 0, .int 0, .int 0, .int 0, .int 0, .int 0, .int 0, .null, .int 0, .int 0]))] s.heap := hP
  have hl := lv_entry ([.ref mo]) (n := 2) (Nat.le_of_ble_eq_true rfl)
  rw [lg_entry_eq]
  generalize (lg_sl ([.ref mo]) ++ List.replicate (2 - (lg_sl ([.ref mo])).length) Slot.unset).toArray = ls at hl ⊢
  have hl : lv_has ls 2 [(0, .ref mo)] := hl
  have hi6 : ∀ w ∈ u_ws RX6 TX6 14, w ∈ wsX6_init := by decide +kernel
  refine lv_aload_n hx hb dX6_init_0 rfl (lv_at hl 0 rfl) ?_
  refine W.objInit hx hb hown (hts (.methodLink RX6 1 objectInit) (by decide +kernel)) (hts (.instanceMethod objectInit) (by decide +kernel)) (hts (.code objectInit ⟨#[0xb1]⟩ 1 none) (List.mem_of_getElem? (i := 3) rfl)) rfl (by rw [hml]; exact hl.1) rfl dX6_init_1 (Nat.le_of_ble_eq_true rfl) (Nat.le_of_ble_eq_true rfl) ?_
  refine W.eq (g2 := F0 m 4 ls []) rfl ?_
  refine lv_aload_n hx hb dX6_init_4 rfl (lv_at hl 0 rfl) ?_
  refine lv_bipush (v := 66) hx hb dX6_init_5 (by decide) ?_
  refine va_newa (atype := .int) (ty := .int) (a0 := (66, .inl (fun _ => 0))) (N' := 66) hx hb (hts (.arrayClass .int) (by decide +kernel)) rfl hK hP hD hS hA (fun _ => rfl) (by decide) rfl (Nat.le_of_ble_eq_true rfl) (Nat.le_of_ble_eq_true rfl) (Nat.le_of_ble_eq_true rfl) dX6_init_7 (fun q1 cA2 H hK hP hD hS => ?_)
  have hP : va_P D vwCl [(mo, .inr (6, [.null, .null, .int 0, .int 0, .int 0, .int 0, .int 0, .int 0, .int 0, .int 0, .int 0, .null, .int 0, .int 0])), (q1, .inl (cA2, 66, .inl (fun _ => 0)))] H := hP
  have hD : va_D A [(mo, .inr (6, [.null, .null, .int 0, .int 0, .int 0, .int 0, .int 0, .int 0, .int 0, .int 0, .int 0, .null, .int 0, .int 0])), (q1, .inl (cA2, 66, .inl (fun _ => 0)))] := hD
  refine W.widen (k := 1) (n := 66) (Nat.le_of_ble_eq_true rfl) (Nat.le_of_ble_eq_true rfl) ?_
  refine va_putF (D := D) (ci := 6) (v := .ref q1) (ty := (.array .int)) (C := RX6) (T := TX6) (N := 14) hx hb hts hi6 tyX6 tyX6_ok nmX6 hown hK hP hD hS 0 rfl rfl 0 (by decide) (hts (.fieldLink RX6 7 "BootstayModel" "flash" "[I") (by decide +kernel)) (fun _ h9 => h9) rfl hin rfl (by decide +kernel) rfl rfl (Nat.le_of_ble_eq_true rfl) dX6_init_9 (fun H locs hP hD hS => ?_)
  have hP : va_P D vwCl [(mo, .inr (6, [.ref q1, .null, .int 0, .int 0, .int 0, .int 0, .int 0, .int 0, .int 0, .int 0, .int 0, .null, .int 0, .int 0])), (q1, .inl (cA2, 66, .inl (fun _ => 0)))] H := hP
  have hD : va_D A [(mo, .inr (6, [.ref q1, .null, .int 0, .int 0, .int 0, .int 0, .int 0, .int 0, .int 0, .int 0, .int 0, .null, .int 0, .int 0])), (q1, .inl (cA2, 66, .inl (fun _ => 0)))] := hD
  refine lv_aload_n hx hb dX6_init_12 rfl (lv_at hl 0 rfl) ?_
  refine lv_bipush (v := 66) hx hb dX6_init_13 (by decide) ?_
  refine va_newa (atype := .int) (ty := .int) (a0 := (66, .inl (fun _ => 0))) (N' := 66) hx hb (hts (.arrayClass .int) (by decide +kernel)) rfl hK hP hD hS hA (fun _ => rfl) (by decide) rfl (Nat.le_of_ble_eq_true rfl) (Nat.le_of_ble_eq_true rfl) (Nat.le_of_ble_eq_true rfl) dX6_init_15 (fun q3 cA4 H hK hP hD hS => ?_)
  have ecA4 := bx_same 0 1 hK rfl rfl
  subst ecA4
  have hK := hK.sub (tys' := [(cA2, .int)]) [0] rfl
  have hP : va_P D vwCl [(mo, .inr (6, [.ref q1, .null, .int 0, .int 0, .int 0, .int 0, .int 0, .int 0, .int 0, .int 0, .int 0, .null, .int 0, .int 0])), (q1, .inl (cA2, 66, .inl (fun _ => 0))), (q3, .inl (cA2, 66, .inl (fun _ => 0)))] H := hP
  have hD : va_D A [(mo, .inr (6, [.ref q1, .null, .int 0, .int 0, .int 0, .int 0, .int 0, .int 0, .int 0, .int 0, .int 0, .null, .int 0, .int 0])), (q1, .inl (cA2, 66, .inl (fun _ => 0))), (q3, .inl (cA2, 66, .inl (fun _ => 0)))] := hD
  refine W.widen (k := 2) (n := 132) (Nat.le_of_ble_eq_true rfl) (Nat.le_of_ble_eq_true rfl) ?_
  refine va_putF (D := D) (ci := 6) (v := .ref q3) (ty := (.array .int)) (C := RX6) (T := TX6) (N := 14) hx hb hts hi6 tyX6 tyX6_ok nmX6 hown hK hP hD hS 0 rfl rfl 1 (by decide) (hts (.fieldLink RX6 13 "BootstayModel" "kept" "[I") (by decide +kernel)) (fun _ h9 => h9) rfl hin rfl (by decide +kernel) rfl rfl (Nat.le_of_ble_eq_true rfl) dX6_init_17 (fun H locs hP hD hS => ?_)
  have hP : va_P D vwCl [(mo, .inr (6, [.ref q1, .ref q3, .int 0, .int 0, .int 0, .int 0, .int 0, .int 0, .int 0, .int 0, .int 0, .null, .int 0, .int 0])), (q1, .inl (cA2, 66, .inl (fun _ => 0))), (q3, .inl (cA2, 66, .inl (fun _ => 0)))] H := hP
  have hD : va_D A [(mo, .inr (6, [.ref q1, .ref q3, .int 0, .int 0, .int 0, .int 0, .int 0, .int 0, .int 0, .int 0, .int 0, .null, .int 0, .int 0])), (q1, .inl (cA2, 66, .inl (fun _ => 0))), (q3, .inl (cA2, 66, .inl (fun _ => 0)))] := hD
  refine lv_aload_n hx hb dX6_init_20 rfl (lv_at hl 0 rfl) ?_
  refine lv_iconst (v := (-1)) hx hb dX6_init_21 (by decide) ?_
  refine va_put (D := D) (ci := 6) (v := .int (-1)) (ty := .int) (C := RX6) (T := TX6) (N := 14) hx hb hts hi6 tyX6 tyX6_ok nmX6 hown hK hP hD hS 0 rfl rfl 3 (by decide) (hts (.fieldLink RX6 16 "BootstayModel" "running" "I") (by decide +kernel)) (fun _ h9 => h9) rfl (by decide +kernel) rfl rfl (Nat.le_of_ble_eq_true rfl) dX6_init_22 (fun H locs hP hD hS => ?_)
  have hP : va_P D vwCl [(mo, .inr (6, [.ref q1, .ref q3, .int 0, .int (-1), .int 0, .int 0, .int 0, .int 0, .int 0, .int 0, .int 0, .null, .int 0, .int 0])), (q1, .inl (cA2, 66, .inl (fun _ => 0))), (q3, .inl (cA2, 66, .inl (fun _ => 0)))] H := hP
  have hD : va_D A [(mo, .inr (6, [.ref q1, .ref q3, .int 0, .int (-1), .int 0, .int 0, .int 0, .int 0, .int 0, .int 0, .int 0, .null, .int 0, .int 0])), (q1, .inl (cA2, 66, .inl (fun _ => 0))), (q3, .inl (cA2, 66, .inl (fun _ => 0)))] := hD
  refine lv_aload_n hx hb dX6_init_25 rfl (lv_at hl 0 rfl) ?_
  refine lv_iconst (v := (-1)) hx hb dX6_init_26 (by decide) ?_
  refine va_put (D := D) (ci := 6) (v := .int (-1)) (ty := .int) (C := RX6) (T := TX6) (N := 14) hx hb hts hi6 tyX6 tyX6_ok nmX6 hown hK hP hD hS 0 rfl rfl 4 (by decide) (hts (.fieldLink RX6 20 "BootstayModel" "left" "I") (by decide +kernel)) (fun _ h9 => h9) rfl (by decide +kernel) rfl rfl (Nat.le_of_ble_eq_true rfl) dX6_init_27 (fun H locs hP hD hS => ?_)
  have hP : va_P D vwCl [(mo, .inr (6, [.ref q1, .ref q3, .int 0, .int (-1), .int (-1), .int 0, .int 0, .int 0, .int 0, .int 0, .int 0, .null, .int 0, .int 0])), (q1, .inl (cA2, 66, .inl (fun _ => 0))), (q3, .inl (cA2, 66, .inl (fun _ => 0)))] H := hP
  have hD : va_D A [(mo, .inr (6, [.ref q1, .ref q3, .int 0, .int (-1), .int (-1), .int 0, .int 0, .int 0, .int 0, .int 0, .int 0, .null, .int 0, .int 0])), (q1, .inl (cA2, 66, .inl (fun _ => 0))), (q3, .inl (cA2, 66, .inl (fun _ => 0)))] := hD
  refine lv_aload_n hx hb dX6_init_30 rfl (lv_at hl 0 rfl) ?_
  refine lv_iconst (v := (-1)) hx hb dX6_init_31 (by decide) ?_
  refine va_put (D := D) (ci := 6) (v := .int (-1)) (ty := .int) (C := RX6) (T := TX6) (N := 14) hx hb hts hi6 tyX6 tyX6_ok nmX6 hown hK hP hD hS 0 rfl rfl 10 (by decide) (hts (.fieldLink RX6 23 "BootstayModel" "come" "I") (by decide +kernel)) (fun _ h9 => h9) rfl (by decide +kernel) rfl rfl (Nat.le_of_ble_eq_true rfl) dX6_init_32 (fun H locs hP hD hS => ?_)
  have hP : va_P D vwCl [(mo, .inr (6, [.ref q1, .ref q3, .int 0, .int (-1), .int (-1), .int 0, .int 0, .int 0, .int 0, .int 0, .int (-1), .null, .int 0, .int 0])), (q1, .inl (cA2, 66, .inl (fun _ => 0))), (q3, .inl (cA2, 66, .inl (fun _ => 0)))] H := hP
  have hD : va_D A [(mo, .inr (6, [.ref q1, .ref q3, .int 0, .int (-1), .int (-1), .int 0, .int 0, .int 0, .int 0, .int 0, .int (-1), .null, .int 0, .int 0])), (q1, .inl (cA2, 66, .inl (fun _ => 0))), (q3, .inl (cA2, 66, .inl (fun _ => 0)))] := hD
  refine lv_aload_n hx hb dX6_init_35 rfl (lv_at hl 0 rfl) ?_
  refine lv_bipush (v := 24) hx hb dX6_init_36 (by decide) ?_
  refine va_newa (atype := .int) (ty := .int) (a0 := (24, .inl (fun _ => 0))) (N' := 24) hx hb (hts (.arrayClass .int) (by decide +kernel)) rfl hK hP hD hS hA (fun _ => rfl) (by decide) rfl (Nat.le_of_ble_eq_true rfl) (Nat.le_of_ble_eq_true rfl) (Nat.le_of_ble_eq_true rfl) dX6_init_38 (fun q5 cA6 H hK hP hD hS => ?_)
  have ecA6 := bx_same 0 1 hK rfl rfl
  subst ecA6
  have hK := hK.sub (tys' := [(cA2, .int)]) [0] rfl
  have hP : va_P D vwCl [(mo, .inr (6, [.ref q1, .ref q3, .int 0, .int (-1), .int (-1), .int 0, .int 0, .int 0, .int 0, .int 0, .int (-1), .null, .int 0, .int 0])), (q1, .inl (cA2, 66, .inl (fun _ => 0))), (q3, .inl (cA2, 66, .inl (fun _ => 0))), (q5, .inl (cA2, 24, .inl (fun _ => 0)))] H := hP
  have hD : va_D A [(mo, .inr (6, [.ref q1, .ref q3, .int 0, .int (-1), .int (-1), .int 0, .int 0, .int 0, .int 0, .int 0, .int (-1), .null, .int 0, .int 0])), (q1, .inl (cA2, 66, .inl (fun _ => 0))), (q3, .inl (cA2, 66, .inl (fun _ => 0))), (q5, .inl (cA2, 24, .inl (fun _ => 0)))] := hD
  refine W.widen (k := 3) (n := 156) (Nat.le_of_ble_eq_true rfl) (Nat.le_of_ble_eq_true rfl) ?_
  refine va_putF (D := D) (ci := 6) (v := .ref q5) (ty := (.array .int)) (C := RX6) (T := TX6) (N := 14) hx hb hts hi6 tyX6 tyX6_ok nmX6 hown hK hP hD hS 0 rfl rfl 11 (by decide) (hts (.fieldLink RX6 26 "BootstayModel" "draft" "[I") (by decide +kernel)) (fun _ h9 => h9) rfl hin rfl (by decide +kernel) rfl rfl (Nat.le_of_ble_eq_true rfl) dX6_init_40 (fun H locs hP hD hS => ?_)
  have hP : va_P D vwCl [(mo, .inr (6, [.ref q1, .ref q3, .int 0, .int (-1), .int (-1), .int 0, .int 0, .int 0, .int 0, .int 0, .int (-1), .ref q5, .int 0, .int 0])), (q1, .inl (cA2, 66, .inl (fun _ => 0))), (q3, .inl (cA2, 66, .inl (fun _ => 0))), (q5, .inl (cA2, 24, .inl (fun _ => 0)))] H := hP
  have hD : va_D A [(mo, .inr (6, [.ref q1, .ref q3, .int 0, .int (-1), .int (-1), .int 0, .int 0, .int 0, .int 0, .int 0, .int (-1), .ref q5, .int 0, .int 0])), (q1, .inl (cA2, 66, .inl (fun _ => 0))), (q3, .inl (cA2, 66, .inl (fun _ => 0))), (q5, .inl (cA2, 24, .inl (fun _ => 0)))] := hD
  refine lv_aload_n hx hb dX6_init_43 rfl (lv_at hl 0 rfl) ?_
  refine va_get (D := D) (ci := 6) (v := .ref q1) (C := RX6) (T := TX6) (N := 14) hx hb hts hi6 hown hK hP 0 rfl rfl 0 (by decide) (hts (.fieldLink RX6 7 "BootstayModel" "flash" "[I") (by decide +kernel)) (fun _ h9 => h9) rfl dX6_init_44 ?_
  refine lv_iconst (v := 0) hx hb dX6_init_47 (by decide) ?_
  refine lv_iconst (v := 1) hx hb dX6_init_48 (by decide) ?_
  refine bx_ast (D := D) hx hb hK hP hD hS 1 0 rfl rfl (vp_in_iff.mpr (by decide)) dX6_init_49 (fun H locs hP hD hS => ?_)
  have hP : va_P D vwCl [(mo, .inr (6, [.ref q1, .ref q3, .int 0, .int (-1), .int (-1), .int 0, .int 0, .int 0, .int 0, .int 0, .int (-1), .ref q5, .int 0, .int 0])), (q1, .inl (cA2, 66, .inl (wr (fun _ => 0) 0 1))), (q3, .inl (cA2, 66, .inl (fun _ => 0))), (q5, .inl (cA2, 24, .inl (fun _ => 0)))] H := hP
  have hD : va_D A [(mo, .inr (6, [.ref q1, .ref q3, .int 0, .int (-1), .int (-1), .int 0, .int 0, .int 0, .int 0, .int 0, .int (-1), .ref q5, .int 0, .int 0])), (q1, .inl (cA2, 66, .inl (wr (fun _ => 0) 0 1))), (q3, .inl (cA2, 66, .inl (fun _ => 0))), (q5, .inl (cA2, 24, .inl (fun _ => 0)))] := hD
  refine lv_aload_n hx hb dX6_init_50 rfl (lv_at hl 0 rfl) ?_
  refine va_get (D := D) (ci := 6) (v := .ref q1) (C := RX6) (T := TX6) (N := 14) hx hb hts hi6 hown hK hP 0 rfl rfl 0 (by decide) (hts (.fieldLink RX6 7 "BootstayModel" "flash" "[I") (by decide +kernel)) (fun _ h9 => h9) rfl dX6_init_51 ?_
  refine lv_iconst (v := 1) hx hb dX6_init_54 (by decide) ?_
  refine lv_iconst (v := 1) hx hb dX6_init_55 (by decide) ?_
  refine bx_ast (D := D) hx hb hK hP hD hS 1 0 rfl rfl (vp_in_iff.mpr (by decide)) dX6_init_56 (fun H locs hP hD hS => ?_)
  have hP : va_P D vwCl [(mo, .inr (6, [.ref q1, .ref q3, .int 0, .int (-1), .int (-1), .int 0, .int 0, .int 0, .int 0, .int 0, .int (-1), .ref q5, .int 0, .int 0])), (q1, .inl (cA2, 66, .inl (wr (wr (fun _ => 0) 0 1) 1 1))), (q3, .inl (cA2, 66, .inl (fun _ => 0))), (q5, .inl (cA2, 24, .inl (fun _ => 0)))] H := hP
  have hD : va_D A [(mo, .inr (6, [.ref q1, .ref q3, .int 0, .int (-1), .int (-1), .int 0, .int 0, .int 0, .int 0, .int 0, .int (-1), .ref q5, .int 0, .int 0])), (q1, .inl (cA2, 66, .inl (wr (wr (fun _ => 0) 0 1) 1 1))), (q3, .inl (cA2, 66, .inl (fun _ => 0))), (q5, .inl (cA2, 24, .inl (fun _ => 0)))] := hD
  refine lv_aload_n hx hb dX6_init_57 rfl (lv_at hl 0 rfl) ?_
  refine va_get (D := D) (ci := 6) (v := .ref q1) (C := RX6) (T := TX6) (N := 14) hx hb hts hi6 hown hK hP 0 rfl rfl 0 (by decide) (hts (.fieldLink RX6 7 "BootstayModel" "flash" "[I") (by decide +kernel)) (fun _ h9 => h9) rfl dX6_init_58 ?_
  refine lv_iconst (v := 2) hx hb dX6_init_61 (by decide) ?_
  refine lv_bipush (v := 8) hx hb dX6_init_62 (by decide) ?_
  refine bx_ast (D := D) hx hb hK hP hD hS 1 0 rfl rfl (vp_in_iff.mpr (by decide)) dX6_init_64 (fun H locs hP hD hS => ?_)
  have hP : va_P D vwCl [(mo, .inr (6, [.ref q1, .ref q3, .int 0, .int (-1), .int (-1), .int 0, .int 0, .int 0, .int 0, .int 0, .int (-1), .ref q5, .int 0, .int 0])), (q1, .inl (cA2, 66, .inl (wr (wr (wr (fun _ => 0) 0 1) 1 1) 2 8))), (q3, .inl (cA2, 66, .inl (fun _ => 0))), (q5, .inl (cA2, 24, .inl (fun _ => 0)))] H := hP
  have hD : va_D A [(mo, .inr (6, [.ref q1, .ref q3, .int 0, .int (-1), .int (-1), .int 0, .int 0, .int 0, .int 0, .int 0, .int (-1), .ref q5, .int 0, .int 0])), (q1, .inl (cA2, 66, .inl (wr (wr (wr (fun _ => 0) 0 1) 1 1) 2 8))), (q3, .inl (cA2, 66, .inl (fun _ => 0))), (q5, .inl (cA2, 24, .inl (fun _ => 0)))] := hD
  refine lv_iconst (v := 0) hx hb dX6_init_65 (by decide) ?_
  refine lv_istore_n (lv' := [(1, .int 0), (0, .ref mo)]) hx hb dX6_init_66 rfl hl (by decide) rfl (fun ls hl => ?_)
  have loop67 : ∀ (n : Nat) (j : Nat) (k : Int32) (fl9 : Nat → Int32), 8 - j < n → j ≤ 8 → k = nI j → fl9 = miN j → ∀ (H : Heap) (locs : List Loc), va_P D vwCl [(mo, .inr (6, [.ref q1, .ref q3, .int 0, .int (-1), .int (-1), .int 0, .int 0, .int 0, .int 0, .int 0, .int (-1), .ref q5, .int 0, .int 0])), (q1, .inl (cA2, 66, .inl fl9)), (q3, .inl (cA2, 66, .inl (fun _ => 0))), (q5, .inl (cA2, 24, .inl (fun _ => 0)))] H → va_D A [(mo, .inr (6, [.ref q1, .ref q3, .int 0, .int (-1), .int (-1), .int 0, .int 0, .int 0, .int 0, .int 0, .int (-1), .ref q5, .int 0, .int 0])), (q1, .inl (cA2, 66, .inl fl9)), (q3, .inl (cA2, 66, .inl (fun _ => 0))), (q5, .inl (cA2, 24, .inl (fun _ => 0)))] → va_S A s.heap H locs → ∀ (ls : Array Slot), lv_has ls 2 [(1, .int k), (0, .ref mo)] → W p l e (headSpec wsX6_init ({ frames := 2, cells := 3, slots := 156, locals := 45 })).room s m ([.ref mo] : List Value).toArray below meth c H locs 3 156 (MQ below (va_Qv (fun _ : (Nat) × (Nat) × (Nat) × (ClassId) => True) (fun u t => bx_at D [(mo, .inr (6, [.ref u.1, .ref u.2.1, .int 0, .int (-1), .int (-1), .int 0, .int 0, .int 0, .int 0, .int 0, .int (-1), .ref u.2.2.1, .int 0, .int 0])), (u.1, .inl (u.2.2.2, 66, .inl F_X6_init)), (u.2.1, .inl (u.2.2.2, 66, .inl (fun _ => 0))), (u.2.2.1, .inl (u.2.2.2, 24, .inl (fun _ => 0)))] (A) t ∧ va_K D vwCl [(u.2.2.2, .int)] t) (A)) ([.ref mo] : List Value).toArray s 3 156 A) (F0 m 67 ls []) := by
    intro n
    induction n with
    | zero =>
      intro j k fl9 h_f ij ik ifl H locs hP hD hS ls hl
      exact absurd h_f (Nat.not_lt_zero _)
    | succ n ih67 =>
      intro j k fl9 h_f ij ik ifl H locs hP hD hS ls hl
      refine lv_iload_n hx hb dX6_init_67 rfl (lv_at hl 0 rfl) ?_
      refine lv_bipush (v := 8) hx hb dX6_init_68 (by decide) ?_
      refine lv_icmp_ge (tgt := 90) hx hb dX6_init_70 (by decide) (fun c_7 => ?_) (fun c_7 => ?_)
      · skip
        have hj : 8 ≤ j := (bx_le (by omega)).mp (ik ▸ c_7)
        refine lv_aload_n hx hb dX6_init_90 rfl (lv_at hl 1 rfl) ?_
        refine va_get (D := D) (ci := 6) (v := .ref q1) (C := RX6) (T := TX6) (N := 14) hx hb hts hi6 hown hK hP 0 rfl rfl 0 (by decide) (hts (.fieldLink RX6 7 "BootstayModel" "flash" "[I") (by decide +kernel)) (fun _ h9 => h9) rfl dX6_init_91 ?_
        refine lv_iconst (v := 3) hx hb dX6_init_94 (by decide) ?_
        refine lv_aload_n hx hb dX6_init_95 rfl (lv_at hl 1 rfl) ?_
        refine lv_iconst (v := 0) hx hb dX6_init_96 (by decide) ?_
        refine lv_bipush (v := 8) hx hb dX6_init_97 (by decide) ?_
        refine bx_ri (va_runV (As := [.int 0, .int 8]) (rest := [.int 3, .ref q1]) ⟨hx, hb, hml, hown, hts⟩ (c_X6_hashIn l D cA2 mo q1 q3 q5 fl9 (fun _ => 0) 0 (-1) (-1) 0 0 0 0 0 (-1) (fun _ => 0) 0 0 0 8 sl_0 (by decide)) (cwV 2 hts gX6_init_X6_hashIn rfl rfl rfl (by decide +kernel) ⟨Nat.le_of_ble_eq_true rfl, Nat.le_of_ble_eq_true rfl⟩) (bx_pvr (ci := 6) (q0 := 0) hK hG (hP.sub (ws' := [(mo, .inr (6, [.ref q1, .ref q3, .int 0, .int (-1), .int (-1), .int 0, .int 0, .int 0, .int 0, .int 0, .int (-1), .ref q5, .int 0, .int 0])), (q1, .inl (cA2, 66, .inl fl9)), (q3, .inl (cA2, 66, .inl (fun _ => 0))), (q5, .inl (cA2, 24, .inl (fun _ => 0)))]) [0, 1, 2, 3] rfl) rfl rfl) rfl rfl hl.1 rfl (lv_room (Nat.le_of_ble_eq_true rfl)) dX6_init_99 ⟨Nat.le_of_ble_eq_true rfl, Nat.le_of_ble_eq_true rfl⟩) (fun r_8 h_9 => ?_)
        have h_9 := h_9.symm
        subst h_9
        refine bx_ast (D := D) hx hb hK hP hD hS 1 0 rfl rfl (vp_in_iff.mpr (by decide)) dX6_init_102 (fun H locs hP hD hS => ?_)
        have hP : va_P D vwCl [(mo, .inr (6, [.ref q1, .ref q3, .int 0, .int (-1), .int (-1), .int 0, .int 0, .int 0, .int 0, .int 0, .int (-1), .ref q5, .int 0, .int 0])), (q1, .inl (cA2, 66, .inl (wr fl9 3 (F_X6_hashIn fl9 0 8)))), (q3, .inl (cA2, 66, .inl (fun _ => 0))), (q5, .inl (cA2, 24, .inl (fun _ => 0)))] H := hP
        have hD : va_D A [(mo, .inr (6, [.ref q1, .ref q3, .int 0, .int (-1), .int (-1), .int 0, .int 0, .int 0, .int 0, .int 0, .int (-1), .ref q5, .int 0, .int 0])), (q1, .inl (cA2, 66, .inl (wr fl9 3 (F_X6_hashIn fl9 0 8)))), (q3, .inl (cA2, 66, .inl (fun _ => 0))), (q5, .inl (cA2, 24, .inl (fun _ => 0)))] := hD
        refine lv_aload_n hx hb dX6_init_103 rfl (lv_at hl 1 rfl) ?_
        refine va_get (D := D) (ci := 6) (v := .ref q1) (C := RX6) (T := TX6) (N := 14) hx hb hts hi6 hown hK hP 0 rfl rfl 0 (by decide) (hts (.fieldLink RX6 7 "BootstayModel" "flash" "[I") (by decide +kernel)) (fun _ h9 => h9) rfl dX6_init_104 ?_
        refine lv_bipush (v := 59) hx hb dX6_init_107 (by decide) ?_
        refine lv_iconst (v := 1) hx hb dX6_init_109 (by decide) ?_
        refine bx_ast (D := D) hx hb hK hP hD hS 1 0 rfl rfl (vp_in_iff.mpr (by decide)) dX6_init_110 (fun H locs hP hD hS => ?_)
        have hP : va_P D vwCl [(mo, .inr (6, [.ref q1, .ref q3, .int 0, .int (-1), .int (-1), .int 0, .int 0, .int 0, .int 0, .int 0, .int (-1), .ref q5, .int 0, .int 0])), (q1, .inl (cA2, 66, .inl (wr (wr fl9 3 (F_X6_hashIn fl9 0 8)) 59 1))), (q3, .inl (cA2, 66, .inl (fun _ => 0))), (q5, .inl (cA2, 24, .inl (fun _ => 0)))] H := hP
        have hD : va_D A [(mo, .inr (6, [.ref q1, .ref q3, .int 0, .int (-1), .int (-1), .int 0, .int 0, .int 0, .int 0, .int 0, .int (-1), .ref q5, .int 0, .int 0])), (q1, .inl (cA2, 66, .inl (wr (wr fl9 3 (F_X6_hashIn fl9 0 8)) 59 1))), (q3, .inl (cA2, 66, .inl (fun _ => 0))), (q5, .inl (cA2, 24, .inl (fun _ => 0)))] := hD
        refine lv_aload_n hx hb dX6_init_111 rfl (lv_at hl 1 rfl) ?_
        refine va_get (D := D) (ci := 6) (v := .ref q1) (C := RX6) (T := TX6) (N := 14) hx hb hts hi6 hown hK hP 0 rfl rfl 0 (by decide) (hts (.fieldLink RX6 7 "BootstayModel" "flash" "[I") (by decide +kernel)) (fun _ h9 => h9) rfl dX6_init_112 ?_
        refine lv_bipush (v := 58) hx hb dX6_init_115 (by decide) ?_
        refine lv_aload_n hx hb dX6_init_117 rfl (lv_at hl 1 rfl) ?_
        refine lv_iconst (v := 0) hx hb dX6_init_118 (by decide) ?_
        refine bx_ri (va_runV (As := [.int 0]) (rest := [.int 58, .ref q1]) ⟨hx, hb, hml, hown, hts⟩ (c_X6_rightCheck l D cA2 mo q1 q3 q5 (wr (wr fl9 3 (F_X6_hashIn fl9 0 8)) 59 1) (fun _ => 0) 0 (-1) (-1) 0 0 0 0 0 (-1) (fun _ => 0) 0 0 0 sl_0) (cwV 1 hts gX6_init_X6_rightCheck rfl rfl rfl (by decide +kernel) ⟨Nat.le_of_ble_eq_true rfl, Nat.le_of_ble_eq_true rfl⟩) (bx_pvr (ci := 6) (q0 := 0) hK hG (hP.sub (ws' := [(mo, .inr (6, [.ref q1, .ref q3, .int 0, .int (-1), .int (-1), .int 0, .int 0, .int 0, .int 0, .int 0, .int (-1), .ref q5, .int 0, .int 0])), (q1, .inl (cA2, 66, .inl (wr (wr fl9 3 (F_X6_hashIn fl9 0 8)) 59 1))), (q3, .inl (cA2, 66, .inl (fun _ => 0))), (q5, .inl (cA2, 24, .inl (fun _ => 0)))]) [0, 1, 2, 3] rfl) rfl rfl) rfl rfl hl.1 rfl (lv_room (Nat.le_of_ble_eq_true rfl)) dX6_init_119 ⟨Nat.le_of_ble_eq_true rfl, Nat.le_of_ble_eq_true rfl⟩) (fun r_10 h_11 => ?_)
        have h_11 := h_11.symm
        subst h_11
        refine bx_ast (D := D) hx hb hK hP hD hS 1 0 rfl rfl (vp_in_iff.mpr (by decide)) dX6_init_122 (fun H locs hP hD hS => ?_)
        have hP : va_P D vwCl [(mo, .inr (6, [.ref q1, .ref q3, .int 0, .int (-1), .int (-1), .int 0, .int 0, .int 0, .int 0, .int 0, .int (-1), .ref q5, .int 0, .int 0])), (q1, .inl (cA2, 66, .inl (wr (wr (wr fl9 3 (F_X6_hashIn fl9 0 8)) 59 1) 58 (F_X6_rightCheck (wr (wr fl9 3 (F_X6_hashIn fl9 0 8)) 59 1) 0)))), (q3, .inl (cA2, 66, .inl (fun _ => 0))), (q5, .inl (cA2, 24, .inl (fun _ => 0)))] H := hP
        have hD : va_D A [(mo, .inr (6, [.ref q1, .ref q3, .int 0, .int (-1), .int (-1), .int 0, .int 0, .int 0, .int 0, .int 0, .int (-1), .ref q5, .int 0, .int 0])), (q1, .inl (cA2, 66, .inl (wr (wr (wr fl9 3 (F_X6_hashIn fl9 0 8)) 59 1) 58 (F_X6_rightCheck (wr (wr fl9 3 (F_X6_hashIn fl9 0 8)) 59 1) 0)))), (q3, .inl (cA2, 66, .inl (fun _ => 0))), (q5, .inl (cA2, 24, .inl (fun _ => 0)))] := hD
        have e0 : fl9 = miN 8 := by rw [ifl, Nat.le_antisymm ij hj]
        have e1 : (wr (wr (wr fl9 3 (F_X6_hashIn fl9 0 8)) 59 1) 58 (F_X6_rightCheck (wr (wr fl9 3 (F_X6_hashIn fl9 0 8)) 59 1) 0)) = F_X6_init := by rw [e0]; rfl
        rw [e1] at hP hD
        have hP9 := hP.sub (ws' := [(mo, .inr (6, [.ref q1, .ref q3, .int 0, .int (-1), .int (-1), .int 0, .int 0, .int 0, .int 0, .int 0, .int (-1), .ref q5, .int 0, .int 0])), (q1, .inl (cA2, 66, .inl F_X6_init)), (q3, .inl (cA2, 66, .inl (fun _ => 0))), (q5, .inl (cA2, 24, .inl (fun _ => 0)))]) [0, 1, 2, 3] rfl
        have hD9 := hD.sub (ws' := [(mo, .inr (6, [.ref q1, .ref q3, .int 0, .int (-1), .int (-1), .int 0, .int 0, .int 0, .int 0, .int 0, .int (-1), .ref q5, .int 0, .int 0])), (q1, .inl (cA2, 66, .inl F_X6_init)), (q3, .inl (cA2, 66, .inl (fun _ => 0))), (q5, .inl (cA2, 24, .inl (fun _ => 0)))]) [0, 1, 2, 3] (by decide) rfl
        have hK9 : va_K D vwCl [(cA2, .int)] s := hK
        refine W.widen (k := 3) (n := 156) (Nat.le_of_ble_eq_true rfl) (Nat.le_of_ble_eq_true rfl) ?_
        exact W.vret hx hb hr (fun t ht hW => ⟨⟨(q1, q3, q5, cA2), rfl, trivial, ⟨⟨by rw [ht]; exact hP9, hD9⟩, va_K.moved hW.alike hK9⟩⟩, hS.F ht⟩) hS.2.2 dX6_init_123
      · skip
        have hj : j < 8 := Nat.lt_of_not_le (fun h => c_7 (by rw [ik]; exact (bx_le (by omega)).mpr h))
        refine lv_aload_n hx hb dX6_init_73 rfl (lv_at hl 1 rfl) ?_
        refine va_get (D := D) (ci := 6) (v := .ref q1) (C := RX6) (T := TX6) (N := 14) hx hb hts hi6 hown hK hP 0 rfl rfl 0 (by decide) (hts (.fieldLink RX6 7 "BootstayModel" "flash" "[I") (by decide +kernel)) (fun _ h9 => h9) rfl dX6_init_74 ?_
        refine lv_iconst (v := 5) hx hb dX6_init_77 (by decide) ?_
        refine lv_iload_n hx hb dX6_init_78 rfl (lv_at hl 0 rfl) ?_
        refine lv_iadd hx hb dX6_init_79 ?_
        refine lv_iload_n hx hb dX6_init_80 rfl (lv_at hl 0 rfl) ?_
        refine lv_iconst (v := 1) hx hb dX6_init_81 (by decide) ?_
        refine lv_iadd hx hb dX6_init_82 ?_
        refine bx_ast (D := D) hx hb hK hP hD hS 1 0 rfl rfl (by rw [ik]; exact vp_in_iff.mpr (by rcases (show j = 0 ∨ j = 1 ∨ j = 2 ∨ j = 3 ∨ j = 4 ∨ j = 5 ∨ j = 6 ∨ j = 7 by omega) with z | z | z | z | z | z | z | z <;> rw [z] <;> decide)) dX6_init_83 (fun H locs hP hD hS => ?_)
        have hP : va_P D vwCl [(mo, .inr (6, [.ref q1, .ref q3, .int 0, .int (-1), .int (-1), .int 0, .int 0, .int 0, .int 0, .int 0, .int (-1), .ref q5, .int 0, .int 0])), (q1, .inl (cA2, 66, .inl (wr fl9 (5 + k) (k + 1)))), (q3, .inl (cA2, 66, .inl (fun _ => 0))), (q5, .inl (cA2, 24, .inl (fun _ => 0)))] H := hP
        have hD : va_D A [(mo, .inr (6, [.ref q1, .ref q3, .int 0, .int (-1), .int (-1), .int 0, .int 0, .int 0, .int 0, .int 0, .int (-1), .ref q5, .int 0, .int 0])), (q1, .inl (cA2, 66, .inl (wr fl9 (5 + k) (k + 1)))), (q3, .inl (cA2, 66, .inl (fun _ => 0))), (q5, .inl (cA2, 24, .inl (fun _ => 0)))] := hD
        refine lv_iinc (v := (k + 1)) (lv' := [(1, .int (k + 1)), (0, .ref mo)]) hx hb dX6_init_84 hl (k := 0) rfl rfl (by decide) rfl (fun ls hl => ?_)
        refine lv_goto (tgt := 67) hx hb dX6_init_87 (by decide) ?_
        exact ih67 (j + 1) (k + 1) (wr fl9 (5 + k) (k + 1)) (by omega) hj (by rw [ik]; exact nI_1 j) (by rw [ifl, ik]; rfl) _ _ hP hD hS ls (lv_sub hl [0, 1] rfl)
  exact loop67 9 0 0 (wr (wr (wr (fun _ => 0) 0 1) 1 1) 2 8) (by omega) (by omega) nI_0.symm rfl _ _ hP hD hS ls (lv_sub hl [0, 1] rfl)
